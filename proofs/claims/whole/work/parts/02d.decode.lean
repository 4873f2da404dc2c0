theorem dX8_layQuartic_409 : decode cX8_layQuartic 409 = .ok (.putfield 298, 3) := by decide +kernel
theorem dX8_layQuartic_412 : decode cX8_layQuartic 412 = .ok (.return_, 1) := by decide +kernel
theorem dX8_leftBelow_0 : decode cX8_leftBelow 0 = .ok (.aload_n 0, 1) := by decide +kernel
theorem dX8_leftBelow_1 : decode cX8_leftBelow 1 = .ok (.getfield 298, 3) := by decide +kernel
theorem dX8_leftBelow_4 : decode cX8_leftBelow 4 = .ok (.ifCond .eq 10, 3) := by decide +kernel
theorem dX8_leftBelow_7 : decode cX8_leftBelow 7 = .ok (.aload_n 0, 1) := by decide +kernel
theorem dX8_leftBelow_8 : decode cX8_leftBelow 8 = .ok (.getfield 267, 3) := by decide +kernel
theorem dX8_leftBelow_11 : decode cX8_leftBelow 11 = .ok (.ifCond .ne 5, 3) := by decide +kernel
theorem dX8_leftBelow_14 : decode cX8_leftBelow 14 = .ok (.iconst 0, 1) := by decide +kernel
theorem dX8_leftBelow_15 : decode cX8_leftBelow 15 = .ok (.ireturn, 1) := by decide +kernel
theorem dX8_leftBelow_16 : decode cX8_leftBelow 16 = .ok (.aload_n 0, 1) := by decide +kernel
theorem dX8_leftBelow_17 : decode cX8_leftBelow 17 = .ok (.lload_n 1, 1) := by decide +kernel
theorem dX8_leftBelow_18 : decode cX8_leftBelow 18 = .ok (.lload_n 3, 1) := by decide +kernel
theorem dX8_leftBelow_19 : decode cX8_leftBelow 19 = .ok (.invokevirtual 270, 3) := by decide +kernel
theorem dX8_leftBelow_22 : decode cX8_leftBelow 22 = .ok (.invokestatic 156, 3) := by decide +kernel
theorem dX8_leftBelow_25 : decode cX8_leftBelow 25 = .ok (.aload_n 0, 1) := by decide +kernel
theorem dX8_leftBelow_26 : decode cX8_leftBelow 26 = .ok (.getfield 94, 3) := by decide +kernel
theorem dX8_leftBelow_29 : decode cX8_leftBelow 29 = .ok (.iconst 0, 1) := by decide +kernel
theorem dX8_leftBelow_30 : decode cX8_leftBelow 30 = .ok (.laload, 1) := by decide +kernel
theorem dX8_leftBelow_31 : decode cX8_leftBelow 31 = .ok (.invokestatic 156, 3) := by decide +kernel
theorem dX8_leftBelow_34 : decode cX8_leftBelow 34 = .ok (.imul, 1) := by decide +kernel
theorem dX8_leftBelow_35 : decode cX8_leftBelow 35 = .ok (.istore 5, 2) := by decide +kernel
theorem dX8_leftBelow_37 : decode cX8_leftBelow 37 = .ok (.aload_n 0, 1) := by decide +kernel
theorem dX8_leftBelow_38 : decode cX8_leftBelow 38 = .ok (.getfield 267, 3) := by decide +kernel
theorem dX8_leftBelow_41 : decode cX8_leftBelow 41 = .ok (.iconst 1, 1) := by decide +kernel
theorem dX8_leftBelow_42 : decode cX8_leftBelow 42 = .ok (.if_icmp .ne 14, 3) := by decide +kernel
theorem dX8_leftBelow_45 : decode cX8_leftBelow 45 = .ok (.iload 5, 2) := by decide +kernel
theorem dX8_leftBelow_47 : decode cX8_leftBelow 47 = .ok (.ifCond .le 7, 3) := by decide +kernel
theorem dX8_leftBelow_50 : decode cX8_leftBelow 50 = .ok (.iconst 1, 1) := by decide +kernel
theorem dX8_leftBelow_51 : decode cX8_leftBelow 51 = .ok (.goto 4, 3) := by decide +kernel
theorem dX8_leftBelow_54 : decode cX8_leftBelow 54 = .ok (.iconst 0, 1) := by decide +kernel
theorem dX8_leftBelow_55 : decode cX8_leftBelow 55 = .ok (.ireturn, 1) := by decide +kernel
theorem dX8_leftBelow_56 : decode cX8_leftBelow 56 = .ok (.iload 5, 2) := by decide +kernel
theorem dX8_leftBelow_58 : decode cX8_leftBelow 58 = .ok (.ifCond .ge 5, 3) := by decide +kernel
theorem dX8_leftBelow_61 : decode cX8_leftBelow 61 = .ok (.iconst 1, 1) := by decide +kernel
theorem dX8_leftBelow_62 : decode cX8_leftBelow 62 = .ok (.ireturn, 1) := by decide +kernel
theorem dX8_leftBelow_63 : decode cX8_leftBelow 63 = .ok (.ldc2_w 322, 3) := by decide +kernel
theorem dX8_leftBelow_66 : decode cX8_leftBelow 66 = .ok (.aload_n 0, 1) := by decide +kernel
theorem dX8_leftBelow_67 : decode cX8_leftBelow 67 = .ok (.getfield 94, 3) := by decide +kernel
theorem dX8_leftBelow_70 : decode cX8_leftBelow 70 = .ok (.iconst 0, 1) := by decide +kernel
theorem dX8_leftBelow_71 : decode cX8_leftBelow 71 = .ok (.laload, 1) := by decide +kernel
theorem dX8_leftBelow_72 : decode cX8_leftBelow 72 = .ok (.lmul, 1) := by decide +kernel
theorem dX8_leftBelow_73 : decode cX8_leftBelow 73 = .ok (.lload_n 1, 1) := by decide +kernel
theorem dX8_leftBelow_74 : decode cX8_leftBelow 74 = .ok (.lmul, 1) := by decide +kernel
theorem dX8_leftBelow_75 : decode cX8_leftBelow 75 = .ok (.aload_n 0, 1) := by decide +kernel
theorem dX8_leftBelow_76 : decode cX8_leftBelow 76 = .ok (.getfield 94, 3) := by decide +kernel
theorem dX8_leftBelow_79 : decode cX8_leftBelow 79 = .ok (.iconst 1, 1) := by decide +kernel
theorem dX8_leftBelow_80 : decode cX8_leftBelow 80 = .ok (.laload, 1) := by decide +kernel
theorem dX8_leftBelow_81 : decode cX8_leftBelow 81 = .ok (.lload_n 3, 1) := by decide +kernel
theorem dX8_leftBelow_82 : decode cX8_leftBelow 82 = .ok (.lmul, 1) := by decide +kernel
theorem dX8_leftBelow_83 : decode cX8_leftBelow 83 = .ok (.ladd, 1) := by decide +kernel
theorem dX8_leftBelow_84 : decode cX8_leftBelow 84 = .ok (.lstore 6, 2) := by decide +kernel
theorem dX8_leftBelow_86 : decode cX8_leftBelow 86 = .ok (.lload 6, 2) := by decide +kernel
theorem dX8_leftBelow_88 : decode cX8_leftBelow 88 = .ok (.invokestatic 156, 3) := by decide +kernel
theorem dX8_leftBelow_91 : decode cX8_leftBelow 91 = .ok (.aload_n 0, 1) := by decide +kernel
theorem dX8_leftBelow_92 : decode cX8_leftBelow 92 = .ok (.getfield 94, 3) := by decide +kernel
theorem dX8_leftBelow_95 : decode cX8_leftBelow 95 = .ok (.iconst 0, 1) := by decide +kernel
theorem dX8_leftBelow_96 : decode cX8_leftBelow 96 = .ok (.laload, 1) := by decide +kernel
theorem dX8_leftBelow_97 : decode cX8_leftBelow 97 = .ok (.invokestatic 156, 3) := by decide +kernel
theorem dX8_leftBelow_100 : decode cX8_leftBelow 100 = .ok (.imul, 1) := by decide +kernel
theorem dX8_leftBelow_101 : decode cX8_leftBelow 101 = .ok (.ifCond .le 7, 3) := by decide +kernel
theorem dX8_leftBelow_104 : decode cX8_leftBelow 104 = .ok (.iconst 2, 1) := by decide +kernel
theorem dX8_leftBelow_105 : decode cX8_leftBelow 105 = .ok (.goto 4, 3) := by decide +kernel
theorem dX8_leftBelow_108 : decode cX8_leftBelow 108 = .ok (.iconst 0, 1) := by decide +kernel
theorem dX8_leftBelow_109 : decode cX8_leftBelow 109 = .ok (.ireturn, 1) := by decide +kernel
theorem dX8_patternOf_0 : decode cX8_patternOf 0 = .ok (.iconst 0, 1) := by decide +kernel
theorem dX8_patternOf_1 : decode cX8_patternOf 1 = .ok (.istore_n 1, 1) := by decide +kernel
theorem dX8_patternOf_2 : decode cX8_patternOf 2 = .ok (.aload_n 0, 1) := by decide +kernel
theorem dX8_patternOf_3 : decode cX8_patternOf 3 = .ok (.getfield 295, 3) := by decide +kernel
theorem dX8_patternOf_6 : decode cX8_patternOf 6 = .ok (.ifCond .eq 7, 3) := by decide +kernel
theorem dX8_patternOf_9 : decode cX8_patternOf 9 = .ok (.iconst 2, 1) := by decide +kernel
theorem dX8_patternOf_10 : decode cX8_patternOf 10 = .ok (.goto 4, 3) := by decide +kernel
theorem dX8_patternOf_13 : decode cX8_patternOf 13 = .ok (.iconst 1, 1) := by decide +kernel
theorem dX8_patternOf_14 : decode cX8_patternOf 14 = .ok (.istore_n 2, 1) := by decide +kernel
theorem dX8_patternOf_15 : decode cX8_patternOf 15 = .ok (.iconst 0, 1) := by decide +kernel
theorem dX8_patternOf_16 : decode cX8_patternOf 16 = .ok (.istore_n 3, 1) := by decide +kernel
theorem dX8_patternOf_17 : decode cX8_patternOf 17 = .ok (.iconst 0, 1) := by decide +kernel
theorem dX8_patternOf_18 : decode cX8_patternOf 18 = .ok (.istore 4, 2) := by decide +kernel
theorem dX8_patternOf_20 : decode cX8_patternOf 20 = .ok (.iload 4, 2) := by decide +kernel
theorem dX8_patternOf_22 : decode cX8_patternOf 22 = .ok (.aload_n 0, 1) := by decide +kernel
theorem dX8_patternOf_23 : decode cX8_patternOf 23 = .ok (.getfield 277, 3) := by decide +kernel
theorem dX8_patternOf_26 : decode cX8_patternOf 26 = .ok (.if_icmp .ge 61, 3) := by decide +kernel
theorem dX8_patternOf_29 : decode cX8_patternOf 29 = .ok (.aload_n 0, 1) := by decide +kernel
theorem dX8_patternOf_30 : decode cX8_patternOf 30 = .ok (.aload_n 0, 1) := by decide +kernel
theorem dX8_patternOf_31 : decode cX8_patternOf 31 = .ok (.getfield 85, 3) := by decide +kernel
theorem dX8_patternOf_34 : decode cX8_patternOf 34 = .ok (.iload 4, 2) := by decide +kernel
theorem dX8_patternOf_36 : decode cX8_patternOf 36 = .ok (.laload, 1) := by decide +kernel
theorem dX8_patternOf_37 : decode cX8_patternOf 37 = .ok (.aload_n 0, 1) := by decide +kernel
theorem dX8_patternOf_38 : decode cX8_patternOf 38 = .ok (.getfield 88, 3) := by decide +kernel
theorem dX8_patternOf_41 : decode cX8_patternOf 41 = .ok (.iload 4, 2) := by decide +kernel
theorem dX8_patternOf_43 : decode cX8_patternOf 43 = .ok (.laload, 1) := by decide +kernel
theorem dX8_patternOf_44 : decode cX8_patternOf 44 = .ok (.invokevirtual 340, 3) := by decide +kernel
theorem dX8_patternOf_47 : decode cX8_patternOf 47 = .ok (.istore 5, 2) := by decide +kernel
theorem dX8_patternOf_49 : decode cX8_patternOf 49 = .ok (.iload_n 3, 1) := by decide +kernel
theorem dX8_patternOf_50 : decode cX8_patternOf 50 = .ok (.iload 5, 2) := by decide +kernel
theorem dX8_patternOf_52 : decode cX8_patternOf 52 = .ok (.if_icmp .ge 16, 3) := by decide +kernel
theorem dX8_patternOf_55 : decode cX8_patternOf 55 = .ok (.bipush 10, 2) := by decide +kernel
theorem dX8_patternOf_57 : decode cX8_patternOf 57 = .ok (.iload_n 1, 1) := by decide +kernel
theorem dX8_patternOf_58 : decode cX8_patternOf 58 = .ok (.imul, 1) := by decide +kernel
theorem dX8_patternOf_59 : decode cX8_patternOf 59 = .ok (.iload_n 2, 1) := by decide +kernel
theorem dX8_patternOf_60 : decode cX8_patternOf 60 = .ok (.iadd, 1) := by decide +kernel
theorem dX8_patternOf_61 : decode cX8_patternOf 61 = .ok (.istore_n 1, 1) := by decide +kernel
theorem dX8_patternOf_62 : decode cX8_patternOf 62 = .ok (.iinc 3 1, 3) := by decide +kernel
theorem dX8_patternOf_65 : decode cX8_patternOf 65 = .ok (.goto (-16), 3) := by decide +kernel
theorem dX8_patternOf_68 : decode cX8_patternOf 68 = .ok (.bipush 10, 2) := by decide +kernel
theorem dX8_patternOf_70 : decode cX8_patternOf 70 = .ok (.iload_n 1, 1) := by decide +kernel
theorem dX8_patternOf_71 : decode cX8_patternOf 71 = .ok (.imul, 1) := by decide +kernel
theorem dX8_patternOf_72 : decode cX8_patternOf 72 = .ok (.aload_n 0, 1) := by decide +kernel
theorem dX8_patternOf_73 : decode cX8_patternOf 73 = .ok (.getfield 91, 3) := by decide +kernel
theorem dX8_patternOf_76 : decode cX8_patternOf 76 = .ok (.iload 4, 2) := by decide +kernel
theorem dX8_patternOf_78 : decode cX8_patternOf 78 = .ok (.iaload, 1) := by decide +kernel
theorem dX8_patternOf_79 : decode cX8_patternOf 79 = .ok (.iadd, 1) := by decide +kernel
theorem dX8_patternOf_80 : decode cX8_patternOf 80 = .ok (.istore_n 1, 1) := by decide +kernel
theorem dX8_patternOf_81 : decode cX8_patternOf 81 = .ok (.iinc 4 1, 3) := by decide +kernel
theorem dX8_patternOf_84 : decode cX8_patternOf 84 = .ok (.goto (-64), 3) := by decide +kernel
theorem dX8_patternOf_87 : decode cX8_patternOf 87 = .ok (.iload_n 3, 1) := by decide +kernel
theorem dX8_patternOf_88 : decode cX8_patternOf 88 = .ok (.aload_n 0, 1) := by decide +kernel
theorem dX8_patternOf_89 : decode cX8_patternOf 89 = .ok (.getfield 298, 3) := by decide +kernel
theorem dX8_patternOf_92 : decode cX8_patternOf 92 = .ok (.if_icmp .ge 16, 3) := by decide +kernel
theorem dX8_patternOf_95 : decode cX8_patternOf 95 = .ok (.bipush 10, 2) := by decide +kernel
theorem dX8_patternOf_97 : decode cX8_patternOf 97 = .ok (.iload_n 1, 1) := by decide +kernel
theorem dX8_patternOf_98 : decode cX8_patternOf 98 = .ok (.imul, 1) := by decide +kernel
theorem dX8_patternOf_99 : decode cX8_patternOf 99 = .ok (.iload_n 2, 1) := by decide +kernel
theorem dX8_patternOf_100 : decode cX8_patternOf 100 = .ok (.iadd, 1) := by decide +kernel
theorem dX8_patternOf_101 : decode cX8_patternOf 101 = .ok (.istore_n 1, 1) := by decide +kernel
theorem dX8_patternOf_102 : decode cX8_patternOf 102 = .ok (.iinc 3 1, 3) := by decide +kernel
theorem dX8_patternOf_105 : decode cX8_patternOf 105 = .ok (.goto (-18), 3) := by decide +kernel
theorem dX8_patternOf_108 : decode cX8_patternOf 108 = .ok (.aload_n 0, 1) := by decide +kernel
theorem dX8_patternOf_109 : decode cX8_patternOf 109 = .ok (.getfield 280, 3) := by decide +kernel
theorem dX8_patternOf_112 : decode cX8_patternOf 112 = .ok (.ifCond .le 15, 3) := by decide +kernel
theorem dX8_patternOf_115 : decode cX8_patternOf 115 = .ok (.bipush 10, 2) := by decide +kernel
theorem dX8_patternOf_117 : decode cX8_patternOf 117 = .ok (.iload_n 1, 1) := by decide +kernel
theorem dX8_patternOf_118 : decode cX8_patternOf 118 = .ok (.imul, 1) := by decide +kernel
theorem dX8_patternOf_119 : decode cX8_patternOf 119 = .ok (.aload_n 0, 1) := by decide +kernel
theorem dX8_patternOf_120 : decode cX8_patternOf 120 = .ok (.getfield 280, 3) := by decide +kernel
theorem dX8_patternOf_123 : decode cX8_patternOf 123 = .ok (.iadd, 1) := by decide +kernel
theorem dX8_patternOf_124 : decode cX8_patternOf 124 = .ok (.goto 4, 3) := by decide +kernel
theorem dX8_patternOf_127 : decode cX8_patternOf 127 = .ok (.iload_n 1, 1) := by decide +kernel
theorem dX8_patternOf_128 : decode cX8_patternOf 128 = .ok (.istore_n 1, 1) := by decide +kernel
theorem dX8_patternOf_129 : decode cX8_patternOf 129 = .ok (.aload_n 0, 1) := by decide +kernel
theorem dX8_patternOf_130 : decode cX8_patternOf 130 = .ok (.getfield 267, 3) := by decide +kernel
theorem dX8_patternOf_133 : decode cX8_patternOf 133 = .ok (.iload_n 2, 1) := by decide +kernel
theorem dX8_patternOf_134 : decode cX8_patternOf 134 = .ok (.aload_n 0, 1) := by decide +kernel
theorem dX8_patternOf_135 : decode cX8_patternOf 135 = .ok (.getfield 298, 3) := by decide +kernel
theorem dX8_patternOf_138 : decode cX8_patternOf 138 = .ok (.imul, 1) := by decide +kernel
theorem dX8_patternOf_139 : decode cX8_patternOf 139 = .ok (.isub, 1) := by decide +kernel
theorem dX8_patternOf_140 : decode cX8_patternOf 140 = .ok (.istore 4, 2) := by decide +kernel
theorem dX8_patternOf_142 : decode cX8_patternOf 142 = .ok (.iload 4, 2) := by decide +kernel
theorem dX8_patternOf_144 : decode cX8_patternOf 144 = .ok (.ifCond .ne 7, 3) := by decide +kernel
theorem dX8_patternOf_147 : decode cX8_patternOf 147 = .ok (.iload_n 1, 1) := by decide +kernel
theorem dX8_patternOf_148 : decode cX8_patternOf 148 = .ok (.goto 42, 3) := by decide +kernel
theorem dX8_patternOf_151 : decode cX8_patternOf 151 = .ok (.iload 4, 2) := by decide +kernel
theorem dX8_patternOf_153 : decode cX8_patternOf 153 = .ok (.iconst 2, 1) := by decide +kernel
theorem dX8_patternOf_154 : decode cX8_patternOf 154 = .ok (.if_icmp .ne 12, 3) := by decide +kernel
theorem dX8_patternOf_157 : decode cX8_patternOf 157 = .ok (.bipush 10, 2) := by decide +kernel
theorem dX8_patternOf_159 : decode cX8_patternOf 159 = .ok (.iload_n 1, 1) := by decide +kernel
theorem dX8_patternOf_160 : decode cX8_patternOf 160 = .ok (.imul, 1) := by decide +kernel
theorem dX8_patternOf_161 : decode cX8_patternOf 161 = .ok (.iconst 5, 1) := by decide +kernel
theorem dX8_patternOf_162 : decode cX8_patternOf 162 = .ok (.iadd, 1) := by decide +kernel
theorem dX8_patternOf_163 : decode cX8_patternOf 163 = .ok (.goto 27, 3) := by decide +kernel
theorem dX8_patternOf_166 : decode cX8_patternOf 166 = .ok (.aload_n 0, 1) := by decide +kernel
theorem dX8_patternOf_167 : decode cX8_patternOf 167 = .ok (.getfield 295, 3) := by decide +kernel
theorem dX8_patternOf_170 : decode cX8_patternOf 170 = .ok (.ifCond .eq 13, 3) := by decide +kernel
theorem dX8_patternOf_173 : decode cX8_patternOf 173 = .ok (.bipush 10, 2) := by decide +kernel
theorem dX8_patternOf_175 : decode cX8_patternOf 175 = .ok (.iload_n 1, 1) := by decide +kernel
theorem dX8_patternOf_176 : decode cX8_patternOf 176 = .ok (.imul, 1) := by decide +kernel
theorem dX8_patternOf_177 : decode cX8_patternOf 177 = .ok (.bipush 6, 2) := by decide +kernel
theorem dX8_patternOf_179 : decode cX8_patternOf 179 = .ok (.iadd, 1) := by decide +kernel
theorem dX8_patternOf_180 : decode cX8_patternOf 180 = .ok (.goto 10, 3) := by decide +kernel
theorem dX8_patternOf_183 : decode cX8_patternOf 183 = .ok (.bipush 100, 2) := by decide +kernel
theorem dX8_patternOf_185 : decode cX8_patternOf 185 = .ok (.iload_n 1, 1) := by decide +kernel
theorem dX8_patternOf_186 : decode cX8_patternOf 186 = .ok (.imul, 1) := by decide +kernel
theorem dX8_patternOf_187 : decode cX8_patternOf 187 = .ok (.bipush 55, 2) := by decide +kernel
theorem dX8_patternOf_189 : decode cX8_patternOf 189 = .ok (.iadd, 1) := by decide +kernel
theorem dX8_patternOf_190 : decode cX8_patternOf 190 = .ok (.ireturn, 1) := by decide +kernel
theorem dX8_partsPair_0 : decode cX8_partsPair 0 = .ok (.aload_n 0, 1) := by decide +kernel
theorem dX8_partsPair_1 : decode cX8_partsPair 1 = .ok (.iload_n 1, 1) := by decide +kernel
theorem dX8_partsPair_2 : decode cX8_partsPair 2 = .ok (.iload_n 2, 1) := by decide +kernel
theorem dX8_partsPair_3 : decode cX8_partsPair 3 = .ok (.invokevirtual 256, 3) := by decide +kernel
theorem dX8_partsPair_6 : decode cX8_partsPair 6 = .ok (.aload_n 0, 1) := by decide +kernel
theorem dX8_partsPair_7 : decode cX8_partsPair 7 = .ok (.invokevirtual 259, 3) := by decide +kernel
theorem dX8_partsPair_10 : decode cX8_partsPair 10 = .ok (.aload_n 0, 1) := by decide +kernel
theorem dX8_partsPair_11 : decode cX8_partsPair 11 = .ok (.invokevirtual 344, 3) := by decide +kernel
theorem dX8_partsPair_14 : decode cX8_partsPair 14 = .ok (.ifCond .ne 5, 3) := by decide +kernel
theorem dX8_partsPair_17 : decode cX8_partsPair 17 = .ok (.iconst 0, 1) := by decide +kernel
theorem dX8_partsPair_18 : decode cX8_partsPair 18 = .ok (.ireturn, 1) := by decide +kernel
theorem dX8_partsPair_19 : decode cX8_partsPair 19 = .ok (.aload_n 0, 1) := by decide +kernel
theorem dX8_partsPair_20 : decode cX8_partsPair 20 = .ok (.invokevirtual 347, 3) := by decide +kernel
theorem dX8_partsPair_23 : decode cX8_partsPair 23 = .ok (.iconst 1, 1) := by decide +kernel
theorem dX8_partsPair_24 : decode cX8_partsPair 24 = .ok (.ireturn, 1) := by decide +kernel
theorem dX8_roots_0 : decode cX8_roots 0 = .ok (.aload_n 0, 1) := by decide +kernel
theorem dX8_roots_1 : decode cX8_roots 1 = .ok (.iload_n 1, 1) := by decide +kernel
theorem dX8_roots_2 : decode cX8_roots 2 = .ok (.iload_n 2, 1) := by decide +kernel
theorem dX8_roots_3 : decode cX8_roots 3 = .ok (.invokevirtual 227, 3) := by decide +kernel
theorem dX8_roots_6 : decode cX8_roots 6 = .ok (.istore_n 3, 1) := by decide +kernel
theorem dX8_roots_7 : decode cX8_roots 7 = .ok (.iload_n 3, 1) := by decide +kernel
theorem dX8_roots_8 : decode cX8_roots 8 = .ok (.ifCond .ge 5, 3) := by decide +kernel
theorem dX8_roots_11 : decode cX8_roots 11 = .ok (.iload_n 3, 1) := by decide +kernel
theorem dX8_roots_12 : decode cX8_roots 12 = .ok (.ireturn, 1) := by decide +kernel
theorem dX8_roots_13 : decode cX8_roots 13 = .ok (.aload_n 0, 1) := by decide +kernel
theorem dX8_roots_14 : decode cX8_roots 14 = .ok (.iload_n 1, 1) := by decide +kernel
theorem dX8_roots_15 : decode cX8_roots 15 = .ok (.iload_n 2, 1) := by decide +kernel
theorem dX8_roots_16 : decode cX8_roots 16 = .ok (.invokevirtual 350, 3) := by decide +kernel
theorem dX8_roots_19 : decode cX8_roots 19 = .ok (.ifCond .eq 28, 3) := by decide +kernel
theorem dX8_roots_22 : decode cX8_roots 22 = .ok (.aload_n 0, 1) := by decide +kernel
theorem dX8_roots_23 : decode cX8_roots 23 = .ok (.getfield 277, 3) := by decide +kernel
theorem dX8_roots_26 : decode cX8_roots 26 = .ok (.aload_n 0, 1) := by decide +kernel
theorem dX8_roots_27 : decode cX8_roots 27 = .ok (.getfield 298, 3) := by decide +kernel
theorem dX8_roots_30 : decode cX8_roots 30 = .ok (.iadd, 1) := by decide +kernel
theorem dX8_roots_31 : decode cX8_roots 31 = .ok (.aload_n 0, 1) := by decide +kernel
theorem dX8_roots_32 : decode cX8_roots 32 = .ok (.getfield 280, 3) := by decide +kernel
theorem dX8_roots_35 : decode cX8_roots 35 = .ok (.ifCond .le 7, 3) := by decide +kernel
theorem dX8_roots_38 : decode cX8_roots 38 = .ok (.iconst 1, 1) := by decide +kernel
theorem dX8_roots_39 : decode cX8_roots 39 = .ok (.goto 4, 3) := by decide +kernel
theorem dX8_roots_42 : decode cX8_roots 42 = .ok (.iconst 0, 1) := by decide +kernel
theorem dX8_roots_43 : decode cX8_roots 43 = .ok (.iadd, 1) := by decide +kernel
theorem dX8_roots_44 : decode cX8_roots 44 = .ok (.goto 5, 3) := by decide +kernel
theorem dX8_roots_47 : decode cX8_roots 47 = .ok (.bipush 9, 2) := by decide +kernel
theorem dX8_roots_49 : decode cX8_roots 49 = .ok (.ireturn, 1) := by decide +kernel
theorem dX8_pattern_0 : decode cX8_pattern 0 = .ok (.aload_n 0, 1) := by decide +kernel
theorem dX8_pattern_1 : decode cX8_pattern 1 = .ok (.iload_n 1, 1) := by decide +kernel
theorem dX8_pattern_2 : decode cX8_pattern 2 = .ok (.iload_n 2, 1) := by decide +kernel
theorem dX8_pattern_3 : decode cX8_pattern 3 = .ok (.invokevirtual 227, 3) := by decide +kernel
theorem dX8_pattern_6 : decode cX8_pattern 6 = .ok (.istore_n 3, 1) := by decide +kernel
theorem dX8_pattern_7 : decode cX8_pattern 7 = .ok (.iload_n 3, 1) := by decide +kernel
theorem dX8_pattern_8 : decode cX8_pattern 8 = .ok (.ifCond .ge 5, 3) := by decide +kernel
theorem dX8_pattern_11 : decode cX8_pattern 11 = .ok (.iload_n 3, 1) := by decide +kernel
theorem dX8_pattern_12 : decode cX8_pattern 12 = .ok (.ireturn, 1) := by decide +kernel
theorem dX8_pattern_13 : decode cX8_pattern 13 = .ok (.aload_n 0, 1) := by decide +kernel
theorem dX8_pattern_14 : decode cX8_pattern 14 = .ok (.iload_n 1, 1) := by decide +kernel
theorem dX8_pattern_15 : decode cX8_pattern 15 = .ok (.iload_n 2, 1) := by decide +kernel
theorem dX8_pattern_16 : decode cX8_pattern 16 = .ok (.invokevirtual 350, 3) := by decide +kernel
theorem dX8_pattern_19 : decode cX8_pattern 19 = .ok (.ifCond .eq 10, 3) := by decide +kernel
theorem dX8_pattern_22 : decode cX8_pattern 22 = .ok (.aload_n 0, 1) := by decide +kernel
theorem dX8_pattern_23 : decode cX8_pattern 23 = .ok (.invokevirtual 354, 3) := by decide +kernel
theorem dX8_pattern_26 : decode cX8_pattern 26 = .ok (.goto 4, 3) := by decide +kernel
theorem dX8_pattern_29 : decode cX8_pattern 29 = .ok (.iconst 0, 1) := by decide +kernel
theorem dX8_pattern_30 : decode cX8_pattern 30 = .ok (.ireturn, 1) := by decide +kernel
theorem dX8_timesOf_0 : decode cX8_timesOf 0 = .ok (.aload_n 0, 1) := by decide +kernel
theorem dX8_timesOf_1 : decode cX8_timesOf 1 = .ok (.iconst 4, 1) := by decide +kernel
theorem dX8_timesOf_2 : decode cX8_timesOf 2 = .ok (.aload_n 0, 1) := by decide +kernel
theorem dX8_timesOf_3 : decode cX8_timesOf 3 = .ok (.getfield 280, 3) := by decide +kernel
theorem dX8_timesOf_6 : decode cX8_timesOf 6 = .ok (.isub, 1) := by decide +kernel
theorem dX8_timesOf_7 : decode cX8_timesOf 7 = .ok (.putfield 267, 3) := by decide +kernel
theorem dX8_timesOf_10 : decode cX8_timesOf 10 = .ok (.iconst 0, 1) := by decide +kernel
theorem dX8_timesOf_11 : decode cX8_timesOf 11 = .ok (.istore 5, 2) := by decide +kernel
theorem dX8_timesOf_13 : decode cX8_timesOf 13 = .ok (.iload 5, 2) := by decide +kernel
theorem dX8_timesOf_15 : decode cX8_timesOf 15 = .ok (.aload_n 0, 1) := by decide +kernel
theorem dX8_timesOf_16 : decode cX8_timesOf 16 = .ok (.getfield 267, 3) := by decide +kernel
theorem dX8_timesOf_19 : decode cX8_timesOf 19 = .ok (.if_icmp .gt 28, 3) := by decide +kernel
theorem dX8_timesOf_22 : decode cX8_timesOf 22 = .ok (.aload_n 0, 1) := by decide +kernel
theorem dX8_timesOf_23 : decode cX8_timesOf 23 = .ok (.getfield 94, 3) := by decide +kernel
theorem dX8_timesOf_26 : decode cX8_timesOf 26 = .ok (.iload 5, 2) := by decide +kernel
theorem dX8_timesOf_28 : decode cX8_timesOf 28 = .ok (.aload_n 0, 1) := by decide +kernel
theorem dX8_timesOf_29 : decode cX8_timesOf 29 = .ok (.getfield 64, 3) := by decide +kernel
theorem dX8_timesOf_32 : decode cX8_timesOf 32 = .ok (.aload_n 0, 1) := by decide +kernel
theorem dX8_timesOf_33 : decode cX8_timesOf 33 = .ok (.getfield 280, 3) := by decide +kernel
theorem dX8_timesOf_36 : decode cX8_timesOf 36 = .ok (.iload 5, 2) := by decide +kernel
theorem dX8_timesOf_38 : decode cX8_timesOf 38 = .ok (.iadd, 1) := by decide +kernel
theorem dX8_timesOf_39 : decode cX8_timesOf 39 = .ok (.laload, 1) := by decide +kernel
theorem dX8_timesOf_40 : decode cX8_timesOf 40 = .ok (.lastore, 1) := by decide +kernel
theorem dX8_timesOf_41 : decode cX8_timesOf 41 = .ok (.iinc 5 1, 3) := by decide +kernel
theorem dX8_timesOf_44 : decode cX8_timesOf 44 = .ok (.goto (-31), 3) := by decide +kernel
theorem dX8_timesOf_47 : decode cX8_timesOf 47 = .ok (.iconst 0, 1) := by decide +kernel
theorem dX8_timesOf_48 : decode cX8_timesOf 48 = .ok (.istore 5, 2) := by decide +kernel
theorem dX8_timesOf_50 : decode cX8_timesOf 50 = .ok (.aload_n 0, 1) := by decide +kernel
theorem dX8_timesOf_51 : decode cX8_timesOf 51 = .ok (.getfield 267, 3) := by decide +kernel
theorem dX8_timesOf_54 : decode cX8_timesOf 54 = .ok (.ifCond .le 26, 3) := by decide +kernel
theorem dX8_timesOf_57 : decode cX8_timesOf 57 = .ok (.aload_n 0, 1) := by decide +kernel
theorem dX8_timesOf_58 : decode cX8_timesOf 58 = .ok (.lload_n 1, 1) := by decide +kernel
theorem dX8_timesOf_59 : decode cX8_timesOf 59 = .ok (.lload_n 3, 1) := by decide +kernel
theorem dX8_timesOf_60 : decode cX8_timesOf 60 = .ok (.invokevirtual 270, 3) := by decide +kernel
theorem dX8_timesOf_63 : decode cX8_timesOf 63 = .ok (.lconst 0, 1) := by decide +kernel
theorem dX8_timesOf_64 : decode cX8_timesOf 64 = .ok (.lcmp, 1) := by decide +kernel
theorem dX8_timesOf_65 : decode cX8_timesOf 65 = .ok (.ifCond .ne 15, 3) := by decide +kernel
theorem dX8_timesOf_68 : decode cX8_timesOf 68 = .ok (.aload_n 0, 1) := by decide +kernel
theorem dX8_timesOf_69 : decode cX8_timesOf 69 = .ok (.lload_n 1, 1) := by decide +kernel
theorem dX8_timesOf_70 : decode cX8_timesOf 70 = .ok (.lload_n 3, 1) := by decide +kernel
theorem dX8_timesOf_71 : decode cX8_timesOf 71 = .ok (.invokevirtual 273, 3) := by decide +kernel
theorem dX8_timesOf_74 : decode cX8_timesOf 74 = .ok (.iinc 5 1, 3) := by decide +kernel
theorem dX8_timesOf_77 : decode cX8_timesOf 77 = .ok (.goto (-27), 3) := by decide +kernel
theorem dX8_timesOf_80 : decode cX8_timesOf 80 = .ok (.iload 5, 2) := by decide +kernel
theorem dX8_timesOf_82 : decode cX8_timesOf 82 = .ok (.ireturn, 1) := by decide +kernel
theorem dX8_rational_0 : decode cX8_rational 0 = .ok (.aload_n 0, 1) := by decide +kernel
theorem dX8_rational_1 : decode cX8_rational 1 = .ok (.iload_n 1, 1) := by decide +kernel
theorem dX8_rational_2 : decode cX8_rational 2 = .ok (.iload_n 2, 1) := by decide +kernel
theorem dX8_rational_3 : decode cX8_rational 3 = .ok (.invokevirtual 227, 3) := by decide +kernel
theorem dX8_rational_6 : decode cX8_rational 6 = .ok (.istore 4, 2) := by decide +kernel
theorem dX8_rational_8 : decode cX8_rational 8 = .ok (.iload 4, 2) := by decide +kernel
theorem dX8_rational_10 : decode cX8_rational 10 = .ok (.ifCond .ge 6, 3) := by decide +kernel
theorem dX8_rational_13 : decode cX8_rational 13 = .ok (.iload 4, 2) := by decide +kernel
theorem dX8_rational_15 : decode cX8_rational 15 = .ok (.ireturn, 1) := by decide +kernel
theorem dX8_rational_16 : decode cX8_rational 16 = .ok (.aload_n 0, 1) := by decide +kernel
theorem dX8_rational_17 : decode cX8_rational 17 = .ok (.iload_n 1, 1) := by decide +kernel
theorem dX8_rational_18 : decode cX8_rational 18 = .ok (.iload_n 2, 1) := by decide +kernel
theorem dX8_rational_19 : decode cX8_rational 19 = .ok (.invokevirtual 256, 3) := by decide +kernel
theorem dX8_rational_22 : decode cX8_rational 22 = .ok (.aload_n 0, 1) := by decide +kernel
theorem dX8_rational_23 : decode cX8_rational 23 = .ok (.invokevirtual 259, 3) := by decide +kernel
theorem dX8_rational_26 : decode cX8_rational 26 = .ok (.aload_n 0, 1) := by decide +kernel
theorem dX8_rational_27 : decode cX8_rational 27 = .ok (.invokevirtual 344, 3) := by decide +kernel
theorem dX8_rational_30 : decode cX8_rational 30 = .ok (.ifCond .ne 6, 3) := by decide +kernel
theorem dX8_rational_33 : decode cX8_rational 33 = .ok (.bipush (-4), 2) := by decide +kernel
theorem dX8_rational_35 : decode cX8_rational 35 = .ok (.ireturn, 1) := by decide +kernel
theorem dX8_rational_36 : decode cX8_rational 36 = .ok (.iconst 0, 1) := by decide +kernel
theorem dX8_rational_37 : decode cX8_rational 37 = .ok (.istore 5, 2) := by decide +kernel
theorem dX8_rational_39 : decode cX8_rational 39 = .ok (.iconst 1, 1) := by decide +kernel
theorem dX8_rational_40 : decode cX8_rational 40 = .ok (.istore 6, 2) := by decide +kernel
theorem dX8_rational_42 : decode cX8_rational 42 = .ok (.iload 6, 2) := by decide +kernel
theorem dX8_rational_44 : decode cX8_rational 44 = .ok (.bipush 64, 2) := by decide +kernel
theorem dX8_rational_46 : decode cX8_rational 46 = .ok (.if_icmp .gt 87, 3) := by decide +kernel
theorem dX8_rational_49 : decode cX8_rational 49 = .ok (.bipush (-64), 2) := by decide +kernel
theorem dX8_rational_51 : decode cX8_rational 51 = .ok (.istore 7, 2) := by decide +kernel
theorem dX8_rational_53 : decode cX8_rational 53 = .ok (.iload 7, 2) := by decide +kernel
theorem dX8_rational_55 : decode cX8_rational 55 = .ok (.bipush 64, 2) := by decide +kernel
theorem dX8_rational_57 : decode cX8_rational 57 = .ok (.if_icmp .gt 70, 3) := by decide +kernel
theorem dX8_rational_60 : decode cX8_rational 60 = .ok (.iload 7, 2) := by decide +kernel
theorem dX8_rational_62 : decode cX8_rational 62 = .ok (.i2l, 1) := by decide +kernel
theorem dX8_rational_63 : decode cX8_rational 63 = .ok (.iload 6, 2) := by decide +kernel
theorem dX8_rational_65 : decode cX8_rational 65 = .ok (.i2l, 1) := by decide +kernel
theorem dX8_rational_66 : decode cX8_rational 66 = .ok (.invokestatic 126, 3) := by decide +kernel
theorem dX8_rational_69 : decode cX8_rational 69 = .ok (.lconst 1, 1) := by decide +kernel
theorem dX8_rational_70 : decode cX8_rational 70 = .ok (.lcmp, 1) := by decide +kernel
theorem dX8_rational_71 : decode cX8_rational 71 = .ok (.ifCond .ne 50, 3) := by decide +kernel
theorem dX8_rational_74 : decode cX8_rational 74 = .ok (.aload_n 0, 1) := by decide +kernel
theorem dX8_rational_75 : decode cX8_rational 75 = .ok (.iload 7, 2) := by decide +kernel
theorem dX8_rational_77 : decode cX8_rational 77 = .ok (.i2l, 1) := by decide +kernel
theorem dX8_rational_78 : decode cX8_rational 78 = .ok (.iload 6, 2) := by decide +kernel
theorem dX8_rational_80 : decode cX8_rational 80 = .ok (.i2l, 1) := by decide +kernel
theorem dX8_rational_81 : decode cX8_rational 81 = .ok (.invokevirtual 357, 3) := by decide +kernel
theorem dX8_rational_84 : decode cX8_rational 84 = .ok (.istore 8, 2) := by decide +kernel
theorem dX8_rational_86 : decode cX8_rational 86 = .ok (.iload 8, 2) := by decide +kernel
theorem dX8_rational_88 : decode cX8_rational 88 = .ok (.ifCond .le 33, 3) := by decide +kernel
theorem dX8_rational_91 : decode cX8_rational 91 = .ok (.aload_n 0, 1) := by decide +kernel
theorem dX8_rational_92 : decode cX8_rational 92 = .ok (.getfield 97, 3) := by decide +kernel
theorem dX8_rational_95 : decode cX8_rational 95 = .ok (.iload 5, 2) := by decide +kernel
theorem dX8_rational_97 : decode cX8_rational 97 = .ok (.iload 7, 2) := by decide +kernel
theorem dX8_rational_99 : decode cX8_rational 99 = .ok (.iastore, 1) := by decide +kernel
theorem dX8_rational_100 : decode cX8_rational 100 = .ok (.aload_n 0, 1) := by decide +kernel
theorem dX8_rational_101 : decode cX8_rational 101 = .ok (.getfield 100, 3) := by decide +kernel
theorem dX8_rational_104 : decode cX8_rational 104 = .ok (.iload 5, 2) := by decide +kernel
theorem dX8_rational_106 : decode cX8_rational 106 = .ok (.iload 6, 2) := by decide +kernel
theorem dX8_rational_108 : decode cX8_rational 108 = .ok (.iastore, 1) := by decide +kernel
theorem dX8_rational_109 : decode cX8_rational 109 = .ok (.aload_n 0, 1) := by decide +kernel
theorem dX8_rational_110 : decode cX8_rational 110 = .ok (.getfield 103, 3) := by decide +kernel
theorem dX8_rational_113 : decode cX8_rational 113 = .ok (.iload 5, 2) := by decide +kernel
theorem dX8_rational_115 : decode cX8_rational 115 = .ok (.iload 8, 2) := by decide +kernel
theorem dX8_rational_117 : decode cX8_rational 117 = .ok (.iastore, 1) := by decide +kernel
theorem dX8_rational_118 : decode cX8_rational 118 = .ok (.iinc 5 1, 3) := by decide +kernel
theorem dX8_rational_121 : decode cX8_rational 121 = .ok (.iinc 7 1, 3) := by decide +kernel
theorem dX8_rational_124 : decode cX8_rational 124 = .ok (.goto (-71), 3) := by decide +kernel
theorem dX8_rational_127 : decode cX8_rational 127 = .ok (.iinc 6 1, 3) := by decide +kernel
theorem dX8_rational_130 : decode cX8_rational 130 = .ok (.goto (-88), 3) := by decide +kernel
theorem dX8_rational_133 : decode cX8_rational 133 = .ok (.iload_n 3, 1) := by decide +kernel
theorem dX8_rational_134 : decode cX8_rational 134 = .ok (.iconst 0, 1) := by decide +kernel
theorem dX8_rational_135 : decode cX8_rational 135 = .ok (.iload 5, 2) := by decide +kernel
theorem dX8_rational_137 : decode cX8_rational 137 = .ok (.iconst 1, 1) := by decide +kernel
theorem dX8_rational_138 : decode cX8_rational 138 = .ok (.isub, 1) := by decide +kernel
theorem dX8_rational_139 : decode cX8_rational 139 = .ok (.invokestatic 133, 3) := by decide +kernel
theorem dX8_rational_142 : decode cX8_rational 142 = .ok (.ifCond .ne 6, 3) := by decide +kernel
theorem dX8_rational_145 : decode cX8_rational 145 = .ok (.bipush (-9), 2) := by decide +kernel
theorem dX8_rational_147 : decode cX8_rational 147 = .ok (.ireturn, 1) := by decide +kernel
theorem dX8_rational_148 : decode cX8_rational 148 = .ok (.iconst 0, 1) := by decide +kernel
theorem dX8_rational_149 : decode cX8_rational 149 = .ok (.istore 6, 2) := by decide +kernel
theorem dX8_rational_151 : decode cX8_rational 151 = .ok (.iload 6, 2) := by decide +kernel
theorem dX8_rational_153 : decode cX8_rational 153 = .ok (.iload 5, 2) := by decide +kernel
theorem dX8_rational_155 : decode cX8_rational 155 = .ok (.if_icmp .ge 105, 3) := by decide +kernel
theorem dX8_rational_158 : decode cX8_rational 158 = .ok (.iconst 0, 1) := by decide +kernel
theorem dX8_rational_159 : decode cX8_rational 159 = .ok (.istore 7, 2) := by decide +kernel
theorem dX8_rational_161 : decode cX8_rational 161 = .ok (.iconst 0, 1) := by decide +kernel
theorem dX8_rational_162 : decode cX8_rational 162 = .ok (.istore 8, 2) := by decide +kernel
theorem dX8_rational_164 : decode cX8_rational 164 = .ok (.iload 8, 2) := by decide +kernel
theorem dX8_rational_166 : decode cX8_rational 166 = .ok (.iload 5, 2) := by decide +kernel
theorem dX8_rational_168 : decode cX8_rational 168 = .ok (.if_icmp .ge 52, 3) := by decide +kernel
theorem dX8_rational_171 : decode cX8_rational 171 = .ok (.iload 7, 2) := by decide +kernel
theorem dX8_rational_173 : decode cX8_rational 173 = .ok (.aload_n 0, 1) := by decide +kernel
theorem dX8_rational_174 : decode cX8_rational 174 = .ok (.getfield 97, 3) := by decide +kernel
theorem dX8_rational_177 : decode cX8_rational 177 = .ok (.iload 8, 2) := by decide +kernel
theorem dX8_rational_179 : decode cX8_rational 179 = .ok (.iaload, 1) := by decide +kernel
theorem dX8_rational_180 : decode cX8_rational 180 = .ok (.aload_n 0, 1) := by decide +kernel
theorem dX8_rational_181 : decode cX8_rational 181 = .ok (.getfield 100, 3) := by decide +kernel
theorem dX8_rational_184 : decode cX8_rational 184 = .ok (.iload 6, 2) := by decide +kernel
theorem dX8_rational_186 : decode cX8_rational 186 = .ok (.iaload, 1) := by decide +kernel
theorem dX8_rational_187 : decode cX8_rational 187 = .ok (.imul, 1) := by decide +kernel
theorem dX8_rational_188 : decode cX8_rational 188 = .ok (.aload_n 0, 1) := by decide +kernel
theorem dX8_rational_189 : decode cX8_rational 189 = .ok (.getfield 97, 3) := by decide +kernel
theorem dX8_rational_192 : decode cX8_rational 192 = .ok (.iload 6, 2) := by decide +kernel
theorem dX8_rational_194 : decode cX8_rational 194 = .ok (.iaload, 1) := by decide +kernel
theorem dX8_rational_195 : decode cX8_rational 195 = .ok (.aload_n 0, 1) := by decide +kernel
theorem dX8_rational_196 : decode cX8_rational 196 = .ok (.getfield 100, 3) := by decide +kernel
theorem dX8_rational_199 : decode cX8_rational 199 = .ok (.iload 8, 2) := by decide +kernel
theorem dX8_rational_201 : decode cX8_rational 201 = .ok (.iaload, 1) := by decide +kernel
theorem dX8_rational_202 : decode cX8_rational 202 = .ok (.imul, 1) := by decide +kernel
theorem dX8_rational_203 : decode cX8_rational 203 = .ok (.if_icmp .ge 7, 3) := by decide +kernel
theorem dX8_rational_206 : decode cX8_rational 206 = .ok (.iconst 1, 1) := by decide +kernel
theorem dX8_rational_207 : decode cX8_rational 207 = .ok (.goto 4, 3) := by decide +kernel
theorem dX8_rational_210 : decode cX8_rational 210 = .ok (.iconst 0, 1) := by decide +kernel
theorem dX8_rational_211 : decode cX8_rational 211 = .ok (.iadd, 1) := by decide +kernel
theorem dX8_rational_212 : decode cX8_rational 212 = .ok (.istore 7, 2) := by decide +kernel
theorem dX8_rational_214 : decode cX8_rational 214 = .ok (.iinc 8 1, 3) := by decide +kernel
theorem dX8_rational_217 : decode cX8_rational 217 = .ok (.goto (-53), 3) := by decide +kernel
theorem dX8_rational_220 : decode cX8_rational 220 = .ok (.iload 7, 2) := by decide +kernel
theorem dX8_rational_222 : decode cX8_rational 222 = .ok (.iload_n 3, 1) := by decide +kernel
theorem dX8_rational_223 : decode cX8_rational 223 = .ok (.if_icmp .ne 31, 3) := by decide +kernel
theorem dX8_rational_226 : decode cX8_rational 226 = .ok (.aload_n 0, 1) := by decide +kernel
theorem dX8_rational_227 : decode cX8_rational 227 = .ok (.aload_n 0, 1) := by decide +kernel
theorem dX8_rational_228 : decode cX8_rational 228 = .ok (.getfield 97, 3) := by decide +kernel
theorem dX8_rational_231 : decode cX8_rational 231 = .ok (.iload 6, 2) := by decide +kernel
theorem dX8_rational_233 : decode cX8_rational 233 = .ok (.iaload, 1) := by decide +kernel
theorem dX8_rational_234 : decode cX8_rational 234 = .ok (.i2l, 1) := by decide +kernel
theorem dX8_rational_235 : decode cX8_rational 235 = .ok (.aload_n 0, 1) := by decide +kernel
theorem dX8_rational_236 : decode cX8_rational 236 = .ok (.getfield 100, 3) := by decide +kernel
theorem dX8_rational_239 : decode cX8_rational 239 = .ok (.iload 6, 2) := by decide +kernel
theorem dX8_rational_241 : decode cX8_rational 241 = .ok (.iaload, 1) := by decide +kernel
theorem dX8_rational_242 : decode cX8_rational 242 = .ok (.i2l, 1) := by decide +kernel
theorem dX8_rational_243 : decode cX8_rational 243 = .ok (.aload_n 0, 1) := by decide +kernel
theorem dX8_rational_244 : decode cX8_rational 244 = .ok (.getfield 103, 3) := by decide +kernel
theorem dX8_rational_247 : decode cX8_rational 247 = .ok (.iload 6, 2) := by decide +kernel
theorem dX8_rational_249 : decode cX8_rational 249 = .ok (.iaload, 1) := by decide +kernel
theorem dX8_rational_250 : decode cX8_rational 250 = .ok (.invokevirtual 252, 3) := by decide +kernel
theorem dX8_rational_253 : decode cX8_rational 253 = .ok (.ireturn, 1) := by decide +kernel
theorem dX8_rational_254 : decode cX8_rational 254 = .ok (.iinc 6 1, 3) := by decide +kernel
theorem dX8_rational_257 : decode cX8_rational 257 = .ok (.goto (-106), 3) := by decide +kernel
theorem dX8_rational_260 : decode cX8_rational 260 = .ok (.bipush (-9), 2) := by decide +kernel
theorem dX8_rational_262 : decode cX8_rational 262 = .ok (.ireturn, 1) := by decide +kernel
theorem dX8_layTree_0 : decode cX8_layTree 0 = .ok (.iconst 2, 1) := by decide +kernel
theorem dX8_layTree_1 : decode cX8_layTree 1 = .ok (.istore_n 2, 1) := by decide +kernel
theorem dX8_layTree_2 : decode cX8_layTree 2 = .ok (.aload_n 0, 1) := by decide +kernel
theorem dX8_layTree_3 : decode cX8_layTree 3 = .ok (.getfield 106, 3) := by decide +kernel
theorem dX8_layTree_6 : decode cX8_layTree 6 = .ok (.iconst 0, 1) := by decide +kernel
theorem dX8_layTree_7 : decode cX8_layTree 7 = .ok (.iconst 0, 1) := by decide +kernel
theorem dX8_layTree_8 : decode cX8_layTree 8 = .ok (.iastore, 1) := by decide +kernel
theorem dX8_layTree_9 : decode cX8_layTree 9 = .ok (.aload_n 0, 1) := by decide +kernel
theorem dX8_layTree_10 : decode cX8_layTree 10 = .ok (.getfield 109, 3) := by decide +kernel
theorem dX8_layTree_13 : decode cX8_layTree 13 = .ok (.iconst 0, 1) := by decide +kernel
theorem dX8_layTree_14 : decode cX8_layTree 14 = .ok (.iconst 1, 1) := by decide +kernel
theorem dX8_layTree_15 : decode cX8_layTree 15 = .ok (.iastore, 1) := by decide +kernel
theorem dX8_layTree_16 : decode cX8_layTree 16 = .ok (.aload_n 0, 1) := by decide +kernel
theorem dX8_layTree_17 : decode cX8_layTree 17 = .ok (.getfield 106, 3) := by decide +kernel
theorem dX8_layTree_20 : decode cX8_layTree 20 = .ok (.iconst 1, 1) := by decide +kernel
theorem dX8_layTree_21 : decode cX8_layTree 21 = .ok (.iconst 1, 1) := by decide +kernel
theorem dX8_layTree_22 : decode cX8_layTree 22 = .ok (.iastore, 1) := by decide +kernel
theorem dX8_layTree_23 : decode cX8_layTree 23 = .ok (.aload_n 0, 1) := by decide +kernel
theorem dX8_layTree_24 : decode cX8_layTree 24 = .ok (.getfield 109, 3) := by decide +kernel
theorem dX8_layTree_27 : decode cX8_layTree 27 = .ok (.iconst 1, 1) := by decide +kernel
theorem dX8_layTree_28 : decode cX8_layTree 28 = .ok (.iconst 0, 1) := by decide +kernel
theorem dX8_layTree_29 : decode cX8_layTree 29 = .ok (.iastore, 1) := by decide +kernel
theorem dX8_layTree_30 : decode cX8_layTree 30 = .ok (.iconst 0, 1) := by decide +kernel
theorem dX8_layTree_31 : decode cX8_layTree 31 = .ok (.istore_n 3, 1) := by decide +kernel
theorem dX8_layTree_32 : decode cX8_layTree 32 = .ok (.iload_n 3, 1) := by decide +kernel
theorem dX8_layTree_33 : decode cX8_layTree 33 = .ok (.iload_n 1, 1) := by decide +kernel
theorem dX8_layTree_34 : decode cX8_layTree 34 = .ok (.if_icmp .ge 119, 3) := by decide +kernel
theorem dX8_layTree_37 : decode cX8_layTree 37 = .ok (.iload_n 2, 1) := by decide +kernel
theorem dX8_layTree_38 : decode cX8_layTree 38 = .ok (.iconst 1, 1) := by decide +kernel
theorem dX8_layTree_39 : decode cX8_layTree 39 = .ok (.isub, 1) := by decide +kernel
theorem dX8_layTree_40 : decode cX8_layTree 40 = .ok (.istore 4, 2) := by decide +kernel
theorem dX8_layTree_42 : decode cX8_layTree 42 = .ok (.iload 4, 2) := by decide +kernel
theorem dX8_layTree_44 : decode cX8_layTree 44 = .ok (.ifCond .le 97, 3) := by decide +kernel
theorem dX8_layTree_47 : decode cX8_layTree 47 = .ok (.aload_n 0, 1) := by decide +kernel
theorem dX8_layTree_48 : decode cX8_layTree 48 = .ok (.getfield 106, 3) := by decide +kernel
theorem dX8_layTree_51 : decode cX8_layTree 51 = .ok (.iconst 2, 1) := by decide +kernel
theorem dX8_layTree_52 : decode cX8_layTree 52 = .ok (.iload 4, 2) := by decide +kernel
theorem dX8_layTree_54 : decode cX8_layTree 54 = .ok (.imul, 1) := by decide +kernel
theorem dX8_layTree_55 : decode cX8_layTree 55 = .ok (.aload_n 0, 1) := by decide +kernel
theorem dX8_layTree_56 : decode cX8_layTree 56 = .ok (.getfield 106, 3) := by decide +kernel
theorem dX8_layTree_59 : decode cX8_layTree 59 = .ok (.iload 4, 2) := by decide +kernel
theorem dX8_layTree_61 : decode cX8_layTree 61 = .ok (.iaload, 1) := by decide +kernel
theorem dX8_layTree_62 : decode cX8_layTree 62 = .ok (.iastore, 1) := by decide +kernel
theorem dX8_layTree_63 : decode cX8_layTree 63 = .ok (.aload_n 0, 1) := by decide +kernel
theorem dX8_layTree_64 : decode cX8_layTree 64 = .ok (.getfield 109, 3) := by decide +kernel
theorem dX8_layTree_67 : decode cX8_layTree 67 = .ok (.iconst 2, 1) := by decide +kernel
theorem dX8_layTree_68 : decode cX8_layTree 68 = .ok (.iload 4, 2) := by decide +kernel
theorem dX8_layTree_70 : decode cX8_layTree 70 = .ok (.imul, 1) := by decide +kernel
theorem dX8_layTree_71 : decode cX8_layTree 71 = .ok (.aload_n 0, 1) := by decide +kernel
theorem dX8_layTree_72 : decode cX8_layTree 72 = .ok (.getfield 109, 3) := by decide +kernel
theorem dX8_layTree_75 : decode cX8_layTree 75 = .ok (.iload 4, 2) := by decide +kernel
theorem dX8_layTree_77 : decode cX8_layTree 77 = .ok (.iaload, 1) := by decide +kernel
theorem dX8_layTree_78 : decode cX8_layTree 78 = .ok (.iastore, 1) := by decide +kernel
theorem dX8_layTree_79 : decode cX8_layTree 79 = .ok (.aload_n 0, 1) := by decide +kernel
theorem dX8_layTree_80 : decode cX8_layTree 80 = .ok (.getfield 106, 3) := by decide +kernel
theorem dX8_layTree_83 : decode cX8_layTree 83 = .ok (.iconst 2, 1) := by decide +kernel
theorem dX8_layTree_84 : decode cX8_layTree 84 = .ok (.iload 4, 2) := by decide +kernel
theorem dX8_layTree_86 : decode cX8_layTree 86 = .ok (.imul, 1) := by decide +kernel
theorem dX8_layTree_87 : decode cX8_layTree 87 = .ok (.iconst 1, 1) := by decide +kernel
theorem dX8_layTree_88 : decode cX8_layTree 88 = .ok (.isub, 1) := by decide +kernel
theorem dX8_layTree_89 : decode cX8_layTree 89 = .ok (.aload_n 0, 1) := by decide +kernel
theorem dX8_layTree_90 : decode cX8_layTree 90 = .ok (.getfield 106, 3) := by decide +kernel
theorem dX8_layTree_93 : decode cX8_layTree 93 = .ok (.iload 4, 2) := by decide +kernel
theorem dX8_layTree_95 : decode cX8_layTree 95 = .ok (.iaload, 1) := by decide +kernel
theorem dX8_layTree_96 : decode cX8_layTree 96 = .ok (.aload_n 0, 1) := by decide +kernel
theorem dX8_layTree_97 : decode cX8_layTree 97 = .ok (.getfield 106, 3) := by decide +kernel
theorem dX8_layTree_100 : decode cX8_layTree 100 = .ok (.iload 4, 2) := by decide +kernel
theorem dX8_layTree_102 : decode cX8_layTree 102 = .ok (.iconst 1, 1) := by decide +kernel
theorem dX8_layTree_103 : decode cX8_layTree 103 = .ok (.isub, 1) := by decide +kernel
theorem dX8_layTree_104 : decode cX8_layTree 104 = .ok (.iaload, 1) := by decide +kernel
theorem dX8_layTree_105 : decode cX8_layTree 105 = .ok (.iadd, 1) := by decide +kernel
theorem dX8_layTree_106 : decode cX8_layTree 106 = .ok (.iastore, 1) := by decide +kernel
theorem dX8_layTree_107 : decode cX8_layTree 107 = .ok (.aload_n 0, 1) := by decide +kernel
theorem dX8_layTree_108 : decode cX8_layTree 108 = .ok (.getfield 109, 3) := by decide +kernel
theorem dX8_layTree_111 : decode cX8_layTree 111 = .ok (.iconst 2, 1) := by decide +kernel
theorem dX8_layTree_112 : decode cX8_layTree 112 = .ok (.iload 4, 2) := by decide +kernel
theorem dX8_layTree_114 : decode cX8_layTree 114 = .ok (.imul, 1) := by decide +kernel
theorem dX8_layTree_115 : decode cX8_layTree 115 = .ok (.iconst 1, 1) := by decide +kernel
theorem dX8_layTree_116 : decode cX8_layTree 116 = .ok (.isub, 1) := by decide +kernel
theorem dX8_layTree_117 : decode cX8_layTree 117 = .ok (.aload_n 0, 1) := by decide +kernel
theorem dX8_layTree_118 : decode cX8_layTree 118 = .ok (.getfield 109, 3) := by decide +kernel
theorem dX8_layTree_121 : decode cX8_layTree 121 = .ok (.iload 4, 2) := by decide +kernel
theorem dX8_layTree_123 : decode cX8_layTree 123 = .ok (.iaload, 1) := by decide +kernel
theorem dX8_layTree_124 : decode cX8_layTree 124 = .ok (.aload_n 0, 1) := by decide +kernel
theorem dX8_layTree_125 : decode cX8_layTree 125 = .ok (.getfield 109, 3) := by decide +kernel
theorem dX8_layTree_128 : decode cX8_layTree 128 = .ok (.iload 4, 2) := by decide +kernel
theorem dX8_layTree_130 : decode cX8_layTree 130 = .ok (.iconst 1, 1) := by decide +kernel
theorem dX8_layTree_131 : decode cX8_layTree 131 = .ok (.isub, 1) := by decide +kernel
theorem dX8_layTree_132 : decode cX8_layTree 132 = .ok (.iaload, 1) := by decide +kernel
theorem dX8_layTree_133 : decode cX8_layTree 133 = .ok (.iadd, 1) := by decide +kernel
theorem dX8_layTree_134 : decode cX8_layTree 134 = .ok (.iastore, 1) := by decide +kernel
theorem dX8_layTree_135 : decode cX8_layTree 135 = .ok (.iinc 4 (-1), 3) := by decide +kernel
theorem dX8_layTree_138 : decode cX8_layTree 138 = .ok (.goto (-96), 3) := by decide +kernel
theorem dX8_layTree_141 : decode cX8_layTree 141 = .ok (.iconst 2, 1) := by decide +kernel
theorem dX8_layTree_142 : decode cX8_layTree 142 = .ok (.iload_n 2, 1) := by decide +kernel
theorem dX8_layTree_143 : decode cX8_layTree 143 = .ok (.imul, 1) := by decide +kernel
theorem dX8_layTree_144 : decode cX8_layTree 144 = .ok (.iconst 1, 1) := by decide +kernel
theorem dX8_layTree_145 : decode cX8_layTree 145 = .ok (.isub, 1) := by decide +kernel
theorem dX8_layTree_146 : decode cX8_layTree 146 = .ok (.istore_n 2, 1) := by decide +kernel
theorem dX8_layTree_147 : decode cX8_layTree 147 = .ok (.iinc 3 1, 3) := by decide +kernel
theorem dX8_layTree_150 : decode cX8_layTree 150 = .ok (.goto (-118), 3) := by decide +kernel
theorem dX8_layTree_153 : decode cX8_layTree 153 = .ok (.iload_n 2, 1) := by decide +kernel
theorem dX8_layTree_154 : decode cX8_layTree 154 = .ok (.ireturn, 1) := by decide +kernel
theorem dX8_between_0 : decode cX8_between 0 = .ok (.iload_n 3, 1) := by decide +kernel
theorem dX8_between_1 : decode cX8_between 1 = .ok (.iconst 1, 1) := by decide +kernel
theorem dX8_between_2 : decode cX8_between 2 = .ok (.bipush 8, 2) := by decide +kernel
theorem dX8_between_4 : decode cX8_between 4 = .ok (.invokestatic 133, 3) := by decide +kernel
theorem dX8_between_7 : decode cX8_between 7 = .ok (.ifCond .ne 5, 3) := by decide +kernel
theorem dX8_between_10 : decode cX8_between 10 = .ok (.iconst (-1), 1) := by decide +kernel
theorem dX8_between_11 : decode cX8_between 11 = .ok (.ireturn, 1) := by decide +kernel
theorem dX8_between_12 : decode cX8_between 12 = .ok (.aload_n 0, 1) := by decide +kernel
theorem dX8_between_13 : decode cX8_between 13 = .ok (.iload_n 1, 1) := by decide +kernel
theorem dX8_between_14 : decode cX8_between 14 = .ok (.iload_n 2, 1) := by decide +kernel
theorem dX8_between_15 : decode cX8_between 15 = .ok (.invokevirtual 227, 3) := by decide +kernel
theorem dX8_between_18 : decode cX8_between 18 = .ok (.istore 4, 2) := by decide +kernel
theorem dX8_between_20 : decode cX8_between 20 = .ok (.iload 4, 2) := by decide +kernel
theorem dX8_between_22 : decode cX8_between 22 = .ok (.ifCond .ge 6, 3) := by decide +kernel
theorem dX8_between_25 : decode cX8_between 25 = .ok (.iload 4, 2) := by decide +kernel
theorem dX8_between_27 : decode cX8_between 27 = .ok (.ireturn, 1) := by decide +kernel
theorem dX8_between_28 : decode cX8_between 28 = .ok (.aload_n 0, 1) := by decide +kernel
theorem dX8_between_29 : decode cX8_between 29 = .ok (.iload_n 1, 1) := by decide +kernel
theorem dX8_between_30 : decode cX8_between 30 = .ok (.iload_n 2, 1) := by decide +kernel
theorem dX8_between_31 : decode cX8_between 31 = .ok (.invokevirtual 350, 3) := by decide +kernel
theorem dX8_between_34 : decode cX8_between 34 = .ok (.istore 5, 2) := by decide +kernel
theorem dX8_between_36 : decode cX8_between 36 = .ok (.aload_n 0, 1) := by decide +kernel
theorem dX8_between_37 : decode cX8_between 37 = .ok (.getfield 295, 3) := by decide +kernel
theorem dX8_between_40 : decode cX8_between 40 = .ok (.ifCond .ne 8, 3) := by decide +kernel
theorem dX8_between_43 : decode cX8_between 43 = .ok (.iload 5, 2) := by decide +kernel
theorem dX8_between_45 : decode cX8_between 45 = .ok (.ifCond .ne 7, 3) := by decide +kernel
theorem dX8_between_48 : decode cX8_between 48 = .ok (.iconst 0, 1) := by decide +kernel
theorem dX8_between_49 : decode cX8_between 49 = .ok (.goto 7, 3) := by decide +kernel
theorem dX8_between_52 : decode cX8_between 52 = .ok (.aload_n 0, 1) := by decide +kernel
theorem dX8_between_53 : decode cX8_between 53 = .ok (.getfield 298, 3) := by decide +kernel
theorem dX8_between_56 : decode cX8_between 56 = .ok (.istore 6, 2) := by decide +kernel
theorem dX8_between_58 : decode cX8_between 58 = .ok (.iload 5, 2) := by decide +kernel
theorem dX8_between_60 : decode cX8_between 60 = .ok (.ifCond .eq 24, 3) := by decide +kernel
theorem dX8_between_63 : decode cX8_between 63 = .ok (.aload_n 0, 1) := by decide +kernel
theorem dX8_between_64 : decode cX8_between 64 = .ok (.getfield 295, 3) := by decide +kernel
theorem dX8_between_67 : decode cX8_between 67 = .ok (.ifCond .eq 10, 3) := by decide +kernel
theorem dX8_between_70 : decode cX8_between 70 = .ok (.aload_n 0, 1) := by decide +kernel
theorem dX8_between_71 : decode cX8_between 71 = .ok (.getfield 298, 3) := by decide +kernel
theorem dX8_between_74 : decode cX8_between 74 = .ok (.ifCond .gt 10, 3) := by decide +kernel
theorem dX8_between_77 : decode cX8_between 77 = .ok (.aload_n 0, 1) := by decide +kernel
theorem dX8_between_78 : decode cX8_between 78 = .ok (.getfield 277, 3) := by decide +kernel
theorem dX8_between_81 : decode cX8_between 81 = .ok (.ifCond .le 7, 3) := by decide +kernel
theorem dX8_between_84 : decode cX8_between 84 = .ok (.iconst 1, 1) := by decide +kernel
theorem dX8_between_85 : decode cX8_between 85 = .ok (.goto 4, 3) := by decide +kernel
theorem dX8_between_88 : decode cX8_between 88 = .ok (.iconst 0, 1) := by decide +kernel
theorem dX8_between_89 : decode cX8_between 89 = .ok (.istore 7, 2) := by decide +kernel
theorem dX8_between_91 : decode cX8_between 91 = .ok (.aload_n 0, 1) := by decide +kernel
theorem dX8_between_92 : decode cX8_between 92 = .ok (.iload_n 3, 1) := by decide +kernel
theorem dX8_between_93 : decode cX8_between 93 = .ok (.invokevirtual 360, 3) := by decide +kernel
theorem dX8_between_96 : decode cX8_between 96 = .ok (.iconst 2, 1) := by decide +kernel
theorem dX8_between_97 : decode cX8_between 97 = .ok (.isub, 1) := by decide +kernel
theorem dX8_between_98 : decode cX8_between 98 = .ok (.istore 8, 2) := by decide +kernel
theorem dX8_between_100 : decode cX8_between 100 = .ok (.iconst 0, 1) := by decide +kernel
theorem dX8_between_101 : decode cX8_between 101 = .ok (.istore 9, 2) := by decide +kernel
theorem dX8_between_103 : decode cX8_between 103 = .ok (.iconst 0, 1) := by decide +kernel
theorem dX8_between_104 : decode cX8_between 104 = .ok (.istore 10, 2) := by decide +kernel
theorem dX8_between_106 : decode cX8_between 106 = .ok (.iconst (-1), 1) := by decide +kernel
theorem dX8_between_107 : decode cX8_between 107 = .ok (.istore 11, 2) := by decide +kernel
theorem dX8_between_109 : decode cX8_between 109 = .ok (.iconst 0, 1) := by decide +kernel
theorem dX8_between_110 : decode cX8_between 110 = .ok (.istore 12, 2) := by decide +kernel
theorem dX8_between_112 : decode cX8_between 112 = .ok (.iconst 0, 1) := by decide +kernel
theorem dX8_between_113 : decode cX8_between 113 = .ok (.istore 13, 2) := by decide +kernel
theorem dX8_between_115 : decode cX8_between 115 = .ok (.iload 8, 2) := by decide +kernel
theorem dX8_between_117 : decode cX8_between 117 = .ok (.ineg, 1) := by decide +kernel
theorem dX8_between_118 : decode cX8_between 118 = .ok (.istore 14, 2) := by decide +kernel
theorem dX8_between_120 : decode cX8_between 120 = .ok (.iload 14, 2) := by decide +kernel
theorem dX8_between_122 : decode cX8_between 122 = .ok (.iload 8, 2) := by decide +kernel
theorem dX8_between_124 : decode cX8_between 124 = .ok (.if_icmp .gt 202, 3) := by decide +kernel
theorem dX8_between_127 : decode cX8_between 127 = .ok (.iload 14, 2) := by decide +kernel
theorem dX8_between_129 : decode cX8_between 129 = .ok (.ifCond .ge 16, 3) := by decide +kernel
theorem dX8_between_132 : decode cX8_between 132 = .ok (.aload_n 0, 1) := by decide +kernel
theorem dX8_between_133 : decode cX8_between 133 = .ok (.getfield 106, 3) := by decide +kernel
theorem dX8_between_136 : decode cX8_between 136 = .ok (.iload 14, 2) := by decide +kernel
theorem dX8_between_138 : decode cX8_between 138 = .ok (.ineg, 1) := by decide +kernel
theorem dX8_between_139 : decode cX8_between 139 = .ok (.iaload, 1) := by decide +kernel
theorem dX8_between_140 : decode cX8_between 140 = .ok (.ineg, 1) := by decide +kernel
theorem dX8_between_141 : decode cX8_between 141 = .ok (.i2l, 1) := by decide +kernel
theorem dX8_between_142 : decode cX8_between 142 = .ok (.goto 11, 3) := by decide +kernel
theorem dX8_between_145 : decode cX8_between 145 = .ok (.aload_n 0, 1) := by decide +kernel
theorem dX8_between_146 : decode cX8_between 146 = .ok (.getfield 106, 3) := by decide +kernel
theorem dX8_between_149 : decode cX8_between 149 = .ok (.iload 14, 2) := by decide +kernel
theorem dX8_between_151 : decode cX8_between 151 = .ok (.iaload, 1) := by decide +kernel
theorem dX8_between_152 : decode cX8_between 152 = .ok (.i2l, 1) := by decide +kernel
theorem dX8_between_153 : decode cX8_between 153 = .ok (.lstore 15, 2) := by decide +kernel
theorem dX8_between_155 : decode cX8_between 155 = .ok (.iload 14, 2) := by decide +kernel
theorem dX8_between_157 : decode cX8_between 157 = .ok (.ifCond .ge 15, 3) := by decide +kernel
theorem dX8_between_160 : decode cX8_between 160 = .ok (.aload_n 0, 1) := by decide +kernel
theorem dX8_between_161 : decode cX8_between 161 = .ok (.getfield 109, 3) := by decide +kernel
theorem dX8_between_164 : decode cX8_between 164 = .ok (.iload 14, 2) := by decide +kernel
theorem dX8_between_166 : decode cX8_between 166 = .ok (.ineg, 1) := by decide +kernel
theorem dX8_between_167 : decode cX8_between 167 = .ok (.iaload, 1) := by decide +kernel
theorem dX8_between_168 : decode cX8_between 168 = .ok (.i2l, 1) := by decide +kernel
theorem dX8_between_169 : decode cX8_between 169 = .ok (.goto 11, 3) := by decide +kernel
theorem dX8_between_172 : decode cX8_between 172 = .ok (.aload_n 0, 1) := by decide +kernel
theorem dX8_between_173 : decode cX8_between 173 = .ok (.getfield 109, 3) := by decide +kernel
theorem dX8_between_176 : decode cX8_between 176 = .ok (.iload 14, 2) := by decide +kernel
theorem dX8_between_178 : decode cX8_between 178 = .ok (.iaload, 1) := by decide +kernel
theorem dX8_between_179 : decode cX8_between 179 = .ok (.i2l, 1) := by decide +kernel
theorem dX8_between_180 : decode cX8_between 180 = .ok (.lstore 17, 2) := by decide +kernel
theorem dX8_between_182 : decode cX8_between 182 = .ok (.iconst 0, 1) := by decide +kernel
theorem dX8_between_183 : decode cX8_between 183 = .ok (.istore 19, 2) := by decide +kernel
theorem dX8_between_185 : decode cX8_between 185 = .ok (.iload 19, 2) := by decide +kernel
theorem dX8_between_187 : decode cX8_between 187 = .ok (.bipush 16, 2) := by decide +kernel
theorem dX8_between_189 : decode cX8_between 189 = .ok (.if_icmp .ge 39, 3) := by decide +kernel
theorem dX8_between_192 : decode cX8_between 192 = .ok (.aload_n 0, 1) := by decide +kernel
theorem dX8_between_193 : decode cX8_between 193 = .ok (.getfield 26, 3) := by decide +kernel
theorem dX8_between_196 : decode cX8_between 196 = .ok (.iload 19, 2) := by decide +kernel
theorem dX8_between_198 : decode cX8_between 198 = .ok (.aload_n 0, 1) := by decide +kernel
theorem dX8_between_199 : decode cX8_between 199 = .ok (.getfield 67, 3) := by decide +kernel
theorem dX8_between_202 : decode cX8_between 202 = .ok (.iload 19, 2) := by decide +kernel
theorem dX8_between_204 : decode cX8_between 204 = .ok (.iaload, 1) := by decide +kernel
theorem dX8_between_205 : decode cX8_between 205 = .ok (.i2l, 1) := by decide +kernel
theorem dX8_between_206 : decode cX8_between 206 = .ok (.lload 15, 2) := by decide +kernel
theorem dX8_between_208 : decode cX8_between 208 = .ok (.lmul, 1) := by decide +kernel
theorem dX8_between_209 : decode cX8_between 209 = .ok (.aload_n 0, 1) := by decide +kernel
theorem dX8_between_210 : decode cX8_between 210 = .ok (.getfield 70, 3) := by decide +kernel
theorem dX8_between_213 : decode cX8_between 213 = .ok (.iload 19, 2) := by decide +kernel
theorem dX8_between_215 : decode cX8_between 215 = .ok (.iaload, 1) := by decide +kernel
theorem dX8_between_216 : decode cX8_between 216 = .ok (.i2l, 1) := by decide +kernel
theorem dX8_between_217 : decode cX8_between 217 = .ok (.lload 17, 2) := by decide +kernel
theorem dX8_between_219 : decode cX8_between 219 = .ok (.lmul, 1) := by decide +kernel
theorem dX8_between_220 : decode cX8_between 220 = .ok (.ladd, 1) := by decide +kernel
theorem dX8_between_221 : decode cX8_between 221 = .ok (.lastore, 1) := by decide +kernel
theorem dX8_between_222 : decode cX8_between 222 = .ok (.iinc 19 1, 3) := by decide +kernel
theorem dX8_between_225 : decode cX8_between 225 = .ok (.goto (-40), 3) := by decide +kernel
theorem dX8_between_228 : decode cX8_between 228 = .ok (.aload_n 0, 1) := by decide +kernel
theorem dX8_between_229 : decode cX8_between 229 = .ok (.getfield 26, 3) := by decide +kernel
theorem dX8_between_232 : decode cX8_between 232 = .ok (.invokestatic 173, 3) := by decide +kernel
theorem dX8_between_235 : decode cX8_between 235 = .ok (.invokestatic 156, 3) := by decide +kernel
theorem dX8_between_238 : decode cX8_between 238 = .ok (.istore 19, 2) := by decide +kernel
theorem dX8_between_240 : decode cX8_between 240 = .ok (.iload 19, 2) := by decide +kernel
theorem dX8_between_242 : decode cX8_between 242 = .ok (.ifCond .ne 6, 3) := by decide +kernel
theorem dX8_between_245 : decode cX8_between 245 = .ok (.goto 75, 3) := by decide +kernel
theorem dX8_between_248 : decode cX8_between 248 = .ok (.aload_n 0, 1) := by decide +kernel
theorem dX8_between_249 : decode cX8_between 249 = .ok (.invokevirtual 188, 3) := by decide +kernel
theorem dX8_between_252 : decode cX8_between 252 = .ok (.iload 13, 2) := by decide +kernel
theorem dX8_between_254 : decode cX8_between 254 = .ok (.iload 12, 2) := by decide +kernel
theorem dX8_between_256 : decode cX8_between 256 = .ok (.ifCond .eq 14, 3) := by decide +kernel
theorem dX8_between_259 : decode cX8_between 259 = .ok (.iload 19, 2) := by decide +kernel
theorem dX8_between_261 : decode cX8_between 261 = .ok (.iload 12, 2) := by decide +kernel
theorem dX8_between_263 : decode cX8_between 263 = .ok (.if_icmp .eq 7, 3) := by decide +kernel
theorem dX8_between_266 : decode cX8_between 266 = .ok (.iconst 1, 1) := by decide +kernel
theorem dX8_between_267 : decode cX8_between 267 = .ok (.goto 4, 3) := by decide +kernel
theorem dX8_between_270 : decode cX8_between 270 = .ok (.iconst 0, 1) := by decide +kernel
theorem dX8_between_271 : decode cX8_between 271 = .ok (.iadd, 1) := by decide +kernel
theorem dX8_between_272 : decode cX8_between 272 = .ok (.istore 13, 2) := by decide +kernel
theorem dX8_between_274 : decode cX8_between 274 = .ok (.iload 19, 2) := by decide +kernel
theorem dX8_between_276 : decode cX8_between 276 = .ok (.istore 12, 2) := by decide +kernel
theorem dX8_between_278 : decode cX8_between 278 = .ok (.aload_n 0, 1) := by decide +kernel
theorem dX8_between_279 : decode cX8_between 279 = .ok (.getfield 160, 3) := by decide +kernel
theorem dX8_between_282 : decode cX8_between 282 = .ok (.iload 11, 2) := by decide +kernel
theorem dX8_between_284 : decode cX8_between 284 = .ok (.if_icmp .eq 36, 3) := by decide +kernel
theorem dX8_between_287 : decode cX8_between 287 = .ok (.iload 10, 2) := by decide +kernel
theorem dX8_between_289 : decode cX8_between 289 = .ok (.bipush 9, 2) := by decide +kernel
theorem dX8_between_291 : decode cX8_between 291 = .ok (.if_icmp .ge 16, 3) := by decide +kernel
theorem dX8_between_294 : decode cX8_between 294 = .ok (.bipush 10, 2) := by decide +kernel
theorem dX8_between_296 : decode cX8_between 296 = .ok (.iload 9, 2) := by decide +kernel
theorem dX8_between_298 : decode cX8_between 298 = .ok (.imul, 1) := by decide +kernel
theorem dX8_between_299 : decode cX8_between 299 = .ok (.aload_n 0, 1) := by decide +kernel
theorem dX8_between_300 : decode cX8_between 300 = .ok (.getfield 160, 3) := by decide +kernel
theorem dX8_between_303 : decode cX8_between 303 = .ok (.iadd, 1) := by decide +kernel
theorem dX8_between_304 : decode cX8_between 304 = .ok (.goto 5, 3) := by decide +kernel
theorem dX8_between_307 : decode cX8_between 307 = .ok (.iload 9, 2) := by decide +kernel
theorem dX8_between_309 : decode cX8_between 309 = .ok (.istore 9, 2) := by decide +kernel
theorem dX8_between_311 : decode cX8_between 311 = .ok (.iinc 10 1, 3) := by decide +kernel
theorem dX8_between_314 : decode cX8_between 314 = .ok (.aload_n 0, 1) := by decide +kernel
theorem dX8_between_315 : decode cX8_between 315 = .ok (.getfield 160, 3) := by decide +kernel
theorem dX8_between_318 : decode cX8_between 318 = .ok (.istore 11, 2) := by decide +kernel
theorem dX8_between_320 : decode cX8_between 320 = .ok (.iinc 14 1, 3) := by decide +kernel
theorem dX8_between_323 : decode cX8_between 323 = .ok (.goto (-203), 3) := by decide +kernel
theorem dX8_between_326 : decode cX8_between 326 = .ok (.aload_n 0, 1) := by decide +kernel
theorem dX8_between_327 : decode cX8_between 327 = .ok (.iload 9, 2) := by decide +kernel
theorem dX8_between_329 : decode cX8_between 329 = .ok (.putfield 119, 3) := by decide +kernel
theorem dX8_between_332 : decode cX8_between 332 = .ok (.iload 5, 2) := by decide +kernel
theorem dX8_between_334 : decode cX8_between 334 = .ok (.ifCond .eq 20, 3) := by decide +kernel
theorem dX8_between_337 : decode cX8_between 337 = .ok (.iload 7, 2) := by decide +kernel
theorem dX8_between_339 : decode cX8_between 339 = .ok (.ifCond .ne 15, 3) := by decide +kernel
theorem dX8_between_342 : decode cX8_between 342 = .ok (.iload 13, 2) := by decide +kernel
theorem dX8_between_344 : decode cX8_between 344 = .ok (.iload 6, 2) := by decide +kernel
theorem dX8_between_346 : decode cX8_between 346 = .ok (.if_icmp .ne 8, 3) := by decide +kernel
theorem dX8_between_349 : decode cX8_between 349 = .ok (.iload 9, 2) := by decide +kernel
theorem dX8_between_351 : decode cX8_between 351 = .ok (.goto 5, 3) := by decide +kernel
theorem dX8_between_354 : decode cX8_between 354 = .ok (.bipush (-6), 2) := by decide +kernel
theorem dX8_between_356 : decode cX8_between 356 = .ok (.ireturn, 1) := by decide +kernel
theorem dX8_apartOf_0 : decode cX8_apartOf 0 = .ok (.aload_n 0, 1) := by decide +kernel
theorem dX8_apartOf_1 : decode cX8_apartOf 1 = .ok (.invokevirtual 259, 3) := by decide +kernel
theorem dX8_apartOf_4 : decode cX8_apartOf 4 = .ok (.aload_n 0, 1) := by decide +kernel
theorem dX8_apartOf_5 : decode cX8_apartOf 5 = .ok (.invokevirtual 344, 3) := by decide +kernel
theorem dX8_apartOf_8 : decode cX8_apartOf 8 = .ok (.istore_n 1, 1) := by decide +kernel
theorem dX8_apartOf_9 : decode cX8_apartOf 9 = .ok (.aload_n 0, 1) := by decide +kernel
theorem dX8_apartOf_10 : decode cX8_apartOf 10 = .ok (.invokevirtual 347, 3) := by decide +kernel
theorem dX8_apartOf_13 : decode cX8_apartOf 13 = .ok (.iconst 0, 1) := by decide +kernel
theorem dX8_apartOf_14 : decode cX8_apartOf 14 = .ok (.istore_n 2, 1) := by decide +kernel
theorem dX8_apartOf_15 : decode cX8_apartOf 15 = .ok (.iconst 0, 1) := by decide +kernel
theorem dX8_apartOf_16 : decode cX8_apartOf 16 = .ok (.istore_n 3, 1) := by decide +kernel
theorem dX8_apartOf_17 : decode cX8_apartOf 17 = .ok (.iload_n 3, 1) := by decide +kernel
theorem dX8_apartOf_18 : decode cX8_apartOf 18 = .ok (.aload_n 0, 1) := by decide +kernel
theorem dX8_apartOf_19 : decode cX8_apartOf 19 = .ok (.getfield 277, 3) := by decide +kernel
theorem dX8_apartOf_22 : decode cX8_apartOf 22 = .ok (.if_icmp .ge 33, 3) := by decide +kernel
theorem dX8_apartOf_25 : decode cX8_apartOf 25 = .ok (.iload_n 2, 1) := by decide +kernel
theorem dX8_apartOf_26 : decode cX8_apartOf 26 = .ok (.aload_n 0, 1) := by decide +kernel
theorem dX8_apartOf_27 : decode cX8_apartOf 27 = .ok (.getfield 85, 3) := by decide +kernel
theorem dX8_apartOf_30 : decode cX8_apartOf 30 = .ok (.iload_n 3, 1) := by decide +kernel
theorem dX8_apartOf_31 : decode cX8_apartOf 31 = .ok (.laload, 1) := by decide +kernel
theorem dX8_apartOf_32 : decode cX8_apartOf 32 = .ok (.lconst 0, 1) := by decide +kernel
theorem dX8_apartOf_33 : decode cX8_apartOf 33 = .ok (.lcmp, 1) := by decide +kernel
theorem dX8_apartOf_34 : decode cX8_apartOf 34 = .ok (.ifCond .le 12, 3) := by decide +kernel
theorem dX8_apartOf_37 : decode cX8_apartOf 37 = .ok (.aload_n 0, 1) := by decide +kernel
theorem dX8_apartOf_38 : decode cX8_apartOf 38 = .ok (.getfield 91, 3) := by decide +kernel
theorem dX8_apartOf_41 : decode cX8_apartOf 41 = .ok (.iload_n 3, 1) := by decide +kernel
theorem dX8_apartOf_42 : decode cX8_apartOf 42 = .ok (.iaload, 1) := by decide +kernel
theorem dX8_apartOf_43 : decode cX8_apartOf 43 = .ok (.goto 4, 3) := by decide +kernel
theorem dX8_apartOf_46 : decode cX8_apartOf 46 = .ok (.iconst 0, 1) := by decide +kernel
theorem dX8_apartOf_47 : decode cX8_apartOf 47 = .ok (.iadd, 1) := by decide +kernel
theorem dX8_apartOf_48 : decode cX8_apartOf 48 = .ok (.istore_n 2, 1) := by decide +kernel
theorem dX8_apartOf_49 : decode cX8_apartOf 49 = .ok (.iinc 3 1, 3) := by decide +kernel
theorem dX8_apartOf_52 : decode cX8_apartOf 52 = .ok (.goto (-35), 3) := by decide +kernel
theorem dX8_apartOf_55 : decode cX8_apartOf 55 = .ok (.aload_n 0, 1) := by decide +kernel
theorem dX8_apartOf_56 : decode cX8_apartOf 56 = .ok (.invokevirtual 363, 3) := by decide +kernel
theorem dX8_apartOf_59 : decode cX8_apartOf 59 = .ok (.istore_n 3, 1) := by decide +kernel
theorem dX8_apartOf_60 : decode cX8_apartOf 60 = .ok (.iload_n 1, 1) := by decide +kernel
theorem dX8_apartOf_61 : decode cX8_apartOf 61 = .ok (.ifCond .eq 10, 3) := by decide +kernel
theorem dX8_apartOf_64 : decode cX8_apartOf 64 = .ok (.iload_n 2, 1) := by decide +kernel
theorem dX8_apartOf_65 : decode cX8_apartOf 65 = .ok (.iload_n 3, 1) := by decide +kernel
theorem dX8_apartOf_66 : decode cX8_apartOf 66 = .ok (.iadd, 1) := by decide +kernel
theorem dX8_apartOf_67 : decode cX8_apartOf 67 = .ok (.iconst 2, 1) := by decide +kernel
theorem dX8_apartOf_68 : decode cX8_apartOf 68 = .ok (.if_icmp .eq 5, 3) := by decide +kernel
theorem dX8_apartOf_71 : decode cX8_apartOf 71 = .ok (.iconst 0, 1) := by decide +kernel
theorem dX8_apartOf_72 : decode cX8_apartOf 72 = .ok (.ireturn, 1) := by decide +kernel
theorem dX8_apartOf_73 : decode cX8_apartOf 73 = .ok (.iload_n 2, 1) := by decide +kernel
theorem dX8_apartOf_74 : decode cX8_apartOf 74 = .ok (.iconst 2, 1) := by decide +kernel
theorem dX8_apartOf_75 : decode cX8_apartOf 75 = .ok (.if_icmp .eq 10, 3) := by decide +kernel
theorem dX8_apartOf_78 : decode cX8_apartOf 78 = .ok (.aload_n 0, 1) := by decide +kernel
theorem dX8_apartOf_79 : decode cX8_apartOf 79 = .ok (.getfield 295, 3) := by decide +kernel
theorem dX8_apartOf_82 : decode cX8_apartOf 82 = .ok (.ifCond .eq 7, 3) := by decide +kernel
theorem dX8_apartOf_85 : decode cX8_apartOf 85 = .ok (.iconst 1, 1) := by decide +kernel
theorem dX8_apartOf_86 : decode cX8_apartOf 86 = .ok (.goto 4, 3) := by decide +kernel
theorem dX8_apartOf_89 : decode cX8_apartOf 89 = .ok (.iconst 2, 1) := by decide +kernel
theorem dX8_apartOf_90 : decode cX8_apartOf 90 = .ok (.ireturn, 1) := by decide +kernel
theorem dX8_leftAbove_0 : decode cX8_leftAbove 0 = .ok (.aload_n 0, 1) := by decide +kernel
theorem dX8_leftAbove_1 : decode cX8_leftAbove 1 = .ok (.getfield 295, 3) := by decide +kernel
theorem dX8_leftAbove_4 : decode cX8_leftAbove 4 = .ok (.ifCond .eq 94, 3) := by decide +kernel
theorem dX8_leftAbove_7 : decode cX8_leftAbove 7 = .ok (.ldc2_w 301, 3) := by decide +kernel
theorem dX8_leftAbove_10 : decode cX8_leftAbove 10 = .ok (.aload_n 0, 1) := by decide +kernel
theorem dX8_leftAbove_11 : decode cX8_leftAbove 11 = .ok (.getfield 94, 3) := by decide +kernel
theorem dX8_leftAbove_14 : decode cX8_leftAbove 14 = .ok (.iconst 0, 1) := by decide +kernel
theorem dX8_leftAbove_15 : decode cX8_leftAbove 15 = .ok (.laload, 1) := by decide +kernel
theorem dX8_leftAbove_16 : decode cX8_leftAbove 16 = .ok (.lmul, 1) := by decide +kernel
theorem dX8_leftAbove_17 : decode cX8_leftAbove 17 = .ok (.aload_n 0, 1) := by decide +kernel
theorem dX8_leftAbove_18 : decode cX8_leftAbove 18 = .ok (.getfield 94, 3) := by decide +kernel
theorem dX8_leftAbove_21 : decode cX8_leftAbove 21 = .ok (.iconst 2, 1) := by decide +kernel
theorem dX8_leftAbove_22 : decode cX8_leftAbove 22 = .ok (.laload, 1) := by decide +kernel
theorem dX8_leftAbove_23 : decode cX8_leftAbove 23 = .ok (.lmul, 1) := by decide +kernel
theorem dX8_leftAbove_24 : decode cX8_leftAbove 24 = .ok (.aload_n 0, 1) := by decide +kernel
theorem dX8_leftAbove_25 : decode cX8_leftAbove 25 = .ok (.getfield 94, 3) := by decide +kernel
theorem dX8_leftAbove_28 : decode cX8_leftAbove 28 = .ok (.iconst 1, 1) := by decide +kernel
theorem dX8_leftAbove_29 : decode cX8_leftAbove 29 = .ok (.laload, 1) := by decide +kernel
theorem dX8_leftAbove_30 : decode cX8_leftAbove 30 = .ok (.aload_n 0, 1) := by decide +kernel
theorem dX8_leftAbove_31 : decode cX8_leftAbove 31 = .ok (.getfield 94, 3) := by decide +kernel
theorem dX8_leftAbove_34 : decode cX8_leftAbove 34 = .ok (.iconst 1, 1) := by decide +kernel
theorem dX8_leftAbove_35 : decode cX8_leftAbove 35 = .ok (.laload, 1) := by decide +kernel
theorem dX8_leftAbove_36 : decode cX8_leftAbove 36 = .ok (.lmul, 1) := by decide +kernel
theorem dX8_leftAbove_37 : decode cX8_leftAbove 37 = .ok (.lsub, 1) := by decide +kernel
theorem dX8_leftAbove_38 : decode cX8_leftAbove 38 = .ok (.lstore_n 1, 1) := by decide +kernel
theorem dX8_leftAbove_39 : decode cX8_leftAbove 39 = .ok (.aload_n 0, 1) := by decide +kernel
theorem dX8_leftAbove_40 : decode cX8_leftAbove 40 = .ok (.getfield 94, 3) := by decide +kernel
theorem dX8_leftAbove_43 : decode cX8_leftAbove 43 = .ok (.iconst 1, 1) := by decide +kernel
theorem dX8_leftAbove_44 : decode cX8_leftAbove 44 = .ok (.laload, 1) := by decide +kernel
theorem dX8_leftAbove_45 : decode cX8_leftAbove 45 = .ok (.invokestatic 156, 3) := by decide +kernel
theorem dX8_leftAbove_48 : decode cX8_leftAbove 48 = .ok (.aload_n 0, 1) := by decide +kernel
theorem dX8_leftAbove_49 : decode cX8_leftAbove 49 = .ok (.getfield 94, 3) := by decide +kernel
theorem dX8_leftAbove_52 : decode cX8_leftAbove 52 = .ok (.iconst 0, 1) := by decide +kernel
theorem dX8_leftAbove_53 : decode cX8_leftAbove 53 = .ok (.laload, 1) := by decide +kernel
theorem dX8_leftAbove_54 : decode cX8_leftAbove 54 = .ok (.invokestatic 156, 3) := by decide +kernel
theorem dX8_leftAbove_57 : decode cX8_leftAbove 57 = .ok (.imul, 1) := by decide +kernel
theorem dX8_leftAbove_58 : decode cX8_leftAbove 58 = .ok (.ifCond .ge 7, 3) := by decide +kernel
theorem dX8_leftAbove_61 : decode cX8_leftAbove 61 = .ok (.iconst 1, 1) := by decide +kernel
theorem dX8_leftAbove_62 : decode cX8_leftAbove 62 = .ok (.goto 4, 3) := by decide +kernel
theorem dX8_leftAbove_65 : decode cX8_leftAbove 65 = .ok (.iconst 0, 1) := by decide +kernel
theorem dX8_leftAbove_66 : decode cX8_leftAbove 66 = .ok (.istore_n 3, 1) := by decide +kernel
theorem dX8_leftAbove_67 : decode cX8_leftAbove 67 = .ok (.aload_n 0, 1) := by decide +kernel
theorem dX8_leftAbove_68 : decode cX8_leftAbove 68 = .ok (.getfield 298, 3) := by decide +kernel
theorem dX8_leftAbove_71 : decode cX8_leftAbove 71 = .ok (.ifCond .ne 7, 3) := by decide +kernel
theorem dX8_leftAbove_74 : decode cX8_leftAbove 74 = .ok (.iconst 0, 1) := by decide +kernel
theorem dX8_leftAbove_75 : decode cX8_leftAbove 75 = .ok (.goto 22, 3) := by decide +kernel
theorem dX8_leftAbove_78 : decode cX8_leftAbove 78 = .ok (.lload_n 1, 1) := by decide +kernel
theorem dX8_leftAbove_79 : decode cX8_leftAbove 79 = .ok (.lconst 0, 1) := by decide +kernel
theorem dX8_leftAbove_80 : decode cX8_leftAbove 80 = .ok (.lcmp, 1) := by decide +kernel
theorem dX8_leftAbove_81 : decode cX8_leftAbove 81 = .ok (.ifCond .ge 7, 3) := by decide +kernel
theorem dX8_leftAbove_84 : decode cX8_leftAbove 84 = .ok (.iconst 2, 1) := by decide +kernel
theorem dX8_leftAbove_85 : decode cX8_leftAbove 85 = .ok (.goto 12, 3) := by decide +kernel
theorem dX8_leftAbove_88 : decode cX8_leftAbove 88 = .ok (.iload_n 3, 1) := by decide +kernel
theorem dX8_leftAbove_89 : decode cX8_leftAbove 89 = .ok (.ifCond .eq 7, 3) := by decide +kernel
theorem dX8_leftAbove_92 : decode cX8_leftAbove 92 = .ok (.iconst 4, 1) := by decide +kernel
theorem dX8_leftAbove_93 : decode cX8_leftAbove 93 = .ok (.goto 4, 3) := by decide +kernel
theorem dX8_leftAbove_96 : decode cX8_leftAbove 96 = .ok (.iconst 0, 1) := by decide +kernel
theorem dX8_leftAbove_97 : decode cX8_leftAbove 97 = .ok (.ireturn, 1) := by decide +kernel
theorem dX8_leftAbove_98 : decode cX8_leftAbove 98 = .ok (.aload_n 0, 1) := by decide +kernel
theorem dX8_leftAbove_99 : decode cX8_leftAbove 99 = .ok (.getfield 267, 3) := by decide +kernel
theorem dX8_leftAbove_102 : decode cX8_leftAbove 102 = .ok (.iconst 2, 1) := by decide +kernel
theorem dX8_leftAbove_103 : decode cX8_leftAbove 103 = .ok (.if_icmp .ge 39, 3) := by decide +kernel
theorem dX8_leftAbove_106 : decode cX8_leftAbove 106 = .ok (.aload_n 0, 1) := by decide +kernel
theorem dX8_leftAbove_107 : decode cX8_leftAbove 107 = .ok (.getfield 267, 3) := by decide +kernel
theorem dX8_leftAbove_110 : decode cX8_leftAbove 110 = .ok (.iconst 1, 1) := by decide +kernel
theorem dX8_leftAbove_111 : decode cX8_leftAbove 111 = .ok (.if_icmp .ne 29, 3) := by decide +kernel
theorem dX8_leftAbove_114 : decode cX8_leftAbove 114 = .ok (.aload_n 0, 1) := by decide +kernel
theorem dX8_leftAbove_115 : decode cX8_leftAbove 115 = .ok (.getfield 94, 3) := by decide +kernel
theorem dX8_leftAbove_118 : decode cX8_leftAbove 118 = .ok (.iconst 1, 1) := by decide +kernel
theorem dX8_leftAbove_119 : decode cX8_leftAbove 119 = .ok (.laload, 1) := by decide +kernel
theorem dX8_leftAbove_120 : decode cX8_leftAbove 120 = .ok (.invokestatic 156, 3) := by decide +kernel
theorem dX8_leftAbove_123 : decode cX8_leftAbove 123 = .ok (.aload_n 0, 1) := by decide +kernel
theorem dX8_leftAbove_124 : decode cX8_leftAbove 124 = .ok (.getfield 94, 3) := by decide +kernel
theorem dX8_leftAbove_127 : decode cX8_leftAbove 127 = .ok (.iconst 0, 1) := by decide +kernel
theorem dX8_leftAbove_128 : decode cX8_leftAbove 128 = .ok (.laload, 1) := by decide +kernel
theorem dX8_leftAbove_129 : decode cX8_leftAbove 129 = .ok (.invokestatic 156, 3) := by decide +kernel
theorem dX8_leftAbove_132 : decode cX8_leftAbove 132 = .ok (.imul, 1) := by decide +kernel
theorem dX8_leftAbove_133 : decode cX8_leftAbove 133 = .ok (.ifCond .ge 7, 3) := by decide +kernel
theorem dX8_leftAbove_136 : decode cX8_leftAbove 136 = .ok (.iconst 1, 1) := by decide +kernel
theorem dX8_leftAbove_137 : decode cX8_leftAbove 137 = .ok (.goto 4, 3) := by decide +kernel
theorem dX8_leftAbove_140 : decode cX8_leftAbove 140 = .ok (.iconst 0, 1) := by decide +kernel
theorem dX8_leftAbove_141 : decode cX8_leftAbove 141 = .ok (.ireturn, 1) := by decide +kernel
theorem dX8_leftAbove_142 : decode cX8_leftAbove 142 = .ok (.aload_n 0, 1) := by decide +kernel
theorem dX8_leftAbove_143 : decode cX8_leftAbove 143 = .ok (.getfield 298, 3) := by decide +kernel
theorem dX8_leftAbove_146 : decode cX8_leftAbove 146 = .ok (.aload_n 0, 1) := by decide +kernel
theorem dX8_leftAbove_147 : decode cX8_leftAbove 147 = .ok (.getfield 267, 3) := by decide +kernel
theorem dX8_leftAbove_150 : decode cX8_leftAbove 150 = .ok (.if_icmp .ge 5, 3) := by decide +kernel
theorem dX8_leftAbove_153 : decode cX8_leftAbove 153 = .ok (.iconst 0, 1) := by decide +kernel
theorem dX8_leftAbove_154 : decode cX8_leftAbove 154 = .ok (.ireturn, 1) := by decide +kernel
theorem dX8_leftAbove_155 : decode cX8_leftAbove 155 = .ok (.iconst 0, 1) := by decide +kernel
theorem dX8_leftAbove_156 : decode cX8_leftAbove 156 = .ok (.istore_n 1, 1) := by decide +kernel
theorem dX8_leftAbove_157 : decode cX8_leftAbove 157 = .ok (.aload_n 0, 1) := by decide +kernel
theorem dX8_leftAbove_158 : decode cX8_leftAbove 158 = .ok (.getfield 94, 3) := by decide +kernel
theorem dX8_leftAbove_161 : decode cX8_leftAbove 161 = .ok (.iconst 0, 1) := by decide +kernel
theorem dX8_leftAbove_162 : decode cX8_leftAbove 162 = .ok (.laload, 1) := by decide +kernel
theorem dX8_leftAbove_163 : decode cX8_leftAbove 163 = .ok (.invokestatic 156, 3) := by decide +kernel
theorem dX8_leftAbove_166 : decode cX8_leftAbove 166 = .ok (.istore_n 2, 1) := by decide +kernel
theorem dX8_leftAbove_167 : decode cX8_leftAbove 167 = .ok (.iconst 1, 1) := by decide +kernel
theorem dX8_leftAbove_168 : decode cX8_leftAbove 168 = .ok (.istore_n 3, 1) := by decide +kernel
theorem dX8_leftAbove_169 : decode cX8_leftAbove 169 = .ok (.iload_n 3, 1) := by decide +kernel
theorem dX8_leftAbove_170 : decode cX8_leftAbove 170 = .ok (.aload_n 0, 1) := by decide +kernel
theorem dX8_leftAbove_171 : decode cX8_leftAbove 171 = .ok (.getfield 267, 3) := by decide +kernel
theorem dX8_leftAbove_174 : decode cX8_leftAbove 174 = .ok (.if_icmp .gt 66, 3) := by decide +kernel
theorem dX8_leftAbove_177 : decode cX8_leftAbove 177 = .ok (.iload_n 1, 1) := by decide +kernel
theorem dX8_leftAbove_178 : decode cX8_leftAbove 178 = .ok (.aload_n 0, 1) := by decide +kernel
theorem dX8_leftAbove_179 : decode cX8_leftAbove 179 = .ok (.getfield 94, 3) := by decide +kernel
theorem dX8_leftAbove_182 : decode cX8_leftAbove 182 = .ok (.iload_n 3, 1) := by decide +kernel
theorem dX8_leftAbove_183 : decode cX8_leftAbove 183 = .ok (.laload, 1) := by decide +kernel
theorem dX8_leftAbove_184 : decode cX8_leftAbove 184 = .ok (.lconst 0, 1) := by decide +kernel
theorem dX8_leftAbove_185 : decode cX8_leftAbove 185 = .ok (.lcmp, 1) := by decide +kernel
theorem dX8_leftAbove_186 : decode cX8_leftAbove 186 = .ok (.ifCond .eq 20, 3) := by decide +kernel
theorem dX8_leftAbove_189 : decode cX8_leftAbove 189 = .ok (.aload_n 0, 1) := by decide +kernel
theorem dX8_leftAbove_190 : decode cX8_leftAbove 190 = .ok (.getfield 94, 3) := by decide +kernel
theorem dX8_leftAbove_193 : decode cX8_leftAbove 193 = .ok (.iload_n 3, 1) := by decide +kernel
theorem dX8_leftAbove_194 : decode cX8_leftAbove 194 = .ok (.laload, 1) := by decide +kernel
theorem dX8_leftAbove_195 : decode cX8_leftAbove 195 = .ok (.invokestatic 156, 3) := by decide +kernel
theorem dX8_leftAbove_198 : decode cX8_leftAbove 198 = .ok (.iload_n 2, 1) := by decide +kernel
theorem dX8_leftAbove_199 : decode cX8_leftAbove 199 = .ok (.if_icmp .eq 7, 3) := by decide +kernel
theorem dX8_leftAbove_202 : decode cX8_leftAbove 202 = .ok (.iconst 1, 1) := by decide +kernel
theorem dX8_leftAbove_203 : decode cX8_leftAbove 203 = .ok (.goto 4, 3) := by decide +kernel
theorem dX8_leftAbove_206 : decode cX8_leftAbove 206 = .ok (.iconst 0, 1) := by decide +kernel
theorem dX8_leftAbove_207 : decode cX8_leftAbove 207 = .ok (.iadd, 1) := by decide +kernel
theorem dX8_leftAbove_208 : decode cX8_leftAbove 208 = .ok (.istore_n 1, 1) := by decide +kernel
theorem dX8_leftAbove_209 : decode cX8_leftAbove 209 = .ok (.aload_n 0, 1) := by decide +kernel
theorem dX8_leftAbove_210 : decode cX8_leftAbove 210 = .ok (.getfield 94, 3) := by decide +kernel
theorem dX8_leftAbove_213 : decode cX8_leftAbove 213 = .ok (.iload_n 3, 1) := by decide +kernel
theorem dX8_leftAbove_214 : decode cX8_leftAbove 214 = .ok (.laload, 1) := by decide +kernel
theorem dX8_leftAbove_215 : decode cX8_leftAbove 215 = .ok (.lconst 0, 1) := by decide +kernel
theorem dX8_leftAbove_216 : decode cX8_leftAbove 216 = .ok (.lcmp, 1) := by decide +kernel
theorem dX8_leftAbove_217 : decode cX8_leftAbove 217 = .ok (.ifCond .eq 15, 3) := by decide +kernel
theorem dX8_leftAbove_220 : decode cX8_leftAbove 220 = .ok (.aload_n 0, 1) := by decide +kernel
theorem dX8_leftAbove_221 : decode cX8_leftAbove 221 = .ok (.getfield 94, 3) := by decide +kernel
theorem dX8_leftAbove_224 : decode cX8_leftAbove 224 = .ok (.iload_n 3, 1) := by decide +kernel
theorem dX8_leftAbove_225 : decode cX8_leftAbove 225 = .ok (.laload, 1) := by decide +kernel
theorem dX8_leftAbove_226 : decode cX8_leftAbove 226 = .ok (.invokestatic 156, 3) := by decide +kernel
theorem dX8_leftAbove_229 : decode cX8_leftAbove 229 = .ok (.goto 4, 3) := by decide +kernel
theorem dX8_leftAbove_232 : decode cX8_leftAbove 232 = .ok (.iload_n 2, 1) := by decide +kernel
theorem dX8_leftAbove_233 : decode cX8_leftAbove 233 = .ok (.istore_n 2, 1) := by decide +kernel
theorem dX8_leftAbove_234 : decode cX8_leftAbove 234 = .ok (.iinc 3 1, 3) := by decide +kernel
theorem dX8_leftAbove_237 : decode cX8_leftAbove 237 = .ok (.goto (-68), 3) := by decide +kernel
theorem dX8_leftAbove_240 : decode cX8_leftAbove 240 = .ok (.iload_n 1, 1) := by decide +kernel
theorem dX8_leftAbove_241 : decode cX8_leftAbove 241 = .ok (.ireturn, 1) := by decide +kernel
theorem dX8_isBall_0 : decode cX8_isBall 0 = .ok (.aload_n 0, 1) := by decide +kernel
theorem dX8_isBall_1 : decode cX8_isBall 1 = .ok (.getfield 40, 3) := by decide +kernel
theorem dX8_isBall_4 : decode cX8_isBall 4 = .ok (.bipush 10, 2) := by decide +kernel
theorem dX8_isBall_6 : decode cX8_isBall 6 = .ok (.iload_n 1, 1) := by decide +kernel
theorem dX8_isBall_7 : decode cX8_isBall 7 = .ok (.imul, 1) := by decide +kernel
theorem dX8_isBall_8 : decode cX8_isBall 8 = .ok (.iaload, 1) := by decide +kernel
theorem dX8_isBall_9 : decode cX8_isBall 9 = .ok (.iconst 3, 1) := by decide +kernel
theorem dX8_isBall_10 : decode cX8_isBall 10 = .ok (.if_icmp .ne 7, 3) := by decide +kernel
theorem dX8_isBall_13 : decode cX8_isBall 13 = .ok (.iconst 1, 1) := by decide +kernel
theorem dX8_isBall_14 : decode cX8_isBall 14 = .ok (.goto 4, 3) := by decide +kernel
theorem dX8_isBall_17 : decode cX8_isBall 17 = .ok (.iconst 0, 1) := by decide +kernel
theorem dX8_isBall_18 : decode cX8_isBall 18 = .ok (.ireturn, 1) := by decide +kernel
theorem dX8_layMoved_0 : decode cX8_layMoved 0 = .ok (.aload_n 0, 1) := by decide +kernel
theorem dX8_layMoved_1 : decode cX8_layMoved 1 = .ok (.getfield 40, 3) := by decide +kernel
theorem dX8_layMoved_4 : decode cX8_layMoved 4 = .ok (.bipush 10, 2) := by decide +kernel
theorem dX8_layMoved_6 : decode cX8_layMoved 6 = .ok (.iload_n 1, 1) := by decide +kernel
theorem dX8_layMoved_7 : decode cX8_layMoved 7 = .ok (.imul, 1) := by decide +kernel
theorem dX8_layMoved_8 : decode cX8_layMoved 8 = .ok (.iconst 1, 1) := by decide +kernel
theorem dX8_layMoved_9 : decode cX8_layMoved 9 = .ok (.iadd, 1) := by decide +kernel
theorem dX8_layMoved_10 : decode cX8_layMoved 10 = .ok (.iaload, 1) := by decide +kernel
theorem dX8_layMoved_11 : decode cX8_layMoved 11 = .ok (.iconst 3, 1) := by decide +kernel
theorem dX8_layMoved_12 : decode cX8_layMoved 12 = .ok (.if_icmp .ne 7, 3) := by decide +kernel
theorem dX8_layMoved_15 : decode cX8_layMoved 15 = .ok (.iconst 1, 1) := by decide +kernel
theorem dX8_layMoved_16 : decode cX8_layMoved 16 = .ok (.goto 4, 3) := by decide +kernel
theorem dX8_layMoved_19 : decode cX8_layMoved 19 = .ok (.iconst (-1), 1) := by decide +kernel
theorem dX8_layMoved_20 : decode cX8_layMoved 20 = .ok (.istore 6, 2) := by decide +kernel
theorem dX8_layMoved_22 : decode cX8_layMoved 22 = .ok (.iconst 0, 1) := by decide +kernel
theorem dX8_layMoved_23 : decode cX8_layMoved 23 = .ok (.istore 7, 2) := by decide +kernel
theorem dX8_layMoved_25 : decode cX8_layMoved 25 = .ok (.iload 7, 2) := by decide +kernel
theorem dX8_layMoved_27 : decode cX8_layMoved 27 = .ok (.bipush 16, 2) := by decide +kernel
theorem dX8_layMoved_29 : decode cX8_layMoved 29 = .ok (.if_icmp .ge 31, 3) := by decide +kernel
theorem dX8_layMoved_32 : decode cX8_layMoved 32 = .ok (.aload_n 0, 1) := by decide +kernel
theorem dX8_layMoved_33 : decode cX8_layMoved 33 = .ok (.getfield 43, 3) := by decide +kernel
theorem dX8_layMoved_36 : decode cX8_layMoved 36 = .ok (.iload 7, 2) := by decide +kernel
theorem dX8_layMoved_38 : decode cX8_layMoved 38 = .ok (.iload 6, 2) := by decide +kernel
theorem dX8_layMoved_40 : decode cX8_layMoved 40 = .ok (.aload_n 0, 1) := by decide +kernel
theorem dX8_layMoved_41 : decode cX8_layMoved 41 = .ok (.getfield 37, 3) := by decide +kernel
theorem dX8_layMoved_44 : decode cX8_layMoved 44 = .ok (.bipush 16, 2) := by decide +kernel
theorem dX8_layMoved_46 : decode cX8_layMoved 46 = .ok (.iload_n 1, 1) := by decide +kernel
theorem dX8_layMoved_47 : decode cX8_layMoved 47 = .ok (.imul, 1) := by decide +kernel
theorem dX8_layMoved_48 : decode cX8_layMoved 48 = .ok (.iload 7, 2) := by decide +kernel
theorem dX8_layMoved_50 : decode cX8_layMoved 50 = .ok (.iadd, 1) := by decide +kernel
theorem dX8_layMoved_51 : decode cX8_layMoved 51 = .ok (.iaload, 1) := by decide +kernel
theorem dX8_layMoved_52 : decode cX8_layMoved 52 = .ok (.imul, 1) := by decide +kernel
theorem dX8_layMoved_53 : decode cX8_layMoved 53 = .ok (.iastore, 1) := by decide +kernel
theorem dX8_layMoved_54 : decode cX8_layMoved 54 = .ok (.iinc 7 1, 3) := by decide +kernel
theorem dX8_layMoved_57 : decode cX8_layMoved 57 = .ok (.goto (-32), 3) := by decide +kernel
theorem dX8_layMoved_60 : decode cX8_layMoved 60 = .ok (.iconst 0, 1) := by decide +kernel
theorem dX8_layMoved_61 : decode cX8_layMoved 61 = .ok (.istore 7, 2) := by decide +kernel
theorem dX8_layMoved_63 : decode cX8_layMoved 63 = .ok (.iload 7, 2) := by decide +kernel
theorem dX8_layMoved_65 : decode cX8_layMoved 65 = .ok (.iconst 3, 1) := by decide +kernel
theorem dX8_layMoved_66 : decode cX8_layMoved 66 = .ok (.if_icmp .ge 125, 3) := by decide +kernel
theorem dX8_layMoved_69 : decode cX8_layMoved 69 = .ok (.aload_n 0, 1) := by decide +kernel
theorem dX8_layMoved_70 : decode cX8_layMoved 70 = .ok (.getfield 43, 3) := by decide +kernel
theorem dX8_layMoved_73 : decode cX8_layMoved 73 = .ok (.iconst 4, 1) := by decide +kernel
theorem dX8_layMoved_74 : decode cX8_layMoved 74 = .ok (.iload 7, 2) := by decide +kernel
theorem dX8_layMoved_76 : decode cX8_layMoved 76 = .ok (.imul, 1) := by decide +kernel
theorem dX8_layMoved_77 : decode cX8_layMoved 77 = .ok (.iaload, 1) := by decide +kernel
theorem dX8_layMoved_78 : decode cX8_layMoved 78 = .ok (.iload_n 3, 1) := by decide +kernel
theorem dX8_layMoved_79 : decode cX8_layMoved 79 = .ok (.imul, 1) := by decide +kernel
theorem dX8_layMoved_80 : decode cX8_layMoved 80 = .ok (.aload_n 0, 1) := by decide +kernel
theorem dX8_layMoved_81 : decode cX8_layMoved 81 = .ok (.getfield 43, 3) := by decide +kernel
theorem dX8_layMoved_84 : decode cX8_layMoved 84 = .ok (.iconst 4, 1) := by decide +kernel
theorem dX8_layMoved_85 : decode cX8_layMoved 85 = .ok (.iload 7, 2) := by decide +kernel
theorem dX8_layMoved_87 : decode cX8_layMoved 87 = .ok (.imul, 1) := by decide +kernel
theorem dX8_layMoved_88 : decode cX8_layMoved 88 = .ok (.iconst 1, 1) := by decide +kernel
theorem dX8_layMoved_89 : decode cX8_layMoved 89 = .ok (.iadd, 1) := by decide +kernel
theorem dX8_layMoved_90 : decode cX8_layMoved 90 = .ok (.iaload, 1) := by decide +kernel
theorem dX8_layMoved_91 : decode cX8_layMoved 91 = .ok (.iload 4, 2) := by decide +kernel
theorem dX8_layMoved_93 : decode cX8_layMoved 93 = .ok (.imul, 1) := by decide +kernel
theorem dX8_layMoved_94 : decode cX8_layMoved 94 = .ok (.iadd, 1) := by decide +kernel
theorem dX8_layMoved_95 : decode cX8_layMoved 95 = .ok (.aload_n 0, 1) := by decide +kernel
theorem dX8_layMoved_96 : decode cX8_layMoved 96 = .ok (.getfield 43, 3) := by decide +kernel
theorem dX8_layMoved_99 : decode cX8_layMoved 99 = .ok (.iconst 4, 1) := by decide +kernel
theorem dX8_layMoved_100 : decode cX8_layMoved 100 = .ok (.iload 7, 2) := by decide +kernel
theorem dX8_layMoved_102 : decode cX8_layMoved 102 = .ok (.imul, 1) := by decide +kernel
theorem dX8_layMoved_103 : decode cX8_layMoved 103 = .ok (.iconst 2, 1) := by decide +kernel
theorem dX8_layMoved_104 : decode cX8_layMoved 104 = .ok (.iadd, 1) := by decide +kernel
theorem dX8_layMoved_105 : decode cX8_layMoved 105 = .ok (.iaload, 1) := by decide +kernel
theorem dX8_layMoved_106 : decode cX8_layMoved 106 = .ok (.iload 5, 2) := by decide +kernel
theorem dX8_layMoved_108 : decode cX8_layMoved 108 = .ok (.imul, 1) := by decide +kernel
theorem dX8_layMoved_109 : decode cX8_layMoved 109 = .ok (.iadd, 1) := by decide +kernel
theorem dX8_layMoved_110 : decode cX8_layMoved 110 = .ok (.istore 8, 2) := by decide +kernel
theorem dX8_layMoved_112 : decode cX8_layMoved 112 = .ok (.aload_n 2, 1) := by decide +kernel
theorem dX8_layMoved_113 : decode cX8_layMoved 113 = .ok (.iconst 4, 1) := by decide +kernel
theorem dX8_layMoved_114 : decode cX8_layMoved 114 = .ok (.iload 7, 2) := by decide +kernel
theorem dX8_layMoved_116 : decode cX8_layMoved 116 = .ok (.imul, 1) := by decide +kernel
theorem dX8_layMoved_117 : decode cX8_layMoved 117 = .ok (.iconst 3, 1) := by decide +kernel
theorem dX8_layMoved_118 : decode cX8_layMoved 118 = .ok (.iadd, 1) := by decide +kernel
theorem dX8_layMoved_119 : decode cX8_layMoved 119 = .ok (.aload_n 0, 1) := by decide +kernel
theorem dX8_layMoved_120 : decode cX8_layMoved 120 = .ok (.getfield 43, 3) := by decide +kernel
theorem dX8_layMoved_123 : decode cX8_layMoved 123 = .ok (.iconst 4, 1) := by decide +kernel
theorem dX8_layMoved_124 : decode cX8_layMoved 124 = .ok (.iload 7, 2) := by decide +kernel
theorem dX8_layMoved_126 : decode cX8_layMoved 126 = .ok (.imul, 1) := by decide +kernel
theorem dX8_layMoved_127 : decode cX8_layMoved 127 = .ok (.iconst 3, 1) := by decide +kernel
theorem dX8_layMoved_128 : decode cX8_layMoved 128 = .ok (.iadd, 1) := by decide +kernel
theorem dX8_layMoved_129 : decode cX8_layMoved 129 = .ok (.iaload, 1) := by decide +kernel
theorem dX8_layMoved_130 : decode cX8_layMoved 130 = .ok (.iload 8, 2) := by decide +kernel
theorem dX8_layMoved_132 : decode cX8_layMoved 132 = .ok (.isub, 1) := by decide +kernel
theorem dX8_layMoved_133 : decode cX8_layMoved 133 = .ok (.iastore, 1) := by decide +kernel
theorem dX8_layMoved_134 : decode cX8_layMoved 134 = .ok (.aload_n 2, 1) := by decide +kernel
theorem dX8_layMoved_135 : decode cX8_layMoved 135 = .ok (.bipush 12, 2) := by decide +kernel
theorem dX8_layMoved_137 : decode cX8_layMoved 137 = .ok (.iload 7, 2) := by decide +kernel
theorem dX8_layMoved_139 : decode cX8_layMoved 139 = .ok (.iadd, 1) := by decide +kernel
theorem dX8_layMoved_140 : decode cX8_layMoved 140 = .ok (.aload_n 2, 1) := by decide +kernel
theorem dX8_layMoved_141 : decode cX8_layMoved 141 = .ok (.iconst 4, 1) := by decide +kernel
theorem dX8_layMoved_142 : decode cX8_layMoved 142 = .ok (.iload 7, 2) := by decide +kernel
theorem dX8_layMoved_144 : decode cX8_layMoved 144 = .ok (.imul, 1) := by decide +kernel
theorem dX8_layMoved_145 : decode cX8_layMoved 145 = .ok (.iconst 3, 1) := by decide +kernel
theorem dX8_layMoved_146 : decode cX8_layMoved 146 = .ok (.iadd, 1) := by decide +kernel
theorem dX8_layMoved_147 : decode cX8_layMoved 147 = .ok (.iaload, 1) := by decide +kernel
theorem dX8_layMoved_148 : decode cX8_layMoved 148 = .ok (.iastore, 1) := by decide +kernel
theorem dX8_layMoved_149 : decode cX8_layMoved 149 = .ok (.iconst 0, 1) := by decide +kernel
theorem dX8_layMoved_150 : decode cX8_layMoved 150 = .ok (.istore 9, 2) := by decide +kernel
theorem dX8_layMoved_152 : decode cX8_layMoved 152 = .ok (.iload 9, 2) := by decide +kernel
theorem dX8_layMoved_154 : decode cX8_layMoved 154 = .ok (.iconst 3, 1) := by decide +kernel
theorem dX8_layMoved_155 : decode cX8_layMoved 155 = .ok (.if_icmp .ge 30, 3) := by decide +kernel
theorem dX8_layMoved_158 : decode cX8_layMoved 158 = .ok (.aload_n 2, 1) := by decide +kernel
theorem dX8_layMoved_159 : decode cX8_layMoved 159 = .ok (.iconst 4, 1) := by decide +kernel
theorem dX8_layMoved_160 : decode cX8_layMoved 160 = .ok (.iload 7, 2) := by decide +kernel
theorem dX8_layMoved_162 : decode cX8_layMoved 162 = .ok (.imul, 1) := by decide +kernel
theorem dX8_layMoved_163 : decode cX8_layMoved 163 = .ok (.iload 9, 2) := by decide +kernel
theorem dX8_layMoved_165 : decode cX8_layMoved 165 = .ok (.iadd, 1) := by decide +kernel
theorem dX8_layMoved_166 : decode cX8_layMoved 166 = .ok (.aload_n 0, 1) := by decide +kernel
theorem dX8_layMoved_167 : decode cX8_layMoved 167 = .ok (.getfield 43, 3) := by decide +kernel
theorem dX8_layMoved_170 : decode cX8_layMoved 170 = .ok (.iconst 4, 1) := by decide +kernel
theorem dX8_layMoved_171 : decode cX8_layMoved 171 = .ok (.iload 7, 2) := by decide +kernel
theorem dX8_layMoved_173 : decode cX8_layMoved 173 = .ok (.imul, 1) := by decide +kernel
theorem dX8_layMoved_174 : decode cX8_layMoved 174 = .ok (.iload 9, 2) := by decide +kernel
theorem dX8_layMoved_176 : decode cX8_layMoved 176 = .ok (.iadd, 1) := by decide +kernel
theorem dX8_layMoved_177 : decode cX8_layMoved 177 = .ok (.iaload, 1) := by decide +kernel
theorem dX8_layMoved_178 : decode cX8_layMoved 178 = .ok (.iastore, 1) := by decide +kernel
theorem dX8_layMoved_179 : decode cX8_layMoved 179 = .ok (.iinc 9 1, 3) := by decide +kernel
theorem dX8_layMoved_182 : decode cX8_layMoved 182 = .ok (.goto (-30), 3) := by decide +kernel
theorem dX8_layMoved_185 : decode cX8_layMoved 185 = .ok (.iinc 7 1, 3) := by decide +kernel
theorem dX8_layMoved_188 : decode cX8_layMoved 188 = .ok (.goto (-125), 3) := by decide +kernel
theorem dX8_layMoved_191 : decode cX8_layMoved 191 = .ok (.aload_n 0, 1) := by decide +kernel
theorem dX8_layMoved_192 : decode cX8_layMoved 192 = .ok (.getfield 43, 3) := by decide +kernel
theorem dX8_layMoved_195 : decode cX8_layMoved 195 = .ok (.bipush 15, 2) := by decide +kernel
theorem dX8_layMoved_197 : decode cX8_layMoved 197 = .ok (.iaload, 1) := by decide +kernel
theorem dX8_layMoved_198 : decode cX8_layMoved 198 = .ok (.istore 7, 2) := by decide +kernel
theorem dX8_layMoved_200 : decode cX8_layMoved 200 = .ok (.iconst 0, 1) := by decide +kernel
theorem dX8_layMoved_201 : decode cX8_layMoved 201 = .ok (.istore 8, 2) := by decide +kernel
theorem dX8_layMoved_203 : decode cX8_layMoved 203 = .ok (.iload 8, 2) := by decide +kernel
theorem dX8_layMoved_205 : decode cX8_layMoved 205 = .ok (.iconst 3, 1) := by decide +kernel
theorem dX8_layMoved_206 : decode cX8_layMoved 206 = .ok (.if_icmp .ge 80, 3) := by decide +kernel
theorem dX8_layMoved_209 : decode cX8_layMoved 209 = .ok (.iload 8, 2) := by decide +kernel
theorem dX8_layMoved_211 : decode cX8_layMoved 211 = .ok (.ifCond .ne 7, 3) := by decide +kernel
theorem dX8_layMoved_214 : decode cX8_layMoved 214 = .ok (.iload_n 3, 1) := by decide +kernel
theorem dX8_layMoved_215 : decode cX8_layMoved 215 = .ok (.goto 16, 3) := by decide +kernel
theorem dX8_layMoved_218 : decode cX8_layMoved 218 = .ok (.iload 8, 2) := by decide +kernel
theorem dX8_layMoved_220 : decode cX8_layMoved 220 = .ok (.iconst 1, 1) := by decide +kernel
theorem dX8_layMoved_221 : decode cX8_layMoved 221 = .ok (.if_icmp .ne 8, 3) := by decide +kernel
theorem dX8_layMoved_224 : decode cX8_layMoved 224 = .ok (.iload 4, 2) := by decide +kernel
theorem dX8_layMoved_226 : decode cX8_layMoved 226 = .ok (.goto 5, 3) := by decide +kernel
theorem dX8_layMoved_229 : decode cX8_layMoved 229 = .ok (.iload 5, 2) := by decide +kernel
theorem dX8_layMoved_231 : decode cX8_layMoved 231 = .ok (.istore 9, 2) := by decide +kernel
theorem dX8_layMoved_233 : decode cX8_layMoved 233 = .ok (.iload 7, 2) := by decide +kernel
theorem dX8_layMoved_235 : decode cX8_layMoved 235 = .ok (.iload 9, 2) := by decide +kernel
theorem dX8_layMoved_237 : decode cX8_layMoved 237 = .ok (.aload_n 2, 1) := by decide +kernel
theorem dX8_layMoved_238 : decode cX8_layMoved 238 = .ok (.iconst 4, 1) := by decide +kernel
theorem dX8_layMoved_239 : decode cX8_layMoved 239 = .ok (.iload 8, 2) := by decide +kernel
theorem dX8_layMoved_241 : decode cX8_layMoved 241 = .ok (.imul, 1) := by decide +kernel
theorem dX8_layMoved_242 : decode cX8_layMoved 242 = .ok (.iconst 3, 1) := by decide +kernel
theorem dX8_layMoved_243 : decode cX8_layMoved 243 = .ok (.iadd, 1) := by decide +kernel
theorem dX8_layMoved_244 : decode cX8_layMoved 244 = .ok (.iaload, 1) := by decide +kernel
theorem dX8_layMoved_245 : decode cX8_layMoved 245 = .ok (.aload_n 0, 1) := by decide +kernel
theorem dX8_layMoved_246 : decode cX8_layMoved 246 = .ok (.getfield 43, 3) := by decide +kernel
theorem dX8_layMoved_249 : decode cX8_layMoved 249 = .ok (.iconst 4, 1) := by decide +kernel
theorem dX8_layMoved_250 : decode cX8_layMoved 250 = .ok (.iload 8, 2) := by decide +kernel
theorem dX8_layMoved_252 : decode cX8_layMoved 252 = .ok (.imul, 1) := by decide +kernel
theorem dX8_layMoved_253 : decode cX8_layMoved 253 = .ok (.iconst 3, 1) := by decide +kernel
theorem dX8_layMoved_254 : decode cX8_layMoved 254 = .ok (.iadd, 1) := by decide +kernel
theorem dX8_layMoved_255 : decode cX8_layMoved 255 = .ok (.iaload, 1) := by decide +kernel
theorem dX8_layMoved_256 : decode cX8_layMoved 256 = .ok (.isub, 1) := by decide +kernel
theorem dX8_layMoved_257 : decode cX8_layMoved 257 = .ok (.imul, 1) := by decide +kernel
theorem dX8_layMoved_258 : decode cX8_layMoved 258 = .ok (.iconst (-1), 1) := by decide +kernel
theorem dX8_layMoved_259 : decode cX8_layMoved 259 = .ok (.imul, 1) := by decide +kernel
theorem dX8_layMoved_260 : decode cX8_layMoved 260 = .ok (.iconst 2, 1) := by decide +kernel
theorem dX8_layMoved_261 : decode cX8_layMoved 261 = .ok (.iload 9, 2) := by decide +kernel
theorem dX8_layMoved_263 : decode cX8_layMoved 263 = .ok (.imul, 1) := by decide +kernel
theorem dX8_layMoved_264 : decode cX8_layMoved 264 = .ok (.aload_n 0, 1) := by decide +kernel
theorem dX8_layMoved_265 : decode cX8_layMoved 265 = .ok (.getfield 43, 3) := by decide +kernel
theorem dX8_layMoved_268 : decode cX8_layMoved 268 = .ok (.iconst 4, 1) := by decide +kernel
theorem dX8_layMoved_269 : decode cX8_layMoved 269 = .ok (.iload 8, 2) := by decide +kernel
theorem dX8_layMoved_271 : decode cX8_layMoved 271 = .ok (.imul, 1) := by decide +kernel
theorem dX8_layMoved_272 : decode cX8_layMoved 272 = .ok (.iconst 3, 1) := by decide +kernel
theorem dX8_layMoved_273 : decode cX8_layMoved 273 = .ok (.iadd, 1) := by decide +kernel
theorem dX8_layMoved_274 : decode cX8_layMoved 274 = .ok (.iaload, 1) := by decide +kernel
theorem dX8_layMoved_275 : decode cX8_layMoved 275 = .ok (.imul, 1) := by decide +kernel
theorem dX8_layMoved_276 : decode cX8_layMoved 276 = .ok (.isub, 1) := by decide +kernel
theorem dX8_layMoved_277 : decode cX8_layMoved 277 = .ok (.iadd, 1) := by decide +kernel
theorem dX8_layMoved_278 : decode cX8_layMoved 278 = .ok (.istore 7, 2) := by decide +kernel
theorem dX8_layMoved_280 : decode cX8_layMoved 280 = .ok (.iinc 8 1, 3) := by decide +kernel
theorem dX8_layMoved_283 : decode cX8_layMoved 283 = .ok (.goto (-80), 3) := by decide +kernel
theorem dX8_layMoved_286 : decode cX8_layMoved 286 = .ok (.aload_n 2, 1) := by decide +kernel
theorem dX8_layMoved_287 : decode cX8_layMoved 287 = .ok (.bipush 15, 2) := by decide +kernel
theorem dX8_layMoved_289 : decode cX8_layMoved 289 = .ok (.iload 7, 2) := by decide +kernel
theorem dX8_layMoved_291 : decode cX8_layMoved 291 = .ok (.iastore, 1) := by decide +kernel
theorem dX8_layMoved_292 : decode cX8_layMoved 292 = .ok (.return_, 1) := by decide +kernel
theorem dX8_apart_0 : decode cX8_apart 0 = .ok (.iload_n 1, 1) := by decide +kernel
theorem dX8_apart_1 : decode cX8_apart 1 = .ok (.iload_n 2, 1) := by decide +kernel
theorem dX8_apart_2 : decode cX8_apart 2 = .ok (.if_icmp .ne 5, 3) := by decide +kernel
theorem dX8_apart_5 : decode cX8_apart 5 = .ok (.iconst (-1), 1) := by decide +kernel
theorem dX8_apart_6 : decode cX8_apart 6 = .ok (.ireturn, 1) := by decide +kernel
theorem dX8_apart_7 : decode cX8_apart 7 = .ok (.aload_n 0, 1) := by decide +kernel
theorem dX8_apart_8 : decode cX8_apart 8 = .ok (.iload_n 1, 1) := by decide +kernel
theorem dX8_apart_9 : decode cX8_apart 9 = .ok (.iload_n 2, 1) := by decide +kernel
theorem dX8_apart_10 : decode cX8_apart 10 = .ok (.invokevirtual 227, 3) := by decide +kernel
theorem dX8_apart_13 : decode cX8_apart 13 = .ok (.istore_n 3, 1) := by decide +kernel
theorem dX8_apart_14 : decode cX8_apart 14 = .ok (.iload_n 3, 1) := by decide +kernel
theorem dX8_apart_15 : decode cX8_apart 15 = .ok (.ifCond .ge 5, 3) := by decide +kernel
theorem dX8_apart_18 : decode cX8_apart 18 = .ok (.iload_n 3, 1) := by decide +kernel
theorem dX8_apart_19 : decode cX8_apart 19 = .ok (.ireturn, 1) := by decide +kernel
theorem dX8_apart_20 : decode cX8_apart 20 = .ok (.aload_n 0, 1) := by decide +kernel
theorem dX8_apart_21 : decode cX8_apart 21 = .ok (.iload_n 1, 1) := by decide +kernel
theorem dX8_apart_22 : decode cX8_apart 22 = .ok (.invokevirtual 366, 3) := by decide +kernel
theorem dX8_apart_25 : decode cX8_apart 25 = .ok (.ifCond .eq 11, 3) := by decide +kernel
theorem dX8_apart_28 : decode cX8_apart 28 = .ok (.aload_n 0, 1) := by decide +kernel
theorem dX8_apart_29 : decode cX8_apart 29 = .ok (.iload_n 2, 1) := by decide +kernel
theorem dX8_apart_30 : decode cX8_apart 30 = .ok (.invokevirtual 366, 3) := by decide +kernel
theorem dX8_apart_33 : decode cX8_apart 33 = .ok (.ifCond .ne 9, 3) := by decide +kernel
theorem dX8_apart_36 : decode cX8_apart 36 = .ok (.aload_n 0, 1) := by decide +kernel
theorem dX8_apart_37 : decode cX8_apart 37 = .ok (.iconst 3, 1) := by decide +kernel
theorem dX8_apart_38 : decode cX8_apart 38 = .ok (.invokevirtual 141, 3) := by decide +kernel
theorem dX8_apart_41 : decode cX8_apart 41 = .ok (.ireturn, 1) := by decide +kernel
theorem dX8_apart_42 : decode cX8_apart 42 = .ok (.aload_n 0, 1) := by decide +kernel
theorem dX8_apart_43 : decode cX8_apart 43 = .ok (.iload_n 1, 1) := by decide +kernel
theorem dX8_apart_44 : decode cX8_apart 44 = .ok (.aload_n 0, 1) := by decide +kernel
theorem dX8_apart_45 : decode cX8_apart 45 = .ok (.getfield 67, 3) := by decide +kernel
theorem dX8_apart_48 : decode cX8_apart 48 = .ok (.iconst 0, 1) := by decide +kernel
theorem dX8_apart_49 : decode cX8_apart 49 = .ok (.iconst 0, 1) := by decide +kernel
theorem dX8_apart_50 : decode cX8_apart 50 = .ok (.iconst 0, 1) := by decide +kernel
theorem dX8_apart_51 : decode cX8_apart 51 = .ok (.invokevirtual 369, 3) := by decide +kernel
theorem dX8_apart_54 : decode cX8_apart 54 = .ok (.aload_n 0, 1) := by decide +kernel
theorem dX8_apart_55 : decode cX8_apart 55 = .ok (.iload_n 2, 1) := by decide +kernel
theorem dX8_apart_56 : decode cX8_apart 56 = .ok (.aload_n 0, 1) := by decide +kernel
theorem dX8_apart_57 : decode cX8_apart 57 = .ok (.getfield 70, 3) := by decide +kernel
theorem dX8_apart_60 : decode cX8_apart 60 = .ok (.iconst 0, 1) := by decide +kernel
theorem dX8_apart_61 : decode cX8_apart 61 = .ok (.iconst 0, 1) := by decide +kernel
theorem dX8_apart_62 : decode cX8_apart 62 = .ok (.iconst 0, 1) := by decide +kernel
theorem dX8_apart_63 : decode cX8_apart 63 = .ok (.invokevirtual 369, 3) := by decide +kernel
theorem dX8_apart_66 : decode cX8_apart 66 = .ok (.aload_n 0, 1) := by decide +kernel
theorem dX8_apart_67 : decode cX8_apart 67 = .ok (.invokevirtual 373, 3) := by decide +kernel
theorem dX8_apart_70 : decode cX8_apart 70 = .ok (.ireturn, 1) := by decide +kernel
theorem dX8_first_0 : decode cX8_first 0 = .ok (.iload_n 1, 1) := by decide +kernel
theorem dX8_first_1 : decode cX8_first 1 = .ok (.invokestatic 181, 3) := by decide +kernel
theorem dX8_first_4 : decode cX8_first 4 = .ok (.ifCond .eq 33, 3) := by decide +kernel
theorem dX8_first_7 : decode cX8_first 7 = .ok (.iload_n 2, 1) := by decide +kernel
theorem dX8_first_8 : decode cX8_first 8 = .ok (.invokestatic 181, 3) := by decide +kernel
theorem dX8_first_11 : decode cX8_first 11 = .ok (.ifCond .eq 26, 3) := by decide +kernel
theorem dX8_first_14 : decode cX8_first 14 = .ok (.iload_n 1, 1) := by decide +kernel
theorem dX8_first_15 : decode cX8_first 15 = .ok (.iload_n 2, 1) := by decide +kernel
theorem dX8_first_16 : decode cX8_first 16 = .ok (.if_icmp .eq 21, 3) := by decide +kernel
theorem dX8_first_19 : decode cX8_first 19 = .ok (.iload_n 3, 1) := by decide +kernel
theorem dX8_first_20 : decode cX8_first 20 = .ok (.invokestatic 137, 3) := by decide +kernel
theorem dX8_first_23 : decode cX8_first 23 = .ok (.ifCond .eq 14, 3) := by decide +kernel
theorem dX8_first_26 : decode cX8_first 26 = .ok (.iload 4, 2) := by decide +kernel
theorem dX8_first_28 : decode cX8_first 28 = .ok (.iconst 0, 1) := by decide +kernel
theorem dX8_first_29 : decode cX8_first 29 = .ok (.bipush 20, 2) := by decide +kernel
theorem dX8_first_31 : decode cX8_first 31 = .ok (.invokestatic 133, 3) := by decide +kernel
theorem dX8_first_34 : decode cX8_first 34 = .ok (.ifCond .ne 5, 3) := by decide +kernel
theorem dX8_first_37 : decode cX8_first 37 = .ok (.iconst (-1), 1) := by decide +kernel
theorem dX8_first_38 : decode cX8_first 38 = .ok (.ireturn, 1) := by decide +kernel
theorem dX8_first_39 : decode cX8_first 39 = .ok (.aload_n 0, 1) := by decide +kernel
theorem dX8_first_40 : decode cX8_first 40 = .ok (.getfield 33, 3) := by decide +kernel
theorem dX8_first_43 : decode cX8_first 43 = .ok (.iload_n 1, 1) := by decide +kernel
theorem dX8_first_44 : decode cX8_first 44 = .ok (.baload, 1) := by decide +kernel
theorem dX8_first_45 : decode cX8_first 45 = .ok (.ifCond .eq 21, 3) := by decide +kernel
theorem dX8_first_48 : decode cX8_first 48 = .ok (.aload_n 0, 1) := by decide +kernel
theorem dX8_first_49 : decode cX8_first 49 = .ok (.getfield 33, 3) := by decide +kernel
theorem dX8_first_52 : decode cX8_first 52 = .ok (.iload_n 2, 1) := by decide +kernel
theorem dX8_first_53 : decode cX8_first 53 = .ok (.baload, 1) := by decide +kernel
theorem dX8_first_54 : decode cX8_first 54 = .ok (.ifCond .eq 12, 3) := by decide +kernel
theorem dX8_first_57 : decode cX8_first 57 = .ok (.aload_n 0, 1) := by decide +kernel
theorem dX8_first_58 : decode cX8_first 58 = .ok (.getfield 17, 3) := by decide +kernel
theorem dX8_first_61 : decode cX8_first 61 = .ok (.iload_n 3, 1) := by decide +kernel
theorem dX8_first_62 : decode cX8_first 62 = .ok (.iaload, 1) := by decide +kernel
theorem dX8_first_63 : decode cX8_first 63 = .ok (.ifCond .ge 9, 3) := by decide +kernel
theorem dX8_first_66 : decode cX8_first 66 = .ok (.aload_n 0, 1) := by decide +kernel
theorem dX8_first_67 : decode cX8_first 67 = .ok (.iconst 1, 1) := by decide +kernel
theorem dX8_first_68 : decode cX8_first 68 = .ok (.invokevirtual 141, 3) := by decide +kernel
theorem dX8_first_71 : decode cX8_first 71 = .ok (.ireturn, 1) := by decide +kernel
theorem dX8_first_72 : decode cX8_first 72 = .ok (.aload_n 0, 1) := by decide +kernel
theorem dX8_first_73 : decode cX8_first 73 = .ok (.iload_n 1, 1) := by decide +kernel
theorem dX8_first_74 : decode cX8_first 74 = .ok (.invokevirtual 366, 3) := by decide +kernel
theorem dX8_first_77 : decode cX8_first 77 = .ok (.ifCond .eq 11, 3) := by decide +kernel
theorem dX8_first_80 : decode cX8_first 80 = .ok (.aload_n 0, 1) := by decide +kernel
theorem dX8_first_81 : decode cX8_first 81 = .ok (.iload_n 2, 1) := by decide +kernel
theorem dX8_first_82 : decode cX8_first 82 = .ok (.invokevirtual 366, 3) := by decide +kernel
theorem dX8_first_85 : decode cX8_first 85 = .ok (.ifCond .ne 9, 3) := by decide +kernel
theorem dX8_first_88 : decode cX8_first 88 = .ok (.aload_n 0, 1) := by decide +kernel
theorem dX8_first_89 : decode cX8_first 89 = .ok (.iconst 3, 1) := by decide +kernel
theorem dX8_first_90 : decode cX8_first 90 = .ok (.invokevirtual 141, 3) := by decide +kernel
theorem dX8_first_93 : decode cX8_first 93 = .ok (.ireturn, 1) := by decide +kernel
theorem dX8_first_94 : decode cX8_first 94 = .ok (.aload_n 0, 1) := by decide +kernel
theorem dX8_first_95 : decode cX8_first 95 = .ok (.getfield 17, 3) := by decide +kernel
theorem dX8_first_98 : decode cX8_first 98 = .ok (.iload_n 3, 1) := by decide +kernel
theorem dX8_first_99 : decode cX8_first 99 = .ok (.iaload, 1) := by decide +kernel
theorem dX8_first_100 : decode cX8_first 100 = .ok (.iconst 3, 1) := by decide +kernel
theorem dX8_first_101 : decode cX8_first 101 = .ok (.if_icmp .ge 9, 3) := by decide +kernel
theorem dX8_first_104 : decode cX8_first 104 = .ok (.aload_n 0, 1) := by decide +kernel
theorem dX8_first_105 : decode cX8_first 105 = .ok (.iconst 5, 1) := by decide +kernel
theorem dX8_first_106 : decode cX8_first 106 = .ok (.invokevirtual 141, 3) := by decide +kernel
theorem dX8_first_109 : decode cX8_first 109 = .ok (.ireturn, 1) := by decide +kernel
theorem dX8_first_110 : decode cX8_first 110 = .ok (.aload_n 0, 1) := by decide +kernel
theorem dX8_first_111 : decode cX8_first 111 = .ok (.getfield 20, 3) := by decide +kernel
theorem dX8_first_114 : decode cX8_first 114 = .ok (.bipush 16, 2) := by decide +kernel
theorem dX8_first_116 : decode cX8_first 116 = .ok (.iload_n 3, 1) := by decide +kernel
theorem dX8_first_117 : decode cX8_first 117 = .ok (.imul, 1) := by decide +kernel
theorem dX8_first_118 : decode cX8_first 118 = .ok (.iaload, 1) := by decide +kernel
theorem dX8_first_119 : decode cX8_first 119 = .ok (.istore 5, 2) := by decide +kernel
theorem dX8_first_121 : decode cX8_first 121 = .ok (.aload_n 0, 1) := by decide +kernel
theorem dX8_first_122 : decode cX8_first 122 = .ok (.getfield 20, 3) := by decide +kernel
theorem dX8_first_125 : decode cX8_first 125 = .ok (.bipush 16, 2) := by decide +kernel
theorem dX8_first_127 : decode cX8_first 127 = .ok (.iload_n 3, 1) := by decide +kernel
theorem dX8_first_128 : decode cX8_first 128 = .ok (.imul, 1) := by decide +kernel
theorem dX8_first_129 : decode cX8_first 129 = .ok (.iconst 1, 1) := by decide +kernel
theorem dX8_first_130 : decode cX8_first 130 = .ok (.iadd, 1) := by decide +kernel
theorem dX8_first_131 : decode cX8_first 131 = .ok (.iaload, 1) := by decide +kernel
theorem dX8_first_132 : decode cX8_first 132 = .ok (.istore 6, 2) := by decide +kernel
theorem dX8_first_134 : decode cX8_first 134 = .ok (.aload_n 0, 1) := by decide +kernel
theorem dX8_first_135 : decode cX8_first 135 = .ok (.getfield 20, 3) := by decide +kernel
theorem dX8_first_138 : decode cX8_first 138 = .ok (.bipush 16, 2) := by decide +kernel
theorem dX8_first_140 : decode cX8_first 140 = .ok (.iload_n 3, 1) := by decide +kernel
theorem dX8_first_141 : decode cX8_first 141 = .ok (.imul, 1) := by decide +kernel
theorem dX8_first_142 : decode cX8_first 142 = .ok (.iconst 2, 1) := by decide +kernel
theorem dX8_first_143 : decode cX8_first 143 = .ok (.iadd, 1) := by decide +kernel
theorem dX8_first_144 : decode cX8_first 144 = .ok (.iaload, 1) := by decide +kernel
theorem dX8_first_145 : decode cX8_first 145 = .ok (.istore 7, 2) := by decide +kernel
theorem dX8_first_147 : decode cX8_first 147 = .ok (.iload 5, 2) := by decide +kernel
theorem dX8_first_149 : decode cX8_first 149 = .ok (.invokestatic 198, 3) := by decide +kernel
theorem dX8_first_152 : decode cX8_first 152 = .ok (.ifCond .eq 19, 3) := by decide +kernel
theorem dX8_first_155 : decode cX8_first 155 = .ok (.iload 6, 2) := by decide +kernel
theorem dX8_first_157 : decode cX8_first 157 = .ok (.invokestatic 198, 3) := by decide +kernel
theorem dX8_first_160 : decode cX8_first 160 = .ok (.ifCond .eq 11, 3) := by decide +kernel
theorem dX8_first_163 : decode cX8_first 163 = .ok (.iload 7, 2) := by decide +kernel
theorem dX8_first_165 : decode cX8_first 165 = .ok (.invokestatic 198, 3) := by decide +kernel
theorem dX8_first_168 : decode cX8_first 168 = .ok (.ifCond .ne 9, 3) := by decide +kernel
theorem dX8_first_171 : decode cX8_first 171 = .ok (.aload_n 0, 1) := by decide +kernel
theorem dX8_first_172 : decode cX8_first 172 = .ok (.iconst 2, 1) := by decide +kernel
theorem dX8_first_173 : decode cX8_first 173 = .ok (.invokevirtual 141, 3) := by decide +kernel
theorem dX8_first_176 : decode cX8_first 176 = .ok (.ireturn, 1) := by decide +kernel
theorem dX8_first_177 : decode cX8_first 177 = .ok (.iconst 0, 1) := by decide +kernel
theorem dX8_first_178 : decode cX8_first 178 = .ok (.istore 8, 2) := by decide +kernel
theorem dX8_first_180 : decode cX8_first 180 = .ok (.iload 8, 2) := by decide +kernel
theorem dX8_first_182 : decode cX8_first 182 = .ok (.iload 4, 2) := by decide +kernel
theorem dX8_first_184 : decode cX8_first 184 = .ok (.if_icmp .gt 69, 3) := by decide +kernel
theorem dX8_first_187 : decode cX8_first 187 = .ok (.aload_n 0, 1) := by decide +kernel
theorem dX8_first_188 : decode cX8_first 188 = .ok (.iload_n 2, 1) := by decide +kernel
theorem dX8_first_189 : decode cX8_first 189 = .ok (.aload_n 0, 1) := by decide +kernel
theorem dX8_first_190 : decode cX8_first 190 = .ok (.getfield 70, 3) := by decide +kernel
theorem dX8_first_193 : decode cX8_first 193 = .ok (.iload 8, 2) := by decide +kernel
theorem dX8_first_195 : decode cX8_first 195 = .ok (.iload 5, 2) := by decide +kernel
theorem dX8_first_197 : decode cX8_first 197 = .ok (.imul, 1) := by decide +kernel
theorem dX8_first_198 : decode cX8_first 198 = .ok (.iload 8, 2) := by decide +kernel
theorem dX8_first_200 : decode cX8_first 200 = .ok (.iload 6, 2) := by decide +kernel
theorem dX8_first_202 : decode cX8_first 202 = .ok (.imul, 1) := by decide +kernel
theorem dX8_first_203 : decode cX8_first 203 = .ok (.iload 8, 2) := by decide +kernel
theorem dX8_first_205 : decode cX8_first 205 = .ok (.iload 7, 2) := by decide +kernel
theorem dX8_first_207 : decode cX8_first 207 = .ok (.imul, 1) := by decide +kernel
theorem dX8_first_208 : decode cX8_first 208 = .ok (.invokevirtual 369, 3) := by decide +kernel
theorem dX8_first_211 : decode cX8_first 211 = .ok (.iconst 0, 1) := by decide +kernel
theorem dX8_first_212 : decode cX8_first 212 = .ok (.istore 9, 2) := by decide +kernel
theorem dX8_first_214 : decode cX8_first 214 = .ok (.iload 9, 2) := by decide +kernel
theorem dX8_first_216 : decode cX8_first 216 = .ok (.bipush 16, 2) := by decide +kernel
theorem dX8_first_218 : decode cX8_first 218 = .ok (.if_icmp .ge 29, 3) := by decide +kernel
theorem dX8_first_221 : decode cX8_first 221 = .ok (.aload_n 0, 1) := by decide +kernel
theorem dX8_first_222 : decode cX8_first 222 = .ok (.getfield 70, 3) := by decide +kernel
theorem dX8_first_225 : decode cX8_first 225 = .ok (.iload 9, 2) := by decide +kernel
theorem dX8_first_227 : decode cX8_first 227 = .ok (.iaload, 1) := by decide +kernel
theorem dX8_first_228 : decode cX8_first 228 = .ok (.bipush (-30), 2) := by decide +kernel
theorem dX8_first_230 : decode cX8_first 230 = .ok (.bipush 30, 2) := by decide +kernel
theorem dX8_first_232 : decode cX8_first 232 = .ok (.invokestatic 133, 3) := by decide +kernel
theorem dX8_first_235 : decode cX8_first 235 = .ok (.ifCond .ne 6, 3) := by decide +kernel
theorem dX8_first_238 : decode cX8_first 238 = .ok (.bipush (-6), 2) := by decide +kernel
theorem dX8_first_240 : decode cX8_first 240 = .ok (.ireturn, 1) := by decide +kernel
theorem dX8_first_241 : decode cX8_first 241 = .ok (.iinc 9 1, 3) := by decide +kernel
theorem dX8_first_244 : decode cX8_first 244 = .ok (.goto (-30), 3) := by decide +kernel
theorem dX8_first_247 : decode cX8_first 247 = .ok (.iinc 8 1, 3) := by decide +kernel
theorem dX8_first_250 : decode cX8_first 250 = .ok (.goto (-70), 3) := by decide +kernel
theorem dX8_first_253 : decode cX8_first 253 = .ok (.aload_n 0, 1) := by decide +kernel
theorem dX8_first_254 : decode cX8_first 254 = .ok (.iload_n 1, 1) := by decide +kernel
theorem dX8_first_255 : decode cX8_first 255 = .ok (.aload_n 0, 1) := by decide +kernel
theorem dX8_first_256 : decode cX8_first 256 = .ok (.getfield 67, 3) := by decide +kernel
theorem dX8_first_259 : decode cX8_first 259 = .ok (.iconst 0, 1) := by decide +kernel
theorem dX8_first_260 : decode cX8_first 260 = .ok (.iconst 0, 1) := by decide +kernel
theorem dX8_first_261 : decode cX8_first 261 = .ok (.iconst 0, 1) := by decide +kernel
theorem dX8_first_262 : decode cX8_first 262 = .ok (.invokevirtual 369, 3) := by decide +kernel
theorem dX8_first_265 : decode cX8_first 265 = .ok (.iconst 0, 1) := by decide +kernel
theorem dX8_first_266 : decode cX8_first 266 = .ok (.istore 8, 2) := by decide +kernel
theorem dX8_first_268 : decode cX8_first 268 = .ok (.iload 8, 2) := by decide +kernel
theorem dX8_first_270 : decode cX8_first 270 = .ok (.iload 4, 2) := by decide +kernel
theorem dX8_first_272 : decode cX8_first 272 = .ok (.if_icmp .gt 44, 3) := by decide +kernel
theorem dX8_first_275 : decode cX8_first 275 = .ok (.aload_n 0, 1) := by decide +kernel
theorem dX8_first_276 : decode cX8_first 276 = .ok (.iload_n 2, 1) := by decide +kernel
theorem dX8_first_277 : decode cX8_first 277 = .ok (.aload_n 0, 1) := by decide +kernel
theorem dX8_first_278 : decode cX8_first 278 = .ok (.getfield 70, 3) := by decide +kernel
theorem dX8_first_281 : decode cX8_first 281 = .ok (.iload 8, 2) := by decide +kernel
theorem dX8_first_283 : decode cX8_first 283 = .ok (.iload 5, 2) := by decide +kernel
theorem dX8_first_285 : decode cX8_first 285 = .ok (.imul, 1) := by decide +kernel
theorem dX8_first_286 : decode cX8_first 286 = .ok (.iload 8, 2) := by decide +kernel
theorem dX8_first_288 : decode cX8_first 288 = .ok (.iload 6, 2) := by decide +kernel
theorem dX8_first_290 : decode cX8_first 290 = .ok (.imul, 1) := by decide +kernel
theorem dX8_first_291 : decode cX8_first 291 = .ok (.iload 8, 2) := by decide +kernel
theorem dX8_first_293 : decode cX8_first 293 = .ok (.iload 7, 2) := by decide +kernel
theorem dX8_first_295 : decode cX8_first 295 = .ok (.imul, 1) := by decide +kernel
theorem dX8_first_296 : decode cX8_first 296 = .ok (.invokevirtual 369, 3) := by decide +kernel
theorem dX8_first_299 : decode cX8_first 299 = .ok (.aload_n 0, 1) := by decide +kernel
theorem dX8_first_300 : decode cX8_first 300 = .ok (.invokevirtual 373, 3) := by decide +kernel
theorem dX8_first_303 : decode cX8_first 303 = .ok (.iconst 2, 1) := by decide +kernel
theorem dX8_first_304 : decode cX8_first 304 = .ok (.if_icmp .eq 6, 3) := by decide +kernel
theorem dX8_first_307 : decode cX8_first 307 = .ok (.iload 8, 2) := by decide +kernel
theorem dX8_first_309 : decode cX8_first 309 = .ok (.ireturn, 1) := by decide +kernel
theorem dX8_first_310 : decode cX8_first 310 = .ok (.iinc 8 1, 3) := by decide +kernel
theorem dX8_first_313 : decode cX8_first 313 = .ok (.goto (-45), 3) := by decide +kernel
theorem dX8_first_316 : decode cX8_first 316 = .ok (.bipush (-9), 2) := by decide +kernel
theorem dX8_first_318 : decode cX8_first 318 = .ok (.ireturn, 1) := by decide +kernel
theorem dX8_goThrough_0 : decode cX8_goThrough 0 = .ok (.aload_n 0, 1) := by decide +kernel
theorem dX8_goThrough_1 : decode cX8_goThrough 1 = .ok (.iconst 0, 1) := by decide +kernel
theorem dX8_goThrough_2 : decode cX8_goThrough 2 = .ok (.putfield 376, 3) := by decide +kernel
theorem dX8_goThrough_5 : decode cX8_goThrough 5 = .ok (.iconst 0, 1) := by decide +kernel
theorem dX8_goThrough_6 : decode cX8_goThrough 6 = .ok (.istore 5, 2) := by decide +kernel
theorem dX8_goThrough_8 : decode cX8_goThrough 8 = .ok (.aload_n 0, 1) := by decide +kernel
theorem dX8_goThrough_9 : decode cX8_goThrough 9 = .ok (.getfield 46, 3) := by decide +kernel
theorem dX8_goThrough_12 : decode cX8_goThrough 12 = .ok (.iconst 3, 1) := by decide +kernel
theorem dX8_goThrough_13 : decode cX8_goThrough 13 = .ok (.iconst 1, 1) := by decide +kernel
theorem dX8_goThrough_14 : decode cX8_goThrough 14 = .ok (.iastore, 1) := by decide +kernel
theorem dX8_goThrough_15 : decode cX8_goThrough 15 = .ok (.iload 4, 2) := by decide +kernel
theorem dX8_goThrough_17 : decode cX8_goThrough 17 = .ok (.ineg, 1) := by decide +kernel
theorem dX8_goThrough_18 : decode cX8_goThrough 18 = .ok (.istore 6, 2) := by decide +kernel
theorem dX8_goThrough_20 : decode cX8_goThrough 20 = .ok (.iload 6, 2) := by decide +kernel
theorem dX8_goThrough_22 : decode cX8_goThrough 22 = .ok (.iload 4, 2) := by decide +kernel
theorem dX8_goThrough_24 : decode cX8_goThrough 24 = .ok (.if_icmp .gt 182, 3) := by decide +kernel
theorem dX8_goThrough_27 : decode cX8_goThrough 27 = .ok (.iload 4, 2) := by decide +kernel
theorem dX8_goThrough_29 : decode cX8_goThrough 29 = .ok (.ineg, 1) := by decide +kernel
theorem dX8_goThrough_30 : decode cX8_goThrough 30 = .ok (.istore 7, 2) := by decide +kernel
theorem dX8_goThrough_32 : decode cX8_goThrough 32 = .ok (.iload 7, 2) := by decide +kernel
theorem dX8_goThrough_34 : decode cX8_goThrough 34 = .ok (.iload 4, 2) := by decide +kernel
theorem dX8_goThrough_36 : decode cX8_goThrough 36 = .ok (.if_icmp .gt 164, 3) := by decide +kernel
theorem dX8_goThrough_39 : decode cX8_goThrough 39 = .ok (.iload 4, 2) := by decide +kernel
theorem dX8_goThrough_41 : decode cX8_goThrough 41 = .ok (.ineg, 1) := by decide +kernel
theorem dX8_goThrough_42 : decode cX8_goThrough 42 = .ok (.istore 8, 2) := by decide +kernel
theorem dX8_goThrough_44 : decode cX8_goThrough 44 = .ok (.iload 8, 2) := by decide +kernel
theorem dX8_goThrough_46 : decode cX8_goThrough 46 = .ok (.iload 4, 2) := by decide +kernel
theorem dX8_goThrough_48 : decode cX8_goThrough 48 = .ok (.if_icmp .gt 146, 3) := by decide +kernel
theorem dX8_goThrough_51 : decode cX8_goThrough 51 = .ok (.aload_n 0, 1) := by decide +kernel
theorem dX8_goThrough_52 : decode cX8_goThrough 52 = .ok (.getfield 46, 3) := by decide +kernel
theorem dX8_goThrough_55 : decode cX8_goThrough 55 = .ok (.iconst 0, 1) := by decide +kernel
theorem dX8_goThrough_56 : decode cX8_goThrough 56 = .ok (.iload 6, 2) := by decide +kernel
theorem dX8_goThrough_58 : decode cX8_goThrough 58 = .ok (.iastore, 1) := by decide +kernel
theorem dX8_goThrough_59 : decode cX8_goThrough 59 = .ok (.aload_n 0, 1) := by decide +kernel
theorem dX8_goThrough_60 : decode cX8_goThrough 60 = .ok (.getfield 46, 3) := by decide +kernel
theorem dX8_goThrough_63 : decode cX8_goThrough 63 = .ok (.iconst 1, 1) := by decide +kernel
theorem dX8_goThrough_64 : decode cX8_goThrough 64 = .ok (.iload 7, 2) := by decide +kernel
theorem dX8_goThrough_66 : decode cX8_goThrough 66 = .ok (.iastore, 1) := by decide +kernel
theorem dX8_goThrough_67 : decode cX8_goThrough 67 = .ok (.aload_n 0, 1) := by decide +kernel
theorem dX8_goThrough_68 : decode cX8_goThrough 68 = .ok (.getfield 46, 3) := by decide +kernel
theorem dX8_goThrough_71 : decode cX8_goThrough 71 = .ok (.iconst 2, 1) := by decide +kernel
theorem dX8_goThrough_72 : decode cX8_goThrough 72 = .ok (.iload 8, 2) := by decide +kernel
theorem dX8_goThrough_74 : decode cX8_goThrough 74 = .ok (.iastore, 1) := by decide +kernel
theorem dX8_goThrough_75 : decode cX8_goThrough 75 = .ok (.aload_n 0, 1) := by decide +kernel
theorem dX8_goThrough_76 : decode cX8_goThrough 76 = .ok (.iload_n 1, 1) := by decide +kernel
theorem dX8_goThrough_77 : decode cX8_goThrough 77 = .ok (.aload_n 0, 1) := by decide +kernel
theorem dX8_goThrough_78 : decode cX8_goThrough 78 = .ok (.getfield 46, 3) := by decide +kernel
theorem dX8_goThrough_81 : decode cX8_goThrough 81 = .ok (.aload_n 0, 1) := by decide +kernel
theorem dX8_goThrough_82 : decode cX8_goThrough 82 = .ok (.getfield 46, 3) := by decide +kernel
theorem dX8_goThrough_85 : decode cX8_goThrough 85 = .ok (.invokevirtual 241, 3) := by decide +kernel
theorem dX8_goThrough_88 : decode cX8_goThrough 88 = .ok (.ifCond .ne 100, 3) := by decide +kernel
theorem dX8_goThrough_91 : decode cX8_goThrough 91 = .ok (.aload_n 0, 1) := by decide +kernel
theorem dX8_goThrough_92 : decode cX8_goThrough 92 = .ok (.iload_n 2, 1) := by decide +kernel
theorem dX8_goThrough_93 : decode cX8_goThrough 93 = .ok (.aload_n 0, 1) := by decide +kernel
theorem dX8_goThrough_94 : decode cX8_goThrough 94 = .ok (.getfield 46, 3) := by decide +kernel
theorem dX8_goThrough_97 : decode cX8_goThrough 97 = .ok (.aload_n 0, 1) := by decide +kernel
theorem dX8_goThrough_98 : decode cX8_goThrough 98 = .ok (.getfield 46, 3) := by decide +kernel
theorem dX8_goThrough_101 : decode cX8_goThrough 101 = .ok (.invokevirtual 241, 3) := by decide +kernel
theorem dX8_goThrough_104 : decode cX8_goThrough 104 = .ok (.ifCond .ne 84, 3) := by decide +kernel
theorem dX8_goThrough_107 : decode cX8_goThrough 107 = .ok (.aload_n 0, 1) := by decide +kernel
theorem dX8_goThrough_108 : decode cX8_goThrough 108 = .ok (.iload_n 3, 1) := by decide +kernel
theorem dX8_goThrough_109 : decode cX8_goThrough 109 = .ok (.aload_n 0, 1) := by decide +kernel
theorem dX8_goThrough_110 : decode cX8_goThrough 110 = .ok (.getfield 46, 3) := by decide +kernel
theorem dX8_goThrough_113 : decode cX8_goThrough 113 = .ok (.aload_n 0, 1) := by decide +kernel
theorem dX8_goThrough_114 : decode cX8_goThrough 114 = .ok (.getfield 46, 3) := by decide +kernel
theorem dX8_goThrough_117 : decode cX8_goThrough 117 = .ok (.invokevirtual 241, 3) := by decide +kernel
theorem dX8_goThrough_120 : decode cX8_goThrough 120 = .ok (.ifCond .ne 68, 3) := by decide +kernel
theorem dX8_goThrough_123 : decode cX8_goThrough 123 = .ok (.iinc 5 1, 3) := by decide +kernel
theorem dX8_goThrough_126 : decode cX8_goThrough 126 = .ok (.aload_n 0, 1) := by decide +kernel
theorem dX8_goThrough_127 : decode cX8_goThrough 127 = .ok (.getfield 376, 3) := by decide +kernel
theorem dX8_goThrough_130 : decode cX8_goThrough 130 = .ok (.bipush 100, 2) := by decide +kernel
theorem dX8_goThrough_132 : decode cX8_goThrough 132 = .ok (.if_icmp .ge 56, 3) := by decide +kernel
theorem dX8_goThrough_135 : decode cX8_goThrough 135 = .ok (.aload_n 0, 1) := by decide +kernel
theorem dX8_goThrough_136 : decode cX8_goThrough 136 = .ok (.getfield 112, 3) := by decide +kernel
theorem dX8_goThrough_139 : decode cX8_goThrough 139 = .ok (.iconst 3, 1) := by decide +kernel
theorem dX8_goThrough_140 : decode cX8_goThrough 140 = .ok (.aload_n 0, 1) := by decide +kernel
theorem dX8_goThrough_141 : decode cX8_goThrough 141 = .ok (.getfield 376, 3) := by decide +kernel
theorem dX8_goThrough_144 : decode cX8_goThrough 144 = .ok (.imul, 1) := by decide +kernel
theorem dX8_goThrough_145 : decode cX8_goThrough 145 = .ok (.iload 6, 2) := by decide +kernel
theorem dX8_goThrough_147 : decode cX8_goThrough 147 = .ok (.iastore, 1) := by decide +kernel
theorem dX8_goThrough_148 : decode cX8_goThrough 148 = .ok (.aload_n 0, 1) := by decide +kernel
theorem dX8_goThrough_149 : decode cX8_goThrough 149 = .ok (.getfield 112, 3) := by decide +kernel
theorem dX8_goThrough_152 : decode cX8_goThrough 152 = .ok (.iconst 3, 1) := by decide +kernel
theorem dX8_goThrough_153 : decode cX8_goThrough 153 = .ok (.aload_n 0, 1) := by decide +kernel
theorem dX8_goThrough_154 : decode cX8_goThrough 154 = .ok (.getfield 376, 3) := by decide +kernel
theorem dX8_goThrough_157 : decode cX8_goThrough 157 = .ok (.imul, 1) := by decide +kernel
theorem dX8_goThrough_158 : decode cX8_goThrough 158 = .ok (.iconst 1, 1) := by decide +kernel
theorem dX8_goThrough_159 : decode cX8_goThrough 159 = .ok (.iadd, 1) := by decide +kernel
theorem dX8_goThrough_160 : decode cX8_goThrough 160 = .ok (.iload 7, 2) := by decide +kernel
theorem dX8_goThrough_162 : decode cX8_goThrough 162 = .ok (.iastore, 1) := by decide +kernel
theorem dX8_goThrough_163 : decode cX8_goThrough 163 = .ok (.aload_n 0, 1) := by decide +kernel
theorem dX8_goThrough_164 : decode cX8_goThrough 164 = .ok (.getfield 112, 3) := by decide +kernel
theorem dX8_goThrough_167 : decode cX8_goThrough 167 = .ok (.iconst 3, 1) := by decide +kernel
theorem dX8_goThrough_168 : decode cX8_goThrough 168 = .ok (.aload_n 0, 1) := by decide +kernel
theorem dX8_goThrough_169 : decode cX8_goThrough 169 = .ok (.getfield 376, 3) := by decide +kernel
theorem dX8_goThrough_172 : decode cX8_goThrough 172 = .ok (.imul, 1) := by decide +kernel
theorem dX8_goThrough_173 : decode cX8_goThrough 173 = .ok (.iconst 2, 1) := by decide +kernel
theorem dX8_goThrough_174 : decode cX8_goThrough 174 = .ok (.iadd, 1) := by decide +kernel
theorem dX8_goThrough_175 : decode cX8_goThrough 175 = .ok (.iload 8, 2) := by decide +kernel
theorem dX8_goThrough_177 : decode cX8_goThrough 177 = .ok (.iastore, 1) := by decide +kernel
theorem dX8_goThrough_178 : decode cX8_goThrough 178 = .ok (.aload_n 0, 1) := by decide +kernel
theorem dX8_goThrough_179 : decode cX8_goThrough 179 = .ok (.dup, 1) := by decide +kernel
theorem dX8_goThrough_180 : decode cX8_goThrough 180 = .ok (.getfield 376, 3) := by decide +kernel
theorem dX8_goThrough_183 : decode cX8_goThrough 183 = .ok (.iconst 1, 1) := by decide +kernel
theorem dX8_goThrough_184 : decode cX8_goThrough 184 = .ok (.iadd, 1) := by decide +kernel
theorem dX8_goThrough_185 : decode cX8_goThrough 185 = .ok (.putfield 376, 3) := by decide +kernel
theorem dX8_goThrough_188 : decode cX8_goThrough 188 = .ok (.iinc 8 1, 3) := by decide +kernel
theorem dX8_goThrough_191 : decode cX8_goThrough 191 = .ok (.goto (-147), 3) := by decide +kernel
theorem dX8_goThrough_194 : decode cX8_goThrough 194 = .ok (.iinc 7 1, 3) := by decide +kernel
theorem dX8_goThrough_197 : decode cX8_goThrough 197 = .ok (.goto (-165), 3) := by decide +kernel
theorem dX8_goThrough_200 : decode cX8_goThrough 200 = .ok (.iinc 6 1, 3) := by decide +kernel
theorem dX8_goThrough_203 : decode cX8_goThrough 203 = .ok (.goto (-183), 3) := by decide +kernel
theorem dX8_goThrough_206 : decode cX8_goThrough 206 = .ok (.iload 5, 2) := by decide +kernel
theorem dX8_goThrough_208 : decode cX8_goThrough 208 = .ok (.ireturn, 1) := by decide +kernel
theorem dX8_shared_0 : decode cX8_shared 0 = .ok (.iload_n 3, 1) := by decide +kernel
theorem dX8_shared_1 : decode cX8_shared 1 = .ok (.iconst 0, 1) := by decide +kernel
theorem dX8_shared_2 : decode cX8_shared 2 = .ok (.bipush 10, 2) := by decide +kernel
theorem dX8_shared_4 : decode cX8_shared 4 = .ok (.invokestatic 133, 3) := by decide +kernel
theorem dX8_shared_7 : decode cX8_shared 7 = .ok (.ifCond .ne 5, 3) := by decide +kernel
theorem dX8_shared_10 : decode cX8_shared 10 = .ok (.iconst (-1), 1) := by decide +kernel
theorem dX8_shared_11 : decode cX8_shared 11 = .ok (.ireturn, 1) := by decide +kernel
theorem dX8_shared_12 : decode cX8_shared 12 = .ok (.aload_n 0, 1) := by decide +kernel
theorem dX8_shared_13 : decode cX8_shared 13 = .ok (.iload_n 1, 1) := by decide +kernel
theorem dX8_shared_14 : decode cX8_shared 14 = .ok (.iload_n 2, 1) := by decide +kernel
theorem dX8_shared_15 : decode cX8_shared 15 = .ok (.invokevirtual 227, 3) := by decide +kernel
theorem dX8_shared_18 : decode cX8_shared 18 = .ok (.istore 4, 2) := by decide +kernel
theorem dX8_shared_20 : decode cX8_shared 20 = .ok (.iload 4, 2) := by decide +kernel
theorem dX8_shared_22 : decode cX8_shared 22 = .ok (.ifCond .ge 8, 3) := by decide +kernel
theorem dX8_shared_25 : decode cX8_shared 25 = .ok (.iload 4, 2) := by decide +kernel
theorem dX8_shared_27 : decode cX8_shared 27 = .ok (.goto 11, 3) := by decide +kernel
theorem dX8_shared_30 : decode cX8_shared 30 = .ok (.aload_n 0, 1) := by decide +kernel
theorem dX8_shared_31 : decode cX8_shared 31 = .ok (.iload_n 1, 1) := by decide +kernel
theorem dX8_shared_32 : decode cX8_shared 32 = .ok (.iload_n 2, 1) := by decide +kernel
theorem dX8_shared_33 : decode cX8_shared 33 = .ok (.iload_n 2, 1) := by decide +kernel
theorem dX8_shared_34 : decode cX8_shared 34 = .ok (.iload_n 3, 1) := by decide +kernel
theorem dX8_shared_35 : decode cX8_shared 35 = .ok (.invokevirtual 379, 3) := by decide +kernel
theorem dX8_shared_38 : decode cX8_shared 38 = .ok (.ireturn, 1) := by decide +kernel
theorem dX8_shared3_0 : decode cX8_shared3 0 = .ok (.iload_n 1, 1) := by decide +kernel
theorem dX8_shared3_1 : decode cX8_shared3 1 = .ok (.invokestatic 181, 3) := by decide +kernel
theorem dX8_shared3_4 : decode cX8_shared3 4 = .ok (.ifCond .eq 28, 3) := by decide +kernel
theorem dX8_shared3_7 : decode cX8_shared3 7 = .ok (.iload_n 2, 1) := by decide +kernel
theorem dX8_shared3_8 : decode cX8_shared3 8 = .ok (.invokestatic 181, 3) := by decide +kernel
theorem dX8_shared3_11 : decode cX8_shared3 11 = .ok (.ifCond .eq 21, 3) := by decide +kernel
theorem dX8_shared3_14 : decode cX8_shared3 14 = .ok (.iload_n 3, 1) := by decide +kernel
theorem dX8_shared3_15 : decode cX8_shared3 15 = .ok (.invokestatic 181, 3) := by decide +kernel
theorem dX8_shared3_18 : decode cX8_shared3 18 = .ok (.ifCond .eq 14, 3) := by decide +kernel
theorem dX8_shared3_21 : decode cX8_shared3 21 = .ok (.iload 4, 2) := by decide +kernel
theorem dX8_shared3_23 : decode cX8_shared3 23 = .ok (.iconst 0, 1) := by decide +kernel
theorem dX8_shared3_24 : decode cX8_shared3 24 = .ok (.bipush 10, 2) := by decide +kernel
theorem dX8_shared3_26 : decode cX8_shared3 26 = .ok (.invokestatic 133, 3) := by decide +kernel
theorem dX8_shared3_29 : decode cX8_shared3 29 = .ok (.ifCond .ne 5, 3) := by decide +kernel
theorem dX8_shared3_32 : decode cX8_shared3 32 = .ok (.iconst (-1), 1) := by decide +kernel
theorem dX8_shared3_33 : decode cX8_shared3 33 = .ok (.ireturn, 1) := by decide +kernel
theorem dX8_shared3_34 : decode cX8_shared3 34 = .ok (.aload_n 0, 1) := by decide +kernel
theorem dX8_shared3_35 : decode cX8_shared3 35 = .ok (.getfield 33, 3) := by decide +kernel
theorem dX8_shared3_38 : decode cX8_shared3 38 = .ok (.iload_n 1, 1) := by decide +kernel
theorem dX8_shared3_39 : decode cX8_shared3 39 = .ok (.baload, 1) := by decide +kernel
theorem dX8_shared3_40 : decode cX8_shared3 40 = .ok (.ifCond .eq 33, 3) := by decide +kernel
theorem dX8_shared3_43 : decode cX8_shared3 43 = .ok (.aload_n 0, 1) := by decide +kernel
theorem dX8_shared3_44 : decode cX8_shared3 44 = .ok (.getfield 33, 3) := by decide +kernel
theorem dX8_shared3_47 : decode cX8_shared3 47 = .ok (.iload_n 2, 1) := by decide +kernel
theorem dX8_shared3_48 : decode cX8_shared3 48 = .ok (.baload, 1) := by decide +kernel
theorem dX8_shared3_49 : decode cX8_shared3 49 = .ok (.ifCond .eq 24, 3) := by decide +kernel
theorem dX8_shared3_52 : decode cX8_shared3 52 = .ok (.aload_n 0, 1) := by decide +kernel
theorem dX8_shared3_53 : decode cX8_shared3 53 = .ok (.getfield 33, 3) := by decide +kernel
theorem dX8_shared3_56 : decode cX8_shared3 56 = .ok (.iload_n 3, 1) := by decide +kernel
theorem dX8_shared3_57 : decode cX8_shared3 57 = .ok (.baload, 1) := by decide +kernel
theorem dX8_shared3_58 : decode cX8_shared3 58 = .ok (.ifCond .eq 15, 3) := by decide +kernel
theorem dX8_shared3_61 : decode cX8_shared3 61 = .ok (.aload_n 0, 1) := by decide +kernel
theorem dX8_shared3_62 : decode cX8_shared3 62 = .ok (.iload_n 1, 1) := by decide +kernel
theorem dX8_shared3_63 : decode cX8_shared3 63 = .ok (.iload_n 2, 1) := by decide +kernel
theorem dX8_shared3_64 : decode cX8_shared3 64 = .ok (.iload_n 3, 1) := by decide +kernel
theorem dX8_shared3_65 : decode cX8_shared3 65 = .ok (.iload 4, 2) := by decide +kernel
theorem dX8_shared3_67 : decode cX8_shared3 67 = .ok (.invokevirtual 379, 3) := by decide +kernel
theorem dX8_shared3_70 : decode cX8_shared3 70 = .ok (.goto 8, 3) := by decide +kernel
theorem dX8_shared3_73 : decode cX8_shared3 73 = .ok (.aload_n 0, 1) := by decide +kernel
theorem dX8_shared3_74 : decode cX8_shared3 74 = .ok (.iconst 1, 1) := by decide +kernel
theorem dX8_shared3_75 : decode cX8_shared3 75 = .ok (.invokevirtual 141, 3) := by decide +kernel
theorem dX8_shared3_78 : decode cX8_shared3 78 = .ok (.ireturn, 1) := by decide +kernel
theorem dX8_place_0 : decode cX8_place 0 = .ok (.iload_n 2, 1) := by decide +kernel
theorem dX8_place_1 : decode cX8_place 1 = .ok (.iconst 0, 1) := by decide +kernel
theorem dX8_place_2 : decode cX8_place 2 = .ok (.iconst 2, 1) := by decide +kernel
theorem dX8_place_3 : decode cX8_place 3 = .ok (.invokestatic 133, 3) := by decide +kernel
theorem dX8_place_6 : decode cX8_place 6 = .ok (.ifCond .ne 7, 3) := by decide +kernel
theorem dX8_place_9 : decode cX8_place 9 = .ok (.iconst (-1), 1) := by decide +kernel
theorem dX8_place_10 : decode cX8_place 10 = .ok (.goto 37, 3) := by decide +kernel
theorem dX8_place_13 : decode cX8_place 13 = .ok (.iload_n 1, 1) := by decide +kernel
theorem dX8_place_14 : decode cX8_place 14 = .ok (.iconst 0, 1) := by decide +kernel
theorem dX8_place_15 : decode cX8_place 15 = .ok (.aload_n 0, 1) := by decide +kernel
theorem dX8_place_16 : decode cX8_place 16 = .ok (.getfield 376, 3) := by decide +kernel
theorem dX8_place_19 : decode cX8_place 19 = .ok (.iconst 1, 1) := by decide +kernel
theorem dX8_place_20 : decode cX8_place 20 = .ok (.isub, 1) := by decide +kernel
theorem dX8_place_21 : decode cX8_place 21 = .ok (.invokestatic 133, 3) := by decide +kernel
theorem dX8_place_24 : decode cX8_place 24 = .ok (.ifCond .eq 21, 3) := by decide +kernel
theorem dX8_place_27 : decode cX8_place 27 = .ok (.aload_n 0, 1) := by decide +kernel
theorem dX8_place_28 : decode cX8_place 28 = .ok (.aload_n 0, 1) := by decide +kernel
theorem dX8_place_29 : decode cX8_place 29 = .ok (.getfield 112, 3) := by decide +kernel
theorem dX8_place_32 : decode cX8_place 32 = .ok (.iconst 3, 1) := by decide +kernel
theorem dX8_place_33 : decode cX8_place 33 = .ok (.iload_n 1, 1) := by decide +kernel
theorem dX8_place_34 : decode cX8_place 34 = .ok (.imul, 1) := by decide +kernel
theorem dX8_place_35 : decode cX8_place 35 = .ok (.iload_n 2, 1) := by decide +kernel
theorem dX8_place_36 : decode cX8_place 36 = .ok (.iadd, 1) := by decide +kernel
theorem dX8_place_37 : decode cX8_place 37 = .ok (.iaload, 1) := by decide +kernel
theorem dX8_place_38 : decode cX8_place 38 = .ok (.iconst 1, 1) := by decide +kernel
theorem dX8_place_39 : decode cX8_place 39 = .ok (.invokevirtual 213, 3) := by decide +kernel
theorem dX8_place_42 : decode cX8_place 42 = .ok (.goto 5, 3) := by decide +kernel
theorem dX8_place_45 : decode cX8_place 45 = .ok (.bipush (-9), 2) := by decide +kernel
theorem dX8_place_47 : decode cX8_place 47 = .ok (.ireturn, 1) := by decide +kernel
theorem dX8_asked_0 : decode cX8_asked 0 = .ok (.aload_n 0, 1) := by decide +kernel
theorem dX8_asked_1 : decode cX8_asked 1 = .ok (.getfield 119, 3) := by decide +kernel
theorem dX8_asked_4 : decode cX8_asked 4 = .ok (.ireturn, 1) := by decide +kernel
theorem dX8_upper_0 : decode cX8_upper 0 = .ok (.aload_n 0, 1) := by decide +kernel
theorem dX8_upper_1 : decode cX8_upper 1 = .ok (.getfield 130, 3) := by decide +kernel
theorem dX8_upper_4 : decode cX8_upper 4 = .ok (.lreturn, 1) := by decide +kernel
theorem dX8_lower_0 : decode cX8_lower 0 = .ok (.aload_n 0, 1) := by decide +kernel
theorem dX8_lower_1 : decode cX8_lower 1 = .ok (.getfield 13, 3) := by decide +kernel
theorem dX8_lower_4 : decode cX8_lower 4 = .ok (.lreturn, 1) := by decide +kernel
theorem dX8_count_0 : decode cX8_count 0 = .ok (.iconst 0, 1) := by decide +kernel
theorem dX8_count_1 : decode cX8_count 1 = .ok (.istore_n 2, 1) := by decide +kernel
theorem dX8_count_2 : decode cX8_count 2 = .ok (.iconst 0, 1) := by decide +kernel
theorem dX8_count_3 : decode cX8_count 3 = .ok (.istore_n 3, 1) := by decide +kernel
theorem dX8_count_4 : decode cX8_count 4 = .ok (.iload_n 3, 1) := by decide +kernel
theorem dX8_count_5 : decode cX8_count 5 = .ok (.bipush 8, 2) := by decide +kernel
theorem dX8_count_7 : decode cX8_count 7 = .ok (.if_icmp .ge 30, 3) := by decide +kernel
theorem dX8_count_10 : decode cX8_count 10 = .ok (.iload_n 2, 1) := by decide +kernel
theorem dX8_count_11 : decode cX8_count 11 = .ok (.iload_n 1, 1) := by decide +kernel
theorem dX8_count_12 : decode cX8_count 12 = .ok (.ifCond .ne 16, 3) := by decide +kernel
theorem dX8_count_15 : decode cX8_count 15 = .ok (.aload_n 0, 1) := by decide +kernel
theorem dX8_count_16 : decode cX8_count 16 = .ok (.getfield 17, 3) := by decide +kernel
theorem dX8_count_19 : decode cX8_count 19 = .ok (.iload_n 3, 1) := by decide +kernel
theorem dX8_count_20 : decode cX8_count 20 = .ok (.iaload, 1) := by decide +kernel
theorem dX8_count_21 : decode cX8_count 21 = .ok (.ifCond .lt 7, 3) := by decide +kernel
theorem dX8_count_24 : decode cX8_count 24 = .ok (.iconst 1, 1) := by decide +kernel
theorem dX8_count_25 : decode cX8_count 25 = .ok (.goto 4, 3) := by decide +kernel
theorem dX8_count_28 : decode cX8_count 28 = .ok (.iconst 0, 1) := by decide +kernel
theorem dX8_count_29 : decode cX8_count 29 = .ok (.iadd, 1) := by decide +kernel
theorem dX8_count_30 : decode cX8_count 30 = .ok (.istore_n 2, 1) := by decide +kernel
theorem dX8_count_31 : decode cX8_count 31 = .ok (.iinc 3 1, 3) := by decide +kernel
theorem dX8_count_34 : decode cX8_count 34 = .ok (.goto (-30), 3) := by decide +kernel
theorem dX8_count_37 : decode cX8_count 37 = .ok (.iconst 0, 1) := by decide +kernel
theorem dX8_count_38 : decode cX8_count 38 = .ok (.istore_n 3, 1) := by decide +kernel
theorem dX8_count_39 : decode cX8_count 39 = .ok (.iload_n 3, 1) := by decide +kernel
theorem dX8_count_40 : decode cX8_count 40 = .ok (.bipush 12, 2) := by decide +kernel
theorem dX8_count_42 : decode cX8_count 42 = .ok (.if_icmp .ge 107, 3) := by decide +kernel
theorem dX8_count_45 : decode cX8_count 45 = .ok (.aload_n 0, 1) := by decide +kernel
theorem dX8_count_46 : decode cX8_count 46 = .ok (.getfield 33, 3) := by decide +kernel
theorem dX8_count_49 : decode cX8_count 49 = .ok (.iload_n 3, 1) := by decide +kernel
theorem dX8_count_50 : decode cX8_count 50 = .ok (.baload, 1) := by decide +kernel
theorem dX8_count_51 : decode cX8_count 51 = .ok (.ifCond .eq 15, 3) := by decide +kernel
theorem dX8_count_54 : decode cX8_count 54 = .ok (.aload_n 0, 1) := by decide +kernel
theorem dX8_count_55 : decode cX8_count 55 = .ok (.getfield 40, 3) := by decide +kernel
theorem dX8_count_58 : decode cX8_count 58 = .ok (.bipush 10, 2) := by decide +kernel
theorem dX8_count_60 : decode cX8_count 60 = .ok (.iload_n 3, 1) := by decide +kernel
theorem dX8_count_61 : decode cX8_count 61 = .ok (.imul, 1) := by decide +kernel
theorem dX8_count_62 : decode cX8_count 62 = .ok (.iaload, 1) := by decide +kernel
theorem dX8_count_63 : decode cX8_count 63 = .ok (.goto 5, 3) := by decide +kernel
theorem dX8_count_66 : decode cX8_count 66 = .ok (.bipush (-9), 2) := by decide +kernel
theorem dX8_count_68 : decode cX8_count 68 = .ok (.istore 4, 2) := by decide +kernel
theorem dX8_count_70 : decode cX8_count 70 = .ok (.iload_n 1, 1) := by decide +kernel
theorem dX8_count_71 : decode cX8_count 71 = .ok (.iconst 1, 1) := by decide +kernel
theorem dX8_count_72 : decode cX8_count 72 = .ok (.if_icmp .ne 12, 3) := by decide +kernel
theorem dX8_count_75 : decode cX8_count 75 = .ok (.aload_n 0, 1) := by decide +kernel
theorem dX8_count_76 : decode cX8_count 76 = .ok (.getfield 33, 3) := by decide +kernel
theorem dX8_count_79 : decode cX8_count 79 = .ok (.iload_n 3, 1) := by decide +kernel
theorem dX8_count_80 : decode cX8_count 80 = .ok (.baload, 1) := by decide +kernel
theorem dX8_count_81 : decode cX8_count 81 = .ok (.ifCond .ne 42, 3) := by decide +kernel
theorem dX8_count_84 : decode cX8_count 84 = .ok (.iload_n 1, 1) := by decide +kernel
theorem dX8_count_85 : decode cX8_count 85 = .ok (.iconst 2, 1) := by decide +kernel
theorem dX8_count_86 : decode cX8_count 86 = .ok (.if_icmp .ne 9, 3) := by decide +kernel
theorem dX8_count_89 : decode cX8_count 89 = .ok (.iload 4, 2) := by decide +kernel
theorem dX8_count_91 : decode cX8_count 91 = .ok (.iconst 3, 1) := by decide +kernel
theorem dX8_count_92 : decode cX8_count 92 = .ok (.if_icmp .eq 31, 3) := by decide +kernel
theorem dX8_count_95 : decode cX8_count 95 = .ok (.iload_n 1, 1) := by decide +kernel
theorem dX8_count_96 : decode cX8_count 96 = .ok (.iconst 3, 1) := by decide +kernel
theorem dX8_count_97 : decode cX8_count 97 = .ok (.if_icmp .ne 9, 3) := by decide +kernel
theorem dX8_count_100 : decode cX8_count 100 = .ok (.iload 4, 2) := by decide +kernel
theorem dX8_count_102 : decode cX8_count 102 = .ok (.iconst 4, 1) := by decide +kernel
theorem dX8_count_103 : decode cX8_count 103 = .ok (.if_icmp .eq 20, 3) := by decide +kernel
theorem dX8_count_106 : decode cX8_count 106 = .ok (.iload_n 1, 1) := by decide +kernel
theorem dX8_count_107 : decode cX8_count 107 = .ok (.iconst 4, 1) := by decide +kernel
theorem dX8_count_108 : decode cX8_count 108 = .ok (.if_icmp .ne 19, 3) := by decide +kernel
theorem dX8_count_111 : decode cX8_count 111 = .ok (.iload 4, 2) := by decide +kernel
theorem dX8_count_113 : decode cX8_count 113 = .ok (.iconst 1, 1) := by decide +kernel
theorem dX8_count_114 : decode cX8_count 114 = .ok (.if_icmp .eq 9, 3) := by decide +kernel
theorem dX8_count_117 : decode cX8_count 117 = .ok (.iload 4, 2) := by decide +kernel
theorem dX8_count_119 : decode cX8_count 119 = .ok (.iconst 2, 1) := by decide +kernel
theorem dX8_count_120 : decode cX8_count 120 = .ok (.if_icmp .ne 7, 3) := by decide +kernel
theorem dX8_count_123 : decode cX8_count 123 = .ok (.iconst 1, 1) := by decide +kernel
theorem dX8_count_124 : decode cX8_count 124 = .ok (.goto 4, 3) := by decide +kernel
theorem dX8_count_127 : decode cX8_count 127 = .ok (.iconst 0, 1) := by decide +kernel
theorem dX8_count_128 : decode cX8_count 128 = .ok (.istore 5, 2) := by decide +kernel
theorem dX8_count_130 : decode cX8_count 130 = .ok (.iload_n 2, 1) := by decide +kernel
theorem dX8_count_131 : decode cX8_count 131 = .ok (.iload 5, 2) := by decide +kernel
theorem dX8_count_133 : decode cX8_count 133 = .ok (.ifCond .eq 7, 3) := by decide +kernel
theorem dX8_count_136 : decode cX8_count 136 = .ok (.iconst 1, 1) := by decide +kernel
theorem dX8_count_137 : decode cX8_count 137 = .ok (.goto 4, 3) := by decide +kernel
theorem dX8_count_140 : decode cX8_count 140 = .ok (.iconst 0, 1) := by decide +kernel
theorem dX8_count_141 : decode cX8_count 141 = .ok (.iadd, 1) := by decide +kernel
theorem dX8_count_142 : decode cX8_count 142 = .ok (.istore_n 2, 1) := by decide +kernel
theorem dX8_count_143 : decode cX8_count 143 = .ok (.iinc 3 1, 3) := by decide +kernel
theorem dX8_count_146 : decode cX8_count 146 = .ok (.goto (-107), 3) := by decide +kernel
theorem dX8_count_149 : decode cX8_count 149 = .ok (.iload_n 1, 1) := by decide +kernel
theorem dX8_count_150 : decode cX8_count 150 = .ok (.iconst 0, 1) := by decide +kernel
theorem dX8_count_151 : decode cX8_count 151 = .ok (.iconst 4, 1) := by decide +kernel
theorem dX8_count_152 : decode cX8_count 152 = .ok (.invokestatic 133, 3) := by decide +kernel
theorem dX8_count_155 : decode cX8_count 155 = .ok (.ifCond .eq 7, 3) := by decide +kernel
theorem dX8_count_158 : decode cX8_count 158 = .ok (.iload_n 2, 1) := by decide +kernel
theorem dX8_count_159 : decode cX8_count 159 = .ok (.goto 4, 3) := by decide +kernel
theorem dX8_count_162 : decode cX8_count 162 = .ok (.iconst (-1), 1) := by decide +kernel
theorem dX8_count_163 : decode cX8_count 163 = .ok (.ireturn, 1) := by decide +kernel
theorem dX8_finding_0 : decode cX8_finding 0 = .ok (.aload_n 0, 1) := by decide +kernel
theorem dX8_finding_1 : decode cX8_finding 1 = .ok (.getfield 115, 3) := by decide +kernel
theorem dX8_finding_4 : decode cX8_finding 4 = .ok (.ireturn, 1) := by decide +kernel
theorem dX8_findings_0 : decode cX8_findings 0 = .ok (.iload_n 1, 1) := by decide +kernel
theorem dX8_findings_1 : decode cX8_findings 1 = .ok (.iconst 1, 1) := by decide +kernel
theorem dX8_findings_2 : decode cX8_findings 2 = .ok (.iconst 5, 1) := by decide +kernel
theorem dX8_findings_3 : decode cX8_findings 3 = .ok (.invokestatic 133, 3) := by decide +kernel
theorem dX8_findings_6 : decode cX8_findings 6 = .ok (.ifCond .eq 12, 3) := by decide +kernel
theorem dX8_findings_9 : decode cX8_findings 9 = .ok (.aload_n 0, 1) := by decide +kernel
theorem dX8_findings_10 : decode cX8_findings 10 = .ok (.getfield 7, 3) := by decide +kernel
theorem dX8_findings_13 : decode cX8_findings 13 = .ok (.iload_n 1, 1) := by decide +kernel
theorem dX8_findings_14 : decode cX8_findings 14 = .ok (.iaload, 1) := by decide +kernel
theorem dX8_findings_15 : decode cX8_findings 15 = .ok (.goto 4, 3) := by decide +kernel
theorem dX8_findings_18 : decode cX8_findings 18 = .ok (.iconst (-1), 1) := by decide +kernel
theorem dX8_findings_19 : decode cX8_findings 19 = .ok (.ireturn, 1) := by decide +kernel
theorem dX8_mix_0 : decode cX8_mix 0 = .ok (.aload_n 0, 1) := by decide +kernel
theorem dX8_mix_1 : decode cX8_mix 1 = .ok (.ldc2_w 382, 3) := by decide +kernel
theorem dX8_mix_4 : decode cX8_mix 4 = .ok (.aload_n 0, 1) := by decide +kernel
theorem dX8_mix_5 : decode cX8_mix 5 = .ok (.getfield 384, 3) := by decide +kernel
theorem dX8_mix_8 : decode cX8_mix 8 = .ok (.lmul, 1) := by decide +kernel
theorem dX8_mix_9 : decode cX8_mix 9 = .ok (.iload_n 1, 1) := by decide +kernel
theorem dX8_mix_10 : decode cX8_mix 10 = .ok (.i2l, 1) := by decide +kernel
theorem dX8_mix_11 : decode cX8_mix 11 = .ok (.ladd, 1) := by decide +kernel
theorem dX8_mix_12 : decode cX8_mix 12 = .ok (.putfield 384, 3) := by decide +kernel
theorem dX8_mix_15 : decode cX8_mix 15 = .ok (.return_, 1) := by decide +kernel
theorem dX8_digest_0 : decode cX8_digest 0 = .ok (.aload_n 0, 1) := by decide +kernel
theorem dX8_digest_1 : decode cX8_digest 1 = .ok (.ldc2_w 387, 3) := by decide +kernel
theorem dX8_digest_4 : decode cX8_digest 4 = .ok (.putfield 384, 3) := by decide +kernel
theorem dX8_digest_7 : decode cX8_digest 7 = .ok (.iconst 0, 1) := by decide +kernel
theorem dX8_digest_8 : decode cX8_digest 8 = .ok (.istore_n 1, 1) := by decide +kernel
theorem dX8_digest_9 : decode cX8_digest 9 = .ok (.iload_n 1, 1) := by decide +kernel
theorem dX8_digest_10 : decode cX8_digest 10 = .ok (.bipush 12, 2) := by decide +kernel
theorem dX8_digest_12 : decode cX8_digest 12 = .ok (.if_icmp .ge 94, 3) := by decide +kernel
theorem dX8_digest_15 : decode cX8_digest 15 = .ok (.aload_n 0, 1) := by decide +kernel
theorem dX8_digest_16 : decode cX8_digest 16 = .ok (.getfield 33, 3) := by decide +kernel
theorem dX8_digest_19 : decode cX8_digest 19 = .ok (.iload_n 1, 1) := by decide +kernel
theorem dX8_digest_20 : decode cX8_digest 20 = .ok (.baload, 1) := by decide +kernel
theorem dX8_digest_21 : decode cX8_digest 21 = .ok (.ifCond .ne 11, 3) := by decide +kernel
theorem dX8_digest_24 : decode cX8_digest 24 = .ok (.aload_n 0, 1) := by decide +kernel
theorem dX8_digest_25 : decode cX8_digest 25 = .ok (.iconst (-1), 1) := by decide +kernel
theorem dX8_digest_26 : decode cX8_digest 26 = .ok (.invokevirtual 389, 3) := by decide +kernel
theorem dX8_digest_29 : decode cX8_digest 29 = .ok (.goto 71, 3) := by decide +kernel
theorem dX8_digest_32 : decode cX8_digest 32 = .ok (.iconst 0, 1) := by decide +kernel
theorem dX8_digest_33 : decode cX8_digest 33 = .ok (.istore_n 2, 1) := by decide +kernel
theorem dX8_digest_34 : decode cX8_digest 34 = .ok (.iload_n 2, 1) := by decide +kernel
theorem dX8_digest_35 : decode cX8_digest 35 = .ok (.bipush 10, 2) := by decide +kernel
theorem dX8_digest_37 : decode cX8_digest 37 = .ok (.if_icmp .ge 34, 3) := by decide +kernel
theorem dX8_digest_40 : decode cX8_digest 40 = .ok (.aload_n 0, 1) := by decide +kernel
theorem dX8_digest_41 : decode cX8_digest 41 = .ok (.aload_n 0, 1) := by decide +kernel
theorem dX8_digest_42 : decode cX8_digest 42 = .ok (.getfield 37, 3) := by decide +kernel
theorem dX8_digest_45 : decode cX8_digest 45 = .ok (.bipush 16, 2) := by decide +kernel
theorem dX8_digest_47 : decode cX8_digest 47 = .ok (.iload_n 1, 1) := by decide +kernel
theorem dX8_digest_48 : decode cX8_digest 48 = .ok (.imul, 1) := by decide +kernel
theorem dX8_digest_49 : decode cX8_digest 49 = .ok (.iconst 4, 1) := by decide +kernel
theorem dX8_digest_50 : decode cX8_digest 50 = .ok (.iload_n 2, 1) := by decide +kernel
theorem dX8_digest_51 : decode cX8_digest 51 = .ok (.invokestatic 201, 3) := by decide +kernel
theorem dX8_digest_54 : decode cX8_digest 54 = .ok (.imul, 1) := by decide +kernel
theorem dX8_digest_55 : decode cX8_digest 55 = .ok (.iadd, 1) := by decide +kernel
theorem dX8_digest_56 : decode cX8_digest 56 = .ok (.iload_n 2, 1) := by decide +kernel
theorem dX8_digest_57 : decode cX8_digest 57 = .ok (.invokestatic 204, 3) := by decide +kernel
theorem dX8_digest_60 : decode cX8_digest 60 = .ok (.iadd, 1) := by decide +kernel
theorem dX8_digest_61 : decode cX8_digest 61 = .ok (.iaload, 1) := by decide +kernel
theorem dX8_digest_62 : decode cX8_digest 62 = .ok (.invokevirtual 389, 3) := by decide +kernel
theorem dX8_digest_65 : decode cX8_digest 65 = .ok (.iinc 2 1, 3) := by decide +kernel
theorem dX8_digest_68 : decode cX8_digest 68 = .ok (.goto (-34), 3) := by decide +kernel
theorem dX8_digest_71 : decode cX8_digest 71 = .ok (.iconst 0, 1) := by decide +kernel
theorem dX8_digest_72 : decode cX8_digest 72 = .ok (.istore_n 2, 1) := by decide +kernel
theorem dX8_digest_73 : decode cX8_digest 73 = .ok (.iload_n 2, 1) := by decide +kernel
theorem dX8_digest_74 : decode cX8_digest 74 = .ok (.bipush 10, 2) := by decide +kernel
theorem dX8_digest_76 : decode cX8_digest 76 = .ok (.if_icmp .ge 24, 3) := by decide +kernel
theorem dX8_digest_79 : decode cX8_digest 79 = .ok (.aload_n 0, 1) := by decide +kernel
theorem dX8_digest_80 : decode cX8_digest 80 = .ok (.aload_n 0, 1) := by decide +kernel
theorem dX8_digest_81 : decode cX8_digest 81 = .ok (.getfield 40, 3) := by decide +kernel
theorem dX8_digest_84 : decode cX8_digest 84 = .ok (.bipush 10, 2) := by decide +kernel
theorem dX8_digest_86 : decode cX8_digest 86 = .ok (.iload_n 1, 1) := by decide +kernel
theorem dX8_digest_87 : decode cX8_digest 87 = .ok (.imul, 1) := by decide +kernel
theorem dX8_digest_88 : decode cX8_digest 88 = .ok (.iload_n 2, 1) := by decide +kernel
theorem dX8_digest_89 : decode cX8_digest 89 = .ok (.iadd, 1) := by decide +kernel
theorem dX8_digest_90 : decode cX8_digest 90 = .ok (.iaload, 1) := by decide +kernel
theorem dX8_digest_91 : decode cX8_digest 91 = .ok (.invokevirtual 389, 3) := by decide +kernel
theorem dX8_digest_94 : decode cX8_digest 94 = .ok (.iinc 2 1, 3) := by decide +kernel
theorem dX8_digest_97 : decode cX8_digest 97 = .ok (.goto (-24), 3) := by decide +kernel
theorem dX8_digest_100 : decode cX8_digest 100 = .ok (.iinc 1 1, 3) := by decide +kernel
theorem dX8_digest_103 : decode cX8_digest 103 = .ok (.goto (-94), 3) := by decide +kernel
theorem dX8_digest_106 : decode cX8_digest 106 = .ok (.iconst 0, 1) := by decide +kernel
theorem dX8_digest_107 : decode cX8_digest 107 = .ok (.istore_n 1, 1) := by decide +kernel
theorem dX8_digest_108 : decode cX8_digest 108 = .ok (.iload_n 1, 1) := by decide +kernel
theorem dX8_digest_109 : decode cX8_digest 109 = .ok (.bipush 8, 2) := by decide +kernel
theorem dX8_digest_111 : decode cX8_digest 111 = .ok (.if_icmp .ge 65, 3) := by decide +kernel
theorem dX8_digest_114 : decode cX8_digest 114 = .ok (.aload_n 0, 1) := by decide +kernel
theorem dX8_digest_115 : decode cX8_digest 115 = .ok (.aload_n 0, 1) := by decide +kernel
theorem dX8_digest_116 : decode cX8_digest 116 = .ok (.getfield 17, 3) := by decide +kernel
theorem dX8_digest_119 : decode cX8_digest 119 = .ok (.iload_n 1, 1) := by decide +kernel
theorem dX8_digest_120 : decode cX8_digest 120 = .ok (.iaload, 1) := by decide +kernel
theorem dX8_digest_121 : decode cX8_digest 121 = .ok (.ifCond .ge 7, 3) := by decide +kernel
theorem dX8_digest_124 : decode cX8_digest 124 = .ok (.iconst (-1), 1) := by decide +kernel
theorem dX8_digest_125 : decode cX8_digest 125 = .ok (.goto 9, 3) := by decide +kernel
theorem dX8_digest_128 : decode cX8_digest 128 = .ok (.aload_n 0, 1) := by decide +kernel
theorem dX8_digest_129 : decode cX8_digest 129 = .ok (.getfield 17, 3) := by decide +kernel
theorem dX8_digest_132 : decode cX8_digest 132 = .ok (.iload_n 1, 1) := by decide +kernel
theorem dX8_digest_133 : decode cX8_digest 133 = .ok (.iaload, 1) := by decide +kernel
theorem dX8_digest_134 : decode cX8_digest 134 = .ok (.invokevirtual 389, 3) := by decide +kernel
theorem dX8_digest_137 : decode cX8_digest 137 = .ok (.iconst 0, 1) := by decide +kernel
theorem dX8_digest_138 : decode cX8_digest 138 = .ok (.istore_n 2, 1) := by decide +kernel
theorem dX8_digest_139 : decode cX8_digest 139 = .ok (.iload_n 2, 1) := by decide +kernel
theorem dX8_digest_140 : decode cX8_digest 140 = .ok (.aload_n 0, 1) := by decide +kernel
theorem dX8_digest_141 : decode cX8_digest 141 = .ok (.getfield 17, 3) := by decide +kernel
theorem dX8_digest_144 : decode cX8_digest 144 = .ok (.iload_n 1, 1) := by decide +kernel
theorem dX8_digest_145 : decode cX8_digest 145 = .ok (.iaload, 1) := by decide +kernel
theorem dX8_digest_146 : decode cX8_digest 146 = .ok (.if_icmp .ge 24, 3) := by decide +kernel
theorem dX8_digest_149 : decode cX8_digest 149 = .ok (.aload_n 0, 1) := by decide +kernel
theorem dX8_digest_150 : decode cX8_digest 150 = .ok (.aload_n 0, 1) := by decide +kernel
theorem dX8_digest_151 : decode cX8_digest 151 = .ok (.getfield 20, 3) := by decide +kernel
theorem dX8_digest_154 : decode cX8_digest 154 = .ok (.bipush 16, 2) := by decide +kernel
theorem dX8_digest_156 : decode cX8_digest 156 = .ok (.iload_n 1, 1) := by decide +kernel
theorem dX8_digest_157 : decode cX8_digest 157 = .ok (.imul, 1) := by decide +kernel
theorem dX8_digest_158 : decode cX8_digest 158 = .ok (.iload_n 2, 1) := by decide +kernel
theorem dX8_digest_159 : decode cX8_digest 159 = .ok (.iadd, 1) := by decide +kernel
theorem dX8_digest_160 : decode cX8_digest 160 = .ok (.iaload, 1) := by decide +kernel
theorem dX8_digest_161 : decode cX8_digest 161 = .ok (.invokevirtual 389, 3) := by decide +kernel
theorem dX8_digest_164 : decode cX8_digest 164 = .ok (.iinc 2 1, 3) := by decide +kernel
theorem dX8_digest_167 : decode cX8_digest 167 = .ok (.goto (-28), 3) := by decide +kernel
theorem dX8_digest_170 : decode cX8_digest 170 = .ok (.iinc 1 1, 3) := by decide +kernel
theorem dX8_digest_173 : decode cX8_digest 173 = .ok (.goto (-65), 3) := by decide +kernel
theorem dX8_digest_176 : decode cX8_digest 176 = .ok (.aload_n 0, 1) := by decide +kernel
theorem dX8_digest_177 : decode cX8_digest 177 = .ok (.getfield 384, 3) := by decide +kernel
theorem dX8_digest_180 : decode cX8_digest 180 = .ok (.lreturn, 1) := by decide +kernel
theorem dJ9_abs_0f7a4_0 : decode cJ9_abs_0f7a4 0 = .ok (.iload_n 0, 1) := by decide +kernel
theorem dJ9_abs_0f7a4_1 : decode cJ9_abs_0f7a4 1 = .ok (.ifCond .ge 8, 3) := by decide +kernel
theorem dJ9_abs_0f7a4_4 : decode cJ9_abs_0f7a4 4 = .ok (.iload_n 0, 1) := by decide +kernel
theorem dJ9_abs_0f7a4_5 : decode cJ9_abs_0f7a4 5 = .ok (.ineg, 1) := by decide +kernel
theorem dJ9_abs_0f7a4_6 : decode cJ9_abs_0f7a4 6 = .ok (.goto 4, 3) := by decide +kernel
theorem dJ9_abs_0f7a4_9 : decode cJ9_abs_0f7a4 9 = .ok (.iload_n 0, 1) := by decide +kernel
theorem dJ9_abs_0f7a4_10 : decode cJ9_abs_0f7a4 10 = .ok (.ireturn, 1) := by decide +kernel
theorem dJ9_abs_067f4_0 : decode cJ9_abs_067f4 0 = .ok (.lload_n 0, 1) := by decide +kernel
theorem dJ9_abs_067f4_1 : decode cJ9_abs_067f4 1 = .ok (.lconst 0, 1) := by decide +kernel
theorem dJ9_abs_067f4_2 : decode cJ9_abs_067f4 2 = .ok (.lcmp, 1) := by decide +kernel
theorem dJ9_abs_067f4_3 : decode cJ9_abs_067f4 3 = .ok (.ifCond .ge 8, 3) := by decide +kernel
theorem dJ9_abs_067f4_6 : decode cJ9_abs_067f4 6 = .ok (.lload_n 0, 1) := by decide +kernel
theorem dJ9_abs_067f4_7 : decode cJ9_abs_067f4 7 = .ok (.lneg, 1) := by decide +kernel
theorem dJ9_abs_067f4_8 : decode cJ9_abs_067f4 8 = .ok (.goto 4, 3) := by decide +kernel
theorem dJ9_abs_067f4_11 : decode cJ9_abs_067f4 11 = .ok (.lload_n 0, 1) := by decide +kernel
theorem dJ9_abs_067f4_12 : decode cJ9_abs_067f4 12 = .ok (.lreturn, 1) := by decide +kernel
theorem dJ9_max_7cf53_0 : decode cJ9_max_7cf53 0 = .ok (.iload_n 0, 1) := by decide +kernel
theorem dJ9_max_7cf53_1 : decode cJ9_max_7cf53 1 = .ok (.iload_n 1, 1) := by decide +kernel
theorem dJ9_max_7cf53_2 : decode cJ9_max_7cf53 2 = .ok (.if_icmp .lt 7, 3) := by decide +kernel
theorem dJ9_max_7cf53_5 : decode cJ9_max_7cf53 5 = .ok (.iload_n 0, 1) := by decide +kernel
theorem dJ9_max_7cf53_6 : decode cJ9_max_7cf53 6 = .ok (.goto 4, 3) := by decide +kernel
theorem dJ9_max_7cf53_9 : decode cJ9_max_7cf53 9 = .ok (.iload_n 1, 1) := by decide +kernel
theorem dJ9_max_7cf53_10 : decode cJ9_max_7cf53 10 = .ok (.ireturn, 1) := by decide +kernel
theorem dJ9_min_7cf53_0 : decode cJ9_min_7cf53 0 = .ok (.iload_n 0, 1) := by decide +kernel
theorem dJ9_min_7cf53_1 : decode cJ9_min_7cf53 1 = .ok (.iload_n 1, 1) := by decide +kernel
theorem dJ9_min_7cf53_2 : decode cJ9_min_7cf53 2 = .ok (.if_icmp .gt 7, 3) := by decide +kernel
theorem dJ9_min_7cf53_5 : decode cJ9_min_7cf53 5 = .ok (.iload_n 0, 1) := by decide +kernel
theorem dJ9_min_7cf53_6 : decode cJ9_min_7cf53 6 = .ok (.goto 4, 3) := by decide +kernel
theorem dJ9_min_7cf53_9 : decode cJ9_min_7cf53 9 = .ok (.iload_n 1, 1) := by decide +kernel
theorem dJ9_min_7cf53_10 : decode cJ9_min_7cf53 10 = .ok (.ireturn, 1) := by decide +kernel
theorem dL_law_0 : decode cL_law 0 = .ok (.new 7, 3) := by decide +kernel
theorem dL_law_3 : decode cL_law 3 = .ok (.dup, 1) := by decide +kernel
theorem dL_law_4 : decode cL_law 4 = .ok (.invokespecial 9, 3) := by decide +kernel
theorem dL_law_7 : decode cL_law 7 = .ok (.astore_n 1, 1) := by decide +kernel
theorem dL_law_8 : decode cL_law 8 = .ok (.new 10, 3) := by decide +kernel
theorem dL_law_11 : decode cL_law 11 = .ok (.dup, 1) := by decide +kernel
theorem dL_law_12 : decode cL_law 12 = .ok (.invokespecial 12, 3) := by decide +kernel
theorem dL_law_15 : decode cL_law 15 = .ok (.astore_n 2, 1) := by decide +kernel
theorem dL_law_16 : decode cL_law 16 = .ok (.iconst 0, 1) := by decide +kernel
theorem dL_law_17 : decode cL_law 17 = .ok (.istore_n 3, 1) := by decide +kernel
theorem dL_law_18 : decode cL_law 18 = .ok (.iload_n 3, 1) := by decide +kernel
theorem dL_law_19 : decode cL_law 19 = .ok (.aload_n 0, 1) := by decide +kernel
theorem dL_law_20 : decode cL_law 20 = .ok (.arraylength, 1) := by decide +kernel
theorem dL_law_21 : decode cL_law 21 = .ok (.bipush 6, 2) := by decide +kernel
theorem dL_law_23 : decode cL_law 23 = .ok (.isub, 1) := by decide +kernel
theorem dL_law_24 : decode cL_law 24 = .ok (.if_icmp .gt 1513, 3) := by decide +kernel
theorem dL_law_27 : decode cL_law 27 = .ok (.aload_n 0, 1) := by decide +kernel
theorem dL_law_28 : decode cL_law 28 = .ok (.iload_n 3, 1) := by decide +kernel
theorem dL_law_29 : decode cL_law 29 = .ok (.iaload, 1) := by decide +kernel
theorem dL_law_30 : decode cL_law 30 = .ok (.bipush 63, 2) := by decide +kernel
theorem dL_law_32 : decode cL_law 32 = .ok (.iand, 1) := by decide +kernel
theorem dL_law_33 : decode cL_law 33 = .ok (.tableswitch 1498 0 39 #[175, 208, 251, 274, 337, 370, 393, 436, 469, 502, 525, 578, 621, 654, 687, 720, 763, 806, 829, 862, 895, 928, 961, 994, 1017, 1050, 1083, 1126, 1169, 1202, 1255, 1298, 1331, 1384, 1397, 1411, 1425, 1448, 1461, 1484], 175) := by decide +kernel
theorem dL_law_208 : decode cL_law 208 = .ok (.aload_n 1, 1) := by decide +kernel
theorem dL_law_209 : decode cL_law 209 = .ok (.aload_n 0, 1) := by decide +kernel
theorem dL_law_210 : decode cL_law 210 = .ok (.iload_n 3, 1) := by decide +kernel
theorem dL_law_211 : decode cL_law 211 = .ok (.iconst 1, 1) := by decide +kernel
theorem dL_law_212 : decode cL_law 212 = .ok (.iadd, 1) := by decide +kernel
theorem dL_law_213 : decode cL_law 213 = .ok (.iaload, 1) := by decide +kernel
theorem dL_law_214 : decode cL_law 214 = .ok (.aload_n 0, 1) := by decide +kernel
theorem dL_law_215 : decode cL_law 215 = .ok (.iload_n 3, 1) := by decide +kernel
theorem dL_law_216 : decode cL_law 216 = .ok (.iconst 2, 1) := by decide +kernel
theorem dL_law_217 : decode cL_law 217 = .ok (.iadd, 1) := by decide +kernel
theorem dL_law_218 : decode cL_law 218 = .ok (.iaload, 1) := by decide +kernel
theorem dL_law_219 : decode cL_law 219 = .ok (.invokevirtual 13, 3) := by decide +kernel
theorem dL_law_222 : decode cL_law 222 = .ok (.aload_n 2, 1) := by decide +kernel
theorem dL_law_223 : decode cL_law 223 = .ok (.aload_n 0, 1) := by decide +kernel
theorem dL_law_224 : decode cL_law 224 = .ok (.iload_n 3, 1) := by decide +kernel
theorem dL_law_225 : decode cL_law 225 = .ok (.iconst 1, 1) := by decide +kernel
theorem dL_law_226 : decode cL_law 226 = .ok (.iadd, 1) := by decide +kernel
theorem dL_law_227 : decode cL_law 227 = .ok (.iaload, 1) := by decide +kernel
theorem dL_law_228 : decode cL_law 228 = .ok (.aload_n 0, 1) := by decide +kernel
theorem dL_law_229 : decode cL_law 229 = .ok (.iload_n 3, 1) := by decide +kernel
theorem dL_law_230 : decode cL_law 230 = .ok (.iconst 2, 1) := by decide +kernel
theorem dL_law_231 : decode cL_law 231 = .ok (.iadd, 1) := by decide +kernel
theorem dL_law_232 : decode cL_law 232 = .ok (.iaload, 1) := by decide +kernel
theorem dL_law_233 : decode cL_law 233 = .ok (.invokevirtual 17, 3) := by decide +kernel
theorem dL_law_236 : decode cL_law 236 = .ok (.if_icmp .eq 1295, 3) := by decide +kernel
theorem dL_law_239 : decode cL_law 239 = .ok (.iconst 0, 1) := by decide +kernel
theorem dL_law_240 : decode cL_law 240 = .ok (.ireturn, 1) := by decide +kernel
theorem dL_law_241 : decode cL_law 241 = .ok (.aload_n 1, 1) := by decide +kernel
theorem dL_law_242 : decode cL_law 242 = .ok (.aload_n 0, 1) := by decide +kernel
theorem dL_law_243 : decode cL_law 243 = .ok (.iload_n 3, 1) := by decide +kernel
theorem dL_law_244 : decode cL_law 244 = .ok (.iconst 1, 1) := by decide +kernel
theorem dL_law_245 : decode cL_law 245 = .ok (.iadd, 1) := by decide +kernel
theorem dL_law_246 : decode cL_law 246 = .ok (.iaload, 1) := by decide +kernel
theorem dL_law_247 : decode cL_law 247 = .ok (.aload_n 0, 1) := by decide +kernel
theorem dL_law_248 : decode cL_law 248 = .ok (.iload_n 3, 1) := by decide +kernel
theorem dL_law_249 : decode cL_law 249 = .ok (.iconst 2, 1) := by decide +kernel
theorem dL_law_250 : decode cL_law 250 = .ok (.iadd, 1) := by decide +kernel
theorem dL_law_251 : decode cL_law 251 = .ok (.iaload, 1) := by decide +kernel
theorem dL_law_252 : decode cL_law 252 = .ok (.aload_n 0, 1) := by decide +kernel
theorem dL_law_253 : decode cL_law 253 = .ok (.iload_n 3, 1) := by decide +kernel
theorem dL_law_254 : decode cL_law 254 = .ok (.iconst 3, 1) := by decide +kernel
theorem dL_law_255 : decode cL_law 255 = .ok (.iadd, 1) := by decide +kernel
theorem dL_law_256 : decode cL_law 256 = .ok (.iaload, 1) := by decide +kernel
theorem dL_law_257 : decode cL_law 257 = .ok (.invokevirtual 18, 3) := by decide +kernel
theorem dL_law_260 : decode cL_law 260 = .ok (.aload_n 2, 1) := by decide +kernel
theorem dL_law_261 : decode cL_law 261 = .ok (.aload_n 0, 1) := by decide +kernel
theorem dL_law_262 : decode cL_law 262 = .ok (.iload_n 3, 1) := by decide +kernel
theorem dL_law_263 : decode cL_law 263 = .ok (.iconst 1, 1) := by decide +kernel
theorem dL_law_264 : decode cL_law 264 = .ok (.iadd, 1) := by decide +kernel
theorem dL_law_265 : decode cL_law 265 = .ok (.iaload, 1) := by decide +kernel
theorem dL_law_266 : decode cL_law 266 = .ok (.aload_n 0, 1) := by decide +kernel
theorem dL_law_267 : decode cL_law 267 = .ok (.iload_n 3, 1) := by decide +kernel
theorem dL_law_268 : decode cL_law 268 = .ok (.iconst 2, 1) := by decide +kernel
theorem dL_law_269 : decode cL_law 269 = .ok (.iadd, 1) := by decide +kernel
theorem dL_law_270 : decode cL_law 270 = .ok (.iaload, 1) := by decide +kernel
theorem dL_law_271 : decode cL_law 271 = .ok (.aload_n 0, 1) := by decide +kernel
theorem dL_law_272 : decode cL_law 272 = .ok (.iload_n 3, 1) := by decide +kernel
theorem dL_law_273 : decode cL_law 273 = .ok (.iconst 3, 1) := by decide +kernel
theorem dL_law_274 : decode cL_law 274 = .ok (.iadd, 1) := by decide +kernel
theorem dL_law_275 : decode cL_law 275 = .ok (.iaload, 1) := by decide +kernel
theorem dL_law_276 : decode cL_law 276 = .ok (.invokevirtual 22, 3) := by decide +kernel
theorem dL_law_279 : decode cL_law 279 = .ok (.if_icmp .eq 1252, 3) := by decide +kernel
theorem dL_law_282 : decode cL_law 282 = .ok (.iconst 0, 1) := by decide +kernel
theorem dL_law_283 : decode cL_law 283 = .ok (.ireturn, 1) := by decide +kernel
theorem dL_law_284 : decode cL_law 284 = .ok (.aload_n 1, 1) := by decide +kernel
theorem dL_law_285 : decode cL_law 285 = .ok (.aload_n 0, 1) := by decide +kernel
theorem dL_law_286 : decode cL_law 286 = .ok (.iload_n 3, 1) := by decide +kernel
theorem dL_law_287 : decode cL_law 287 = .ok (.iconst 1, 1) := by decide +kernel
theorem dL_law_288 : decode cL_law 288 = .ok (.iadd, 1) := by decide +kernel
theorem dL_law_289 : decode cL_law 289 = .ok (.iaload, 1) := by decide +kernel
theorem dL_law_290 : decode cL_law 290 = .ok (.invokevirtual 23, 3) := by decide +kernel
theorem dL_law_293 : decode cL_law 293 = .ok (.aload_n 2, 1) := by decide +kernel
theorem dL_law_294 : decode cL_law 294 = .ok (.aload_n 0, 1) := by decide +kernel
theorem dL_law_295 : decode cL_law 295 = .ok (.iload_n 3, 1) := by decide +kernel
theorem dL_law_296 : decode cL_law 296 = .ok (.iconst 1, 1) := by decide +kernel
theorem dL_law_297 : decode cL_law 297 = .ok (.iadd, 1) := by decide +kernel
theorem dL_law_298 : decode cL_law 298 = .ok (.iaload, 1) := by decide +kernel
theorem dL_law_299 : decode cL_law 299 = .ok (.invokevirtual 27, 3) := by decide +kernel
theorem dL_law_302 : decode cL_law 302 = .ok (.if_icmp .eq 1229, 3) := by decide +kernel
theorem dL_law_305 : decode cL_law 305 = .ok (.iconst 0, 1) := by decide +kernel
theorem dL_law_306 : decode cL_law 306 = .ok (.ireturn, 1) := by decide +kernel
theorem dL_law_307 : decode cL_law 307 = .ok (.aload_n 1, 1) := by decide +kernel
theorem dL_law_308 : decode cL_law 308 = .ok (.aload_n 0, 1) := by decide +kernel
theorem dL_law_309 : decode cL_law 309 = .ok (.iload_n 3, 1) := by decide +kernel
theorem dL_law_310 : decode cL_law 310 = .ok (.iconst 1, 1) := by decide +kernel
theorem dL_law_311 : decode cL_law 311 = .ok (.iadd, 1) := by decide +kernel
theorem dL_law_312 : decode cL_law 312 = .ok (.iaload, 1) := by decide +kernel
theorem dL_law_313 : decode cL_law 313 = .ok (.aload_n 0, 1) := by decide +kernel
theorem dL_law_314 : decode cL_law 314 = .ok (.iload_n 3, 1) := by decide +kernel
theorem dL_law_315 : decode cL_law 315 = .ok (.iconst 2, 1) := by decide +kernel
theorem dL_law_316 : decode cL_law 316 = .ok (.iadd, 1) := by decide +kernel
theorem dL_law_317 : decode cL_law 317 = .ok (.iaload, 1) := by decide +kernel
theorem dL_law_318 : decode cL_law 318 = .ok (.aload_n 0, 1) := by decide +kernel
theorem dL_law_319 : decode cL_law 319 = .ok (.iload_n 3, 1) := by decide +kernel
theorem dL_law_320 : decode cL_law 320 = .ok (.iconst 3, 1) := by decide +kernel
theorem dL_law_321 : decode cL_law 321 = .ok (.iadd, 1) := by decide +kernel
theorem dL_law_322 : decode cL_law 322 = .ok (.iaload, 1) := by decide +kernel
theorem dL_law_323 : decode cL_law 323 = .ok (.aload_n 0, 1) := by decide +kernel
theorem dL_law_324 : decode cL_law 324 = .ok (.iload_n 3, 1) := by decide +kernel
theorem dL_law_325 : decode cL_law 325 = .ok (.iconst 4, 1) := by decide +kernel
theorem dL_law_326 : decode cL_law 326 = .ok (.iadd, 1) := by decide +kernel
theorem dL_law_327 : decode cL_law 327 = .ok (.iaload, 1) := by decide +kernel
theorem dL_law_328 : decode cL_law 328 = .ok (.aload_n 0, 1) := by decide +kernel
theorem dL_law_329 : decode cL_law 329 = .ok (.iload_n 3, 1) := by decide +kernel
theorem dL_law_330 : decode cL_law 330 = .ok (.iconst 5, 1) := by decide +kernel
theorem dL_law_331 : decode cL_law 331 = .ok (.iadd, 1) := by decide +kernel
theorem dL_law_332 : decode cL_law 332 = .ok (.iaload, 1) := by decide +kernel
theorem dL_law_333 : decode cL_law 333 = .ok (.invokevirtual 28, 3) := by decide +kernel
theorem dL_law_336 : decode cL_law 336 = .ok (.aload_n 2, 1) := by decide +kernel
theorem dL_law_337 : decode cL_law 337 = .ok (.aload_n 0, 1) := by decide +kernel
theorem dL_law_338 : decode cL_law 338 = .ok (.iload_n 3, 1) := by decide +kernel
theorem dL_law_339 : decode cL_law 339 = .ok (.iconst 1, 1) := by decide +kernel
theorem dL_law_340 : decode cL_law 340 = .ok (.iadd, 1) := by decide +kernel
theorem dL_law_341 : decode cL_law 341 = .ok (.iaload, 1) := by decide +kernel
theorem dL_law_342 : decode cL_law 342 = .ok (.aload_n 0, 1) := by decide +kernel
theorem dL_law_343 : decode cL_law 343 = .ok (.iload_n 3, 1) := by decide +kernel
theorem dL_law_344 : decode cL_law 344 = .ok (.iconst 2, 1) := by decide +kernel
theorem dL_law_345 : decode cL_law 345 = .ok (.iadd, 1) := by decide +kernel
theorem dL_law_346 : decode cL_law 346 = .ok (.iaload, 1) := by decide +kernel
theorem dL_law_347 : decode cL_law 347 = .ok (.aload_n 0, 1) := by decide +kernel
theorem dL_law_348 : decode cL_law 348 = .ok (.iload_n 3, 1) := by decide +kernel
theorem dL_law_349 : decode cL_law 349 = .ok (.iconst 3, 1) := by decide +kernel
theorem dL_law_350 : decode cL_law 350 = .ok (.iadd, 1) := by decide +kernel
theorem dL_law_351 : decode cL_law 351 = .ok (.iaload, 1) := by decide +kernel
theorem dL_law_352 : decode cL_law 352 = .ok (.aload_n 0, 1) := by decide +kernel
theorem dL_law_353 : decode cL_law 353 = .ok (.iload_n 3, 1) := by decide +kernel
theorem dL_law_354 : decode cL_law 354 = .ok (.iconst 4, 1) := by decide +kernel
theorem dL_law_355 : decode cL_law 355 = .ok (.iadd, 1) := by decide +kernel
theorem dL_law_356 : decode cL_law 356 = .ok (.iaload, 1) := by decide +kernel
theorem dL_law_357 : decode cL_law 357 = .ok (.aload_n 0, 1) := by decide +kernel
theorem dL_law_358 : decode cL_law 358 = .ok (.iload_n 3, 1) := by decide +kernel
theorem dL_law_359 : decode cL_law 359 = .ok (.iconst 5, 1) := by decide +kernel
theorem dL_law_360 : decode cL_law 360 = .ok (.iadd, 1) := by decide +kernel
theorem dL_law_361 : decode cL_law 361 = .ok (.iaload, 1) := by decide +kernel
theorem dL_law_362 : decode cL_law 362 = .ok (.invokevirtual 32, 3) := by decide +kernel
theorem dL_law_365 : decode cL_law 365 = .ok (.if_icmp .eq 1166, 3) := by decide +kernel
theorem dL_law_368 : decode cL_law 368 = .ok (.iconst 0, 1) := by decide +kernel
theorem dL_law_369 : decode cL_law 369 = .ok (.ireturn, 1) := by decide +kernel
theorem dL_law_370 : decode cL_law 370 = .ok (.aload_n 1, 1) := by decide +kernel
theorem dL_law_371 : decode cL_law 371 = .ok (.aload_n 0, 1) := by decide +kernel
theorem dL_law_372 : decode cL_law 372 = .ok (.iload_n 3, 1) := by decide +kernel
theorem dL_law_373 : decode cL_law 373 = .ok (.iconst 1, 1) := by decide +kernel
theorem dL_law_374 : decode cL_law 374 = .ok (.iadd, 1) := by decide +kernel
theorem dL_law_375 : decode cL_law 375 = .ok (.iaload, 1) := by decide +kernel
theorem dL_law_376 : decode cL_law 376 = .ok (.aload_n 0, 1) := by decide +kernel
theorem dL_law_377 : decode cL_law 377 = .ok (.iload_n 3, 1) := by decide +kernel
theorem dL_law_378 : decode cL_law 378 = .ok (.iconst 2, 1) := by decide +kernel
theorem dL_law_379 : decode cL_law 379 = .ok (.iadd, 1) := by decide +kernel
theorem dL_law_380 : decode cL_law 380 = .ok (.iaload, 1) := by decide +kernel
theorem dL_law_381 : decode cL_law 381 = .ok (.invokevirtual 33, 3) := by decide +kernel
theorem dL_law_384 : decode cL_law 384 = .ok (.aload_n 2, 1) := by decide +kernel
theorem dL_law_385 : decode cL_law 385 = .ok (.aload_n 0, 1) := by decide +kernel
theorem dL_law_386 : decode cL_law 386 = .ok (.iload_n 3, 1) := by decide +kernel
theorem dL_law_387 : decode cL_law 387 = .ok (.iconst 1, 1) := by decide +kernel
theorem dL_law_388 : decode cL_law 388 = .ok (.iadd, 1) := by decide +kernel
theorem dL_law_389 : decode cL_law 389 = .ok (.iaload, 1) := by decide +kernel
theorem dL_law_390 : decode cL_law 390 = .ok (.aload_n 0, 1) := by decide +kernel
theorem dL_law_391 : decode cL_law 391 = .ok (.iload_n 3, 1) := by decide +kernel
theorem dL_law_392 : decode cL_law 392 = .ok (.iconst 2, 1) := by decide +kernel
theorem dL_law_393 : decode cL_law 393 = .ok (.iadd, 1) := by decide +kernel
theorem dL_law_394 : decode cL_law 394 = .ok (.iaload, 1) := by decide +kernel
theorem dL_law_395 : decode cL_law 395 = .ok (.invokevirtual 36, 3) := by decide +kernel
theorem dL_law_398 : decode cL_law 398 = .ok (.if_icmp .eq 1133, 3) := by decide +kernel
theorem dL_law_401 : decode cL_law 401 = .ok (.iconst 0, 1) := by decide +kernel
theorem dL_law_402 : decode cL_law 402 = .ok (.ireturn, 1) := by decide +kernel
theorem dL_law_403 : decode cL_law 403 = .ok (.aload_n 1, 1) := by decide +kernel
theorem dL_law_404 : decode cL_law 404 = .ok (.aload_n 0, 1) := by decide +kernel
theorem dL_law_405 : decode cL_law 405 = .ok (.iload_n 3, 1) := by decide +kernel
theorem dL_law_406 : decode cL_law 406 = .ok (.iconst 1, 1) := by decide +kernel
theorem dL_law_407 : decode cL_law 407 = .ok (.iadd, 1) := by decide +kernel
theorem dL_law_408 : decode cL_law 408 = .ok (.iaload, 1) := by decide +kernel
theorem dL_law_409 : decode cL_law 409 = .ok (.invokevirtual 37, 3) := by decide +kernel
theorem dL_law_412 : decode cL_law 412 = .ok (.aload_n 2, 1) := by decide +kernel
theorem dL_law_413 : decode cL_law 413 = .ok (.aload_n 0, 1) := by decide +kernel
theorem dL_law_414 : decode cL_law 414 = .ok (.iload_n 3, 1) := by decide +kernel
theorem dL_law_415 : decode cL_law 415 = .ok (.iconst 1, 1) := by decide +kernel
theorem dL_law_416 : decode cL_law 416 = .ok (.iadd, 1) := by decide +kernel
theorem dL_law_417 : decode cL_law 417 = .ok (.iaload, 1) := by decide +kernel
theorem dL_law_418 : decode cL_law 418 = .ok (.invokevirtual 40, 3) := by decide +kernel
theorem dL_law_421 : decode cL_law 421 = .ok (.if_icmp .eq 1110, 3) := by decide +kernel
theorem dL_law_424 : decode cL_law 424 = .ok (.iconst 0, 1) := by decide +kernel
theorem dL_law_425 : decode cL_law 425 = .ok (.ireturn, 1) := by decide +kernel
theorem dL_law_426 : decode cL_law 426 = .ok (.aload_n 1, 1) := by decide +kernel
theorem dL_law_427 : decode cL_law 427 = .ok (.aload_n 0, 1) := by decide +kernel
theorem dL_law_428 : decode cL_law 428 = .ok (.iload_n 3, 1) := by decide +kernel
theorem dL_law_429 : decode cL_law 429 = .ok (.iconst 1, 1) := by decide +kernel
theorem dL_law_430 : decode cL_law 430 = .ok (.iadd, 1) := by decide +kernel
theorem dL_law_431 : decode cL_law 431 = .ok (.iaload, 1) := by decide +kernel
theorem dL_law_432 : decode cL_law 432 = .ok (.aload_n 0, 1) := by decide +kernel
theorem dL_law_433 : decode cL_law 433 = .ok (.iload_n 3, 1) := by decide +kernel
theorem dL_law_434 : decode cL_law 434 = .ok (.iconst 2, 1) := by decide +kernel
theorem dL_law_435 : decode cL_law 435 = .ok (.iadd, 1) := by decide +kernel
theorem dL_law_436 : decode cL_law 436 = .ok (.iaload, 1) := by decide +kernel
theorem dL_law_437 : decode cL_law 437 = .ok (.aload_n 0, 1) := by decide +kernel
theorem dL_law_438 : decode cL_law 438 = .ok (.iload_n 3, 1) := by decide +kernel
theorem dL_law_439 : decode cL_law 439 = .ok (.iconst 3, 1) := by decide +kernel
theorem dL_law_440 : decode cL_law 440 = .ok (.iadd, 1) := by decide +kernel
theorem dL_law_441 : decode cL_law 441 = .ok (.iaload, 1) := by decide +kernel
theorem dL_law_442 : decode cL_law 442 = .ok (.invokevirtual 41, 3) := by decide +kernel
theorem dL_law_445 : decode cL_law 445 = .ok (.aload_n 2, 1) := by decide +kernel
theorem dL_law_446 : decode cL_law 446 = .ok (.aload_n 0, 1) := by decide +kernel
theorem dL_law_447 : decode cL_law 447 = .ok (.iload_n 3, 1) := by decide +kernel
theorem dL_law_448 : decode cL_law 448 = .ok (.iconst 1, 1) := by decide +kernel
theorem dL_law_449 : decode cL_law 449 = .ok (.iadd, 1) := by decide +kernel
theorem dL_law_450 : decode cL_law 450 = .ok (.iaload, 1) := by decide +kernel
theorem dL_law_451 : decode cL_law 451 = .ok (.aload_n 0, 1) := by decide +kernel
theorem dL_law_452 : decode cL_law 452 = .ok (.iload_n 3, 1) := by decide +kernel
theorem dL_law_453 : decode cL_law 453 = .ok (.iconst 2, 1) := by decide +kernel
theorem dL_law_454 : decode cL_law 454 = .ok (.iadd, 1) := by decide +kernel
theorem dL_law_455 : decode cL_law 455 = .ok (.iaload, 1) := by decide +kernel
theorem dL_law_456 : decode cL_law 456 = .ok (.aload_n 0, 1) := by decide +kernel
theorem dL_law_457 : decode cL_law 457 = .ok (.iload_n 3, 1) := by decide +kernel
theorem dL_law_458 : decode cL_law 458 = .ok (.iconst 3, 1) := by decide +kernel
theorem dL_law_459 : decode cL_law 459 = .ok (.iadd, 1) := by decide +kernel
theorem dL_law_460 : decode cL_law 460 = .ok (.iaload, 1) := by decide +kernel
theorem dL_law_461 : decode cL_law 461 = .ok (.invokevirtual 44, 3) := by decide +kernel
theorem dL_law_464 : decode cL_law 464 = .ok (.if_icmp .eq 1067, 3) := by decide +kernel
theorem dL_law_467 : decode cL_law 467 = .ok (.iconst 0, 1) := by decide +kernel
theorem dL_law_468 : decode cL_law 468 = .ok (.ireturn, 1) := by decide +kernel
theorem dL_law_469 : decode cL_law 469 = .ok (.aload_n 1, 1) := by decide +kernel
theorem dL_law_470 : decode cL_law 470 = .ok (.aload_n 0, 1) := by decide +kernel
theorem dL_law_471 : decode cL_law 471 = .ok (.iload_n 3, 1) := by decide +kernel
theorem dL_law_472 : decode cL_law 472 = .ok (.iconst 1, 1) := by decide +kernel
theorem dL_law_473 : decode cL_law 473 = .ok (.iadd, 1) := by decide +kernel
theorem dL_law_474 : decode cL_law 474 = .ok (.iaload, 1) := by decide +kernel
theorem dL_law_475 : decode cL_law 475 = .ok (.aload_n 0, 1) := by decide +kernel
theorem dL_law_476 : decode cL_law 476 = .ok (.iload_n 3, 1) := by decide +kernel
theorem dL_law_477 : decode cL_law 477 = .ok (.iconst 2, 1) := by decide +kernel
theorem dL_law_478 : decode cL_law 478 = .ok (.iadd, 1) := by decide +kernel
theorem dL_law_479 : decode cL_law 479 = .ok (.iaload, 1) := by decide +kernel
theorem dL_law_480 : decode cL_law 480 = .ok (.invokevirtual 45, 3) := by decide +kernel
theorem dL_law_483 : decode cL_law 483 = .ok (.aload_n 2, 1) := by decide +kernel
theorem dL_law_484 : decode cL_law 484 = .ok (.aload_n 0, 1) := by decide +kernel
theorem dL_law_485 : decode cL_law 485 = .ok (.iload_n 3, 1) := by decide +kernel
theorem dL_law_486 : decode cL_law 486 = .ok (.iconst 1, 1) := by decide +kernel
theorem dL_law_487 : decode cL_law 487 = .ok (.iadd, 1) := by decide +kernel
theorem dL_law_488 : decode cL_law 488 = .ok (.iaload, 1) := by decide +kernel
theorem dL_law_489 : decode cL_law 489 = .ok (.aload_n 0, 1) := by decide +kernel
theorem dL_law_490 : decode cL_law 490 = .ok (.iload_n 3, 1) := by decide +kernel
theorem dL_law_491 : decode cL_law 491 = .ok (.iconst 2, 1) := by decide +kernel
theorem dL_law_492 : decode cL_law 492 = .ok (.iadd, 1) := by decide +kernel
theorem dL_law_493 : decode cL_law 493 = .ok (.iaload, 1) := by decide +kernel
theorem dL_law_494 : decode cL_law 494 = .ok (.invokevirtual 48, 3) := by decide +kernel
theorem dL_law_497 : decode cL_law 497 = .ok (.if_icmp .eq 1034, 3) := by decide +kernel
theorem dL_law_500 : decode cL_law 500 = .ok (.iconst 0, 1) := by decide +kernel
theorem dL_law_501 : decode cL_law 501 = .ok (.ireturn, 1) := by decide +kernel
theorem dL_law_502 : decode cL_law 502 = .ok (.aload_n 1, 1) := by decide +kernel
theorem dL_law_503 : decode cL_law 503 = .ok (.aload_n 0, 1) := by decide +kernel
theorem dL_law_504 : decode cL_law 504 = .ok (.iload_n 3, 1) := by decide +kernel
theorem dL_law_505 : decode cL_law 505 = .ok (.iconst 1, 1) := by decide +kernel
theorem dL_law_506 : decode cL_law 506 = .ok (.iadd, 1) := by decide +kernel
theorem dL_law_507 : decode cL_law 507 = .ok (.iaload, 1) := by decide +kernel
theorem dL_law_508 : decode cL_law 508 = .ok (.aload_n 0, 1) := by decide +kernel
theorem dL_law_509 : decode cL_law 509 = .ok (.iload_n 3, 1) := by decide +kernel
theorem dL_law_510 : decode cL_law 510 = .ok (.iconst 2, 1) := by decide +kernel
theorem dL_law_511 : decode cL_law 511 = .ok (.iadd, 1) := by decide +kernel
theorem dL_law_512 : decode cL_law 512 = .ok (.iaload, 1) := by decide +kernel
theorem dL_law_513 : decode cL_law 513 = .ok (.invokevirtual 49, 3) := by decide +kernel
theorem dL_law_516 : decode cL_law 516 = .ok (.aload_n 2, 1) := by decide +kernel
theorem dL_law_517 : decode cL_law 517 = .ok (.aload_n 0, 1) := by decide +kernel
theorem dL_law_518 : decode cL_law 518 = .ok (.iload_n 3, 1) := by decide +kernel
theorem dL_law_519 : decode cL_law 519 = .ok (.iconst 1, 1) := by decide +kernel
theorem dL_law_520 : decode cL_law 520 = .ok (.iadd, 1) := by decide +kernel
theorem dL_law_521 : decode cL_law 521 = .ok (.iaload, 1) := by decide +kernel
theorem dL_law_522 : decode cL_law 522 = .ok (.aload_n 0, 1) := by decide +kernel
theorem dL_law_523 : decode cL_law 523 = .ok (.iload_n 3, 1) := by decide +kernel
theorem dL_law_524 : decode cL_law 524 = .ok (.iconst 2, 1) := by decide +kernel
theorem dL_law_525 : decode cL_law 525 = .ok (.iadd, 1) := by decide +kernel
theorem dL_law_526 : decode cL_law 526 = .ok (.iaload, 1) := by decide +kernel
theorem dL_law_527 : decode cL_law 527 = .ok (.invokevirtual 52, 3) := by decide +kernel
theorem dL_law_530 : decode cL_law 530 = .ok (.if_icmp .eq 1001, 3) := by decide +kernel
theorem dL_law_533 : decode cL_law 533 = .ok (.iconst 0, 1) := by decide +kernel
theorem dL_law_534 : decode cL_law 534 = .ok (.ireturn, 1) := by decide +kernel
theorem dL_law_535 : decode cL_law 535 = .ok (.aload_n 1, 1) := by decide +kernel
theorem dL_law_536 : decode cL_law 536 = .ok (.aload_n 0, 1) := by decide +kernel
theorem dL_law_537 : decode cL_law 537 = .ok (.iload_n 3, 1) := by decide +kernel
theorem dL_law_538 : decode cL_law 538 = .ok (.iconst 1, 1) := by decide +kernel
theorem dL_law_539 : decode cL_law 539 = .ok (.iadd, 1) := by decide +kernel
theorem dL_law_540 : decode cL_law 540 = .ok (.iaload, 1) := by decide +kernel
theorem dL_law_541 : decode cL_law 541 = .ok (.invokevirtual 53, 3) := by decide +kernel
theorem dL_law_544 : decode cL_law 544 = .ok (.aload_n 2, 1) := by decide +kernel
theorem dL_law_545 : decode cL_law 545 = .ok (.aload_n 0, 1) := by decide +kernel
theorem dL_law_546 : decode cL_law 546 = .ok (.iload_n 3, 1) := by decide +kernel
theorem dL_law_547 : decode cL_law 547 = .ok (.iconst 1, 1) := by decide +kernel
theorem dL_law_548 : decode cL_law 548 = .ok (.iadd, 1) := by decide +kernel
theorem dL_law_549 : decode cL_law 549 = .ok (.iaload, 1) := by decide +kernel
theorem dL_law_550 : decode cL_law 550 = .ok (.invokevirtual 56, 3) := by decide +kernel
theorem dL_law_553 : decode cL_law 553 = .ok (.if_icmp .eq 978, 3) := by decide +kernel
theorem dL_law_556 : decode cL_law 556 = .ok (.iconst 0, 1) := by decide +kernel
theorem dL_law_557 : decode cL_law 557 = .ok (.ireturn, 1) := by decide +kernel
theorem dL_law_558 : decode cL_law 558 = .ok (.aload_n 1, 1) := by decide +kernel
theorem dL_law_559 : decode cL_law 559 = .ok (.aload_n 0, 1) := by decide +kernel
theorem dL_law_560 : decode cL_law 560 = .ok (.iload_n 3, 1) := by decide +kernel
theorem dL_law_561 : decode cL_law 561 = .ok (.iconst 1, 1) := by decide +kernel
theorem dL_law_562 : decode cL_law 562 = .ok (.iadd, 1) := by decide +kernel
theorem dL_law_563 : decode cL_law 563 = .ok (.iaload, 1) := by decide +kernel
theorem dL_law_564 : decode cL_law 564 = .ok (.aload_n 0, 1) := by decide +kernel
theorem dL_law_565 : decode cL_law 565 = .ok (.iload_n 3, 1) := by decide +kernel
theorem dL_law_566 : decode cL_law 566 = .ok (.iconst 2, 1) := by decide +kernel
theorem dL_law_567 : decode cL_law 567 = .ok (.iadd, 1) := by decide +kernel
theorem dL_law_568 : decode cL_law 568 = .ok (.iaload, 1) := by decide +kernel
theorem dL_law_569 : decode cL_law 569 = .ok (.aload_n 0, 1) := by decide +kernel
theorem dL_law_570 : decode cL_law 570 = .ok (.iload_n 3, 1) := by decide +kernel
theorem dL_law_571 : decode cL_law 571 = .ok (.iconst 3, 1) := by decide +kernel
theorem dL_law_572 : decode cL_law 572 = .ok (.iadd, 1) := by decide +kernel
theorem dL_law_573 : decode cL_law 573 = .ok (.iaload, 1) := by decide +kernel
theorem dL_law_574 : decode cL_law 574 = .ok (.aload_n 0, 1) := by decide +kernel
theorem dL_law_575 : decode cL_law 575 = .ok (.iload_n 3, 1) := by decide +kernel
theorem dL_law_576 : decode cL_law 576 = .ok (.iconst 4, 1) := by decide +kernel
theorem dL_law_577 : decode cL_law 577 = .ok (.iadd, 1) := by decide +kernel
theorem dL_law_578 : decode cL_law 578 = .ok (.iaload, 1) := by decide +kernel
theorem dL_law_579 : decode cL_law 579 = .ok (.invokevirtual 57, 3) := by decide +kernel
theorem dL_law_582 : decode cL_law 582 = .ok (.aload_n 2, 1) := by decide +kernel
theorem dL_law_583 : decode cL_law 583 = .ok (.aload_n 0, 1) := by decide +kernel
theorem dL_law_584 : decode cL_law 584 = .ok (.iload_n 3, 1) := by decide +kernel
theorem dL_law_585 : decode cL_law 585 = .ok (.iconst 1, 1) := by decide +kernel
theorem dL_law_586 : decode cL_law 586 = .ok (.iadd, 1) := by decide +kernel
theorem dL_law_587 : decode cL_law 587 = .ok (.iaload, 1) := by decide +kernel
theorem dL_law_588 : decode cL_law 588 = .ok (.aload_n 0, 1) := by decide +kernel
theorem dL_law_589 : decode cL_law 589 = .ok (.iload_n 3, 1) := by decide +kernel
theorem dL_law_590 : decode cL_law 590 = .ok (.iconst 2, 1) := by decide +kernel
theorem dL_law_591 : decode cL_law 591 = .ok (.iadd, 1) := by decide +kernel
theorem dL_law_592 : decode cL_law 592 = .ok (.iaload, 1) := by decide +kernel
theorem dL_law_593 : decode cL_law 593 = .ok (.aload_n 0, 1) := by decide +kernel
theorem dL_law_594 : decode cL_law 594 = .ok (.iload_n 3, 1) := by decide +kernel
theorem dL_law_595 : decode cL_law 595 = .ok (.iconst 3, 1) := by decide +kernel
theorem dL_law_596 : decode cL_law 596 = .ok (.iadd, 1) := by decide +kernel
theorem dL_law_597 : decode cL_law 597 = .ok (.iaload, 1) := by decide +kernel
theorem dL_law_598 : decode cL_law 598 = .ok (.aload_n 0, 1) := by decide +kernel
theorem dL_law_599 : decode cL_law 599 = .ok (.iload_n 3, 1) := by decide +kernel
theorem dL_law_600 : decode cL_law 600 = .ok (.iconst 4, 1) := by decide +kernel
theorem dL_law_601 : decode cL_law 601 = .ok (.iadd, 1) := by decide +kernel
theorem dL_law_602 : decode cL_law 602 = .ok (.iaload, 1) := by decide +kernel
theorem dL_law_603 : decode cL_law 603 = .ok (.invokevirtual 61, 3) := by decide +kernel
theorem dL_law_606 : decode cL_law 606 = .ok (.if_icmp .eq 925, 3) := by decide +kernel
theorem dL_law_609 : decode cL_law 609 = .ok (.iconst 0, 1) := by decide +kernel
theorem dL_law_610 : decode cL_law 610 = .ok (.ireturn, 1) := by decide +kernel
theorem dL_law_611 : decode cL_law 611 = .ok (.aload_n 1, 1) := by decide +kernel
theorem dL_law_612 : decode cL_law 612 = .ok (.aload_n 0, 1) := by decide +kernel
theorem dL_law_613 : decode cL_law 613 = .ok (.iload_n 3, 1) := by decide +kernel
theorem dL_law_614 : decode cL_law 614 = .ok (.iconst 1, 1) := by decide +kernel
theorem dL_law_615 : decode cL_law 615 = .ok (.iadd, 1) := by decide +kernel
theorem dL_law_616 : decode cL_law 616 = .ok (.iaload, 1) := by decide +kernel
theorem dL_law_617 : decode cL_law 617 = .ok (.aload_n 0, 1) := by decide +kernel
theorem dL_law_618 : decode cL_law 618 = .ok (.iload_n 3, 1) := by decide +kernel
theorem dL_law_619 : decode cL_law 619 = .ok (.iconst 2, 1) := by decide +kernel
theorem dL_law_620 : decode cL_law 620 = .ok (.iadd, 1) := by decide +kernel
theorem dL_law_621 : decode cL_law 621 = .ok (.iaload, 1) := by decide +kernel
theorem dL_law_622 : decode cL_law 622 = .ok (.aload_n 0, 1) := by decide +kernel
theorem dL_law_623 : decode cL_law 623 = .ok (.iload_n 3, 1) := by decide +kernel
theorem dL_law_624 : decode cL_law 624 = .ok (.iconst 3, 1) := by decide +kernel
theorem dL_law_625 : decode cL_law 625 = .ok (.iadd, 1) := by decide +kernel
theorem dL_law_626 : decode cL_law 626 = .ok (.iaload, 1) := by decide +kernel
theorem dL_law_627 : decode cL_law 627 = .ok (.invokevirtual 62, 3) := by decide +kernel
theorem dL_law_630 : decode cL_law 630 = .ok (.aload_n 2, 1) := by decide +kernel
theorem dL_law_631 : decode cL_law 631 = .ok (.aload_n 0, 1) := by decide +kernel
theorem dL_law_632 : decode cL_law 632 = .ok (.iload_n 3, 1) := by decide +kernel
theorem dL_law_633 : decode cL_law 633 = .ok (.iconst 1, 1) := by decide +kernel
theorem dL_law_634 : decode cL_law 634 = .ok (.iadd, 1) := by decide +kernel
theorem dL_law_635 : decode cL_law 635 = .ok (.iaload, 1) := by decide +kernel
theorem dL_law_636 : decode cL_law 636 = .ok (.aload_n 0, 1) := by decide +kernel
theorem dL_law_637 : decode cL_law 637 = .ok (.iload_n 3, 1) := by decide +kernel
theorem dL_law_638 : decode cL_law 638 = .ok (.iconst 2, 1) := by decide +kernel
theorem dL_law_639 : decode cL_law 639 = .ok (.iadd, 1) := by decide +kernel
theorem dL_law_640 : decode cL_law 640 = .ok (.iaload, 1) := by decide +kernel
theorem dL_law_641 : decode cL_law 641 = .ok (.aload_n 0, 1) := by decide +kernel
theorem dL_law_642 : decode cL_law 642 = .ok (.iload_n 3, 1) := by decide +kernel
theorem dL_law_643 : decode cL_law 643 = .ok (.iconst 3, 1) := by decide +kernel
theorem dL_law_644 : decode cL_law 644 = .ok (.iadd, 1) := by decide +kernel
theorem dL_law_645 : decode cL_law 645 = .ok (.iaload, 1) := by decide +kernel
theorem dL_law_646 : decode cL_law 646 = .ok (.invokevirtual 65, 3) := by decide +kernel
theorem dL_law_649 : decode cL_law 649 = .ok (.if_icmp .eq 882, 3) := by decide +kernel
theorem dL_law_652 : decode cL_law 652 = .ok (.iconst 0, 1) := by decide +kernel
theorem dL_law_653 : decode cL_law 653 = .ok (.ireturn, 1) := by decide +kernel
theorem dL_law_654 : decode cL_law 654 = .ok (.aload_n 1, 1) := by decide +kernel
theorem dL_law_655 : decode cL_law 655 = .ok (.aload_n 0, 1) := by decide +kernel
theorem dL_law_656 : decode cL_law 656 = .ok (.iload_n 3, 1) := by decide +kernel
theorem dL_law_657 : decode cL_law 657 = .ok (.iconst 1, 1) := by decide +kernel
theorem dL_law_658 : decode cL_law 658 = .ok (.iadd, 1) := by decide +kernel
theorem dL_law_659 : decode cL_law 659 = .ok (.iaload, 1) := by decide +kernel
theorem dL_law_660 : decode cL_law 660 = .ok (.aload_n 0, 1) := by decide +kernel
theorem dL_law_661 : decode cL_law 661 = .ok (.iload_n 3, 1) := by decide +kernel
theorem dL_law_662 : decode cL_law 662 = .ok (.iconst 2, 1) := by decide +kernel
theorem dL_law_663 : decode cL_law 663 = .ok (.iadd, 1) := by decide +kernel
theorem dL_law_664 : decode cL_law 664 = .ok (.iaload, 1) := by decide +kernel
theorem dL_law_665 : decode cL_law 665 = .ok (.invokevirtual 66, 3) := by decide +kernel
theorem dL_law_668 : decode cL_law 668 = .ok (.aload_n 2, 1) := by decide +kernel
theorem dL_law_669 : decode cL_law 669 = .ok (.aload_n 0, 1) := by decide +kernel
theorem dL_law_670 : decode cL_law 670 = .ok (.iload_n 3, 1) := by decide +kernel
theorem dL_law_671 : decode cL_law 671 = .ok (.iconst 1, 1) := by decide +kernel
theorem dL_law_672 : decode cL_law 672 = .ok (.iadd, 1) := by decide +kernel
theorem dL_law_673 : decode cL_law 673 = .ok (.iaload, 1) := by decide +kernel
theorem dL_law_674 : decode cL_law 674 = .ok (.aload_n 0, 1) := by decide +kernel
theorem dL_law_675 : decode cL_law 675 = .ok (.iload_n 3, 1) := by decide +kernel
theorem dL_law_676 : decode cL_law 676 = .ok (.iconst 2, 1) := by decide +kernel
theorem dL_law_677 : decode cL_law 677 = .ok (.iadd, 1) := by decide +kernel
theorem dL_law_678 : decode cL_law 678 = .ok (.iaload, 1) := by decide +kernel
theorem dL_law_679 : decode cL_law 679 = .ok (.invokevirtual 69, 3) := by decide +kernel
theorem dL_law_682 : decode cL_law 682 = .ok (.if_icmp .eq 849, 3) := by decide +kernel
theorem dL_law_685 : decode cL_law 685 = .ok (.iconst 0, 1) := by decide +kernel
theorem dL_law_686 : decode cL_law 686 = .ok (.ireturn, 1) := by decide +kernel
theorem dL_law_687 : decode cL_law 687 = .ok (.aload_n 1, 1) := by decide +kernel
theorem dL_law_688 : decode cL_law 688 = .ok (.aload_n 0, 1) := by decide +kernel
theorem dL_law_689 : decode cL_law 689 = .ok (.iload_n 3, 1) := by decide +kernel
theorem dL_law_690 : decode cL_law 690 = .ok (.iconst 1, 1) := by decide +kernel
theorem dL_law_691 : decode cL_law 691 = .ok (.iadd, 1) := by decide +kernel
theorem dL_law_692 : decode cL_law 692 = .ok (.iaload, 1) := by decide +kernel
theorem dL_law_693 : decode cL_law 693 = .ok (.aload_n 0, 1) := by decide +kernel
theorem dL_law_694 : decode cL_law 694 = .ok (.iload_n 3, 1) := by decide +kernel
theorem dL_law_695 : decode cL_law 695 = .ok (.iconst 2, 1) := by decide +kernel
theorem dL_law_696 : decode cL_law 696 = .ok (.iadd, 1) := by decide +kernel
theorem dL_law_697 : decode cL_law 697 = .ok (.iaload, 1) := by decide +kernel
theorem dL_law_698 : decode cL_law 698 = .ok (.invokevirtual 70, 3) := by decide +kernel
theorem dL_law_701 : decode cL_law 701 = .ok (.aload_n 2, 1) := by decide +kernel
theorem dL_law_702 : decode cL_law 702 = .ok (.aload_n 0, 1) := by decide +kernel
theorem dL_law_703 : decode cL_law 703 = .ok (.iload_n 3, 1) := by decide +kernel
theorem dL_law_704 : decode cL_law 704 = .ok (.iconst 1, 1) := by decide +kernel
theorem dL_law_705 : decode cL_law 705 = .ok (.iadd, 1) := by decide +kernel
theorem dL_law_706 : decode cL_law 706 = .ok (.iaload, 1) := by decide +kernel
theorem dL_law_707 : decode cL_law 707 = .ok (.aload_n 0, 1) := by decide +kernel
theorem dL_law_708 : decode cL_law 708 = .ok (.iload_n 3, 1) := by decide +kernel
theorem dL_law_709 : decode cL_law 709 = .ok (.iconst 2, 1) := by decide +kernel
theorem dL_law_710 : decode cL_law 710 = .ok (.iadd, 1) := by decide +kernel
theorem dL_law_711 : decode cL_law 711 = .ok (.iaload, 1) := by decide +kernel
theorem dL_law_712 : decode cL_law 712 = .ok (.invokevirtual 73, 3) := by decide +kernel
theorem dL_law_715 : decode cL_law 715 = .ok (.if_icmp .eq 816, 3) := by decide +kernel
theorem dL_law_718 : decode cL_law 718 = .ok (.iconst 0, 1) := by decide +kernel
theorem dL_law_719 : decode cL_law 719 = .ok (.ireturn, 1) := by decide +kernel
theorem dL_law_720 : decode cL_law 720 = .ok (.aload_n 1, 1) := by decide +kernel
theorem dL_law_721 : decode cL_law 721 = .ok (.aload_n 0, 1) := by decide +kernel
theorem dL_law_722 : decode cL_law 722 = .ok (.iload_n 3, 1) := by decide +kernel
theorem dL_law_723 : decode cL_law 723 = .ok (.iconst 1, 1) := by decide +kernel
theorem dL_law_724 : decode cL_law 724 = .ok (.iadd, 1) := by decide +kernel
theorem dL_law_725 : decode cL_law 725 = .ok (.iaload, 1) := by decide +kernel
theorem dL_law_726 : decode cL_law 726 = .ok (.aload_n 0, 1) := by decide +kernel
theorem dL_law_727 : decode cL_law 727 = .ok (.iload_n 3, 1) := by decide +kernel
theorem dL_law_728 : decode cL_law 728 = .ok (.iconst 2, 1) := by decide +kernel
theorem dL_law_729 : decode cL_law 729 = .ok (.iadd, 1) := by decide +kernel
theorem dL_law_730 : decode cL_law 730 = .ok (.iaload, 1) := by decide +kernel
theorem dL_law_731 : decode cL_law 731 = .ok (.invokevirtual 74, 3) := by decide +kernel
theorem dL_law_734 : decode cL_law 734 = .ok (.aload_n 2, 1) := by decide +kernel
theorem dL_law_735 : decode cL_law 735 = .ok (.aload_n 0, 1) := by decide +kernel
theorem dL_law_736 : decode cL_law 736 = .ok (.iload_n 3, 1) := by decide +kernel
theorem dL_law_737 : decode cL_law 737 = .ok (.iconst 1, 1) := by decide +kernel
theorem dL_law_738 : decode cL_law 738 = .ok (.iadd, 1) := by decide +kernel
theorem dL_law_739 : decode cL_law 739 = .ok (.iaload, 1) := by decide +kernel
theorem dL_law_740 : decode cL_law 740 = .ok (.aload_n 0, 1) := by decide +kernel
theorem dL_law_741 : decode cL_law 741 = .ok (.iload_n 3, 1) := by decide +kernel
theorem dL_law_742 : decode cL_law 742 = .ok (.iconst 2, 1) := by decide +kernel
theorem dL_law_743 : decode cL_law 743 = .ok (.iadd, 1) := by decide +kernel
theorem dL_law_744 : decode cL_law 744 = .ok (.iaload, 1) := by decide +kernel
theorem dL_law_745 : decode cL_law 745 = .ok (.invokevirtual 77, 3) := by decide +kernel
theorem dL_law_748 : decode cL_law 748 = .ok (.if_icmp .eq 783, 3) := by decide +kernel
theorem dL_law_751 : decode cL_law 751 = .ok (.iconst 0, 1) := by decide +kernel
theorem dL_law_752 : decode cL_law 752 = .ok (.ireturn, 1) := by decide +kernel
theorem dL_law_753 : decode cL_law 753 = .ok (.aload_n 1, 1) := by decide +kernel
theorem dL_law_754 : decode cL_law 754 = .ok (.aload_n 0, 1) := by decide +kernel
theorem dL_law_755 : decode cL_law 755 = .ok (.iload_n 3, 1) := by decide +kernel
theorem dL_law_756 : decode cL_law 756 = .ok (.iconst 1, 1) := by decide +kernel
theorem dL_law_757 : decode cL_law 757 = .ok (.iadd, 1) := by decide +kernel
theorem dL_law_758 : decode cL_law 758 = .ok (.iaload, 1) := by decide +kernel
theorem dL_law_759 : decode cL_law 759 = .ok (.aload_n 0, 1) := by decide +kernel
theorem dL_law_760 : decode cL_law 760 = .ok (.iload_n 3, 1) := by decide +kernel
theorem dL_law_761 : decode cL_law 761 = .ok (.iconst 2, 1) := by decide +kernel
theorem dL_law_762 : decode cL_law 762 = .ok (.iadd, 1) := by decide +kernel
theorem dL_law_763 : decode cL_law 763 = .ok (.iaload, 1) := by decide +kernel
theorem dL_law_764 : decode cL_law 764 = .ok (.aload_n 0, 1) := by decide +kernel
theorem dL_law_765 : decode cL_law 765 = .ok (.iload_n 3, 1) := by decide +kernel
theorem dL_law_766 : decode cL_law 766 = .ok (.iconst 3, 1) := by decide +kernel
theorem dL_law_767 : decode cL_law 767 = .ok (.iadd, 1) := by decide +kernel
theorem dL_law_768 : decode cL_law 768 = .ok (.iaload, 1) := by decide +kernel
theorem dL_law_769 : decode cL_law 769 = .ok (.invokevirtual 78, 3) := by decide +kernel
theorem dL_law_772 : decode cL_law 772 = .ok (.aload_n 2, 1) := by decide +kernel
theorem dL_law_773 : decode cL_law 773 = .ok (.aload_n 0, 1) := by decide +kernel
theorem dL_law_774 : decode cL_law 774 = .ok (.iload_n 3, 1) := by decide +kernel
theorem dL_law_775 : decode cL_law 775 = .ok (.iconst 1, 1) := by decide +kernel
theorem dL_law_776 : decode cL_law 776 = .ok (.iadd, 1) := by decide +kernel
theorem dL_law_777 : decode cL_law 777 = .ok (.iaload, 1) := by decide +kernel
theorem dL_law_778 : decode cL_law 778 = .ok (.aload_n 0, 1) := by decide +kernel
theorem dL_law_779 : decode cL_law 779 = .ok (.iload_n 3, 1) := by decide +kernel
theorem dL_law_780 : decode cL_law 780 = .ok (.iconst 2, 1) := by decide +kernel
theorem dL_law_781 : decode cL_law 781 = .ok (.iadd, 1) := by decide +kernel
theorem dL_law_782 : decode cL_law 782 = .ok (.iaload, 1) := by decide +kernel
theorem dL_law_783 : decode cL_law 783 = .ok (.aload_n 0, 1) := by decide +kernel
theorem dL_law_784 : decode cL_law 784 = .ok (.iload_n 3, 1) := by decide +kernel
theorem dL_law_785 : decode cL_law 785 = .ok (.iconst 3, 1) := by decide +kernel
theorem dL_law_786 : decode cL_law 786 = .ok (.iadd, 1) := by decide +kernel
theorem dL_law_787 : decode cL_law 787 = .ok (.iaload, 1) := by decide +kernel
theorem dL_law_788 : decode cL_law 788 = .ok (.invokevirtual 81, 3) := by decide +kernel
theorem dL_law_791 : decode cL_law 791 = .ok (.if_icmp .eq 740, 3) := by decide +kernel
theorem dL_law_794 : decode cL_law 794 = .ok (.iconst 0, 1) := by decide +kernel
theorem dL_law_795 : decode cL_law 795 = .ok (.ireturn, 1) := by decide +kernel
theorem dL_law_796 : decode cL_law 796 = .ok (.aload_n 1, 1) := by decide +kernel
theorem dL_law_797 : decode cL_law 797 = .ok (.aload_n 0, 1) := by decide +kernel
theorem dL_law_798 : decode cL_law 798 = .ok (.iload_n 3, 1) := by decide +kernel
theorem dL_law_799 : decode cL_law 799 = .ok (.iconst 1, 1) := by decide +kernel
theorem dL_law_800 : decode cL_law 800 = .ok (.iadd, 1) := by decide +kernel
theorem dL_law_801 : decode cL_law 801 = .ok (.iaload, 1) := by decide +kernel
theorem dL_law_802 : decode cL_law 802 = .ok (.aload_n 0, 1) := by decide +kernel
theorem dL_law_803 : decode cL_law 803 = .ok (.iload_n 3, 1) := by decide +kernel
theorem dL_law_804 : decode cL_law 804 = .ok (.iconst 2, 1) := by decide +kernel
theorem dL_law_805 : decode cL_law 805 = .ok (.iadd, 1) := by decide +kernel
theorem dL_law_806 : decode cL_law 806 = .ok (.iaload, 1) := by decide +kernel
theorem dL_law_807 : decode cL_law 807 = .ok (.aload_n 0, 1) := by decide +kernel
theorem dL_law_808 : decode cL_law 808 = .ok (.iload_n 3, 1) := by decide +kernel
theorem dL_law_809 : decode cL_law 809 = .ok (.iconst 3, 1) := by decide +kernel
theorem dL_law_810 : decode cL_law 810 = .ok (.iadd, 1) := by decide +kernel
theorem dL_law_811 : decode cL_law 811 = .ok (.iaload, 1) := by decide +kernel
theorem dL_law_812 : decode cL_law 812 = .ok (.invokevirtual 82, 3) := by decide +kernel
theorem dL_law_815 : decode cL_law 815 = .ok (.aload_n 2, 1) := by decide +kernel
theorem dL_law_816 : decode cL_law 816 = .ok (.aload_n 0, 1) := by decide +kernel
theorem dL_law_817 : decode cL_law 817 = .ok (.iload_n 3, 1) := by decide +kernel
theorem dL_law_818 : decode cL_law 818 = .ok (.iconst 1, 1) := by decide +kernel
theorem dL_law_819 : decode cL_law 819 = .ok (.iadd, 1) := by decide +kernel
theorem dL_law_820 : decode cL_law 820 = .ok (.iaload, 1) := by decide +kernel
theorem dL_law_821 : decode cL_law 821 = .ok (.aload_n 0, 1) := by decide +kernel
theorem dL_law_822 : decode cL_law 822 = .ok (.iload_n 3, 1) := by decide +kernel
theorem dL_law_823 : decode cL_law 823 = .ok (.iconst 2, 1) := by decide +kernel
theorem dL_law_824 : decode cL_law 824 = .ok (.iadd, 1) := by decide +kernel
theorem dL_law_825 : decode cL_law 825 = .ok (.iaload, 1) := by decide +kernel
theorem dL_law_826 : decode cL_law 826 = .ok (.aload_n 0, 1) := by decide +kernel
theorem dL_law_827 : decode cL_law 827 = .ok (.iload_n 3, 1) := by decide +kernel
theorem dL_law_828 : decode cL_law 828 = .ok (.iconst 3, 1) := by decide +kernel
theorem dL_law_829 : decode cL_law 829 = .ok (.iadd, 1) := by decide +kernel
theorem dL_law_830 : decode cL_law 830 = .ok (.iaload, 1) := by decide +kernel
theorem dL_law_831 : decode cL_law 831 = .ok (.invokevirtual 85, 3) := by decide +kernel
theorem dL_law_834 : decode cL_law 834 = .ok (.if_icmp .eq 697, 3) := by decide +kernel
theorem dL_law_837 : decode cL_law 837 = .ok (.iconst 0, 1) := by decide +kernel
theorem dL_law_838 : decode cL_law 838 = .ok (.ireturn, 1) := by decide +kernel
theorem dL_law_839 : decode cL_law 839 = .ok (.aload_n 1, 1) := by decide +kernel
theorem dL_law_840 : decode cL_law 840 = .ok (.aload_n 0, 1) := by decide +kernel
theorem dL_law_841 : decode cL_law 841 = .ok (.iload_n 3, 1) := by decide +kernel
theorem dL_law_842 : decode cL_law 842 = .ok (.iconst 1, 1) := by decide +kernel
theorem dL_law_843 : decode cL_law 843 = .ok (.iadd, 1) := by decide +kernel
theorem dL_law_844 : decode cL_law 844 = .ok (.iaload, 1) := by decide +kernel
theorem dL_law_845 : decode cL_law 845 = .ok (.invokevirtual 86, 3) := by decide +kernel
theorem dL_law_848 : decode cL_law 848 = .ok (.aload_n 2, 1) := by decide +kernel
theorem dL_law_849 : decode cL_law 849 = .ok (.aload_n 0, 1) := by decide +kernel
theorem dL_law_850 : decode cL_law 850 = .ok (.iload_n 3, 1) := by decide +kernel
theorem dL_law_851 : decode cL_law 851 = .ok (.iconst 1, 1) := by decide +kernel
theorem dL_law_852 : decode cL_law 852 = .ok (.iadd, 1) := by decide +kernel
theorem dL_law_853 : decode cL_law 853 = .ok (.iaload, 1) := by decide +kernel
theorem dL_law_854 : decode cL_law 854 = .ok (.invokevirtual 89, 3) := by decide +kernel
theorem dL_law_857 : decode cL_law 857 = .ok (.if_icmp .eq 674, 3) := by decide +kernel
theorem dL_law_860 : decode cL_law 860 = .ok (.iconst 0, 1) := by decide +kernel
theorem dL_law_861 : decode cL_law 861 = .ok (.ireturn, 1) := by decide +kernel
theorem dL_law_862 : decode cL_law 862 = .ok (.aload_n 1, 1) := by decide +kernel
theorem dL_law_863 : decode cL_law 863 = .ok (.aload_n 0, 1) := by decide +kernel
theorem dL_law_864 : decode cL_law 864 = .ok (.iload_n 3, 1) := by decide +kernel
theorem dL_law_865 : decode cL_law 865 = .ok (.iconst 1, 1) := by decide +kernel
theorem dL_law_866 : decode cL_law 866 = .ok (.iadd, 1) := by decide +kernel
theorem dL_law_867 : decode cL_law 867 = .ok (.iaload, 1) := by decide +kernel
theorem dL_law_868 : decode cL_law 868 = .ok (.aload_n 0, 1) := by decide +kernel
theorem dL_law_869 : decode cL_law 869 = .ok (.iload_n 3, 1) := by decide +kernel
theorem dL_law_870 : decode cL_law 870 = .ok (.iconst 2, 1) := by decide +kernel
theorem dL_law_871 : decode cL_law 871 = .ok (.iadd, 1) := by decide +kernel
theorem dL_law_872 : decode cL_law 872 = .ok (.iaload, 1) := by decide +kernel
theorem dL_law_873 : decode cL_law 873 = .ok (.invokevirtual 90, 3) := by decide +kernel
theorem dL_law_876 : decode cL_law 876 = .ok (.aload_n 2, 1) := by decide +kernel
theorem dL_law_877 : decode cL_law 877 = .ok (.aload_n 0, 1) := by decide +kernel
theorem dL_law_878 : decode cL_law 878 = .ok (.iload_n 3, 1) := by decide +kernel
theorem dL_law_879 : decode cL_law 879 = .ok (.iconst 1, 1) := by decide +kernel
theorem dL_law_880 : decode cL_law 880 = .ok (.iadd, 1) := by decide +kernel
theorem dL_law_881 : decode cL_law 881 = .ok (.iaload, 1) := by decide +kernel
theorem dL_law_882 : decode cL_law 882 = .ok (.aload_n 0, 1) := by decide +kernel
theorem dL_law_883 : decode cL_law 883 = .ok (.iload_n 3, 1) := by decide +kernel
theorem dL_law_884 : decode cL_law 884 = .ok (.iconst 2, 1) := by decide +kernel
theorem dL_law_885 : decode cL_law 885 = .ok (.iadd, 1) := by decide +kernel
theorem dL_law_886 : decode cL_law 886 = .ok (.iaload, 1) := by decide +kernel
theorem dL_law_887 : decode cL_law 887 = .ok (.invokevirtual 93, 3) := by decide +kernel
theorem dL_law_890 : decode cL_law 890 = .ok (.if_icmp .eq 641, 3) := by decide +kernel
theorem dL_law_893 : decode cL_law 893 = .ok (.iconst 0, 1) := by decide +kernel
theorem dL_law_894 : decode cL_law 894 = .ok (.ireturn, 1) := by decide +kernel
theorem dL_law_895 : decode cL_law 895 = .ok (.aload_n 1, 1) := by decide +kernel
theorem dL_law_896 : decode cL_law 896 = .ok (.aload_n 0, 1) := by decide +kernel
theorem dL_law_897 : decode cL_law 897 = .ok (.iload_n 3, 1) := by decide +kernel
theorem dL_law_898 : decode cL_law 898 = .ok (.iconst 1, 1) := by decide +kernel
theorem dL_law_899 : decode cL_law 899 = .ok (.iadd, 1) := by decide +kernel
theorem dL_law_900 : decode cL_law 900 = .ok (.iaload, 1) := by decide +kernel
theorem dL_law_901 : decode cL_law 901 = .ok (.aload_n 0, 1) := by decide +kernel
theorem dL_law_902 : decode cL_law 902 = .ok (.iload_n 3, 1) := by decide +kernel
theorem dL_law_903 : decode cL_law 903 = .ok (.iconst 2, 1) := by decide +kernel
theorem dL_law_904 : decode cL_law 904 = .ok (.iadd, 1) := by decide +kernel
theorem dL_law_905 : decode cL_law 905 = .ok (.iaload, 1) := by decide +kernel
theorem dL_law_906 : decode cL_law 906 = .ok (.invokevirtual 94, 3) := by decide +kernel
theorem dL_law_909 : decode cL_law 909 = .ok (.aload_n 2, 1) := by decide +kernel
theorem dL_law_910 : decode cL_law 910 = .ok (.aload_n 0, 1) := by decide +kernel
theorem dL_law_911 : decode cL_law 911 = .ok (.iload_n 3, 1) := by decide +kernel
theorem dL_law_912 : decode cL_law 912 = .ok (.iconst 1, 1) := by decide +kernel
theorem dL_law_913 : decode cL_law 913 = .ok (.iadd, 1) := by decide +kernel
theorem dL_law_914 : decode cL_law 914 = .ok (.iaload, 1) := by decide +kernel
theorem dL_law_915 : decode cL_law 915 = .ok (.aload_n 0, 1) := by decide +kernel
theorem dL_law_916 : decode cL_law 916 = .ok (.iload_n 3, 1) := by decide +kernel
theorem dL_law_917 : decode cL_law 917 = .ok (.iconst 2, 1) := by decide +kernel
theorem dL_law_918 : decode cL_law 918 = .ok (.iadd, 1) := by decide +kernel
theorem dL_law_919 : decode cL_law 919 = .ok (.iaload, 1) := by decide +kernel
theorem dL_law_920 : decode cL_law 920 = .ok (.invokevirtual 97, 3) := by decide +kernel
theorem dL_law_923 : decode cL_law 923 = .ok (.if_icmp .eq 608, 3) := by decide +kernel
theorem dL_law_926 : decode cL_law 926 = .ok (.iconst 0, 1) := by decide +kernel
theorem dL_law_927 : decode cL_law 927 = .ok (.ireturn, 1) := by decide +kernel
theorem dL_law_928 : decode cL_law 928 = .ok (.aload_n 1, 1) := by decide +kernel
theorem dL_law_929 : decode cL_law 929 = .ok (.aload_n 0, 1) := by decide +kernel
theorem dL_law_930 : decode cL_law 930 = .ok (.iload_n 3, 1) := by decide +kernel
theorem dL_law_931 : decode cL_law 931 = .ok (.iconst 1, 1) := by decide +kernel
theorem dL_law_932 : decode cL_law 932 = .ok (.iadd, 1) := by decide +kernel
theorem dL_law_933 : decode cL_law 933 = .ok (.iaload, 1) := by decide +kernel
theorem dL_law_934 : decode cL_law 934 = .ok (.aload_n 0, 1) := by decide +kernel
theorem dL_law_935 : decode cL_law 935 = .ok (.iload_n 3, 1) := by decide +kernel
theorem dL_law_936 : decode cL_law 936 = .ok (.iconst 2, 1) := by decide +kernel
theorem dL_law_937 : decode cL_law 937 = .ok (.iadd, 1) := by decide +kernel
theorem dL_law_938 : decode cL_law 938 = .ok (.iaload, 1) := by decide +kernel
theorem dL_law_939 : decode cL_law 939 = .ok (.invokevirtual 98, 3) := by decide +kernel
theorem dL_law_942 : decode cL_law 942 = .ok (.aload_n 2, 1) := by decide +kernel
theorem dL_law_943 : decode cL_law 943 = .ok (.aload_n 0, 1) := by decide +kernel
theorem dL_law_944 : decode cL_law 944 = .ok (.iload_n 3, 1) := by decide +kernel
theorem dL_law_945 : decode cL_law 945 = .ok (.iconst 1, 1) := by decide +kernel
theorem dL_law_946 : decode cL_law 946 = .ok (.iadd, 1) := by decide +kernel
theorem dL_law_947 : decode cL_law 947 = .ok (.iaload, 1) := by decide +kernel
theorem dL_law_948 : decode cL_law 948 = .ok (.aload_n 0, 1) := by decide +kernel
theorem dL_law_949 : decode cL_law 949 = .ok (.iload_n 3, 1) := by decide +kernel
theorem dL_law_950 : decode cL_law 950 = .ok (.iconst 2, 1) := by decide +kernel
theorem dL_law_951 : decode cL_law 951 = .ok (.iadd, 1) := by decide +kernel
theorem dL_law_952 : decode cL_law 952 = .ok (.iaload, 1) := by decide +kernel
theorem dL_law_953 : decode cL_law 953 = .ok (.invokevirtual 101, 3) := by decide +kernel
theorem dL_law_956 : decode cL_law 956 = .ok (.if_icmp .eq 575, 3) := by decide +kernel
theorem dL_law_959 : decode cL_law 959 = .ok (.iconst 0, 1) := by decide +kernel
theorem dL_law_960 : decode cL_law 960 = .ok (.ireturn, 1) := by decide +kernel
theorem dL_law_961 : decode cL_law 961 = .ok (.aload_n 1, 1) := by decide +kernel
theorem dL_law_962 : decode cL_law 962 = .ok (.aload_n 0, 1) := by decide +kernel
theorem dL_law_963 : decode cL_law 963 = .ok (.iload_n 3, 1) := by decide +kernel
theorem dL_law_964 : decode cL_law 964 = .ok (.iconst 1, 1) := by decide +kernel
theorem dL_law_965 : decode cL_law 965 = .ok (.iadd, 1) := by decide +kernel
theorem dL_law_966 : decode cL_law 966 = .ok (.iaload, 1) := by decide +kernel
theorem dL_law_967 : decode cL_law 967 = .ok (.aload_n 0, 1) := by decide +kernel
theorem dL_law_968 : decode cL_law 968 = .ok (.iload_n 3, 1) := by decide +kernel
theorem dL_law_969 : decode cL_law 969 = .ok (.iconst 2, 1) := by decide +kernel
theorem dL_law_970 : decode cL_law 970 = .ok (.iadd, 1) := by decide +kernel
theorem dL_law_971 : decode cL_law 971 = .ok (.iaload, 1) := by decide +kernel
theorem dL_law_972 : decode cL_law 972 = .ok (.invokevirtual 102, 3) := by decide +kernel
theorem dL_law_975 : decode cL_law 975 = .ok (.aload_n 2, 1) := by decide +kernel
theorem dL_law_976 : decode cL_law 976 = .ok (.aload_n 0, 1) := by decide +kernel
theorem dL_law_977 : decode cL_law 977 = .ok (.iload_n 3, 1) := by decide +kernel
theorem dL_law_978 : decode cL_law 978 = .ok (.iconst 1, 1) := by decide +kernel
theorem dL_law_979 : decode cL_law 979 = .ok (.iadd, 1) := by decide +kernel
theorem dL_law_980 : decode cL_law 980 = .ok (.iaload, 1) := by decide +kernel
theorem dL_law_981 : decode cL_law 981 = .ok (.aload_n 0, 1) := by decide +kernel
theorem dL_law_982 : decode cL_law 982 = .ok (.iload_n 3, 1) := by decide +kernel
theorem dL_law_983 : decode cL_law 983 = .ok (.iconst 2, 1) := by decide +kernel
theorem dL_law_984 : decode cL_law 984 = .ok (.iadd, 1) := by decide +kernel
theorem dL_law_985 : decode cL_law 985 = .ok (.iaload, 1) := by decide +kernel
theorem dL_law_986 : decode cL_law 986 = .ok (.invokevirtual 105, 3) := by decide +kernel
theorem dL_law_989 : decode cL_law 989 = .ok (.if_icmp .eq 542, 3) := by decide +kernel
theorem dL_law_992 : decode cL_law 992 = .ok (.iconst 0, 1) := by decide +kernel
theorem dL_law_993 : decode cL_law 993 = .ok (.ireturn, 1) := by decide +kernel
theorem dL_law_994 : decode cL_law 994 = .ok (.aload_n 1, 1) := by decide +kernel
theorem dL_law_995 : decode cL_law 995 = .ok (.aload_n 0, 1) := by decide +kernel
theorem dL_law_996 : decode cL_law 996 = .ok (.iload_n 3, 1) := by decide +kernel
theorem dL_law_997 : decode cL_law 997 = .ok (.iconst 1, 1) := by decide +kernel
theorem dL_law_998 : decode cL_law 998 = .ok (.iadd, 1) := by decide +kernel
theorem dL_law_999 : decode cL_law 999 = .ok (.iaload, 1) := by decide +kernel
theorem dL_law_1000 : decode cL_law 1000 = .ok (.aload_n 0, 1) := by decide +kernel
theorem dL_law_1001 : decode cL_law 1001 = .ok (.iload_n 3, 1) := by decide +kernel
theorem dL_law_1002 : decode cL_law 1002 = .ok (.iconst 2, 1) := by decide +kernel
theorem dL_law_1003 : decode cL_law 1003 = .ok (.iadd, 1) := by decide +kernel
theorem dL_law_1004 : decode cL_law 1004 = .ok (.iaload, 1) := by decide +kernel
theorem dL_law_1005 : decode cL_law 1005 = .ok (.invokevirtual 106, 3) := by decide +kernel
theorem dL_law_1008 : decode cL_law 1008 = .ok (.aload_n 2, 1) := by decide +kernel
theorem dL_law_1009 : decode cL_law 1009 = .ok (.aload_n 0, 1) := by decide +kernel
theorem dL_law_1010 : decode cL_law 1010 = .ok (.iload_n 3, 1) := by decide +kernel
theorem dL_law_1011 : decode cL_law 1011 = .ok (.iconst 1, 1) := by decide +kernel
theorem dL_law_1012 : decode cL_law 1012 = .ok (.iadd, 1) := by decide +kernel
theorem dL_law_1013 : decode cL_law 1013 = .ok (.iaload, 1) := by decide +kernel
theorem dL_law_1014 : decode cL_law 1014 = .ok (.aload_n 0, 1) := by decide +kernel
theorem dL_law_1015 : decode cL_law 1015 = .ok (.iload_n 3, 1) := by decide +kernel
theorem dL_law_1016 : decode cL_law 1016 = .ok (.iconst 2, 1) := by decide +kernel
theorem dL_law_1017 : decode cL_law 1017 = .ok (.iadd, 1) := by decide +kernel
theorem dL_law_1018 : decode cL_law 1018 = .ok (.iaload, 1) := by decide +kernel
theorem dL_law_1019 : decode cL_law 1019 = .ok (.invokevirtual 109, 3) := by decide +kernel
theorem dL_law_1022 : decode cL_law 1022 = .ok (.if_icmp .eq 509, 3) := by decide +kernel
theorem dL_law_1025 : decode cL_law 1025 = .ok (.iconst 0, 1) := by decide +kernel
theorem dL_law_1026 : decode cL_law 1026 = .ok (.ireturn, 1) := by decide +kernel
theorem dL_law_1027 : decode cL_law 1027 = .ok (.aload_n 1, 1) := by decide +kernel
theorem dL_law_1028 : decode cL_law 1028 = .ok (.aload_n 0, 1) := by decide +kernel
theorem dL_law_1029 : decode cL_law 1029 = .ok (.iload_n 3, 1) := by decide +kernel
theorem dL_law_1030 : decode cL_law 1030 = .ok (.iconst 1, 1) := by decide +kernel
theorem dL_law_1031 : decode cL_law 1031 = .ok (.iadd, 1) := by decide +kernel
theorem dL_law_1032 : decode cL_law 1032 = .ok (.iaload, 1) := by decide +kernel
theorem dL_law_1033 : decode cL_law 1033 = .ok (.invokevirtual 110, 3) := by decide +kernel
theorem dL_law_1036 : decode cL_law 1036 = .ok (.aload_n 2, 1) := by decide +kernel
theorem dL_law_1037 : decode cL_law 1037 = .ok (.aload_n 0, 1) := by decide +kernel
theorem dL_law_1038 : decode cL_law 1038 = .ok (.iload_n 3, 1) := by decide +kernel
theorem dL_law_1039 : decode cL_law 1039 = .ok (.iconst 1, 1) := by decide +kernel
theorem dL_law_1040 : decode cL_law 1040 = .ok (.iadd, 1) := by decide +kernel
theorem dL_law_1041 : decode cL_law 1041 = .ok (.iaload, 1) := by decide +kernel
theorem dL_law_1042 : decode cL_law 1042 = .ok (.invokevirtual 113, 3) := by decide +kernel
theorem dL_law_1045 : decode cL_law 1045 = .ok (.if_icmp .eq 486, 3) := by decide +kernel
theorem dL_law_1048 : decode cL_law 1048 = .ok (.iconst 0, 1) := by decide +kernel
theorem dL_law_1049 : decode cL_law 1049 = .ok (.ireturn, 1) := by decide +kernel
theorem dL_law_1050 : decode cL_law 1050 = .ok (.aload_n 1, 1) := by decide +kernel
theorem dL_law_1051 : decode cL_law 1051 = .ok (.aload_n 0, 1) := by decide +kernel
theorem dL_law_1052 : decode cL_law 1052 = .ok (.iload_n 3, 1) := by decide +kernel
theorem dL_law_1053 : decode cL_law 1053 = .ok (.iconst 1, 1) := by decide +kernel
theorem dL_law_1054 : decode cL_law 1054 = .ok (.iadd, 1) := by decide +kernel
theorem dL_law_1055 : decode cL_law 1055 = .ok (.iaload, 1) := by decide +kernel
theorem dL_law_1056 : decode cL_law 1056 = .ok (.aload_n 0, 1) := by decide +kernel
theorem dL_law_1057 : decode cL_law 1057 = .ok (.iload_n 3, 1) := by decide +kernel
theorem dL_law_1058 : decode cL_law 1058 = .ok (.iconst 2, 1) := by decide +kernel
theorem dL_law_1059 : decode cL_law 1059 = .ok (.iadd, 1) := by decide +kernel
theorem dL_law_1060 : decode cL_law 1060 = .ok (.iaload, 1) := by decide +kernel
theorem dL_law_1061 : decode cL_law 1061 = .ok (.invokevirtual 114, 3) := by decide +kernel
theorem dL_law_1064 : decode cL_law 1064 = .ok (.aload_n 2, 1) := by decide +kernel
theorem dL_law_1065 : decode cL_law 1065 = .ok (.aload_n 0, 1) := by decide +kernel
theorem dL_law_1066 : decode cL_law 1066 = .ok (.iload_n 3, 1) := by decide +kernel
theorem dL_law_1067 : decode cL_law 1067 = .ok (.iconst 1, 1) := by decide +kernel
theorem dL_law_1068 : decode cL_law 1068 = .ok (.iadd, 1) := by decide +kernel
theorem dL_law_1069 : decode cL_law 1069 = .ok (.iaload, 1) := by decide +kernel
theorem dL_law_1070 : decode cL_law 1070 = .ok (.aload_n 0, 1) := by decide +kernel
theorem dL_law_1071 : decode cL_law 1071 = .ok (.iload_n 3, 1) := by decide +kernel
theorem dL_law_1072 : decode cL_law 1072 = .ok (.iconst 2, 1) := by decide +kernel
theorem dL_law_1073 : decode cL_law 1073 = .ok (.iadd, 1) := by decide +kernel
theorem dL_law_1074 : decode cL_law 1074 = .ok (.iaload, 1) := by decide +kernel
theorem dL_law_1075 : decode cL_law 1075 = .ok (.invokevirtual 117, 3) := by decide +kernel
theorem dL_law_1078 : decode cL_law 1078 = .ok (.if_icmp .eq 453, 3) := by decide +kernel
theorem dL_law_1081 : decode cL_law 1081 = .ok (.iconst 0, 1) := by decide +kernel
theorem dL_law_1082 : decode cL_law 1082 = .ok (.ireturn, 1) := by decide +kernel
theorem dL_law_1083 : decode cL_law 1083 = .ok (.aload_n 1, 1) := by decide +kernel
theorem dL_law_1084 : decode cL_law 1084 = .ok (.aload_n 0, 1) := by decide +kernel
theorem dL_law_1085 : decode cL_law 1085 = .ok (.iload_n 3, 1) := by decide +kernel
theorem dL_law_1086 : decode cL_law 1086 = .ok (.iconst 1, 1) := by decide +kernel
theorem dL_law_1087 : decode cL_law 1087 = .ok (.iadd, 1) := by decide +kernel
theorem dL_law_1088 : decode cL_law 1088 = .ok (.iaload, 1) := by decide +kernel
theorem dL_law_1089 : decode cL_law 1089 = .ok (.aload_n 0, 1) := by decide +kernel
theorem dL_law_1090 : decode cL_law 1090 = .ok (.iload_n 3, 1) := by decide +kernel
theorem dL_law_1091 : decode cL_law 1091 = .ok (.iconst 2, 1) := by decide +kernel
theorem dL_law_1092 : decode cL_law 1092 = .ok (.iadd, 1) := by decide +kernel
theorem dL_law_1093 : decode cL_law 1093 = .ok (.iaload, 1) := by decide +kernel
theorem dL_law_1094 : decode cL_law 1094 = .ok (.invokevirtual 118, 3) := by decide +kernel
theorem dL_law_1097 : decode cL_law 1097 = .ok (.aload_n 2, 1) := by decide +kernel
theorem dL_law_1098 : decode cL_law 1098 = .ok (.aload_n 0, 1) := by decide +kernel
theorem dL_law_1099 : decode cL_law 1099 = .ok (.iload_n 3, 1) := by decide +kernel
theorem dL_law_1100 : decode cL_law 1100 = .ok (.iconst 1, 1) := by decide +kernel
theorem dL_law_1101 : decode cL_law 1101 = .ok (.iadd, 1) := by decide +kernel
theorem dL_law_1102 : decode cL_law 1102 = .ok (.iaload, 1) := by decide +kernel
theorem dL_law_1103 : decode cL_law 1103 = .ok (.aload_n 0, 1) := by decide +kernel
theorem dL_law_1104 : decode cL_law 1104 = .ok (.iload_n 3, 1) := by decide +kernel
theorem dL_law_1105 : decode cL_law 1105 = .ok (.iconst 2, 1) := by decide +kernel
theorem dL_law_1106 : decode cL_law 1106 = .ok (.iadd, 1) := by decide +kernel
theorem dL_law_1107 : decode cL_law 1107 = .ok (.iaload, 1) := by decide +kernel
theorem dL_law_1108 : decode cL_law 1108 = .ok (.invokevirtual 121, 3) := by decide +kernel
theorem dL_law_1111 : decode cL_law 1111 = .ok (.if_icmp .eq 420, 3) := by decide +kernel
theorem dL_law_1114 : decode cL_law 1114 = .ok (.iconst 0, 1) := by decide +kernel
theorem dL_law_1115 : decode cL_law 1115 = .ok (.ireturn, 1) := by decide +kernel
theorem dL_law_1116 : decode cL_law 1116 = .ok (.aload_n 1, 1) := by decide +kernel
theorem dL_law_1117 : decode cL_law 1117 = .ok (.aload_n 0, 1) := by decide +kernel
theorem dL_law_1118 : decode cL_law 1118 = .ok (.iload_n 3, 1) := by decide +kernel
theorem dL_law_1119 : decode cL_law 1119 = .ok (.iconst 1, 1) := by decide +kernel
theorem dL_law_1120 : decode cL_law 1120 = .ok (.iadd, 1) := by decide +kernel
theorem dL_law_1121 : decode cL_law 1121 = .ok (.iaload, 1) := by decide +kernel
theorem dL_law_1122 : decode cL_law 1122 = .ok (.aload_n 0, 1) := by decide +kernel
theorem dL_law_1123 : decode cL_law 1123 = .ok (.iload_n 3, 1) := by decide +kernel
theorem dL_law_1124 : decode cL_law 1124 = .ok (.iconst 2, 1) := by decide +kernel
theorem dL_law_1125 : decode cL_law 1125 = .ok (.iadd, 1) := by decide +kernel
theorem dL_law_1126 : decode cL_law 1126 = .ok (.iaload, 1) := by decide +kernel
theorem dL_law_1127 : decode cL_law 1127 = .ok (.aload_n 0, 1) := by decide +kernel
theorem dL_law_1128 : decode cL_law 1128 = .ok (.iload_n 3, 1) := by decide +kernel
theorem dL_law_1129 : decode cL_law 1129 = .ok (.iconst 3, 1) := by decide +kernel
theorem dL_law_1130 : decode cL_law 1130 = .ok (.iadd, 1) := by decide +kernel
theorem dL_law_1131 : decode cL_law 1131 = .ok (.iaload, 1) := by decide +kernel
theorem dL_law_1132 : decode cL_law 1132 = .ok (.invokevirtual 122, 3) := by decide +kernel
theorem dL_law_1135 : decode cL_law 1135 = .ok (.aload_n 2, 1) := by decide +kernel
theorem dL_law_1136 : decode cL_law 1136 = .ok (.aload_n 0, 1) := by decide +kernel
theorem dL_law_1137 : decode cL_law 1137 = .ok (.iload_n 3, 1) := by decide +kernel
theorem dL_law_1138 : decode cL_law 1138 = .ok (.iconst 1, 1) := by decide +kernel
theorem dL_law_1139 : decode cL_law 1139 = .ok (.iadd, 1) := by decide +kernel
theorem dL_law_1140 : decode cL_law 1140 = .ok (.iaload, 1) := by decide +kernel
theorem dL_law_1141 : decode cL_law 1141 = .ok (.aload_n 0, 1) := by decide +kernel
theorem dL_law_1142 : decode cL_law 1142 = .ok (.iload_n 3, 1) := by decide +kernel
theorem dL_law_1143 : decode cL_law 1143 = .ok (.iconst 2, 1) := by decide +kernel
theorem dL_law_1144 : decode cL_law 1144 = .ok (.iadd, 1) := by decide +kernel
theorem dL_law_1145 : decode cL_law 1145 = .ok (.iaload, 1) := by decide +kernel
theorem dL_law_1146 : decode cL_law 1146 = .ok (.aload_n 0, 1) := by decide +kernel
theorem dL_law_1147 : decode cL_law 1147 = .ok (.iload_n 3, 1) := by decide +kernel
theorem dL_law_1148 : decode cL_law 1148 = .ok (.iconst 3, 1) := by decide +kernel
theorem dL_law_1149 : decode cL_law 1149 = .ok (.iadd, 1) := by decide +kernel
theorem dL_law_1150 : decode cL_law 1150 = .ok (.iaload, 1) := by decide +kernel
theorem dL_law_1151 : decode cL_law 1151 = .ok (.invokevirtual 125, 3) := by decide +kernel
theorem dL_law_1154 : decode cL_law 1154 = .ok (.if_icmp .eq 377, 3) := by decide +kernel
theorem dL_law_1157 : decode cL_law 1157 = .ok (.iconst 0, 1) := by decide +kernel
theorem dL_law_1158 : decode cL_law 1158 = .ok (.ireturn, 1) := by decide +kernel
theorem dL_law_1159 : decode cL_law 1159 = .ok (.aload_n 1, 1) := by decide +kernel
theorem dL_law_1160 : decode cL_law 1160 = .ok (.aload_n 0, 1) := by decide +kernel
theorem dL_law_1161 : decode cL_law 1161 = .ok (.iload_n 3, 1) := by decide +kernel
theorem dL_law_1162 : decode cL_law 1162 = .ok (.iconst 1, 1) := by decide +kernel
theorem dL_law_1163 : decode cL_law 1163 = .ok (.iadd, 1) := by decide +kernel
theorem dL_law_1164 : decode cL_law 1164 = .ok (.iaload, 1) := by decide +kernel
theorem dL_law_1165 : decode cL_law 1165 = .ok (.aload_n 0, 1) := by decide +kernel
theorem dL_law_1166 : decode cL_law 1166 = .ok (.iload_n 3, 1) := by decide +kernel
theorem dL_law_1167 : decode cL_law 1167 = .ok (.iconst 2, 1) := by decide +kernel
theorem dL_law_1168 : decode cL_law 1168 = .ok (.iadd, 1) := by decide +kernel
theorem dL_law_1169 : decode cL_law 1169 = .ok (.iaload, 1) := by decide +kernel
theorem dL_law_1170 : decode cL_law 1170 = .ok (.aload_n 0, 1) := by decide +kernel
theorem dL_law_1171 : decode cL_law 1171 = .ok (.iload_n 3, 1) := by decide +kernel
theorem dL_law_1172 : decode cL_law 1172 = .ok (.iconst 3, 1) := by decide +kernel
theorem dL_law_1173 : decode cL_law 1173 = .ok (.iadd, 1) := by decide +kernel
theorem dL_law_1174 : decode cL_law 1174 = .ok (.iaload, 1) := by decide +kernel
theorem dL_law_1175 : decode cL_law 1175 = .ok (.invokevirtual 126, 3) := by decide +kernel
theorem dL_law_1178 : decode cL_law 1178 = .ok (.aload_n 2, 1) := by decide +kernel
theorem dL_law_1179 : decode cL_law 1179 = .ok (.aload_n 0, 1) := by decide +kernel
theorem dL_law_1180 : decode cL_law 1180 = .ok (.iload_n 3, 1) := by decide +kernel
theorem dL_law_1181 : decode cL_law 1181 = .ok (.iconst 1, 1) := by decide +kernel
theorem dL_law_1182 : decode cL_law 1182 = .ok (.iadd, 1) := by decide +kernel
theorem dL_law_1183 : decode cL_law 1183 = .ok (.iaload, 1) := by decide +kernel
theorem dL_law_1184 : decode cL_law 1184 = .ok (.aload_n 0, 1) := by decide +kernel
theorem dL_law_1185 : decode cL_law 1185 = .ok (.iload_n 3, 1) := by decide +kernel
theorem dL_law_1186 : decode cL_law 1186 = .ok (.iconst 2, 1) := by decide +kernel
theorem dL_law_1187 : decode cL_law 1187 = .ok (.iadd, 1) := by decide +kernel
theorem dL_law_1188 : decode cL_law 1188 = .ok (.iaload, 1) := by decide +kernel
theorem dL_law_1189 : decode cL_law 1189 = .ok (.aload_n 0, 1) := by decide +kernel
theorem dL_law_1190 : decode cL_law 1190 = .ok (.iload_n 3, 1) := by decide +kernel
theorem dL_law_1191 : decode cL_law 1191 = .ok (.iconst 3, 1) := by decide +kernel
theorem dL_law_1192 : decode cL_law 1192 = .ok (.iadd, 1) := by decide +kernel
theorem dL_law_1193 : decode cL_law 1193 = .ok (.iaload, 1) := by decide +kernel
theorem dL_law_1194 : decode cL_law 1194 = .ok (.invokevirtual 129, 3) := by decide +kernel
theorem dL_law_1197 : decode cL_law 1197 = .ok (.if_icmp .eq 334, 3) := by decide +kernel
theorem dL_law_1200 : decode cL_law 1200 = .ok (.iconst 0, 1) := by decide +kernel
theorem dL_law_1201 : decode cL_law 1201 = .ok (.ireturn, 1) := by decide +kernel
theorem dL_law_1202 : decode cL_law 1202 = .ok (.aload_n 1, 1) := by decide +kernel
theorem dL_law_1203 : decode cL_law 1203 = .ok (.aload_n 0, 1) := by decide +kernel
theorem dL_law_1204 : decode cL_law 1204 = .ok (.iload_n 3, 1) := by decide +kernel
theorem dL_law_1205 : decode cL_law 1205 = .ok (.iconst 1, 1) := by decide +kernel
theorem dL_law_1206 : decode cL_law 1206 = .ok (.iadd, 1) := by decide +kernel
theorem dL_law_1207 : decode cL_law 1207 = .ok (.iaload, 1) := by decide +kernel
theorem dL_law_1208 : decode cL_law 1208 = .ok (.aload_n 0, 1) := by decide +kernel
theorem dL_law_1209 : decode cL_law 1209 = .ok (.iload_n 3, 1) := by decide +kernel
theorem dL_law_1210 : decode cL_law 1210 = .ok (.iconst 2, 1) := by decide +kernel
theorem dL_law_1211 : decode cL_law 1211 = .ok (.iadd, 1) := by decide +kernel
theorem dL_law_1212 : decode cL_law 1212 = .ok (.iaload, 1) := by decide +kernel
theorem dL_law_1213 : decode cL_law 1213 = .ok (.invokevirtual 130, 3) := by decide +kernel
theorem dL_law_1216 : decode cL_law 1216 = .ok (.aload_n 2, 1) := by decide +kernel
theorem dL_law_1217 : decode cL_law 1217 = .ok (.aload_n 0, 1) := by decide +kernel
theorem dL_law_1218 : decode cL_law 1218 = .ok (.iload_n 3, 1) := by decide +kernel
theorem dL_law_1219 : decode cL_law 1219 = .ok (.iconst 1, 1) := by decide +kernel
theorem dL_law_1220 : decode cL_law 1220 = .ok (.iadd, 1) := by decide +kernel
theorem dL_law_1221 : decode cL_law 1221 = .ok (.iaload, 1) := by decide +kernel
theorem dL_law_1222 : decode cL_law 1222 = .ok (.aload_n 0, 1) := by decide +kernel
theorem dL_law_1223 : decode cL_law 1223 = .ok (.iload_n 3, 1) := by decide +kernel
theorem dL_law_1224 : decode cL_law 1224 = .ok (.iconst 2, 1) := by decide +kernel
theorem dL_law_1225 : decode cL_law 1225 = .ok (.iadd, 1) := by decide +kernel
theorem dL_law_1226 : decode cL_law 1226 = .ok (.iaload, 1) := by decide +kernel
theorem dL_law_1227 : decode cL_law 1227 = .ok (.invokevirtual 133, 3) := by decide +kernel
theorem dL_law_1230 : decode cL_law 1230 = .ok (.if_icmp .eq 301, 3) := by decide +kernel
theorem dL_law_1233 : decode cL_law 1233 = .ok (.iconst 0, 1) := by decide +kernel
theorem dL_law_1234 : decode cL_law 1234 = .ok (.ireturn, 1) := by decide +kernel
theorem dL_law_1235 : decode cL_law 1235 = .ok (.aload_n 1, 1) := by decide +kernel
theorem dL_law_1236 : decode cL_law 1236 = .ok (.aload_n 0, 1) := by decide +kernel
theorem dL_law_1237 : decode cL_law 1237 = .ok (.iload_n 3, 1) := by decide +kernel
theorem dL_law_1238 : decode cL_law 1238 = .ok (.iconst 1, 1) := by decide +kernel
theorem dL_law_1239 : decode cL_law 1239 = .ok (.iadd, 1) := by decide +kernel
theorem dL_law_1240 : decode cL_law 1240 = .ok (.iaload, 1) := by decide +kernel
theorem dL_law_1241 : decode cL_law 1241 = .ok (.aload_n 0, 1) := by decide +kernel
theorem dL_law_1242 : decode cL_law 1242 = .ok (.iload_n 3, 1) := by decide +kernel
theorem dL_law_1243 : decode cL_law 1243 = .ok (.iconst 2, 1) := by decide +kernel
theorem dL_law_1244 : decode cL_law 1244 = .ok (.iadd, 1) := by decide +kernel
theorem dL_law_1245 : decode cL_law 1245 = .ok (.iaload, 1) := by decide +kernel
theorem dL_law_1246 : decode cL_law 1246 = .ok (.aload_n 0, 1) := by decide +kernel
theorem dL_law_1247 : decode cL_law 1247 = .ok (.iload_n 3, 1) := by decide +kernel
theorem dL_law_1248 : decode cL_law 1248 = .ok (.iconst 3, 1) := by decide +kernel
theorem dL_law_1249 : decode cL_law 1249 = .ok (.iadd, 1) := by decide +kernel
theorem dL_law_1250 : decode cL_law 1250 = .ok (.iaload, 1) := by decide +kernel
theorem dL_law_1251 : decode cL_law 1251 = .ok (.aload_n 0, 1) := by decide +kernel
theorem dL_law_1252 : decode cL_law 1252 = .ok (.iload_n 3, 1) := by decide +kernel
theorem dL_law_1253 : decode cL_law 1253 = .ok (.iconst 4, 1) := by decide +kernel
theorem dL_law_1254 : decode cL_law 1254 = .ok (.iadd, 1) := by decide +kernel
theorem dL_law_1255 : decode cL_law 1255 = .ok (.iaload, 1) := by decide +kernel
theorem dL_law_1256 : decode cL_law 1256 = .ok (.invokevirtual 134, 3) := by decide +kernel
theorem dL_law_1259 : decode cL_law 1259 = .ok (.aload_n 2, 1) := by decide +kernel
theorem dL_law_1260 : decode cL_law 1260 = .ok (.aload_n 0, 1) := by decide +kernel
theorem dL_law_1261 : decode cL_law 1261 = .ok (.iload_n 3, 1) := by decide +kernel
theorem dL_law_1262 : decode cL_law 1262 = .ok (.iconst 1, 1) := by decide +kernel
theorem dL_law_1263 : decode cL_law 1263 = .ok (.iadd, 1) := by decide +kernel
theorem dL_law_1264 : decode cL_law 1264 = .ok (.iaload, 1) := by decide +kernel
theorem dL_law_1265 : decode cL_law 1265 = .ok (.aload_n 0, 1) := by decide +kernel
theorem dL_law_1266 : decode cL_law 1266 = .ok (.iload_n 3, 1) := by decide +kernel
theorem dL_law_1267 : decode cL_law 1267 = .ok (.iconst 2, 1) := by decide +kernel
theorem dL_law_1268 : decode cL_law 1268 = .ok (.iadd, 1) := by decide +kernel
theorem dL_law_1269 : decode cL_law 1269 = .ok (.iaload, 1) := by decide +kernel
theorem dL_law_1270 : decode cL_law 1270 = .ok (.aload_n 0, 1) := by decide +kernel
theorem dL_law_1271 : decode cL_law 1271 = .ok (.iload_n 3, 1) := by decide +kernel
theorem dL_law_1272 : decode cL_law 1272 = .ok (.iconst 3, 1) := by decide +kernel
theorem dL_law_1273 : decode cL_law 1273 = .ok (.iadd, 1) := by decide +kernel
theorem dL_law_1274 : decode cL_law 1274 = .ok (.iaload, 1) := by decide +kernel
theorem dL_law_1275 : decode cL_law 1275 = .ok (.aload_n 0, 1) := by decide +kernel
theorem dL_law_1276 : decode cL_law 1276 = .ok (.iload_n 3, 1) := by decide +kernel
theorem dL_law_1277 : decode cL_law 1277 = .ok (.iconst 4, 1) := by decide +kernel
theorem dL_law_1278 : decode cL_law 1278 = .ok (.iadd, 1) := by decide +kernel
theorem dL_law_1279 : decode cL_law 1279 = .ok (.iaload, 1) := by decide +kernel
theorem dL_law_1280 : decode cL_law 1280 = .ok (.invokevirtual 137, 3) := by decide +kernel
theorem dL_law_1283 : decode cL_law 1283 = .ok (.if_icmp .eq 248, 3) := by decide +kernel
theorem dL_law_1286 : decode cL_law 1286 = .ok (.iconst 0, 1) := by decide +kernel
theorem dL_law_1287 : decode cL_law 1287 = .ok (.ireturn, 1) := by decide +kernel
theorem dL_law_1288 : decode cL_law 1288 = .ok (.aload_n 1, 1) := by decide +kernel
theorem dL_law_1289 : decode cL_law 1289 = .ok (.aload_n 0, 1) := by decide +kernel
theorem dL_law_1290 : decode cL_law 1290 = .ok (.iload_n 3, 1) := by decide +kernel
theorem dL_law_1291 : decode cL_law 1291 = .ok (.iconst 1, 1) := by decide +kernel
theorem dL_law_1292 : decode cL_law 1292 = .ok (.iadd, 1) := by decide +kernel
theorem dL_law_1293 : decode cL_law 1293 = .ok (.iaload, 1) := by decide +kernel
theorem dL_law_1294 : decode cL_law 1294 = .ok (.aload_n 0, 1) := by decide +kernel
theorem dL_law_1295 : decode cL_law 1295 = .ok (.iload_n 3, 1) := by decide +kernel
theorem dL_law_1296 : decode cL_law 1296 = .ok (.iconst 2, 1) := by decide +kernel
theorem dL_law_1297 : decode cL_law 1297 = .ok (.iadd, 1) := by decide +kernel
theorem dL_law_1298 : decode cL_law 1298 = .ok (.iaload, 1) := by decide +kernel
theorem dL_law_1299 : decode cL_law 1299 = .ok (.aload_n 0, 1) := by decide +kernel
theorem dL_law_1300 : decode cL_law 1300 = .ok (.iload_n 3, 1) := by decide +kernel
theorem dL_law_1301 : decode cL_law 1301 = .ok (.iconst 3, 1) := by decide +kernel
theorem dL_law_1302 : decode cL_law 1302 = .ok (.iadd, 1) := by decide +kernel
theorem dL_law_1303 : decode cL_law 1303 = .ok (.iaload, 1) := by decide +kernel
theorem dL_law_1304 : decode cL_law 1304 = .ok (.invokevirtual 138, 3) := by decide +kernel
theorem dL_law_1307 : decode cL_law 1307 = .ok (.aload_n 2, 1) := by decide +kernel
theorem dL_law_1308 : decode cL_law 1308 = .ok (.aload_n 0, 1) := by decide +kernel
theorem dL_law_1309 : decode cL_law 1309 = .ok (.iload_n 3, 1) := by decide +kernel
theorem dL_law_1310 : decode cL_law 1310 = .ok (.iconst 1, 1) := by decide +kernel
theorem dL_law_1311 : decode cL_law 1311 = .ok (.iadd, 1) := by decide +kernel
theorem dL_law_1312 : decode cL_law 1312 = .ok (.iaload, 1) := by decide +kernel
theorem dL_law_1313 : decode cL_law 1313 = .ok (.aload_n 0, 1) := by decide +kernel
theorem dL_law_1314 : decode cL_law 1314 = .ok (.iload_n 3, 1) := by decide +kernel
theorem dL_law_1315 : decode cL_law 1315 = .ok (.iconst 2, 1) := by decide +kernel
theorem dL_law_1316 : decode cL_law 1316 = .ok (.iadd, 1) := by decide +kernel
theorem dL_law_1317 : decode cL_law 1317 = .ok (.iaload, 1) := by decide +kernel
theorem dL_law_1318 : decode cL_law 1318 = .ok (.aload_n 0, 1) := by decide +kernel
theorem dL_law_1319 : decode cL_law 1319 = .ok (.iload_n 3, 1) := by decide +kernel
theorem dL_law_1320 : decode cL_law 1320 = .ok (.iconst 3, 1) := by decide +kernel
theorem dL_law_1321 : decode cL_law 1321 = .ok (.iadd, 1) := by decide +kernel
theorem dL_law_1322 : decode cL_law 1322 = .ok (.iaload, 1) := by decide +kernel
theorem dL_law_1323 : decode cL_law 1323 = .ok (.invokevirtual 141, 3) := by decide +kernel
theorem dL_law_1326 : decode cL_law 1326 = .ok (.if_icmp .eq 205, 3) := by decide +kernel
theorem dL_law_1329 : decode cL_law 1329 = .ok (.iconst 0, 1) := by decide +kernel
theorem dL_law_1330 : decode cL_law 1330 = .ok (.ireturn, 1) := by decide +kernel
theorem dL_law_1331 : decode cL_law 1331 = .ok (.aload_n 1, 1) := by decide +kernel
theorem dL_law_1332 : decode cL_law 1332 = .ok (.aload_n 0, 1) := by decide +kernel
theorem dL_law_1333 : decode cL_law 1333 = .ok (.iload_n 3, 1) := by decide +kernel
theorem dL_law_1334 : decode cL_law 1334 = .ok (.iconst 1, 1) := by decide +kernel
theorem dL_law_1335 : decode cL_law 1335 = .ok (.iadd, 1) := by decide +kernel
theorem dL_law_1336 : decode cL_law 1336 = .ok (.iaload, 1) := by decide +kernel
theorem dL_law_1337 : decode cL_law 1337 = .ok (.aload_n 0, 1) := by decide +kernel
theorem dL_law_1338 : decode cL_law 1338 = .ok (.iload_n 3, 1) := by decide +kernel
theorem dL_law_1339 : decode cL_law 1339 = .ok (.iconst 2, 1) := by decide +kernel
theorem dL_law_1340 : decode cL_law 1340 = .ok (.iadd, 1) := by decide +kernel
theorem dL_law_1341 : decode cL_law 1341 = .ok (.iaload, 1) := by decide +kernel
theorem dL_law_1342 : decode cL_law 1342 = .ok (.invokevirtual 142, 3) := by decide +kernel
theorem dL_law_1345 : decode cL_law 1345 = .ok (.aload_n 2, 1) := by decide +kernel
theorem dL_law_1346 : decode cL_law 1346 = .ok (.aload_n 0, 1) := by decide +kernel
theorem dL_law_1347 : decode cL_law 1347 = .ok (.iload_n 3, 1) := by decide +kernel
theorem dL_law_1348 : decode cL_law 1348 = .ok (.iconst 1, 1) := by decide +kernel
theorem dL_law_1349 : decode cL_law 1349 = .ok (.iadd, 1) := by decide +kernel
theorem dL_law_1350 : decode cL_law 1350 = .ok (.iaload, 1) := by decide +kernel
theorem dL_law_1351 : decode cL_law 1351 = .ok (.aload_n 0, 1) := by decide +kernel
theorem dL_law_1352 : decode cL_law 1352 = .ok (.iload_n 3, 1) := by decide +kernel
theorem dL_law_1353 : decode cL_law 1353 = .ok (.iconst 2, 1) := by decide +kernel
theorem dL_law_1354 : decode cL_law 1354 = .ok (.iadd, 1) := by decide +kernel
theorem dL_law_1355 : decode cL_law 1355 = .ok (.iaload, 1) := by decide +kernel
theorem dL_law_1356 : decode cL_law 1356 = .ok (.invokevirtual 145, 3) := by decide +kernel
theorem dL_law_1359 : decode cL_law 1359 = .ok (.if_icmp .eq 172, 3) := by decide +kernel
theorem dL_law_1362 : decode cL_law 1362 = .ok (.iconst 0, 1) := by decide +kernel
theorem dL_law_1363 : decode cL_law 1363 = .ok (.ireturn, 1) := by decide +kernel
theorem dL_law_1364 : decode cL_law 1364 = .ok (.aload_n 1, 1) := by decide +kernel
theorem dL_law_1365 : decode cL_law 1365 = .ok (.aload_n 0, 1) := by decide +kernel
theorem dL_law_1366 : decode cL_law 1366 = .ok (.iload_n 3, 1) := by decide +kernel
theorem dL_law_1367 : decode cL_law 1367 = .ok (.iconst 1, 1) := by decide +kernel
theorem dL_law_1368 : decode cL_law 1368 = .ok (.iadd, 1) := by decide +kernel
theorem dL_law_1369 : decode cL_law 1369 = .ok (.iaload, 1) := by decide +kernel
theorem dL_law_1370 : decode cL_law 1370 = .ok (.aload_n 0, 1) := by decide +kernel
theorem dL_law_1371 : decode cL_law 1371 = .ok (.iload_n 3, 1) := by decide +kernel
theorem dL_law_1372 : decode cL_law 1372 = .ok (.iconst 2, 1) := by decide +kernel
theorem dL_law_1373 : decode cL_law 1373 = .ok (.iadd, 1) := by decide +kernel
theorem dL_law_1374 : decode cL_law 1374 = .ok (.iaload, 1) := by decide +kernel
theorem dL_law_1375 : decode cL_law 1375 = .ok (.aload_n 0, 1) := by decide +kernel
theorem dL_law_1376 : decode cL_law 1376 = .ok (.iload_n 3, 1) := by decide +kernel
theorem dL_law_1377 : decode cL_law 1377 = .ok (.iconst 3, 1) := by decide +kernel
theorem dL_law_1378 : decode cL_law 1378 = .ok (.iadd, 1) := by decide +kernel
theorem dL_law_1379 : decode cL_law 1379 = .ok (.iaload, 1) := by decide +kernel
theorem dL_law_1380 : decode cL_law 1380 = .ok (.aload_n 0, 1) := by decide +kernel
theorem dL_law_1381 : decode cL_law 1381 = .ok (.iload_n 3, 1) := by decide +kernel
theorem dL_law_1382 : decode cL_law 1382 = .ok (.iconst 4, 1) := by decide +kernel
theorem dL_law_1383 : decode cL_law 1383 = .ok (.iadd, 1) := by decide +kernel
theorem dL_law_1384 : decode cL_law 1384 = .ok (.iaload, 1) := by decide +kernel
theorem dL_law_1385 : decode cL_law 1385 = .ok (.invokevirtual 146, 3) := by decide +kernel
theorem dL_law_1388 : decode cL_law 1388 = .ok (.aload_n 2, 1) := by decide +kernel
theorem dL_law_1389 : decode cL_law 1389 = .ok (.aload_n 0, 1) := by decide +kernel
theorem dL_law_1390 : decode cL_law 1390 = .ok (.iload_n 3, 1) := by decide +kernel
theorem dL_law_1391 : decode cL_law 1391 = .ok (.iconst 1, 1) := by decide +kernel
theorem dL_law_1392 : decode cL_law 1392 = .ok (.iadd, 1) := by decide +kernel
theorem dL_law_1393 : decode cL_law 1393 = .ok (.iaload, 1) := by decide +kernel
theorem dL_law_1394 : decode cL_law 1394 = .ok (.aload_n 0, 1) := by decide +kernel
theorem dL_law_1395 : decode cL_law 1395 = .ok (.iload_n 3, 1) := by decide +kernel
theorem dL_law_1396 : decode cL_law 1396 = .ok (.iconst 2, 1) := by decide +kernel
theorem dL_law_1397 : decode cL_law 1397 = .ok (.iadd, 1) := by decide +kernel
theorem dL_law_1398 : decode cL_law 1398 = .ok (.iaload, 1) := by decide +kernel
theorem dL_law_1399 : decode cL_law 1399 = .ok (.aload_n 0, 1) := by decide +kernel
theorem dL_law_1400 : decode cL_law 1400 = .ok (.iload_n 3, 1) := by decide +kernel
theorem dL_law_1401 : decode cL_law 1401 = .ok (.iconst 3, 1) := by decide +kernel
theorem dL_law_1402 : decode cL_law 1402 = .ok (.iadd, 1) := by decide +kernel
theorem dL_law_1403 : decode cL_law 1403 = .ok (.iaload, 1) := by decide +kernel
theorem dL_law_1404 : decode cL_law 1404 = .ok (.aload_n 0, 1) := by decide +kernel
theorem dL_law_1405 : decode cL_law 1405 = .ok (.iload_n 3, 1) := by decide +kernel
theorem dL_law_1406 : decode cL_law 1406 = .ok (.iconst 4, 1) := by decide +kernel
theorem dL_law_1407 : decode cL_law 1407 = .ok (.iadd, 1) := by decide +kernel
theorem dL_law_1408 : decode cL_law 1408 = .ok (.iaload, 1) := by decide +kernel
theorem dL_law_1409 : decode cL_law 1409 = .ok (.invokevirtual 149, 3) := by decide +kernel
theorem dL_law_1412 : decode cL_law 1412 = .ok (.if_icmp .eq 119, 3) := by decide +kernel
theorem dL_law_1415 : decode cL_law 1415 = .ok (.iconst 0, 1) := by decide +kernel
theorem dL_law_1416 : decode cL_law 1416 = .ok (.ireturn, 1) := by decide +kernel
theorem dL_law_1417 : decode cL_law 1417 = .ok (.aload_n 1, 1) := by decide +kernel
theorem dL_law_1418 : decode cL_law 1418 = .ok (.invokevirtual 150, 3) := by decide +kernel
theorem dL_law_1421 : decode cL_law 1421 = .ok (.aload_n 2, 1) := by decide +kernel
theorem dL_law_1422 : decode cL_law 1422 = .ok (.invokevirtual 154, 3) := by decide +kernel
theorem dL_law_1425 : decode cL_law 1425 = .ok (.if_icmp .eq 106, 3) := by decide +kernel
theorem dL_law_1428 : decode cL_law 1428 = .ok (.iconst 0, 1) := by decide +kernel
theorem dL_law_1429 : decode cL_law 1429 = .ok (.ireturn, 1) := by decide +kernel
theorem dL_law_1430 : decode cL_law 1430 = .ok (.aload_n 1, 1) := by decide +kernel
theorem dL_law_1431 : decode cL_law 1431 = .ok (.invokevirtual 155, 3) := by decide +kernel
theorem dL_law_1434 : decode cL_law 1434 = .ok (.aload_n 2, 1) := by decide +kernel
theorem dL_law_1435 : decode cL_law 1435 = .ok (.invokevirtual 159, 3) := by decide +kernel
theorem dL_law_1438 : decode cL_law 1438 = .ok (.lcmp, 1) := by decide +kernel
theorem dL_law_1439 : decode cL_law 1439 = .ok (.ifCond .eq 92, 3) := by decide +kernel
theorem dL_law_1442 : decode cL_law 1442 = .ok (.iconst 0, 1) := by decide +kernel
theorem dL_law_1443 : decode cL_law 1443 = .ok (.ireturn, 1) := by decide +kernel
theorem dL_law_1444 : decode cL_law 1444 = .ok (.aload_n 1, 1) := by decide +kernel
theorem dL_law_1445 : decode cL_law 1445 = .ok (.invokevirtual 160, 3) := by decide +kernel
theorem dL_law_1448 : decode cL_law 1448 = .ok (.aload_n 2, 1) := by decide +kernel
theorem dL_law_1449 : decode cL_law 1449 = .ok (.invokevirtual 163, 3) := by decide +kernel
theorem dL_law_1452 : decode cL_law 1452 = .ok (.lcmp, 1) := by decide +kernel
theorem dL_law_1453 : decode cL_law 1453 = .ok (.ifCond .eq 78, 3) := by decide +kernel
theorem dL_law_1456 : decode cL_law 1456 = .ok (.iconst 0, 1) := by decide +kernel
theorem dL_law_1457 : decode cL_law 1457 = .ok (.ireturn, 1) := by decide +kernel
theorem dL_law_1458 : decode cL_law 1458 = .ok (.aload_n 1, 1) := by decide +kernel
theorem dL_law_1459 : decode cL_law 1459 = .ok (.aload_n 0, 1) := by decide +kernel
theorem dL_law_1460 : decode cL_law 1460 = .ok (.iload_n 3, 1) := by decide +kernel
theorem dL_law_1461 : decode cL_law 1461 = .ok (.iconst 1, 1) := by decide +kernel
theorem dL_law_1462 : decode cL_law 1462 = .ok (.iadd, 1) := by decide +kernel
theorem dL_law_1463 : decode cL_law 1463 = .ok (.iaload, 1) := by decide +kernel
theorem dL_law_1464 : decode cL_law 1464 = .ok (.invokevirtual 164, 3) := by decide +kernel
theorem dL_law_1467 : decode cL_law 1467 = .ok (.aload_n 2, 1) := by decide +kernel
theorem dL_law_1468 : decode cL_law 1468 = .ok (.aload_n 0, 1) := by decide +kernel
theorem dL_law_1469 : decode cL_law 1469 = .ok (.iload_n 3, 1) := by decide +kernel
theorem dL_law_1470 : decode cL_law 1470 = .ok (.iconst 1, 1) := by decide +kernel
theorem dL_law_1471 : decode cL_law 1471 = .ok (.iadd, 1) := by decide +kernel
theorem dL_law_1472 : decode cL_law 1472 = .ok (.iaload, 1) := by decide +kernel
theorem dL_law_1473 : decode cL_law 1473 = .ok (.invokevirtual 167, 3) := by decide +kernel
theorem dL_law_1476 : decode cL_law 1476 = .ok (.if_icmp .eq 55, 3) := by decide +kernel
theorem dL_law_1479 : decode cL_law 1479 = .ok (.iconst 0, 1) := by decide +kernel
theorem dL_law_1480 : decode cL_law 1480 = .ok (.ireturn, 1) := by decide +kernel
theorem dL_law_1481 : decode cL_law 1481 = .ok (.aload_n 1, 1) := by decide +kernel
theorem dL_law_1482 : decode cL_law 1482 = .ok (.invokevirtual 168, 3) := by decide +kernel
theorem dL_law_1485 : decode cL_law 1485 = .ok (.aload_n 2, 1) := by decide +kernel
theorem dL_law_1486 : decode cL_law 1486 = .ok (.invokevirtual 171, 3) := by decide +kernel
theorem dL_law_1489 : decode cL_law 1489 = .ok (.if_icmp .eq 42, 3) := by decide +kernel
theorem dL_law_1492 : decode cL_law 1492 = .ok (.iconst 0, 1) := by decide +kernel
theorem dL_law_1493 : decode cL_law 1493 = .ok (.ireturn, 1) := by decide +kernel
theorem dL_law_1494 : decode cL_law 1494 = .ok (.aload_n 1, 1) := by decide +kernel
theorem dL_law_1495 : decode cL_law 1495 = .ok (.aload_n 0, 1) := by decide +kernel
theorem dL_law_1496 : decode cL_law 1496 = .ok (.iload_n 3, 1) := by decide +kernel
theorem dL_law_1497 : decode cL_law 1497 = .ok (.iconst 1, 1) := by decide +kernel
theorem dL_law_1498 : decode cL_law 1498 = .ok (.iadd, 1) := by decide +kernel
theorem dL_law_1499 : decode cL_law 1499 = .ok (.iaload, 1) := by decide +kernel
theorem dL_law_1500 : decode cL_law 1500 = .ok (.invokevirtual 172, 3) := by decide +kernel
theorem dL_law_1503 : decode cL_law 1503 = .ok (.aload_n 2, 1) := by decide +kernel
theorem dL_law_1504 : decode cL_law 1504 = .ok (.aload_n 0, 1) := by decide +kernel
theorem dL_law_1505 : decode cL_law 1505 = .ok (.iload_n 3, 1) := by decide +kernel
theorem dL_law_1506 : decode cL_law 1506 = .ok (.iconst 1, 1) := by decide +kernel
theorem dL_law_1507 : decode cL_law 1507 = .ok (.iadd, 1) := by decide +kernel
theorem dL_law_1508 : decode cL_law 1508 = .ok (.iaload, 1) := by decide +kernel
theorem dL_law_1509 : decode cL_law 1509 = .ok (.invokevirtual 175, 3) := by decide +kernel
theorem dL_law_1512 : decode cL_law 1512 = .ok (.if_icmp .eq 19, 3) := by decide +kernel
theorem dL_law_1515 : decode cL_law 1515 = .ok (.iconst 0, 1) := by decide +kernel
theorem dL_law_1516 : decode cL_law 1516 = .ok (.ireturn, 1) := by decide +kernel
theorem dL_law_1517 : decode cL_law 1517 = .ok (.aload_n 1, 1) := by decide +kernel
theorem dL_law_1518 : decode cL_law 1518 = .ok (.invokevirtual 176, 3) := by decide +kernel
theorem dL_law_1521 : decode cL_law 1521 = .ok (.aload_n 2, 1) := by decide +kernel
theorem dL_law_1522 : decode cL_law 1522 = .ok (.invokevirtual 179, 3) := by decide +kernel
theorem dL_law_1525 : decode cL_law 1525 = .ok (.lcmp, 1) := by decide +kernel
theorem dL_law_1526 : decode cL_law 1526 = .ok (.ifCond .eq 5, 3) := by decide +kernel
theorem dL_law_1529 : decode cL_law 1529 = .ok (.iconst 0, 1) := by decide +kernel
theorem dL_law_1530 : decode cL_law 1530 = .ok (.ireturn, 1) := by decide +kernel
theorem dL_law_1531 : decode cL_law 1531 = .ok (.iinc 3 6, 3) := by decide +kernel
theorem dL_law_1534 : decode cL_law 1534 = .ok (.goto (-1516), 3) := by decide +kernel
theorem dL_law_1537 : decode cL_law 1537 = .ok (.iconst 1, 1) := by decide +kernel
theorem dL_law_1538 : decode cL_law 1538 = .ok (.ireturn, 1) := by decide +kernel
