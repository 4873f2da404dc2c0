theorem dX8_setFacts_29 : decode cX8_setFacts 29 = .ok (.iload_n 3, 1) := by decide +kernel
theorem dX8_setFacts_30 : decode cX8_setFacts 30 = .ok (.iload 4, 2) := by decide +kernel
theorem dX8_setFacts_32 : decode cX8_setFacts 32 = .ok (.iadd, 1) := by decide +kernel
theorem dX8_setFacts_33 : decode cX8_setFacts 33 = .ok (.iconst 4, 1) := by decide +kernel
theorem dX8_setFacts_34 : decode cX8_setFacts 34 = .ok (.if_icmp .ne 34, 3) := by decide +kernel
theorem dX8_setFacts_37 : decode cX8_setFacts 37 = .ok (.iload_n 3, 1) := by decide +kernel
theorem dX8_setFacts_38 : decode cX8_setFacts 38 = .ok (.iconst 3, 1) := by decide +kernel
theorem dX8_setFacts_39 : decode cX8_setFacts 39 = .ok (.if_icmp .ne 11, 3) := by decide +kernel
theorem dX8_setFacts_42 : decode cX8_setFacts 42 = .ok (.aload_n 0, 1) := by decide +kernel
theorem dX8_setFacts_43 : decode cX8_setFacts 43 = .ok (.getfield 160, 3) := by decide +kernel
theorem dX8_setFacts_46 : decode cX8_setFacts 46 = .ok (.iconst 3, 1) := by decide +kernel
theorem dX8_setFacts_47 : decode cX8_setFacts 47 = .ok (.if_icmp .eq 17, 3) := by decide +kernel
theorem dX8_setFacts_50 : decode cX8_setFacts 50 = .ok (.iload 4, 2) := by decide +kernel
theorem dX8_setFacts_52 : decode cX8_setFacts 52 = .ok (.iconst 3, 1) := by decide +kernel
theorem dX8_setFacts_53 : decode cX8_setFacts 53 = .ok (.if_icmp .ne 15, 3) := by decide +kernel
theorem dX8_setFacts_56 : decode cX8_setFacts 56 = .ok (.aload_n 0, 1) := by decide +kernel
theorem dX8_setFacts_57 : decode cX8_setFacts 57 = .ok (.getfield 163, 3) := by decide +kernel
theorem dX8_setFacts_60 : decode cX8_setFacts 60 = .ok (.iconst 3, 1) := by decide +kernel
theorem dX8_setFacts_61 : decode cX8_setFacts 61 = .ok (.if_icmp .ne 7, 3) := by decide +kernel
theorem dX8_setFacts_64 : decode cX8_setFacts 64 = .ok (.iconst 3, 1) := by decide +kernel
theorem dX8_setFacts_65 : decode cX8_setFacts 65 = .ok (.goto 43, 3) := by decide +kernel
theorem dX8_setFacts_68 : decode cX8_setFacts 68 = .ok (.iload_n 3, 1) := by decide +kernel
theorem dX8_setFacts_69 : decode cX8_setFacts 69 = .ok (.iconst 2, 1) := by decide +kernel
theorem dX8_setFacts_70 : decode cX8_setFacts 70 = .ok (.if_icmp .ne 13, 3) := by decide +kernel
theorem dX8_setFacts_73 : decode cX8_setFacts 73 = .ok (.iload 4, 2) := by decide +kernel
theorem dX8_setFacts_75 : decode cX8_setFacts 75 = .ok (.iconst 2, 1) := by decide +kernel
theorem dX8_setFacts_76 : decode cX8_setFacts 76 = .ok (.if_icmp .ne 7, 3) := by decide +kernel
theorem dX8_setFacts_79 : decode cX8_setFacts 79 = .ok (.iconst 4, 1) := by decide +kernel
theorem dX8_setFacts_80 : decode cX8_setFacts 80 = .ok (.goto 28, 3) := by decide +kernel
theorem dX8_setFacts_83 : decode cX8_setFacts 83 = .ok (.iload_n 3, 1) := by decide +kernel
theorem dX8_setFacts_84 : decode cX8_setFacts 84 = .ok (.iload 4, 2) := by decide +kernel
theorem dX8_setFacts_86 : decode cX8_setFacts 86 = .ok (.iadd, 1) := by decide +kernel
theorem dX8_setFacts_87 : decode cX8_setFacts 87 = .ok (.iconst 3, 1) := by decide +kernel
theorem dX8_setFacts_88 : decode cX8_setFacts 88 = .ok (.if_icmp .ne 7, 3) := by decide +kernel
theorem dX8_setFacts_91 : decode cX8_setFacts 91 = .ok (.iconst 1, 1) := by decide +kernel
theorem dX8_setFacts_92 : decode cX8_setFacts 92 = .ok (.goto 16, 3) := by decide +kernel
theorem dX8_setFacts_95 : decode cX8_setFacts 95 = .ok (.iload_n 3, 1) := by decide +kernel
theorem dX8_setFacts_96 : decode cX8_setFacts 96 = .ok (.iload 4, 2) := by decide +kernel
theorem dX8_setFacts_98 : decode cX8_setFacts 98 = .ok (.iadd, 1) := by decide +kernel
theorem dX8_setFacts_99 : decode cX8_setFacts 99 = .ok (.iconst 3, 1) := by decide +kernel
theorem dX8_setFacts_100 : decode cX8_setFacts 100 = .ok (.if_icmp .ge 7, 3) := by decide +kernel
theorem dX8_setFacts_103 : decode cX8_setFacts 103 = .ok (.iconst 2, 1) := by decide +kernel
theorem dX8_setFacts_104 : decode cX8_setFacts 104 = .ok (.goto 4, 3) := by decide +kernel
theorem dX8_setFacts_107 : decode cX8_setFacts 107 = .ok (.iconst 0, 1) := by decide +kernel
theorem dX8_setFacts_108 : decode cX8_setFacts 108 = .ok (.istore 5, 2) := by decide +kernel
theorem dX8_setFacts_110 : decode cX8_setFacts 110 = .ok (.aload_n 0, 1) := by decide +kernel
theorem dX8_setFacts_111 : decode cX8_setFacts 111 = .ok (.getfield 40, 3) := by decide +kernel
theorem dX8_setFacts_114 : decode cX8_setFacts 114 = .ok (.iload_n 2, 1) := by decide +kernel
theorem dX8_setFacts_115 : decode cX8_setFacts 115 = .ok (.iload 5, 2) := by decide +kernel
theorem dX8_setFacts_117 : decode cX8_setFacts 117 = .ok (.iastore, 1) := by decide +kernel
theorem dX8_setFacts_118 : decode cX8_setFacts 118 = .ok (.aload_n 0, 1) := by decide +kernel
theorem dX8_setFacts_119 : decode cX8_setFacts 119 = .ok (.getfield 40, 3) := by decide +kernel
theorem dX8_setFacts_122 : decode cX8_setFacts 122 = .ok (.iload_n 2, 1) := by decide +kernel
theorem dX8_setFacts_123 : decode cX8_setFacts 123 = .ok (.iconst 1, 1) := by decide +kernel
theorem dX8_setFacts_124 : decode cX8_setFacts 124 = .ok (.iadd, 1) := by decide +kernel
theorem dX8_setFacts_125 : decode cX8_setFacts 125 = .ok (.iload_n 3, 1) := by decide +kernel
theorem dX8_setFacts_126 : decode cX8_setFacts 126 = .ok (.iastore, 1) := by decide +kernel
theorem dX8_setFacts_127 : decode cX8_setFacts 127 = .ok (.aload_n 0, 1) := by decide +kernel
theorem dX8_setFacts_128 : decode cX8_setFacts 128 = .ok (.getfield 40, 3) := by decide +kernel
theorem dX8_setFacts_131 : decode cX8_setFacts 131 = .ok (.iload_n 2, 1) := by decide +kernel
theorem dX8_setFacts_132 : decode cX8_setFacts 132 = .ok (.iconst 2, 1) := by decide +kernel
theorem dX8_setFacts_133 : decode cX8_setFacts 133 = .ok (.iadd, 1) := by decide +kernel
theorem dX8_setFacts_134 : decode cX8_setFacts 134 = .ok (.iload 4, 2) := by decide +kernel
theorem dX8_setFacts_136 : decode cX8_setFacts 136 = .ok (.iastore, 1) := by decide +kernel
theorem dX8_setFacts_137 : decode cX8_setFacts 137 = .ok (.aload_n 0, 1) := by decide +kernel
theorem dX8_setFacts_138 : decode cX8_setFacts 138 = .ok (.getfield 40, 3) := by decide +kernel
theorem dX8_setFacts_141 : decode cX8_setFacts 141 = .ok (.iload_n 2, 1) := by decide +kernel
theorem dX8_setFacts_142 : decode cX8_setFacts 142 = .ok (.iconst 3, 1) := by decide +kernel
theorem dX8_setFacts_143 : decode cX8_setFacts 143 = .ok (.iadd, 1) := by decide +kernel
theorem dX8_setFacts_144 : decode cX8_setFacts 144 = .ok (.iconst 4, 1) := by decide +kernel
theorem dX8_setFacts_145 : decode cX8_setFacts 145 = .ok (.iload_n 3, 1) := by decide +kernel
theorem dX8_setFacts_146 : decode cX8_setFacts 146 = .ok (.isub, 1) := by decide +kernel
theorem dX8_setFacts_147 : decode cX8_setFacts 147 = .ok (.iload 4, 2) := by decide +kernel
theorem dX8_setFacts_149 : decode cX8_setFacts 149 = .ok (.isub, 1) := by decide +kernel
theorem dX8_setFacts_150 : decode cX8_setFacts 150 = .ok (.iastore, 1) := by decide +kernel
theorem dX8_setFacts_151 : decode cX8_setFacts 151 = .ok (.aload_n 0, 1) := by decide +kernel
theorem dX8_setFacts_152 : decode cX8_setFacts 152 = .ok (.getfield 40, 3) := by decide +kernel
theorem dX8_setFacts_155 : decode cX8_setFacts 155 = .ok (.iload_n 2, 1) := by decide +kernel
theorem dX8_setFacts_156 : decode cX8_setFacts 156 = .ok (.iconst 4, 1) := by decide +kernel
theorem dX8_setFacts_157 : decode cX8_setFacts 157 = .ok (.iadd, 1) := by decide +kernel
theorem dX8_setFacts_158 : decode cX8_setFacts 158 = .ok (.aload_n 0, 1) := by decide +kernel
theorem dX8_setFacts_159 : decode cX8_setFacts 159 = .ok (.getfield 160, 3) := by decide +kernel
theorem dX8_setFacts_162 : decode cX8_setFacts 162 = .ok (.iastore, 1) := by decide +kernel
theorem dX8_setFacts_163 : decode cX8_setFacts 163 = .ok (.aload_n 0, 1) := by decide +kernel
theorem dX8_setFacts_164 : decode cX8_setFacts 164 = .ok (.getfield 40, 3) := by decide +kernel
theorem dX8_setFacts_167 : decode cX8_setFacts 167 = .ok (.iload_n 2, 1) := by decide +kernel
theorem dX8_setFacts_168 : decode cX8_setFacts 168 = .ok (.iconst 5, 1) := by decide +kernel
theorem dX8_setFacts_169 : decode cX8_setFacts 169 = .ok (.iadd, 1) := by decide +kernel
theorem dX8_setFacts_170 : decode cX8_setFacts 170 = .ok (.aload_n 0, 1) := by decide +kernel
theorem dX8_setFacts_171 : decode cX8_setFacts 171 = .ok (.getfield 163, 3) := by decide +kernel
theorem dX8_setFacts_174 : decode cX8_setFacts 174 = .ok (.iastore, 1) := by decide +kernel
theorem dX8_setFacts_175 : decode cX8_setFacts 175 = .ok (.aload_n 0, 1) := by decide +kernel
theorem dX8_setFacts_176 : decode cX8_setFacts 176 = .ok (.getfield 40, 3) := by decide +kernel
theorem dX8_setFacts_179 : decode cX8_setFacts 179 = .ok (.iload_n 2, 1) := by decide +kernel
theorem dX8_setFacts_180 : decode cX8_setFacts 180 = .ok (.bipush 6, 2) := by decide +kernel
theorem dX8_setFacts_182 : decode cX8_setFacts 182 = .ok (.iadd, 1) := by decide +kernel
theorem dX8_setFacts_183 : decode cX8_setFacts 183 = .ok (.iconst 3, 1) := by decide +kernel
theorem dX8_setFacts_184 : decode cX8_setFacts 184 = .ok (.aload_n 0, 1) := by decide +kernel
theorem dX8_setFacts_185 : decode cX8_setFacts 185 = .ok (.getfield 160, 3) := by decide +kernel
theorem dX8_setFacts_188 : decode cX8_setFacts 188 = .ok (.isub, 1) := by decide +kernel
theorem dX8_setFacts_189 : decode cX8_setFacts 189 = .ok (.aload_n 0, 1) := by decide +kernel
theorem dX8_setFacts_190 : decode cX8_setFacts 190 = .ok (.getfield 163, 3) := by decide +kernel
theorem dX8_setFacts_193 : decode cX8_setFacts 193 = .ok (.isub, 1) := by decide +kernel
theorem dX8_setFacts_194 : decode cX8_setFacts 194 = .ok (.iastore, 1) := by decide +kernel
theorem dX8_setFacts_195 : decode cX8_setFacts 195 = .ok (.aload_n 0, 1) := by decide +kernel
theorem dX8_setFacts_196 : decode cX8_setFacts 196 = .ok (.getfield 40, 3) := by decide +kernel
theorem dX8_setFacts_199 : decode cX8_setFacts 199 = .ok (.iload_n 2, 1) := by decide +kernel
theorem dX8_setFacts_200 : decode cX8_setFacts 200 = .ok (.bipush 7, 2) := by decide +kernel
theorem dX8_setFacts_202 : decode cX8_setFacts 202 = .ok (.iadd, 1) := by decide +kernel
theorem dX8_setFacts_203 : decode cX8_setFacts 203 = .ok (.aload_n 0, 1) := by decide +kernel
theorem dX8_setFacts_204 : decode cX8_setFacts 204 = .ok (.getfield 26, 3) := by decide +kernel
theorem dX8_setFacts_207 : decode cX8_setFacts 207 = .ok (.invokestatic 173, 3) := by decide +kernel
theorem dX8_setFacts_210 : decode cX8_setFacts 210 = .ok (.l2i, 1) := by decide +kernel
theorem dX8_setFacts_211 : decode cX8_setFacts 211 = .ok (.iastore, 1) := by decide +kernel
theorem dX8_setFacts_212 : decode cX8_setFacts 212 = .ok (.aload_n 0, 1) := by decide +kernel
theorem dX8_setFacts_213 : decode cX8_setFacts 213 = .ok (.getfield 40, 3) := by decide +kernel
theorem dX8_setFacts_216 : decode cX8_setFacts 216 = .ok (.iload_n 2, 1) := by decide +kernel
theorem dX8_setFacts_217 : decode cX8_setFacts 217 = .ok (.bipush 8, 2) := by decide +kernel
theorem dX8_setFacts_219 : decode cX8_setFacts 219 = .ok (.iadd, 1) := by decide +kernel
theorem dX8_setFacts_220 : decode cX8_setFacts 220 = .ok (.aload_n 0, 1) := by decide +kernel
theorem dX8_setFacts_221 : decode cX8_setFacts 221 = .ok (.iconst 0, 1) := by decide +kernel
theorem dX8_setFacts_222 : decode cX8_setFacts 222 = .ok (.iconst 1, 1) := by decide +kernel
theorem dX8_setFacts_223 : decode cX8_setFacts 223 = .ok (.iconst 2, 1) := by decide +kernel
theorem dX8_setFacts_224 : decode cX8_setFacts 224 = .ok (.invokevirtual 169, 3) := by decide +kernel
theorem dX8_setFacts_227 : decode cX8_setFacts 227 = .ok (.l2i, 1) := by decide +kernel
theorem dX8_setFacts_228 : decode cX8_setFacts 228 = .ok (.iastore, 1) := by decide +kernel
theorem dX8_setFacts_229 : decode cX8_setFacts 229 = .ok (.aload_n 0, 1) := by decide +kernel
theorem dX8_setFacts_230 : decode cX8_setFacts 230 = .ok (.getfield 40, 3) := by decide +kernel
theorem dX8_setFacts_233 : decode cX8_setFacts 233 = .ok (.iload_n 2, 1) := by decide +kernel
theorem dX8_setFacts_234 : decode cX8_setFacts 234 = .ok (.bipush 9, 2) := by decide +kernel
theorem dX8_setFacts_236 : decode cX8_setFacts 236 = .ok (.iadd, 1) := by decide +kernel
theorem dX8_setFacts_237 : decode cX8_setFacts 237 = .ok (.iload_n 3, 1) := by decide +kernel
theorem dX8_setFacts_238 : decode cX8_setFacts 238 = .ok (.iload 4, 2) := by decide +kernel
theorem dX8_setFacts_240 : decode cX8_setFacts 240 = .ok (.aload_n 0, 1) := by decide +kernel
theorem dX8_setFacts_241 : decode cX8_setFacts 241 = .ok (.getfield 160, 3) := by decide +kernel
theorem dX8_setFacts_244 : decode cX8_setFacts 244 = .ok (.aload_n 0, 1) := by decide +kernel
theorem dX8_setFacts_245 : decode cX8_setFacts 245 = .ok (.getfield 163, 3) := by decide +kernel
theorem dX8_setFacts_248 : decode cX8_setFacts 248 = .ok (.invokestatic 194, 3) := by decide +kernel
theorem dX8_setFacts_251 : decode cX8_setFacts 251 = .ok (.iastore, 1) := by decide +kernel
theorem dX8_setFacts_252 : decode cX8_setFacts 252 = .ok (.iload 5, 2) := by decide +kernel
theorem dX8_setFacts_254 : decode cX8_setFacts 254 = .ok (.ireturn, 1) := by decide +kernel
theorem dX8_rowOf_0 : decode cX8_rowOf 0 = .ok (.iload_n 0, 1) := by decide +kernel
theorem dX8_rowOf_1 : decode cX8_rowOf 1 = .ok (.iconst 4, 1) := by decide +kernel
theorem dX8_rowOf_2 : decode cX8_rowOf 2 = .ok (.if_icmp .ge 7, 3) := by decide +kernel
theorem dX8_rowOf_5 : decode cX8_rowOf 5 = .ok (.iconst 0, 1) := by decide +kernel
theorem dX8_rowOf_6 : decode cX8_rowOf 6 = .ok (.goto 24, 3) := by decide +kernel
theorem dX8_rowOf_9 : decode cX8_rowOf 9 = .ok (.iload_n 0, 1) := by decide +kernel
theorem dX8_rowOf_10 : decode cX8_rowOf 10 = .ok (.bipush 7, 2) := by decide +kernel
theorem dX8_rowOf_12 : decode cX8_rowOf 12 = .ok (.if_icmp .ge 7, 3) := by decide +kernel
theorem dX8_rowOf_15 : decode cX8_rowOf 15 = .ok (.iconst 1, 1) := by decide +kernel
theorem dX8_rowOf_16 : decode cX8_rowOf 16 = .ok (.goto 14, 3) := by decide +kernel
theorem dX8_rowOf_19 : decode cX8_rowOf 19 = .ok (.iload_n 0, 1) := by decide +kernel
theorem dX8_rowOf_20 : decode cX8_rowOf 20 = .ok (.bipush 9, 2) := by decide +kernel
theorem dX8_rowOf_22 : decode cX8_rowOf 22 = .ok (.if_icmp .ge 7, 3) := by decide +kernel
theorem dX8_rowOf_25 : decode cX8_rowOf 25 = .ok (.iconst 2, 1) := by decide +kernel
theorem dX8_rowOf_26 : decode cX8_rowOf 26 = .ok (.goto 4, 3) := by decide +kernel
theorem dX8_rowOf_29 : decode cX8_rowOf 29 = .ok (.iconst 3, 1) := by decide +kernel
theorem dX8_rowOf_30 : decode cX8_rowOf 30 = .ok (.ireturn, 1) := by decide +kernel
theorem dX8_columnOf_0 : decode cX8_columnOf 0 = .ok (.iload_n 0, 1) := by decide +kernel
theorem dX8_columnOf_1 : decode cX8_columnOf 1 = .ok (.iconst 4, 1) := by decide +kernel
theorem dX8_columnOf_2 : decode cX8_columnOf 2 = .ok (.if_icmp .ge 7, 3) := by decide +kernel
theorem dX8_columnOf_5 : decode cX8_columnOf 5 = .ok (.iload_n 0, 1) := by decide +kernel
theorem dX8_columnOf_6 : decode cX8_columnOf 6 = .ok (.goto 28, 3) := by decide +kernel
theorem dX8_columnOf_9 : decode cX8_columnOf 9 = .ok (.iload_n 0, 1) := by decide +kernel
theorem dX8_columnOf_10 : decode cX8_columnOf 10 = .ok (.bipush 7, 2) := by decide +kernel
theorem dX8_columnOf_12 : decode cX8_columnOf 12 = .ok (.if_icmp .ge 9, 3) := by decide +kernel
theorem dX8_columnOf_15 : decode cX8_columnOf 15 = .ok (.iload_n 0, 1) := by decide +kernel
theorem dX8_columnOf_16 : decode cX8_columnOf 16 = .ok (.iconst 3, 1) := by decide +kernel
theorem dX8_columnOf_17 : decode cX8_columnOf 17 = .ok (.isub, 1) := by decide +kernel
theorem dX8_columnOf_18 : decode cX8_columnOf 18 = .ok (.goto 16, 3) := by decide +kernel
theorem dX8_columnOf_21 : decode cX8_columnOf 21 = .ok (.iload_n 0, 1) := by decide +kernel
theorem dX8_columnOf_22 : decode cX8_columnOf 22 = .ok (.bipush 9, 2) := by decide +kernel
theorem dX8_columnOf_24 : decode cX8_columnOf 24 = .ok (.if_icmp .ge 9, 3) := by decide +kernel
theorem dX8_columnOf_27 : decode cX8_columnOf 27 = .ok (.iload_n 0, 1) := by decide +kernel
theorem dX8_columnOf_28 : decode cX8_columnOf 28 = .ok (.iconst 5, 1) := by decide +kernel
theorem dX8_columnOf_29 : decode cX8_columnOf 29 = .ok (.isub, 1) := by decide +kernel
theorem dX8_columnOf_30 : decode cX8_columnOf 30 = .ok (.goto 4, 3) := by decide +kernel
theorem dX8_columnOf_33 : decode cX8_columnOf 33 = .ok (.iconst 3, 1) := by decide +kernel
theorem dX8_columnOf_34 : decode cX8_columnOf 34 = .ok (.ireturn, 1) := by decide +kernel
theorem dX8_isSmall_0 : decode cX8_isSmall 0 = .ok (.iload_n 0, 1) := by decide +kernel
theorem dX8_isSmall_1 : decode cX8_isSmall 1 = .ok (.bipush (-4), 2) := by decide +kernel
theorem dX8_isSmall_3 : decode cX8_isSmall 3 = .ok (.iconst 4, 1) := by decide +kernel
theorem dX8_isSmall_4 : decode cX8_isSmall 4 = .ok (.invokestatic 133, 3) := by decide +kernel
theorem dX8_isSmall_7 : decode cX8_isSmall 7 = .ok (.ireturn, 1) := by decide +kernel
theorem dX8_ground_0 : decode cX8_ground 0 = .ok (.iload_n 1, 1) := by decide +kernel
theorem dX8_ground_1 : decode cX8_ground 1 = .ok (.invokestatic 181, 3) := by decide +kernel
theorem dX8_ground_4 : decode cX8_ground 4 = .ok (.ifCond .eq 10, 3) := by decide +kernel
theorem dX8_ground_7 : decode cX8_ground 7 = .ok (.iload_n 2, 1) := by decide +kernel
theorem dX8_ground_8 : decode cX8_ground 8 = .ok (.invokestatic 137, 3) := by decide +kernel
theorem dX8_ground_11 : decode cX8_ground 11 = .ok (.ifCond .ne 5, 3) := by decide +kernel
theorem dX8_ground_14 : decode cX8_ground 14 = .ok (.iconst (-1), 1) := by decide +kernel
theorem dX8_ground_15 : decode cX8_ground 15 = .ok (.ireturn, 1) := by decide +kernel
theorem dX8_ground_16 : decode cX8_ground 16 = .ok (.aload_n 0, 1) := by decide +kernel
theorem dX8_ground_17 : decode cX8_ground 17 = .ok (.iload_n 2, 1) := by decide +kernel
theorem dX8_ground_18 : decode cX8_ground 18 = .ok (.invokevirtual 149, 3) := by decide +kernel
theorem dX8_ground_21 : decode cX8_ground 21 = .ok (.istore_n 3, 1) := by decide +kernel
theorem dX8_ground_22 : decode cX8_ground 22 = .ok (.iload_n 3, 1) := by decide +kernel
theorem dX8_ground_23 : decode cX8_ground 23 = .ok (.ifCond .ge 5, 3) := by decide +kernel
theorem dX8_ground_26 : decode cX8_ground 26 = .ok (.iload_n 3, 1) := by decide +kernel
theorem dX8_ground_27 : decode cX8_ground 27 = .ok (.ireturn, 1) := by decide +kernel
theorem dX8_ground_28 : decode cX8_ground 28 = .ok (.iconst 1, 1) := by decide +kernel
theorem dX8_ground_29 : decode cX8_ground 29 = .ok (.istore 4, 2) := by decide +kernel
theorem dX8_ground_31 : decode cX8_ground 31 = .ok (.iconst 1, 1) := by decide +kernel
theorem dX8_ground_32 : decode cX8_ground 32 = .ok (.istore 5, 2) := by decide +kernel
theorem dX8_ground_34 : decode cX8_ground 34 = .ok (.iconst 0, 1) := by decide +kernel
theorem dX8_ground_35 : decode cX8_ground 35 = .ok (.istore 6, 2) := by decide +kernel
theorem dX8_ground_37 : decode cX8_ground 37 = .ok (.iload 6, 2) := by decide +kernel
theorem dX8_ground_39 : decode cX8_ground 39 = .ok (.bipush 10, 2) := by decide +kernel
theorem dX8_ground_41 : decode cX8_ground 41 = .ok (.if_icmp .ge 75, 3) := by decide +kernel
theorem dX8_ground_44 : decode cX8_ground 44 = .ok (.iload 6, 2) := by decide +kernel
theorem dX8_ground_46 : decode cX8_ground 46 = .ok (.aload_n 0, 1) := by decide +kernel
theorem dX8_ground_47 : decode cX8_ground 47 = .ok (.getfield 17, 3) := by decide +kernel
theorem dX8_ground_50 : decode cX8_ground 50 = .ok (.iload_n 2, 1) := by decide +kernel
theorem dX8_ground_51 : decode cX8_ground 51 = .ok (.iaload, 1) := by decide +kernel
theorem dX8_ground_52 : decode cX8_ground 52 = .ok (.if_icmp .ge 18, 3) := by decide +kernel
theorem dX8_ground_55 : decode cX8_ground 55 = .ok (.aload_n 0, 1) := by decide +kernel
theorem dX8_ground_56 : decode cX8_ground 56 = .ok (.getfield 20, 3) := by decide +kernel
theorem dX8_ground_59 : decode cX8_ground 59 = .ok (.bipush 16, 2) := by decide +kernel
theorem dX8_ground_61 : decode cX8_ground 61 = .ok (.iload_n 2, 1) := by decide +kernel
theorem dX8_ground_62 : decode cX8_ground 62 = .ok (.imul, 1) := by decide +kernel
theorem dX8_ground_63 : decode cX8_ground 63 = .ok (.iload 6, 2) := by decide +kernel
theorem dX8_ground_65 : decode cX8_ground 65 = .ok (.iadd, 1) := by decide +kernel
theorem dX8_ground_66 : decode cX8_ground 66 = .ok (.iaload, 1) := by decide +kernel
theorem dX8_ground_67 : decode cX8_ground 67 = .ok (.goto 4, 3) := by decide +kernel
theorem dX8_ground_70 : decode cX8_ground 70 = .ok (.iconst 0, 1) := by decide +kernel
theorem dX8_ground_71 : decode cX8_ground 71 = .ok (.istore 7, 2) := by decide +kernel
theorem dX8_ground_73 : decode cX8_ground 73 = .ok (.iload 4, 2) := by decide +kernel
theorem dX8_ground_75 : decode cX8_ground 75 = .ok (.ifCond .eq 15, 3) := by decide +kernel
theorem dX8_ground_78 : decode cX8_ground 78 = .ok (.iload 7, 2) := by decide +kernel
theorem dX8_ground_80 : decode cX8_ground 80 = .ok (.invokestatic 198, 3) := by decide +kernel
theorem dX8_ground_83 : decode cX8_ground 83 = .ok (.ifCond .eq 7, 3) := by decide +kernel
theorem dX8_ground_86 : decode cX8_ground 86 = .ok (.iconst 1, 1) := by decide +kernel
theorem dX8_ground_87 : decode cX8_ground 87 = .ok (.goto 4, 3) := by decide +kernel
theorem dX8_ground_90 : decode cX8_ground 90 = .ok (.iconst 0, 1) := by decide +kernel
theorem dX8_ground_91 : decode cX8_ground 91 = .ok (.istore 4, 2) := by decide +kernel
theorem dX8_ground_93 : decode cX8_ground 93 = .ok (.iload 5, 2) := by decide +kernel
theorem dX8_ground_95 : decode cX8_ground 95 = .ok (.ifCond .eq 12, 3) := by decide +kernel
theorem dX8_ground_98 : decode cX8_ground 98 = .ok (.iload 7, 2) := by decide +kernel
theorem dX8_ground_100 : decode cX8_ground 100 = .ok (.ifCond .ne 7, 3) := by decide +kernel
theorem dX8_ground_103 : decode cX8_ground 103 = .ok (.iconst 1, 1) := by decide +kernel
theorem dX8_ground_104 : decode cX8_ground 104 = .ok (.goto 4, 3) := by decide +kernel
theorem dX8_ground_107 : decode cX8_ground 107 = .ok (.iconst 0, 1) := by decide +kernel
theorem dX8_ground_108 : decode cX8_ground 108 = .ok (.istore 5, 2) := by decide +kernel
theorem dX8_ground_110 : decode cX8_ground 110 = .ok (.iinc 6 1, 3) := by decide +kernel
theorem dX8_ground_113 : decode cX8_ground 113 = .ok (.goto (-76), 3) := by decide +kernel
theorem dX8_ground_116 : decode cX8_ground 116 = .ok (.iload 4, 2) := by decide +kernel
theorem dX8_ground_118 : decode cX8_ground 118 = .ok (.ifCond .eq 8, 3) := by decide +kernel
theorem dX8_ground_121 : decode cX8_ground 121 = .ok (.iload 5, 2) := by decide +kernel
theorem dX8_ground_123 : decode cX8_ground 123 = .ok (.ifCond .eq 18, 3) := by decide +kernel
theorem dX8_ground_126 : decode cX8_ground 126 = .ok (.aload_n 0, 1) := by decide +kernel
theorem dX8_ground_127 : decode cX8_ground 127 = .ok (.iload 4, 2) := by decide +kernel
theorem dX8_ground_129 : decode cX8_ground 129 = .ok (.ifCond .eq 7, 3) := by decide +kernel
theorem dX8_ground_132 : decode cX8_ground 132 = .ok (.iconst 4, 1) := by decide +kernel
theorem dX8_ground_133 : decode cX8_ground 133 = .ok (.goto 4, 3) := by decide +kernel
theorem dX8_ground_136 : decode cX8_ground 136 = .ok (.iconst 2, 1) := by decide +kernel
theorem dX8_ground_137 : decode cX8_ground 137 = .ok (.invokevirtual 141, 3) := by decide +kernel
theorem dX8_ground_140 : decode cX8_ground 140 = .ok (.ireturn, 1) := by decide +kernel
theorem dX8_ground_141 : decode cX8_ground 141 = .ok (.iconst 0, 1) := by decide +kernel
theorem dX8_ground_142 : decode cX8_ground 142 = .ok (.istore 6, 2) := by decide +kernel
theorem dX8_ground_144 : decode cX8_ground 144 = .ok (.iload 6, 2) := by decide +kernel
theorem dX8_ground_146 : decode cX8_ground 146 = .ok (.bipush 10, 2) := by decide +kernel
theorem dX8_ground_148 : decode cX8_ground 148 = .ok (.if_icmp .ge 88, 3) := by decide +kernel
theorem dX8_ground_151 : decode cX8_ground 151 = .ok (.iload 6, 2) := by decide +kernel
theorem dX8_ground_153 : decode cX8_ground 153 = .ok (.aload_n 0, 1) := by decide +kernel
theorem dX8_ground_154 : decode cX8_ground 154 = .ok (.getfield 17, 3) := by decide +kernel
theorem dX8_ground_157 : decode cX8_ground 157 = .ok (.iload_n 2, 1) := by decide +kernel
theorem dX8_ground_158 : decode cX8_ground 158 = .ok (.iaload, 1) := by decide +kernel
theorem dX8_ground_159 : decode cX8_ground 159 = .ok (.if_icmp .ge 18, 3) := by decide +kernel
theorem dX8_ground_162 : decode cX8_ground 162 = .ok (.aload_n 0, 1) := by decide +kernel
theorem dX8_ground_163 : decode cX8_ground 163 = .ok (.getfield 20, 3) := by decide +kernel
theorem dX8_ground_166 : decode cX8_ground 166 = .ok (.bipush 16, 2) := by decide +kernel
theorem dX8_ground_168 : decode cX8_ground 168 = .ok (.iload_n 2, 1) := by decide +kernel
theorem dX8_ground_169 : decode cX8_ground 169 = .ok (.imul, 1) := by decide +kernel
theorem dX8_ground_170 : decode cX8_ground 170 = .ok (.iload 6, 2) := by decide +kernel
theorem dX8_ground_172 : decode cX8_ground 172 = .ok (.iadd, 1) := by decide +kernel
theorem dX8_ground_173 : decode cX8_ground 173 = .ok (.iaload, 1) := by decide +kernel
theorem dX8_ground_174 : decode cX8_ground 174 = .ok (.goto 4, 3) := by decide +kernel
theorem dX8_ground_177 : decode cX8_ground 177 = .ok (.iconst 0, 1) := by decide +kernel
theorem dX8_ground_178 : decode cX8_ground 178 = .ok (.istore 7, 2) := by decide +kernel
theorem dX8_ground_180 : decode cX8_ground 180 = .ok (.aload_n 0, 1) := by decide +kernel
theorem dX8_ground_181 : decode cX8_ground 181 = .ok (.getfield 37, 3) := by decide +kernel
theorem dX8_ground_184 : decode cX8_ground 184 = .ok (.bipush 16, 2) := by decide +kernel
theorem dX8_ground_186 : decode cX8_ground 186 = .ok (.iload_n 1, 1) := by decide +kernel
theorem dX8_ground_187 : decode cX8_ground 187 = .ok (.imul, 1) := by decide +kernel
theorem dX8_ground_188 : decode cX8_ground 188 = .ok (.iconst 4, 1) := by decide +kernel
theorem dX8_ground_189 : decode cX8_ground 189 = .ok (.iload 6, 2) := by decide +kernel
theorem dX8_ground_191 : decode cX8_ground 191 = .ok (.invokestatic 201, 3) := by decide +kernel
theorem dX8_ground_194 : decode cX8_ground 194 = .ok (.imul, 1) := by decide +kernel
theorem dX8_ground_195 : decode cX8_ground 195 = .ok (.iadd, 1) := by decide +kernel
theorem dX8_ground_196 : decode cX8_ground 196 = .ok (.iload 6, 2) := by decide +kernel
theorem dX8_ground_198 : decode cX8_ground 198 = .ok (.invokestatic 204, 3) := by decide +kernel
theorem dX8_ground_201 : decode cX8_ground 201 = .ok (.iadd, 1) := by decide +kernel
theorem dX8_ground_202 : decode cX8_ground 202 = .ok (.iload 7, 2) := by decide +kernel
theorem dX8_ground_204 : decode cX8_ground 204 = .ok (.iastore, 1) := by decide +kernel
theorem dX8_ground_205 : decode cX8_ground 205 = .ok (.aload_n 0, 1) := by decide +kernel
theorem dX8_ground_206 : decode cX8_ground 206 = .ok (.getfield 37, 3) := by decide +kernel
theorem dX8_ground_209 : decode cX8_ground 209 = .ok (.bipush 16, 2) := by decide +kernel
theorem dX8_ground_211 : decode cX8_ground 211 = .ok (.iload_n 1, 1) := by decide +kernel
theorem dX8_ground_212 : decode cX8_ground 212 = .ok (.imul, 1) := by decide +kernel
theorem dX8_ground_213 : decode cX8_ground 213 = .ok (.iconst 4, 1) := by decide +kernel
theorem dX8_ground_214 : decode cX8_ground 214 = .ok (.iload 6, 2) := by decide +kernel
theorem dX8_ground_216 : decode cX8_ground 216 = .ok (.invokestatic 204, 3) := by decide +kernel
theorem dX8_ground_219 : decode cX8_ground 219 = .ok (.imul, 1) := by decide +kernel
theorem dX8_ground_220 : decode cX8_ground 220 = .ok (.iadd, 1) := by decide +kernel
theorem dX8_ground_221 : decode cX8_ground 221 = .ok (.iload 6, 2) := by decide +kernel
theorem dX8_ground_223 : decode cX8_ground 223 = .ok (.invokestatic 201, 3) := by decide +kernel
theorem dX8_ground_226 : decode cX8_ground 226 = .ok (.iadd, 1) := by decide +kernel
theorem dX8_ground_227 : decode cX8_ground 227 = .ok (.iload 7, 2) := by decide +kernel
theorem dX8_ground_229 : decode cX8_ground 229 = .ok (.iastore, 1) := by decide +kernel
theorem dX8_ground_230 : decode cX8_ground 230 = .ok (.iinc 6 1, 3) := by decide +kernel
theorem dX8_ground_233 : decode cX8_ground 233 = .ok (.goto (-89), 3) := by decide +kernel
theorem dX8_ground_236 : decode cX8_ground 236 = .ok (.aload_n 0, 1) := by decide +kernel
theorem dX8_ground_237 : decode cX8_ground 237 = .ok (.getfield 33, 3) := by decide +kernel
theorem dX8_ground_240 : decode cX8_ground 240 = .ok (.iload_n 1, 1) := by decide +kernel
theorem dX8_ground_241 : decode cX8_ground 241 = .ok (.iconst 1, 1) := by decide +kernel
theorem dX8_ground_242 : decode cX8_ground 242 = .ok (.bastore, 1) := by decide +kernel
theorem dX8_ground_243 : decode cX8_ground 243 = .ok (.aload_n 0, 1) := by decide +kernel
theorem dX8_ground_244 : decode cX8_ground 244 = .ok (.iload_n 1, 1) := by decide +kernel
theorem dX8_ground_245 : decode cX8_ground 245 = .ok (.invokevirtual 207, 3) := by decide +kernel
theorem dX8_ground_248 : decode cX8_ground 248 = .ok (.ireturn, 1) := by decide +kernel
theorem dX8_drop_0 : decode cX8_drop 0 = .ok (.aload_n 0, 1) := by decide +kernel
theorem dX8_drop_1 : decode cX8_drop 1 = .ok (.iload_n 1, 1) := by decide +kernel
theorem dX8_drop_2 : decode cX8_drop 2 = .ok (.invokevirtual 210, 3) := by decide +kernel
theorem dX8_drop_5 : decode cX8_drop 5 = .ok (.istore_n 2, 1) := by decide +kernel
theorem dX8_drop_6 : decode cX8_drop 6 = .ok (.iload_n 2, 1) := by decide +kernel
theorem dX8_drop_7 : decode cX8_drop 7 = .ok (.ifCond .ge 5, 3) := by decide +kernel
theorem dX8_drop_10 : decode cX8_drop 10 = .ok (.iload_n 2, 1) := by decide +kernel
theorem dX8_drop_11 : decode cX8_drop 11 = .ok (.ireturn, 1) := by decide +kernel
theorem dX8_drop_12 : decode cX8_drop 12 = .ok (.aload_n 0, 1) := by decide +kernel
theorem dX8_drop_13 : decode cX8_drop 13 = .ok (.getfield 33, 3) := by decide +kernel
theorem dX8_drop_16 : decode cX8_drop 16 = .ok (.iload_n 1, 1) := by decide +kernel
theorem dX8_drop_17 : decode cX8_drop 17 = .ok (.iconst 0, 1) := by decide +kernel
theorem dX8_drop_18 : decode cX8_drop 18 = .ok (.bastore, 1) := by decide +kernel
theorem dX8_drop_19 : decode cX8_drop 19 = .ok (.iconst 1, 1) := by decide +kernel
theorem dX8_drop_20 : decode cX8_drop 20 = .ok (.ireturn, 1) := by decide +kernel
theorem dX8_table_0 : decode cX8_table 0 = .ok (.iload_n 2, 1) := by decide +kernel
theorem dX8_table_1 : decode cX8_table 1 = .ok (.iconst 0, 1) := by decide +kernel
theorem dX8_table_2 : decode cX8_table 2 = .ok (.iconst 3, 1) := by decide +kernel
theorem dX8_table_3 : decode cX8_table 3 = .ok (.invokestatic 133, 3) := by decide +kernel
theorem dX8_table_6 : decode cX8_table 6 = .ok (.ifCond .eq 12, 3) := by decide +kernel
theorem dX8_table_9 : decode cX8_table 9 = .ok (.iload_n 3, 1) := by decide +kernel
theorem dX8_table_10 : decode cX8_table 10 = .ok (.iconst 0, 1) := by decide +kernel
theorem dX8_table_11 : decode cX8_table 11 = .ok (.iconst 3, 1) := by decide +kernel
theorem dX8_table_12 : decode cX8_table 12 = .ok (.invokestatic 133, 3) := by decide +kernel
theorem dX8_table_15 : decode cX8_table 15 = .ok (.ifCond .ne 5, 3) := by decide +kernel
theorem dX8_table_18 : decode cX8_table 18 = .ok (.iconst (-1), 1) := by decide +kernel
theorem dX8_table_19 : decode cX8_table 19 = .ok (.ireturn, 1) := by decide +kernel
theorem dX8_table_20 : decode cX8_table 20 = .ok (.aload_n 0, 1) := by decide +kernel
theorem dX8_table_21 : decode cX8_table 21 = .ok (.iload_n 1, 1) := by decide +kernel
theorem dX8_table_22 : decode cX8_table 22 = .ok (.invokevirtual 210, 3) := by decide +kernel
theorem dX8_table_25 : decode cX8_table 25 = .ok (.istore 4, 2) := by decide +kernel
theorem dX8_table_27 : decode cX8_table 27 = .ok (.iload 4, 2) := by decide +kernel
theorem dX8_table_29 : decode cX8_table 29 = .ok (.ifCond .ge 8, 3) := by decide +kernel
theorem dX8_table_32 : decode cX8_table 32 = .ok (.iload 4, 2) := by decide +kernel
theorem dX8_table_34 : decode cX8_table 34 = .ok (.goto 23, 3) := by decide +kernel
theorem dX8_table_37 : decode cX8_table 37 = .ok (.aload_n 0, 1) := by decide +kernel
theorem dX8_table_38 : decode cX8_table 38 = .ok (.aload_n 0, 1) := by decide +kernel
theorem dX8_table_39 : decode cX8_table 39 = .ok (.getfield 37, 3) := by decide +kernel
theorem dX8_table_42 : decode cX8_table 42 = .ok (.bipush 16, 2) := by decide +kernel
theorem dX8_table_44 : decode cX8_table 44 = .ok (.iload_n 1, 1) := by decide +kernel
theorem dX8_table_45 : decode cX8_table 45 = .ok (.imul, 1) := by decide +kernel
theorem dX8_table_46 : decode cX8_table 46 = .ok (.iconst 4, 1) := by decide +kernel
theorem dX8_table_47 : decode cX8_table 47 = .ok (.iload_n 2, 1) := by decide +kernel
theorem dX8_table_48 : decode cX8_table 48 = .ok (.imul, 1) := by decide +kernel
theorem dX8_table_49 : decode cX8_table 49 = .ok (.iadd, 1) := by decide +kernel
theorem dX8_table_50 : decode cX8_table 50 = .ok (.iload_n 3, 1) := by decide +kernel
theorem dX8_table_51 : decode cX8_table 51 = .ok (.iadd, 1) := by decide +kernel
theorem dX8_table_52 : decode cX8_table 52 = .ok (.iaload, 1) := by decide +kernel
theorem dX8_table_53 : decode cX8_table 53 = .ok (.iconst 1, 1) := by decide +kernel
theorem dX8_table_54 : decode cX8_table 54 = .ok (.invokevirtual 213, 3) := by decide +kernel
theorem dX8_table_57 : decode cX8_table 57 = .ok (.ireturn, 1) := by decide +kernel
theorem dX8_told_0 : decode cX8_told 0 = .ok (.iload_n 2, 1) := by decide +kernel
theorem dX8_told_1 : decode cX8_told 1 = .ok (.iconst 0, 1) := by decide +kernel
theorem dX8_told_2 : decode cX8_told 2 = .ok (.bipush 9, 2) := by decide +kernel
theorem dX8_told_4 : decode cX8_told 4 = .ok (.invokestatic 133, 3) := by decide +kernel
theorem dX8_told_7 : decode cX8_told 7 = .ok (.ifCond .ne 5, 3) := by decide +kernel
theorem dX8_told_10 : decode cX8_told 10 = .ok (.iconst (-1), 1) := by decide +kernel
theorem dX8_told_11 : decode cX8_told 11 = .ok (.ireturn, 1) := by decide +kernel
theorem dX8_told_12 : decode cX8_told 12 = .ok (.aload_n 0, 1) := by decide +kernel
theorem dX8_told_13 : decode cX8_told 13 = .ok (.iload_n 1, 1) := by decide +kernel
theorem dX8_told_14 : decode cX8_told 14 = .ok (.invokevirtual 210, 3) := by decide +kernel
theorem dX8_told_17 : decode cX8_told 17 = .ok (.istore_n 3, 1) := by decide +kernel
theorem dX8_told_18 : decode cX8_told 18 = .ok (.iload_n 3, 1) := by decide +kernel
theorem dX8_told_19 : decode cX8_told 19 = .ok (.ifCond .ge 7, 3) := by decide +kernel
theorem dX8_told_22 : decode cX8_told 22 = .ok (.iload_n 3, 1) := by decide +kernel
theorem dX8_told_23 : decode cX8_told 23 = .ok (.goto 19, 3) := by decide +kernel
theorem dX8_told_26 : decode cX8_told 26 = .ok (.aload_n 0, 1) := by decide +kernel
theorem dX8_told_27 : decode cX8_told 27 = .ok (.aload_n 0, 1) := by decide +kernel
theorem dX8_told_28 : decode cX8_told 28 = .ok (.getfield 40, 3) := by decide +kernel
theorem dX8_told_31 : decode cX8_told 31 = .ok (.bipush 10, 2) := by decide +kernel
theorem dX8_told_33 : decode cX8_told 33 = .ok (.iload_n 1, 1) := by decide +kernel
theorem dX8_told_34 : decode cX8_told 34 = .ok (.imul, 1) := by decide +kernel
theorem dX8_told_35 : decode cX8_told 35 = .ok (.iload_n 2, 1) := by decide +kernel
theorem dX8_told_36 : decode cX8_told 36 = .ok (.iadd, 1) := by decide +kernel
theorem dX8_told_37 : decode cX8_told 37 = .ok (.iaload, 1) := by decide +kernel
theorem dX8_told_38 : decode cX8_told 38 = .ok (.iconst 1, 1) := by decide +kernel
theorem dX8_told_39 : decode cX8_told 39 = .ok (.invokevirtual 213, 3) := by decide +kernel
theorem dX8_told_42 : decode cX8_told 42 = .ok (.ireturn, 1) := by decide +kernel
theorem dX8_isSquare_0 : decode cX8_isSquare 0 = .ok (.iconst 0, 1) := by decide +kernel
theorem dX8_isSquare_1 : decode cX8_isSquare 1 = .ok (.istore_n 1, 1) := by decide +kernel
theorem dX8_isSquare_2 : decode cX8_isSquare 2 = .ok (.iload_n 1, 1) := by decide +kernel
theorem dX8_isSquare_3 : decode cX8_isSquare 3 = .ok (.iload_n 1, 1) := by decide +kernel
theorem dX8_isSquare_4 : decode cX8_isSquare 4 = .ok (.imul, 1) := by decide +kernel
theorem dX8_isSquare_5 : decode cX8_isSquare 5 = .ok (.iload_n 0, 1) := by decide +kernel
theorem dX8_isSquare_6 : decode cX8_isSquare 6 = .ok (.if_icmp .ge 9, 3) := by decide +kernel
theorem dX8_isSquare_9 : decode cX8_isSquare 9 = .ok (.iinc 1 1, 3) := by decide +kernel
theorem dX8_isSquare_12 : decode cX8_isSquare 12 = .ok (.goto (-10), 3) := by decide +kernel
theorem dX8_isSquare_15 : decode cX8_isSquare 15 = .ok (.iload_n 1, 1) := by decide +kernel
theorem dX8_isSquare_16 : decode cX8_isSquare 16 = .ok (.iload_n 1, 1) := by decide +kernel
theorem dX8_isSquare_17 : decode cX8_isSquare 17 = .ok (.imul, 1) := by decide +kernel
theorem dX8_isSquare_18 : decode cX8_isSquare 18 = .ok (.iload_n 0, 1) := by decide +kernel
theorem dX8_isSquare_19 : decode cX8_isSquare 19 = .ok (.if_icmp .ne 7, 3) := by decide +kernel
theorem dX8_isSquare_22 : decode cX8_isSquare 22 = .ok (.iconst 1, 1) := by decide +kernel
theorem dX8_isSquare_23 : decode cX8_isSquare 23 = .ok (.goto 4, 3) := by decide +kernel
theorem dX8_isSquare_26 : decode cX8_isSquare 26 = .ok (.iconst 0, 1) := by decide +kernel
theorem dX8_isSquare_27 : decode cX8_isSquare 27 = .ok (.ireturn, 1) := by decide +kernel
theorem dX8_mark_0 : decode cX8_mark 0 = .ok (.iload_n 2, 1) := by decide +kernel
theorem dX8_mark_1 : decode cX8_mark 1 = .ok (.iconst 1, 1) := by decide +kernel
theorem dX8_mark_2 : decode cX8_mark 2 = .ok (.iconst 4, 1) := by decide +kernel
theorem dX8_mark_3 : decode cX8_mark 3 = .ok (.invokestatic 133, 3) := by decide +kernel
theorem dX8_mark_6 : decode cX8_mark 6 = .ok (.ifCond .ne 5, 3) := by decide +kernel
theorem dX8_mark_9 : decode cX8_mark 9 = .ok (.iconst (-1), 1) := by decide +kernel
theorem dX8_mark_10 : decode cX8_mark 10 = .ok (.ireturn, 1) := by decide +kernel
theorem dX8_mark_11 : decode cX8_mark 11 = .ok (.aload_n 0, 1) := by decide +kernel
theorem dX8_mark_12 : decode cX8_mark 12 = .ok (.iload_n 1, 1) := by decide +kernel
theorem dX8_mark_13 : decode cX8_mark 13 = .ok (.invokevirtual 210, 3) := by decide +kernel
theorem dX8_mark_16 : decode cX8_mark 16 = .ok (.istore_n 3, 1) := by decide +kernel
theorem dX8_mark_17 : decode cX8_mark 17 = .ok (.iload_n 3, 1) := by decide +kernel
theorem dX8_mark_18 : decode cX8_mark 18 = .ok (.ifCond .ge 5, 3) := by decide +kernel
theorem dX8_mark_21 : decode cX8_mark 21 = .ok (.iload_n 3, 1) := by decide +kernel
theorem dX8_mark_22 : decode cX8_mark 22 = .ok (.ireturn, 1) := by decide +kernel
theorem dX8_mark_23 : decode cX8_mark 23 = .ok (.bipush 10, 2) := by decide +kernel
theorem dX8_mark_25 : decode cX8_mark 25 = .ok (.iload_n 1, 1) := by decide +kernel
theorem dX8_mark_26 : decode cX8_mark 26 = .ok (.imul, 1) := by decide +kernel
theorem dX8_mark_27 : decode cX8_mark 27 = .ok (.istore 4, 2) := by decide +kernel
theorem dX8_mark_29 : decode cX8_mark 29 = .ok (.aload_n 0, 1) := by decide +kernel
theorem dX8_mark_30 : decode cX8_mark 30 = .ok (.getfield 40, 3) := by decide +kernel
theorem dX8_mark_33 : decode cX8_mark 33 = .ok (.iload 4, 2) := by decide +kernel
theorem dX8_mark_35 : decode cX8_mark 35 = .ok (.iaload, 1) := by decide +kernel
theorem dX8_mark_36 : decode cX8_mark 36 = .ok (.iload_n 2, 1) := by decide +kernel
theorem dX8_mark_37 : decode cX8_mark 37 = .ok (.if_icmp .eq 25, 3) := by decide +kernel
theorem dX8_mark_40 : decode cX8_mark 40 = .ok (.iload_n 2, 1) := by decide +kernel
theorem dX8_mark_41 : decode cX8_mark 41 = .ok (.iconst 1, 1) := by decide +kernel
theorem dX8_mark_42 : decode cX8_mark 42 = .ok (.if_icmp .ne 14, 3) := by decide +kernel
theorem dX8_mark_45 : decode cX8_mark 45 = .ok (.aload_n 0, 1) := by decide +kernel
theorem dX8_mark_46 : decode cX8_mark 46 = .ok (.getfield 40, 3) := by decide +kernel
theorem dX8_mark_49 : decode cX8_mark 49 = .ok (.iload 4, 2) := by decide +kernel
theorem dX8_mark_51 : decode cX8_mark 51 = .ok (.iaload, 1) := by decide +kernel
theorem dX8_mark_52 : decode cX8_mark 52 = .ok (.iconst 2, 1) := by decide +kernel
theorem dX8_mark_53 : decode cX8_mark 53 = .ok (.if_icmp .eq 9, 3) := by decide +kernel
theorem dX8_mark_56 : decode cX8_mark 56 = .ok (.aload_n 0, 1) := by decide +kernel
theorem dX8_mark_57 : decode cX8_mark 57 = .ok (.iconst 3, 1) := by decide +kernel
theorem dX8_mark_58 : decode cX8_mark 58 = .ok (.invokevirtual 141, 3) := by decide +kernel
theorem dX8_mark_61 : decode cX8_mark 61 = .ok (.ireturn, 1) := by decide +kernel
theorem dX8_mark_62 : decode cX8_mark 62 = .ok (.iload_n 2, 1) := by decide +kernel
theorem dX8_mark_63 : decode cX8_mark 63 = .ok (.tableswitch 68 1 3 #[25, 35, 49], 25) := by decide +kernel
theorem dX8_mark_88 : decode cX8_mark 88 = .ok (.aload_n 0, 1) := by decide +kernel
theorem dX8_mark_89 : decode cX8_mark 89 = .ok (.getfield 40, 3) := by decide +kernel
theorem dX8_mark_92 : decode cX8_mark 92 = .ok (.iload 4, 2) := by decide +kernel
theorem dX8_mark_94 : decode cX8_mark 94 = .ok (.iconst 3, 1) := by decide +kernel
theorem dX8_mark_95 : decode cX8_mark 95 = .ok (.iadd, 1) := by decide +kernel
theorem dX8_mark_96 : decode cX8_mark 96 = .ok (.iaload, 1) := by decide +kernel
theorem dX8_mark_97 : decode cX8_mark 97 = .ok (.ireturn, 1) := by decide +kernel
theorem dX8_mark_98 : decode cX8_mark 98 = .ok (.aload_n 0, 1) := by decide +kernel
theorem dX8_mark_99 : decode cX8_mark 99 = .ok (.iload_n 1, 1) := by decide +kernel
theorem dX8_mark_100 : decode cX8_mark 100 = .ok (.invokevirtual 217, 3) := by decide +kernel
theorem dX8_mark_103 : decode cX8_mark 103 = .ok (.ifCond .eq 7, 3) := by decide +kernel
theorem dX8_mark_106 : decode cX8_mark 106 = .ok (.iconst 1, 1) := by decide +kernel
theorem dX8_mark_107 : decode cX8_mark 107 = .ok (.goto 4, 3) := by decide +kernel
theorem dX8_mark_110 : decode cX8_mark 110 = .ok (.iconst 0, 1) := by decide +kernel
theorem dX8_mark_111 : decode cX8_mark 111 = .ok (.ireturn, 1) := by decide +kernel
theorem dX8_mark_112 : decode cX8_mark 112 = .ok (.aload_n 0, 1) := by decide +kernel
theorem dX8_mark_113 : decode cX8_mark 113 = .ok (.getfield 40, 3) := by decide +kernel
theorem dX8_mark_116 : decode cX8_mark 116 = .ok (.iload 4, 2) := by decide +kernel
theorem dX8_mark_118 : decode cX8_mark 118 = .ok (.iconst 1, 1) := by decide +kernel
theorem dX8_mark_119 : decode cX8_mark 119 = .ok (.iadd, 1) := by decide +kernel
theorem dX8_mark_120 : decode cX8_mark 120 = .ok (.iaload, 1) := by decide +kernel
theorem dX8_mark_121 : decode cX8_mark 121 = .ok (.iconst 3, 1) := by decide +kernel
theorem dX8_mark_122 : decode cX8_mark 122 = .ok (.if_icmp .ne 7, 3) := by decide +kernel
theorem dX8_mark_125 : decode cX8_mark 125 = .ok (.iconst 1, 1) := by decide +kernel
theorem dX8_mark_126 : decode cX8_mark 126 = .ok (.goto 4, 3) := by decide +kernel
theorem dX8_mark_129 : decode cX8_mark 129 = .ok (.iconst 0, 1) := by decide +kernel
theorem dX8_mark_130 : decode cX8_mark 130 = .ok (.ireturn, 1) := by decide +kernel
theorem dX8_mark_131 : decode cX8_mark 131 = .ok (.aload_n 0, 1) := by decide +kernel
theorem dX8_mark_132 : decode cX8_mark 132 = .ok (.getfield 40, 3) := by decide +kernel
theorem dX8_mark_135 : decode cX8_mark 135 = .ok (.iload 4, 2) := by decide +kernel
theorem dX8_mark_137 : decode cX8_mark 137 = .ok (.bipush 7, 2) := by decide +kernel
theorem dX8_mark_139 : decode cX8_mark 139 = .ok (.iadd, 1) := by decide +kernel
theorem dX8_mark_140 : decode cX8_mark 140 = .ok (.iaload, 1) := by decide +kernel
theorem dX8_mark_141 : decode cX8_mark 141 = .ok (.invokestatic 220, 3) := by decide +kernel
theorem dX8_mark_144 : decode cX8_mark 144 = .ok (.ifCond .eq 7, 3) := by decide +kernel
theorem dX8_mark_147 : decode cX8_mark 147 = .ok (.iconst 1, 1) := by decide +kernel
theorem dX8_mark_148 : decode cX8_mark 148 = .ok (.goto 4, 3) := by decide +kernel
theorem dX8_mark_151 : decode cX8_mark 151 = .ok (.iconst 0, 1) := by decide +kernel
theorem dX8_mark_152 : decode cX8_mark 152 = .ok (.ireturn, 1) := by decide +kernel
theorem dX8_changes_0 : decode cX8_changes 0 = .ok (.aload_n 0, 1) := by decide +kernel
theorem dX8_changes_1 : decode cX8_changes 1 = .ok (.getfield 40, 3) := by decide +kernel
theorem dX8_changes_4 : decode cX8_changes 4 = .ok (.bipush 10, 2) := by decide +kernel
theorem dX8_changes_6 : decode cX8_changes 6 = .ok (.iload_n 1, 1) := by decide +kernel
theorem dX8_changes_7 : decode cX8_changes 7 = .ok (.imul, 1) := by decide +kernel
theorem dX8_changes_8 : decode cX8_changes 8 = .ok (.iconst 1, 1) := by decide +kernel
theorem dX8_changes_9 : decode cX8_changes 9 = .ok (.iadd, 1) := by decide +kernel
theorem dX8_changes_10 : decode cX8_changes 10 = .ok (.iaload, 1) := by decide +kernel
theorem dX8_changes_11 : decode cX8_changes 11 = .ok (.ifCond .le 21, 3) := by decide +kernel
theorem dX8_changes_14 : decode cX8_changes 14 = .ok (.aload_n 0, 1) := by decide +kernel
theorem dX8_changes_15 : decode cX8_changes 15 = .ok (.getfield 40, 3) := by decide +kernel
theorem dX8_changes_18 : decode cX8_changes 18 = .ok (.bipush 10, 2) := by decide +kernel
theorem dX8_changes_20 : decode cX8_changes 20 = .ok (.iload_n 1, 1) := by decide +kernel
theorem dX8_changes_21 : decode cX8_changes 21 = .ok (.imul, 1) := by decide +kernel
theorem dX8_changes_22 : decode cX8_changes 22 = .ok (.iconst 2, 1) := by decide +kernel
theorem dX8_changes_23 : decode cX8_changes 23 = .ok (.iadd, 1) := by decide +kernel
theorem dX8_changes_24 : decode cX8_changes 24 = .ok (.iaload, 1) := by decide +kernel
theorem dX8_changes_25 : decode cX8_changes 25 = .ok (.ifCond .le 7, 3) := by decide +kernel
theorem dX8_changes_28 : decode cX8_changes 28 = .ok (.iconst 1, 1) := by decide +kernel
theorem dX8_changes_29 : decode cX8_changes 29 = .ok (.goto 4, 3) := by decide +kernel
theorem dX8_changes_32 : decode cX8_changes 32 = .ok (.iconst 0, 1) := by decide +kernel
theorem dX8_changes_33 : decode cX8_changes 33 = .ok (.ireturn, 1) := by decide +kernel
theorem dX8_turn_0 : decode cX8_turn 0 = .ok (.aload_n 0, 1) := by decide +kernel
theorem dX8_turn_1 : decode cX8_turn 1 = .ok (.iload_n 1, 1) := by decide +kernel
theorem dX8_turn_2 : decode cX8_turn 2 = .ok (.invokevirtual 210, 3) := by decide +kernel
theorem dX8_turn_5 : decode cX8_turn 5 = .ok (.istore_n 2, 1) := by decide +kernel
theorem dX8_turn_6 : decode cX8_turn 6 = .ok (.iload_n 2, 1) := by decide +kernel
theorem dX8_turn_7 : decode cX8_turn 7 = .ok (.ifCond .ge 5, 3) := by decide +kernel
theorem dX8_turn_10 : decode cX8_turn 10 = .ok (.iload_n 2, 1) := by decide +kernel
theorem dX8_turn_11 : decode cX8_turn 11 = .ok (.ireturn, 1) := by decide +kernel
theorem dX8_turn_12 : decode cX8_turn 12 = .ok (.iconst 0, 1) := by decide +kernel
theorem dX8_turn_13 : decode cX8_turn 13 = .ok (.istore_n 3, 1) := by decide +kernel
theorem dX8_turn_14 : decode cX8_turn 14 = .ok (.iload_n 3, 1) := by decide +kernel
theorem dX8_turn_15 : decode cX8_turn 15 = .ok (.bipush 16, 2) := by decide +kernel
theorem dX8_turn_17 : decode cX8_turn 17 = .ok (.if_icmp .ge 32, 3) := by decide +kernel
theorem dX8_turn_20 : decode cX8_turn 20 = .ok (.aload_n 0, 1) := by decide +kernel
theorem dX8_turn_21 : decode cX8_turn 21 = .ok (.getfield 37, 3) := by decide +kernel
theorem dX8_turn_24 : decode cX8_turn 24 = .ok (.bipush 16, 2) := by decide +kernel
theorem dX8_turn_26 : decode cX8_turn 26 = .ok (.iload_n 1, 1) := by decide +kernel
theorem dX8_turn_27 : decode cX8_turn 27 = .ok (.imul, 1) := by decide +kernel
theorem dX8_turn_28 : decode cX8_turn 28 = .ok (.iload_n 3, 1) := by decide +kernel
theorem dX8_turn_29 : decode cX8_turn 29 = .ok (.iadd, 1) := by decide +kernel
theorem dX8_turn_30 : decode cX8_turn 30 = .ok (.aload_n 0, 1) := by decide +kernel
theorem dX8_turn_31 : decode cX8_turn 31 = .ok (.getfield 37, 3) := by decide +kernel
theorem dX8_turn_34 : decode cX8_turn 34 = .ok (.bipush 16, 2) := by decide +kernel
theorem dX8_turn_36 : decode cX8_turn 36 = .ok (.iload_n 1, 1) := by decide +kernel
theorem dX8_turn_37 : decode cX8_turn 37 = .ok (.imul, 1) := by decide +kernel
theorem dX8_turn_38 : decode cX8_turn 38 = .ok (.iload_n 3, 1) := by decide +kernel
theorem dX8_turn_39 : decode cX8_turn 39 = .ok (.iadd, 1) := by decide +kernel
theorem dX8_turn_40 : decode cX8_turn 40 = .ok (.iaload, 1) := by decide +kernel
theorem dX8_turn_41 : decode cX8_turn 41 = .ok (.ineg, 1) := by decide +kernel
theorem dX8_turn_42 : decode cX8_turn 42 = .ok (.iastore, 1) := by decide +kernel
theorem dX8_turn_43 : decode cX8_turn 43 = .ok (.iinc 3 1, 3) := by decide +kernel
theorem dX8_turn_46 : decode cX8_turn 46 = .ok (.goto (-32), 3) := by decide +kernel
theorem dX8_turn_49 : decode cX8_turn 49 = .ok (.aload_n 0, 1) := by decide +kernel
theorem dX8_turn_50 : decode cX8_turn 50 = .ok (.iload_n 1, 1) := by decide +kernel
theorem dX8_turn_51 : decode cX8_turn 51 = .ok (.invokevirtual 207, 3) := by decide +kernel
theorem dX8_turn_54 : decode cX8_turn 54 = .ok (.ireturn, 1) := by decide +kernel
theorem dX8_shear_0 : decode cX8_shear 0 = .ok (.iload_n 2, 1) := by decide +kernel
theorem dX8_shear_1 : decode cX8_shear 1 = .ok (.iconst 0, 1) := by decide +kernel
theorem dX8_shear_2 : decode cX8_shear 2 = .ok (.iconst 3, 1) := by decide +kernel
theorem dX8_shear_3 : decode cX8_shear 3 = .ok (.invokestatic 133, 3) := by decide +kernel
theorem dX8_shear_6 : decode cX8_shear 6 = .ok (.ifCond .eq 28, 3) := by decide +kernel
theorem dX8_shear_9 : decode cX8_shear 9 = .ok (.iload_n 3, 1) := by decide +kernel
theorem dX8_shear_10 : decode cX8_shear 10 = .ok (.iconst 0, 1) := by decide +kernel
theorem dX8_shear_11 : decode cX8_shear 11 = .ok (.iconst 3, 1) := by decide +kernel
theorem dX8_shear_12 : decode cX8_shear 12 = .ok (.invokestatic 133, 3) := by decide +kernel
theorem dX8_shear_15 : decode cX8_shear 15 = .ok (.ifCond .eq 19, 3) := by decide +kernel
theorem dX8_shear_18 : decode cX8_shear 18 = .ok (.iload_n 2, 1) := by decide +kernel
theorem dX8_shear_19 : decode cX8_shear 19 = .ok (.iload_n 3, 1) := by decide +kernel
theorem dX8_shear_20 : decode cX8_shear 20 = .ok (.if_icmp .eq 14, 3) := by decide +kernel
theorem dX8_shear_23 : decode cX8_shear 23 = .ok (.iload 4, 2) := by decide +kernel
theorem dX8_shear_25 : decode cX8_shear 25 = .ok (.bipush (-2), 2) := by decide +kernel
theorem dX8_shear_27 : decode cX8_shear 27 = .ok (.iconst 2, 1) := by decide +kernel
theorem dX8_shear_28 : decode cX8_shear 28 = .ok (.invokestatic 133, 3) := by decide +kernel
theorem dX8_shear_31 : decode cX8_shear 31 = .ok (.ifCond .ne 5, 3) := by decide +kernel
theorem dX8_shear_34 : decode cX8_shear 34 = .ok (.iconst (-1), 1) := by decide +kernel
theorem dX8_shear_35 : decode cX8_shear 35 = .ok (.ireturn, 1) := by decide +kernel
theorem dX8_shear_36 : decode cX8_shear 36 = .ok (.aload_n 0, 1) := by decide +kernel
theorem dX8_shear_37 : decode cX8_shear 37 = .ok (.iload_n 1, 1) := by decide +kernel
theorem dX8_shear_38 : decode cX8_shear 38 = .ok (.invokevirtual 210, 3) := by decide +kernel
theorem dX8_shear_41 : decode cX8_shear 41 = .ok (.istore 5, 2) := by decide +kernel
theorem dX8_shear_43 : decode cX8_shear 43 = .ok (.iload 5, 2) := by decide +kernel
theorem dX8_shear_45 : decode cX8_shear 45 = .ok (.ifCond .ge 6, 3) := by decide +kernel
theorem dX8_shear_48 : decode cX8_shear 48 = .ok (.iload 5, 2) := by decide +kernel
theorem dX8_shear_50 : decode cX8_shear 50 = .ok (.ireturn, 1) := by decide +kernel
theorem dX8_shear_51 : decode cX8_shear 51 = .ok (.bipush 16, 2) := by decide +kernel
theorem dX8_shear_53 : decode cX8_shear 53 = .ok (.iload_n 1, 1) := by decide +kernel
theorem dX8_shear_54 : decode cX8_shear 54 = .ok (.imul, 1) := by decide +kernel
theorem dX8_shear_55 : decode cX8_shear 55 = .ok (.istore 6, 2) := by decide +kernel
theorem dX8_shear_57 : decode cX8_shear 57 = .ok (.iconst 0, 1) := by decide +kernel
theorem dX8_shear_58 : decode cX8_shear 58 = .ok (.istore 7, 2) := by decide +kernel
theorem dX8_shear_60 : decode cX8_shear 60 = .ok (.iload 7, 2) := by decide +kernel
theorem dX8_shear_62 : decode cX8_shear 62 = .ok (.bipush 16, 2) := by decide +kernel
theorem dX8_shear_64 : decode cX8_shear 64 = .ok (.if_icmp .ge 26, 3) := by decide +kernel
theorem dX8_shear_67 : decode cX8_shear 67 = .ok (.aload_n 0, 1) := by decide +kernel
theorem dX8_shear_68 : decode cX8_shear 68 = .ok (.getfield 43, 3) := by decide +kernel
theorem dX8_shear_71 : decode cX8_shear 71 = .ok (.iload 7, 2) := by decide +kernel
theorem dX8_shear_73 : decode cX8_shear 73 = .ok (.aload_n 0, 1) := by decide +kernel
theorem dX8_shear_74 : decode cX8_shear 74 = .ok (.getfield 37, 3) := by decide +kernel
theorem dX8_shear_77 : decode cX8_shear 77 = .ok (.iload 6, 2) := by decide +kernel
theorem dX8_shear_79 : decode cX8_shear 79 = .ok (.iload 7, 2) := by decide +kernel
theorem dX8_shear_81 : decode cX8_shear 81 = .ok (.iadd, 1) := by decide +kernel
theorem dX8_shear_82 : decode cX8_shear 82 = .ok (.iaload, 1) := by decide +kernel
theorem dX8_shear_83 : decode cX8_shear 83 = .ok (.iastore, 1) := by decide +kernel
theorem dX8_shear_84 : decode cX8_shear 84 = .ok (.iinc 7 1, 3) := by decide +kernel
theorem dX8_shear_87 : decode cX8_shear 87 = .ok (.goto (-27), 3) := by decide +kernel
theorem dX8_shear_90 : decode cX8_shear 90 = .ok (.iconst 0, 1) := by decide +kernel
theorem dX8_shear_91 : decode cX8_shear 91 = .ok (.istore 7, 2) := by decide +kernel
theorem dX8_shear_93 : decode cX8_shear 93 = .ok (.iload 7, 2) := by decide +kernel
theorem dX8_shear_95 : decode cX8_shear 95 = .ok (.iconst 4, 1) := by decide +kernel
theorem dX8_shear_96 : decode cX8_shear 96 = .ok (.if_icmp .ge 126, 3) := by decide +kernel
theorem dX8_shear_99 : decode cX8_shear 99 = .ok (.iload 7, 2) := by decide +kernel
theorem dX8_shear_101 : decode cX8_shear 101 = .ok (.iload_n 3, 1) := by decide +kernel
theorem dX8_shear_102 : decode cX8_shear 102 = .ok (.if_icmp .ne 54, 3) := by decide +kernel
theorem dX8_shear_105 : decode cX8_shear 105 = .ok (.aload_n 0, 1) := by decide +kernel
theorem dX8_shear_106 : decode cX8_shear 106 = .ok (.getfield 37, 3) := by decide +kernel
theorem dX8_shear_109 : decode cX8_shear 109 = .ok (.iload 6, 2) := by decide +kernel
theorem dX8_shear_111 : decode cX8_shear 111 = .ok (.iconst 5, 1) := by decide +kernel
theorem dX8_shear_112 : decode cX8_shear 112 = .ok (.iload_n 3, 1) := by decide +kernel
theorem dX8_shear_113 : decode cX8_shear 113 = .ok (.imul, 1) := by decide +kernel
theorem dX8_shear_114 : decode cX8_shear 114 = .ok (.iadd, 1) := by decide +kernel
theorem dX8_shear_115 : decode cX8_shear 115 = .ok (.iaload, 1) := by decide +kernel
theorem dX8_shear_116 : decode cX8_shear 116 = .ok (.iconst 2, 1) := by decide +kernel
theorem dX8_shear_117 : decode cX8_shear 117 = .ok (.iload 4, 2) := by decide +kernel
theorem dX8_shear_119 : decode cX8_shear 119 = .ok (.imul, 1) := by decide +kernel
theorem dX8_shear_120 : decode cX8_shear 120 = .ok (.aload_n 0, 1) := by decide +kernel
theorem dX8_shear_121 : decode cX8_shear 121 = .ok (.getfield 37, 3) := by decide +kernel
theorem dX8_shear_124 : decode cX8_shear 124 = .ok (.iload 6, 2) := by decide +kernel
theorem dX8_shear_126 : decode cX8_shear 126 = .ok (.iconst 4, 1) := by decide +kernel
theorem dX8_shear_127 : decode cX8_shear 127 = .ok (.iload_n 2, 1) := by decide +kernel
theorem dX8_shear_128 : decode cX8_shear 128 = .ok (.imul, 1) := by decide +kernel
theorem dX8_shear_129 : decode cX8_shear 129 = .ok (.iadd, 1) := by decide +kernel
theorem dX8_shear_130 : decode cX8_shear 130 = .ok (.iload_n 3, 1) := by decide +kernel
theorem dX8_shear_131 : decode cX8_shear 131 = .ok (.iadd, 1) := by decide +kernel
theorem dX8_shear_132 : decode cX8_shear 132 = .ok (.iaload, 1) := by decide +kernel
theorem dX8_shear_133 : decode cX8_shear 133 = .ok (.imul, 1) := by decide +kernel
theorem dX8_shear_134 : decode cX8_shear 134 = .ok (.iadd, 1) := by decide +kernel
theorem dX8_shear_135 : decode cX8_shear 135 = .ok (.iload 4, 2) := by decide +kernel
theorem dX8_shear_137 : decode cX8_shear 137 = .ok (.iload 4, 2) := by decide +kernel
theorem dX8_shear_139 : decode cX8_shear 139 = .ok (.imul, 1) := by decide +kernel
theorem dX8_shear_140 : decode cX8_shear 140 = .ok (.aload_n 0, 1) := by decide +kernel
theorem dX8_shear_141 : decode cX8_shear 141 = .ok (.getfield 37, 3) := by decide +kernel
theorem dX8_shear_144 : decode cX8_shear 144 = .ok (.iload 6, 2) := by decide +kernel
theorem dX8_shear_146 : decode cX8_shear 146 = .ok (.iconst 5, 1) := by decide +kernel
theorem dX8_shear_147 : decode cX8_shear 147 = .ok (.iload_n 2, 1) := by decide +kernel
theorem dX8_shear_148 : decode cX8_shear 148 = .ok (.imul, 1) := by decide +kernel
theorem dX8_shear_149 : decode cX8_shear 149 = .ok (.iadd, 1) := by decide +kernel
theorem dX8_shear_150 : decode cX8_shear 150 = .ok (.iaload, 1) := by decide +kernel
theorem dX8_shear_151 : decode cX8_shear 151 = .ok (.imul, 1) := by decide +kernel
theorem dX8_shear_152 : decode cX8_shear 152 = .ok (.iadd, 1) := by decide +kernel
theorem dX8_shear_153 : decode cX8_shear 153 = .ok (.goto 35, 3) := by decide +kernel
theorem dX8_shear_156 : decode cX8_shear 156 = .ok (.aload_n 0, 1) := by decide +kernel
theorem dX8_shear_157 : decode cX8_shear 157 = .ok (.getfield 37, 3) := by decide +kernel
theorem dX8_shear_160 : decode cX8_shear 160 = .ok (.iload 6, 2) := by decide +kernel
theorem dX8_shear_162 : decode cX8_shear 162 = .ok (.iconst 4, 1) := by decide +kernel
theorem dX8_shear_163 : decode cX8_shear 163 = .ok (.iload_n 3, 1) := by decide +kernel
theorem dX8_shear_164 : decode cX8_shear 164 = .ok (.imul, 1) := by decide +kernel
theorem dX8_shear_165 : decode cX8_shear 165 = .ok (.iadd, 1) := by decide +kernel
theorem dX8_shear_166 : decode cX8_shear 166 = .ok (.iload 7, 2) := by decide +kernel
theorem dX8_shear_168 : decode cX8_shear 168 = .ok (.iadd, 1) := by decide +kernel
theorem dX8_shear_169 : decode cX8_shear 169 = .ok (.iaload, 1) := by decide +kernel
theorem dX8_shear_170 : decode cX8_shear 170 = .ok (.iload 4, 2) := by decide +kernel
theorem dX8_shear_172 : decode cX8_shear 172 = .ok (.aload_n 0, 1) := by decide +kernel
theorem dX8_shear_173 : decode cX8_shear 173 = .ok (.getfield 37, 3) := by decide +kernel
theorem dX8_shear_176 : decode cX8_shear 176 = .ok (.iload 6, 2) := by decide +kernel
theorem dX8_shear_178 : decode cX8_shear 178 = .ok (.iconst 4, 1) := by decide +kernel
theorem dX8_shear_179 : decode cX8_shear 179 = .ok (.iload_n 2, 1) := by decide +kernel
theorem dX8_shear_180 : decode cX8_shear 180 = .ok (.imul, 1) := by decide +kernel
theorem dX8_shear_181 : decode cX8_shear 181 = .ok (.iadd, 1) := by decide +kernel
theorem dX8_shear_182 : decode cX8_shear 182 = .ok (.iload 7, 2) := by decide +kernel
theorem dX8_shear_184 : decode cX8_shear 184 = .ok (.iadd, 1) := by decide +kernel
theorem dX8_shear_185 : decode cX8_shear 185 = .ok (.iaload, 1) := by decide +kernel
theorem dX8_shear_186 : decode cX8_shear 186 = .ok (.imul, 1) := by decide +kernel
theorem dX8_shear_187 : decode cX8_shear 187 = .ok (.iadd, 1) := by decide +kernel
theorem dX8_shear_188 : decode cX8_shear 188 = .ok (.istore 8, 2) := by decide +kernel
theorem dX8_shear_190 : decode cX8_shear 190 = .ok (.aload_n 0, 1) := by decide +kernel
theorem dX8_shear_191 : decode cX8_shear 191 = .ok (.getfield 43, 3) := by decide +kernel
theorem dX8_shear_194 : decode cX8_shear 194 = .ok (.iconst 4, 1) := by decide +kernel
theorem dX8_shear_195 : decode cX8_shear 195 = .ok (.iload_n 3, 1) := by decide +kernel
theorem dX8_shear_196 : decode cX8_shear 196 = .ok (.imul, 1) := by decide +kernel
theorem dX8_shear_197 : decode cX8_shear 197 = .ok (.iload 7, 2) := by decide +kernel
theorem dX8_shear_199 : decode cX8_shear 199 = .ok (.iadd, 1) := by decide +kernel
theorem dX8_shear_200 : decode cX8_shear 200 = .ok (.iload 8, 2) := by decide +kernel
theorem dX8_shear_202 : decode cX8_shear 202 = .ok (.iastore, 1) := by decide +kernel
theorem dX8_shear_203 : decode cX8_shear 203 = .ok (.aload_n 0, 1) := by decide +kernel
theorem dX8_shear_204 : decode cX8_shear 204 = .ok (.getfield 43, 3) := by decide +kernel
theorem dX8_shear_207 : decode cX8_shear 207 = .ok (.iconst 4, 1) := by decide +kernel
theorem dX8_shear_208 : decode cX8_shear 208 = .ok (.iload 7, 2) := by decide +kernel
theorem dX8_shear_210 : decode cX8_shear 210 = .ok (.imul, 1) := by decide +kernel
theorem dX8_shear_211 : decode cX8_shear 211 = .ok (.iload_n 3, 1) := by decide +kernel
theorem dX8_shear_212 : decode cX8_shear 212 = .ok (.iadd, 1) := by decide +kernel
theorem dX8_shear_213 : decode cX8_shear 213 = .ok (.iload 8, 2) := by decide +kernel
theorem dX8_shear_215 : decode cX8_shear 215 = .ok (.iastore, 1) := by decide +kernel
theorem dX8_shear_216 : decode cX8_shear 216 = .ok (.iinc 7 1, 3) := by decide +kernel
theorem dX8_shear_219 : decode cX8_shear 219 = .ok (.goto (-126), 3) := by decide +kernel
theorem dX8_shear_222 : decode cX8_shear 222 = .ok (.iconst 1, 1) := by decide +kernel
theorem dX8_shear_223 : decode cX8_shear 223 = .ok (.istore 7, 2) := by decide +kernel
theorem dX8_shear_225 : decode cX8_shear 225 = .ok (.iconst 0, 1) := by decide +kernel
theorem dX8_shear_226 : decode cX8_shear 226 = .ok (.istore 8, 2) := by decide +kernel
theorem dX8_shear_228 : decode cX8_shear 228 = .ok (.iload 8, 2) := by decide +kernel
theorem dX8_shear_230 : decode cX8_shear 230 = .ok (.bipush 16, 2) := by decide +kernel
theorem dX8_shear_232 : decode cX8_shear 232 = .ok (.if_icmp .ge 34, 3) := by decide +kernel
theorem dX8_shear_235 : decode cX8_shear 235 = .ok (.iload 7, 2) := by decide +kernel
theorem dX8_shear_237 : decode cX8_shear 237 = .ok (.ifCond .eq 20, 3) := by decide +kernel
theorem dX8_shear_240 : decode cX8_shear 240 = .ok (.aload_n 0, 1) := by decide +kernel
theorem dX8_shear_241 : decode cX8_shear 241 = .ok (.getfield 43, 3) := by decide +kernel
theorem dX8_shear_244 : decode cX8_shear 244 = .ok (.iload 8, 2) := by decide +kernel
theorem dX8_shear_246 : decode cX8_shear 246 = .ok (.iaload, 1) := by decide +kernel
theorem dX8_shear_247 : decode cX8_shear 247 = .ok (.invokestatic 198, 3) := by decide +kernel
theorem dX8_shear_250 : decode cX8_shear 250 = .ok (.ifCond .eq 7, 3) := by decide +kernel
theorem dX8_shear_253 : decode cX8_shear 253 = .ok (.iconst 1, 1) := by decide +kernel
theorem dX8_shear_254 : decode cX8_shear 254 = .ok (.goto 4, 3) := by decide +kernel
theorem dX8_shear_257 : decode cX8_shear 257 = .ok (.iconst 0, 1) := by decide +kernel
theorem dX8_shear_258 : decode cX8_shear 258 = .ok (.istore 7, 2) := by decide +kernel
theorem dX8_shear_260 : decode cX8_shear 260 = .ok (.iinc 8 1, 3) := by decide +kernel
theorem dX8_shear_263 : decode cX8_shear 263 = .ok (.goto (-35), 3) := by decide +kernel
theorem dX8_shear_266 : decode cX8_shear 266 = .ok (.iload 7, 2) := by decide +kernel
theorem dX8_shear_268 : decode cX8_shear 268 = .ok (.ifCond .ne 9, 3) := by decide +kernel
theorem dX8_shear_271 : decode cX8_shear 271 = .ok (.aload_n 0, 1) := by decide +kernel
theorem dX8_shear_272 : decode cX8_shear 272 = .ok (.iconst 2, 1) := by decide +kernel
theorem dX8_shear_273 : decode cX8_shear 273 = .ok (.invokevirtual 141, 3) := by decide +kernel
theorem dX8_shear_276 : decode cX8_shear 276 = .ok (.ireturn, 1) := by decide +kernel
theorem dX8_shear_277 : decode cX8_shear 277 = .ok (.iconst 0, 1) := by decide +kernel
theorem dX8_shear_278 : decode cX8_shear 278 = .ok (.istore 8, 2) := by decide +kernel
theorem dX8_shear_280 : decode cX8_shear 280 = .ok (.iload 8, 2) := by decide +kernel
theorem dX8_shear_282 : decode cX8_shear 282 = .ok (.bipush 16, 2) := by decide +kernel
theorem dX8_shear_284 : decode cX8_shear 284 = .ok (.if_icmp .ge 26, 3) := by decide +kernel
theorem dX8_shear_287 : decode cX8_shear 287 = .ok (.aload_n 0, 1) := by decide +kernel
theorem dX8_shear_288 : decode cX8_shear 288 = .ok (.getfield 37, 3) := by decide +kernel
theorem dX8_shear_291 : decode cX8_shear 291 = .ok (.iload 6, 2) := by decide +kernel
theorem dX8_shear_293 : decode cX8_shear 293 = .ok (.iload 8, 2) := by decide +kernel
theorem dX8_shear_295 : decode cX8_shear 295 = .ok (.iadd, 1) := by decide +kernel
theorem dX8_shear_296 : decode cX8_shear 296 = .ok (.aload_n 0, 1) := by decide +kernel
theorem dX8_shear_297 : decode cX8_shear 297 = .ok (.getfield 43, 3) := by decide +kernel
theorem dX8_shear_300 : decode cX8_shear 300 = .ok (.iload 8, 2) := by decide +kernel
theorem dX8_shear_302 : decode cX8_shear 302 = .ok (.iaload, 1) := by decide +kernel
theorem dX8_shear_303 : decode cX8_shear 303 = .ok (.iastore, 1) := by decide +kernel
theorem dX8_shear_304 : decode cX8_shear 304 = .ok (.iinc 8 1, 3) := by decide +kernel
theorem dX8_shear_307 : decode cX8_shear 307 = .ok (.goto (-27), 3) := by decide +kernel
theorem dX8_shear_310 : decode cX8_shear 310 = .ok (.aload_n 0, 1) := by decide +kernel
theorem dX8_shear_311 : decode cX8_shear 311 = .ok (.iload_n 1, 1) := by decide +kernel
theorem dX8_shear_312 : decode cX8_shear 312 = .ok (.invokevirtual 207, 3) := by decide +kernel
theorem dX8_shear_315 : decode cX8_shear 315 = .ok (.ireturn, 1) := by decide +kernel
theorem dX8_swap_0 : decode cX8_swap 0 = .ok (.iload_n 2, 1) := by decide +kernel
theorem dX8_swap_1 : decode cX8_swap 1 = .ok (.iconst 0, 1) := by decide +kernel
theorem dX8_swap_2 : decode cX8_swap 2 = .ok (.iconst 3, 1) := by decide +kernel
theorem dX8_swap_3 : decode cX8_swap 3 = .ok (.invokestatic 133, 3) := by decide +kernel
theorem dX8_swap_6 : decode cX8_swap 6 = .ok (.ifCond .eq 12, 3) := by decide +kernel
theorem dX8_swap_9 : decode cX8_swap 9 = .ok (.iload_n 3, 1) := by decide +kernel
theorem dX8_swap_10 : decode cX8_swap 10 = .ok (.iconst 0, 1) := by decide +kernel
theorem dX8_swap_11 : decode cX8_swap 11 = .ok (.iconst 3, 1) := by decide +kernel
theorem dX8_swap_12 : decode cX8_swap 12 = .ok (.invokestatic 133, 3) := by decide +kernel
theorem dX8_swap_15 : decode cX8_swap 15 = .ok (.ifCond .ne 5, 3) := by decide +kernel
theorem dX8_swap_18 : decode cX8_swap 18 = .ok (.iconst (-1), 1) := by decide +kernel
theorem dX8_swap_19 : decode cX8_swap 19 = .ok (.ireturn, 1) := by decide +kernel
theorem dX8_swap_20 : decode cX8_swap 20 = .ok (.aload_n 0, 1) := by decide +kernel
theorem dX8_swap_21 : decode cX8_swap 21 = .ok (.iload_n 1, 1) := by decide +kernel
theorem dX8_swap_22 : decode cX8_swap 22 = .ok (.invokevirtual 210, 3) := by decide +kernel
theorem dX8_swap_25 : decode cX8_swap 25 = .ok (.istore 4, 2) := by decide +kernel
theorem dX8_swap_27 : decode cX8_swap 27 = .ok (.iload 4, 2) := by decide +kernel
theorem dX8_swap_29 : decode cX8_swap 29 = .ok (.ifCond .ge 6, 3) := by decide +kernel
theorem dX8_swap_32 : decode cX8_swap 32 = .ok (.iload 4, 2) := by decide +kernel
theorem dX8_swap_34 : decode cX8_swap 34 = .ok (.ireturn, 1) := by decide +kernel
theorem dX8_swap_35 : decode cX8_swap 35 = .ok (.iconst 0, 1) := by decide +kernel
theorem dX8_swap_36 : decode cX8_swap 36 = .ok (.istore 5, 2) := by decide +kernel
theorem dX8_swap_38 : decode cX8_swap 38 = .ok (.iload 5, 2) := by decide +kernel
theorem dX8_swap_40 : decode cX8_swap 40 = .ok (.bipush 16, 2) := by decide +kernel
theorem dX8_swap_42 : decode cX8_swap 42 = .ok (.if_icmp .ge 47, 3) := by decide +kernel
theorem dX8_swap_45 : decode cX8_swap 45 = .ok (.aload_n 0, 1) := by decide +kernel
theorem dX8_swap_46 : decode cX8_swap 46 = .ok (.getfield 43, 3) := by decide +kernel
theorem dX8_swap_49 : decode cX8_swap 49 = .ok (.iload 5, 2) := by decide +kernel
theorem dX8_swap_51 : decode cX8_swap 51 = .ok (.aload_n 0, 1) := by decide +kernel
theorem dX8_swap_52 : decode cX8_swap 52 = .ok (.getfield 37, 3) := by decide +kernel
theorem dX8_swap_55 : decode cX8_swap 55 = .ok (.bipush 16, 2) := by decide +kernel
theorem dX8_swap_57 : decode cX8_swap 57 = .ok (.iload_n 1, 1) := by decide +kernel
theorem dX8_swap_58 : decode cX8_swap 58 = .ok (.imul, 1) := by decide +kernel
theorem dX8_swap_59 : decode cX8_swap 59 = .ok (.iconst 4, 1) := by decide +kernel
theorem dX8_swap_60 : decode cX8_swap 60 = .ok (.iload 5, 2) := by decide +kernel
theorem dX8_swap_62 : decode cX8_swap 62 = .ok (.iconst 4, 1) := by decide +kernel
theorem dX8_swap_63 : decode cX8_swap 63 = .ok (.idiv, 1) := by decide +kernel
theorem dX8_swap_64 : decode cX8_swap 64 = .ok (.iload_n 2, 1) := by decide +kernel
theorem dX8_swap_65 : decode cX8_swap 65 = .ok (.iload_n 3, 1) := by decide +kernel
theorem dX8_swap_66 : decode cX8_swap 66 = .ok (.invokestatic 223, 3) := by decide +kernel
theorem dX8_swap_69 : decode cX8_swap 69 = .ok (.imul, 1) := by decide +kernel
theorem dX8_swap_70 : decode cX8_swap 70 = .ok (.iadd, 1) := by decide +kernel
theorem dX8_swap_71 : decode cX8_swap 71 = .ok (.iload 5, 2) := by decide +kernel
theorem dX8_swap_73 : decode cX8_swap 73 = .ok (.iconst 4, 1) := by decide +kernel
theorem dX8_swap_74 : decode cX8_swap 74 = .ok (.irem, 1) := by decide +kernel
theorem dX8_swap_75 : decode cX8_swap 75 = .ok (.iload_n 2, 1) := by decide +kernel
theorem dX8_swap_76 : decode cX8_swap 76 = .ok (.iload_n 3, 1) := by decide +kernel
theorem dX8_swap_77 : decode cX8_swap 77 = .ok (.invokestatic 223, 3) := by decide +kernel
theorem dX8_swap_80 : decode cX8_swap 80 = .ok (.iadd, 1) := by decide +kernel
theorem dX8_swap_81 : decode cX8_swap 81 = .ok (.iaload, 1) := by decide +kernel
theorem dX8_swap_82 : decode cX8_swap 82 = .ok (.iastore, 1) := by decide +kernel
theorem dX8_swap_83 : decode cX8_swap 83 = .ok (.iinc 5 1, 3) := by decide +kernel
theorem dX8_swap_86 : decode cX8_swap 86 = .ok (.goto (-48), 3) := by decide +kernel
theorem dX8_swap_89 : decode cX8_swap 89 = .ok (.iconst 0, 1) := by decide +kernel
theorem dX8_swap_90 : decode cX8_swap 90 = .ok (.istore 5, 2) := by decide +kernel
theorem dX8_swap_92 : decode cX8_swap 92 = .ok (.iload 5, 2) := by decide +kernel
theorem dX8_swap_94 : decode cX8_swap 94 = .ok (.bipush 16, 2) := by decide +kernel
theorem dX8_swap_96 : decode cX8_swap 96 = .ok (.if_icmp .ge 28, 3) := by decide +kernel
theorem dX8_swap_99 : decode cX8_swap 99 = .ok (.aload_n 0, 1) := by decide +kernel
theorem dX8_swap_100 : decode cX8_swap 100 = .ok (.getfield 37, 3) := by decide +kernel
theorem dX8_swap_103 : decode cX8_swap 103 = .ok (.bipush 16, 2) := by decide +kernel
theorem dX8_swap_105 : decode cX8_swap 105 = .ok (.iload_n 1, 1) := by decide +kernel
theorem dX8_swap_106 : decode cX8_swap 106 = .ok (.imul, 1) := by decide +kernel
theorem dX8_swap_107 : decode cX8_swap 107 = .ok (.iload 5, 2) := by decide +kernel
theorem dX8_swap_109 : decode cX8_swap 109 = .ok (.iadd, 1) := by decide +kernel
theorem dX8_swap_110 : decode cX8_swap 110 = .ok (.aload_n 0, 1) := by decide +kernel
theorem dX8_swap_111 : decode cX8_swap 111 = .ok (.getfield 43, 3) := by decide +kernel
theorem dX8_swap_114 : decode cX8_swap 114 = .ok (.iload 5, 2) := by decide +kernel
theorem dX8_swap_116 : decode cX8_swap 116 = .ok (.iaload, 1) := by decide +kernel
theorem dX8_swap_117 : decode cX8_swap 117 = .ok (.iastore, 1) := by decide +kernel
theorem dX8_swap_118 : decode cX8_swap 118 = .ok (.iinc 5 1, 3) := by decide +kernel
theorem dX8_swap_121 : decode cX8_swap 121 = .ok (.goto (-29), 3) := by decide +kernel
theorem dX8_swap_124 : decode cX8_swap 124 = .ok (.aload_n 0, 1) := by decide +kernel
theorem dX8_swap_125 : decode cX8_swap 125 = .ok (.iload_n 1, 1) := by decide +kernel
theorem dX8_swap_126 : decode cX8_swap 126 = .ok (.invokevirtual 207, 3) := by decide +kernel
theorem dX8_swap_129 : decode cX8_swap 129 = .ok (.ireturn, 1) := by decide +kernel
theorem dX8_changed_0 : decode cX8_changed 0 = .ok (.iload_n 0, 1) := by decide +kernel
theorem dX8_changed_1 : decode cX8_changed 1 = .ok (.iload_n 1, 1) := by decide +kernel
theorem dX8_changed_2 : decode cX8_changed 2 = .ok (.if_icmp .ne 7, 3) := by decide +kernel
theorem dX8_changed_5 : decode cX8_changed 5 = .ok (.iload_n 2, 1) := by decide +kernel
theorem dX8_changed_6 : decode cX8_changed 6 = .ok (.goto 13, 3) := by decide +kernel
theorem dX8_changed_9 : decode cX8_changed 9 = .ok (.iload_n 0, 1) := by decide +kernel
theorem dX8_changed_10 : decode cX8_changed 10 = .ok (.iload_n 2, 1) := by decide +kernel
theorem dX8_changed_11 : decode cX8_changed 11 = .ok (.if_icmp .ne 7, 3) := by decide +kernel
theorem dX8_changed_14 : decode cX8_changed 14 = .ok (.iload_n 1, 1) := by decide +kernel
theorem dX8_changed_15 : decode cX8_changed 15 = .ok (.goto 4, 3) := by decide +kernel
theorem dX8_changed_18 : decode cX8_changed 18 = .ok (.iload_n 0, 1) := by decide +kernel
theorem dX8_changed_19 : decode cX8_changed 19 = .ok (.ireturn, 1) := by decide +kernel
theorem dX8_askedTwo_0 : decode cX8_askedTwo 0 = .ok (.iload_n 1, 1) := by decide +kernel
theorem dX8_askedTwo_1 : decode cX8_askedTwo 1 = .ok (.invokestatic 181, 3) := by decide +kernel
theorem dX8_askedTwo_4 : decode cX8_askedTwo 4 = .ok (.ifCond .eq 10, 3) := by decide +kernel
theorem dX8_askedTwo_7 : decode cX8_askedTwo 7 = .ok (.iload_n 2, 1) := by decide +kernel
theorem dX8_askedTwo_8 : decode cX8_askedTwo 8 = .ok (.invokestatic 181, 3) := by decide +kernel
theorem dX8_askedTwo_11 : decode cX8_askedTwo 11 = .ok (.ifCond .ne 7, 3) := by decide +kernel
theorem dX8_askedTwo_14 : decode cX8_askedTwo 14 = .ok (.iconst (-1), 1) := by decide +kernel
theorem dX8_askedTwo_15 : decode cX8_askedTwo 15 = .ok (.goto 30, 3) := by decide +kernel
theorem dX8_askedTwo_18 : decode cX8_askedTwo 18 = .ok (.aload_n 0, 1) := by decide +kernel
theorem dX8_askedTwo_19 : decode cX8_askedTwo 19 = .ok (.getfield 33, 3) := by decide +kernel
theorem dX8_askedTwo_22 : decode cX8_askedTwo 22 = .ok (.iload_n 1, 1) := by decide +kernel
theorem dX8_askedTwo_23 : decode cX8_askedTwo 23 = .ok (.baload, 1) := by decide +kernel
theorem dX8_askedTwo_24 : decode cX8_askedTwo 24 = .ok (.ifCond .eq 16, 3) := by decide +kernel
theorem dX8_askedTwo_27 : decode cX8_askedTwo 27 = .ok (.aload_n 0, 1) := by decide +kernel
theorem dX8_askedTwo_28 : decode cX8_askedTwo 28 = .ok (.getfield 33, 3) := by decide +kernel
theorem dX8_askedTwo_31 : decode cX8_askedTwo 31 = .ok (.iload_n 2, 1) := by decide +kernel
theorem dX8_askedTwo_32 : decode cX8_askedTwo 32 = .ok (.baload, 1) := by decide +kernel
theorem dX8_askedTwo_33 : decode cX8_askedTwo 33 = .ok (.ifCond .eq 7, 3) := by decide +kernel
theorem dX8_askedTwo_36 : decode cX8_askedTwo 36 = .ok (.iconst 0, 1) := by decide +kernel
theorem dX8_askedTwo_37 : decode cX8_askedTwo 37 = .ok (.goto 8, 3) := by decide +kernel
theorem dX8_askedTwo_40 : decode cX8_askedTwo 40 = .ok (.aload_n 0, 1) := by decide +kernel
theorem dX8_askedTwo_41 : decode cX8_askedTwo 41 = .ok (.iconst 1, 1) := by decide +kernel
theorem dX8_askedTwo_42 : decode cX8_askedTwo 42 = .ok (.invokevirtual 141, 3) := by decide +kernel
theorem dX8_askedTwo_45 : decode cX8_askedTwo 45 = .ok (.ireturn, 1) := by decide +kernel
theorem dX8_same_0 : decode cX8_same 0 = .ok (.aload_n 0, 1) := by decide +kernel
theorem dX8_same_1 : decode cX8_same 1 = .ok (.iload_n 1, 1) := by decide +kernel
theorem dX8_same_2 : decode cX8_same 2 = .ok (.iload_n 2, 1) := by decide +kernel
theorem dX8_same_3 : decode cX8_same 3 = .ok (.invokevirtual 227, 3) := by decide +kernel
theorem dX8_same_6 : decode cX8_same 6 = .ok (.istore_n 3, 1) := by decide +kernel
theorem dX8_same_7 : decode cX8_same 7 = .ok (.iload_n 3, 1) := by decide +kernel
theorem dX8_same_8 : decode cX8_same 8 = .ok (.ifCond .ge 5, 3) := by decide +kernel
theorem dX8_same_11 : decode cX8_same 11 = .ok (.iload_n 3, 1) := by decide +kernel
theorem dX8_same_12 : decode cX8_same 12 = .ok (.ireturn, 1) := by decide +kernel
theorem dX8_same_13 : decode cX8_same 13 = .ok (.aload_n 0, 1) := by decide +kernel
theorem dX8_same_14 : decode cX8_same 14 = .ok (.getfield 40, 3) := by decide +kernel
theorem dX8_same_17 : decode cX8_same 17 = .ok (.bipush 10, 2) := by decide +kernel
theorem dX8_same_19 : decode cX8_same 19 = .ok (.iload_n 1, 1) := by decide +kernel
theorem dX8_same_20 : decode cX8_same 20 = .ok (.imul, 1) := by decide +kernel
theorem dX8_same_21 : decode cX8_same 21 = .ok (.iconst 1, 1) := by decide +kernel
theorem dX8_same_22 : decode cX8_same 22 = .ok (.iadd, 1) := by decide +kernel
theorem dX8_same_23 : decode cX8_same 23 = .ok (.iaload, 1) := by decide +kernel
theorem dX8_same_24 : decode cX8_same 24 = .ok (.istore 4, 2) := by decide +kernel
theorem dX8_same_26 : decode cX8_same 26 = .ok (.aload_n 0, 1) := by decide +kernel
theorem dX8_same_27 : decode cX8_same 27 = .ok (.getfield 40, 3) := by decide +kernel
theorem dX8_same_30 : decode cX8_same 30 = .ok (.bipush 10, 2) := by decide +kernel
theorem dX8_same_32 : decode cX8_same 32 = .ok (.iload_n 1, 1) := by decide +kernel
theorem dX8_same_33 : decode cX8_same 33 = .ok (.imul, 1) := by decide +kernel
theorem dX8_same_34 : decode cX8_same 34 = .ok (.iconst 2, 1) := by decide +kernel
theorem dX8_same_35 : decode cX8_same 35 = .ok (.iadd, 1) := by decide +kernel
theorem dX8_same_36 : decode cX8_same 36 = .ok (.iaload, 1) := by decide +kernel
theorem dX8_same_37 : decode cX8_same 37 = .ok (.istore 5, 2) := by decide +kernel
theorem dX8_same_39 : decode cX8_same 39 = .ok (.aload_n 0, 1) := by decide +kernel
theorem dX8_same_40 : decode cX8_same 40 = .ok (.getfield 40, 3) := by decide +kernel
theorem dX8_same_43 : decode cX8_same 43 = .ok (.bipush 10, 2) := by decide +kernel
theorem dX8_same_45 : decode cX8_same 45 = .ok (.iload_n 2, 1) := by decide +kernel
theorem dX8_same_46 : decode cX8_same 46 = .ok (.imul, 1) := by decide +kernel
theorem dX8_same_47 : decode cX8_same 47 = .ok (.iconst 1, 1) := by decide +kernel
theorem dX8_same_48 : decode cX8_same 48 = .ok (.iadd, 1) := by decide +kernel
theorem dX8_same_49 : decode cX8_same 49 = .ok (.iaload, 1) := by decide +kernel
theorem dX8_same_50 : decode cX8_same 50 = .ok (.istore 6, 2) := by decide +kernel
theorem dX8_same_52 : decode cX8_same 52 = .ok (.aload_n 0, 1) := by decide +kernel
theorem dX8_same_53 : decode cX8_same 53 = .ok (.getfield 40, 3) := by decide +kernel
theorem dX8_same_56 : decode cX8_same 56 = .ok (.bipush 10, 2) := by decide +kernel
theorem dX8_same_58 : decode cX8_same 58 = .ok (.iload_n 2, 1) := by decide +kernel
theorem dX8_same_59 : decode cX8_same 59 = .ok (.imul, 1) := by decide +kernel
theorem dX8_same_60 : decode cX8_same 60 = .ok (.iconst 2, 1) := by decide +kernel
theorem dX8_same_61 : decode cX8_same 61 = .ok (.iadd, 1) := by decide +kernel
theorem dX8_same_62 : decode cX8_same 62 = .ok (.iaload, 1) := by decide +kernel
theorem dX8_same_63 : decode cX8_same 63 = .ok (.istore 7, 2) := by decide +kernel
theorem dX8_same_65 : decode cX8_same 65 = .ok (.iload 4, 2) := by decide +kernel
theorem dX8_same_67 : decode cX8_same 67 = .ok (.iload 6, 2) := by decide +kernel
theorem dX8_same_69 : decode cX8_same 69 = .ok (.if_icmp .ne 10, 3) := by decide +kernel
theorem dX8_same_72 : decode cX8_same 72 = .ok (.iload 5, 2) := by decide +kernel
theorem dX8_same_74 : decode cX8_same 74 = .ok (.iload 7, 2) := by decide +kernel
theorem dX8_same_76 : decode cX8_same 76 = .ok (.if_icmp .eq 17, 3) := by decide +kernel
theorem dX8_same_79 : decode cX8_same 79 = .ok (.iload 4, 2) := by decide +kernel
theorem dX8_same_81 : decode cX8_same 81 = .ok (.iload 7, 2) := by decide +kernel
theorem dX8_same_83 : decode cX8_same 83 = .ok (.if_icmp .ne 14, 3) := by decide +kernel
theorem dX8_same_86 : decode cX8_same 86 = .ok (.iload 5, 2) := by decide +kernel
theorem dX8_same_88 : decode cX8_same 88 = .ok (.iload 6, 2) := by decide +kernel
theorem dX8_same_90 : decode cX8_same 90 = .ok (.if_icmp .ne 7, 3) := by decide +kernel
theorem dX8_same_93 : decode cX8_same 93 = .ok (.iconst 1, 1) := by decide +kernel
theorem dX8_same_94 : decode cX8_same 94 = .ok (.goto 4, 3) := by decide +kernel
theorem dX8_same_97 : decode cX8_same 97 = .ok (.iconst 0, 1) := by decide +kernel
theorem dX8_same_98 : decode cX8_same 98 = .ok (.ireturn, 1) := by decide +kernel
theorem dX8_alike_0 : decode cX8_alike 0 = .ok (.aload_n 0, 1) := by decide +kernel
theorem dX8_alike_1 : decode cX8_alike 1 = .ok (.iload_n 1, 1) := by decide +kernel
theorem dX8_alike_2 : decode cX8_alike 2 = .ok (.iload_n 2, 1) := by decide +kernel
theorem dX8_alike_3 : decode cX8_alike 3 = .ok (.invokevirtual 227, 3) := by decide +kernel
theorem dX8_alike_6 : decode cX8_alike 6 = .ok (.istore_n 3, 1) := by decide +kernel
theorem dX8_alike_7 : decode cX8_alike 7 = .ok (.iload_n 3, 1) := by decide +kernel
theorem dX8_alike_8 : decode cX8_alike 8 = .ok (.ifCond .ge 7, 3) := by decide +kernel
theorem dX8_alike_11 : decode cX8_alike 11 = .ok (.iload_n 3, 1) := by decide +kernel
theorem dX8_alike_12 : decode cX8_alike 12 = .ok (.goto 35, 3) := by decide +kernel
theorem dX8_alike_15 : decode cX8_alike 15 = .ok (.aload_n 0, 1) := by decide +kernel
theorem dX8_alike_16 : decode cX8_alike 16 = .ok (.getfield 40, 3) := by decide +kernel
theorem dX8_alike_19 : decode cX8_alike 19 = .ok (.bipush 10, 2) := by decide +kernel
theorem dX8_alike_21 : decode cX8_alike 21 = .ok (.iload_n 1, 1) := by decide +kernel
theorem dX8_alike_22 : decode cX8_alike 22 = .ok (.imul, 1) := by decide +kernel
theorem dX8_alike_23 : decode cX8_alike 23 = .ok (.bipush 9, 2) := by decide +kernel
theorem dX8_alike_25 : decode cX8_alike 25 = .ok (.iadd, 1) := by decide +kernel
theorem dX8_alike_26 : decode cX8_alike 26 = .ok (.iaload, 1) := by decide +kernel
theorem dX8_alike_27 : decode cX8_alike 27 = .ok (.aload_n 0, 1) := by decide +kernel
theorem dX8_alike_28 : decode cX8_alike 28 = .ok (.getfield 40, 3) := by decide +kernel
theorem dX8_alike_31 : decode cX8_alike 31 = .ok (.bipush 10, 2) := by decide +kernel
theorem dX8_alike_33 : decode cX8_alike 33 = .ok (.iload_n 2, 1) := by decide +kernel
theorem dX8_alike_34 : decode cX8_alike 34 = .ok (.imul, 1) := by decide +kernel
theorem dX8_alike_35 : decode cX8_alike 35 = .ok (.bipush 9, 2) := by decide +kernel
theorem dX8_alike_37 : decode cX8_alike 37 = .ok (.iadd, 1) := by decide +kernel
theorem dX8_alike_38 : decode cX8_alike 38 = .ok (.iaload, 1) := by decide +kernel
theorem dX8_alike_39 : decode cX8_alike 39 = .ok (.if_icmp .ne 7, 3) := by decide +kernel
theorem dX8_alike_42 : decode cX8_alike 42 = .ok (.iconst 1, 1) := by decide +kernel
theorem dX8_alike_43 : decode cX8_alike 43 = .ok (.goto 4, 3) := by decide +kernel
theorem dX8_alike_46 : decode cX8_alike 46 = .ok (.iconst 0, 1) := by decide +kernel
theorem dX8_alike_47 : decode cX8_alike 47 = .ok (.ireturn, 1) := by decide +kernel
theorem dX8_readFour_0 : decode cX8_readFour 0 = .ok (.aload_n 0, 1) := by decide +kernel
theorem dX8_readFour_1 : decode cX8_readFour 1 = .ok (.getfield 17, 3) := by decide +kernel
theorem dX8_readFour_4 : decode cX8_readFour 4 = .ok (.iload_n 1, 1) := by decide +kernel
theorem dX8_readFour_5 : decode cX8_readFour 5 = .ok (.iaload, 1) := by decide +kernel
theorem dX8_readFour_6 : decode cX8_readFour 6 = .ok (.iconst 4, 1) := by decide +kernel
theorem dX8_readFour_7 : decode cX8_readFour 7 = .ok (.if_icmp .ge 9, 3) := by decide +kernel
theorem dX8_readFour_10 : decode cX8_readFour 10 = .ok (.aload_n 0, 1) := by decide +kernel
theorem dX8_readFour_11 : decode cX8_readFour 11 = .ok (.iconst 5, 1) := by decide +kernel
theorem dX8_readFour_12 : decode cX8_readFour 12 = .ok (.invokevirtual 141, 3) := by decide +kernel
theorem dX8_readFour_15 : decode cX8_readFour 15 = .ok (.ireturn, 1) := by decide +kernel
theorem dX8_readFour_16 : decode cX8_readFour 16 = .ok (.iconst 1, 1) := by decide +kernel
theorem dX8_readFour_17 : decode cX8_readFour 17 = .ok (.istore_n 3, 1) := by decide +kernel
theorem dX8_readFour_18 : decode cX8_readFour 18 = .ok (.iconst 1, 1) := by decide +kernel
theorem dX8_readFour_19 : decode cX8_readFour 19 = .ok (.istore 4, 2) := by decide +kernel
theorem dX8_readFour_21 : decode cX8_readFour 21 = .ok (.iconst 0, 1) := by decide +kernel
theorem dX8_readFour_22 : decode cX8_readFour 22 = .ok (.istore 5, 2) := by decide +kernel
theorem dX8_readFour_24 : decode cX8_readFour 24 = .ok (.iload 5, 2) := by decide +kernel
theorem dX8_readFour_26 : decode cX8_readFour 26 = .ok (.iconst 4, 1) := by decide +kernel
theorem dX8_readFour_27 : decode cX8_readFour 27 = .ok (.if_icmp .ge 68, 3) := by decide +kernel
theorem dX8_readFour_30 : decode cX8_readFour 30 = .ok (.aload_n 2, 1) := by decide +kernel
theorem dX8_readFour_31 : decode cX8_readFour 31 = .ok (.iload 5, 2) := by decide +kernel
theorem dX8_readFour_33 : decode cX8_readFour 33 = .ok (.aload_n 0, 1) := by decide +kernel
theorem dX8_readFour_34 : decode cX8_readFour 34 = .ok (.getfield 20, 3) := by decide +kernel
theorem dX8_readFour_37 : decode cX8_readFour 37 = .ok (.bipush 16, 2) := by decide +kernel
theorem dX8_readFour_39 : decode cX8_readFour 39 = .ok (.iload_n 1, 1) := by decide +kernel
theorem dX8_readFour_40 : decode cX8_readFour 40 = .ok (.imul, 1) := by decide +kernel
theorem dX8_readFour_41 : decode cX8_readFour 41 = .ok (.iload 5, 2) := by decide +kernel
theorem dX8_readFour_43 : decode cX8_readFour 43 = .ok (.iadd, 1) := by decide +kernel
theorem dX8_readFour_44 : decode cX8_readFour 44 = .ok (.iaload, 1) := by decide +kernel
theorem dX8_readFour_45 : decode cX8_readFour 45 = .ok (.iastore, 1) := by decide +kernel
theorem dX8_readFour_46 : decode cX8_readFour 46 = .ok (.iload_n 3, 1) := by decide +kernel
theorem dX8_readFour_47 : decode cX8_readFour 47 = .ok (.ifCond .eq 21, 3) := by decide +kernel
theorem dX8_readFour_50 : decode cX8_readFour 50 = .ok (.aload_n 2, 1) := by decide +kernel
theorem dX8_readFour_51 : decode cX8_readFour 51 = .ok (.iload 5, 2) := by decide +kernel
theorem dX8_readFour_53 : decode cX8_readFour 53 = .ok (.iaload, 1) := by decide +kernel
theorem dX8_readFour_54 : decode cX8_readFour 54 = .ok (.bipush (-100), 2) := by decide +kernel
theorem dX8_readFour_56 : decode cX8_readFour 56 = .ok (.bipush 100, 2) := by decide +kernel
theorem dX8_readFour_58 : decode cX8_readFour 58 = .ok (.invokestatic 133, 3) := by decide +kernel
theorem dX8_readFour_61 : decode cX8_readFour 61 = .ok (.ifCond .eq 7, 3) := by decide +kernel
theorem dX8_readFour_64 : decode cX8_readFour 64 = .ok (.iconst 1, 1) := by decide +kernel
theorem dX8_readFour_65 : decode cX8_readFour 65 = .ok (.goto 4, 3) := by decide +kernel
theorem dX8_readFour_68 : decode cX8_readFour 68 = .ok (.iconst 0, 1) := by decide +kernel
theorem dX8_readFour_69 : decode cX8_readFour 69 = .ok (.istore_n 3, 1) := by decide +kernel
theorem dX8_readFour_70 : decode cX8_readFour 70 = .ok (.iload 4, 2) := by decide +kernel
theorem dX8_readFour_72 : decode cX8_readFour 72 = .ok (.ifCond .eq 14, 3) := by decide +kernel
theorem dX8_readFour_75 : decode cX8_readFour 75 = .ok (.aload_n 2, 1) := by decide +kernel
theorem dX8_readFour_76 : decode cX8_readFour 76 = .ok (.iload 5, 2) := by decide +kernel
theorem dX8_readFour_78 : decode cX8_readFour 78 = .ok (.iaload, 1) := by decide +kernel
theorem dX8_readFour_79 : decode cX8_readFour 79 = .ok (.ifCond .ne 7, 3) := by decide +kernel
theorem dX8_readFour_82 : decode cX8_readFour 82 = .ok (.iconst 1, 1) := by decide +kernel
theorem dX8_readFour_83 : decode cX8_readFour 83 = .ok (.goto 4, 3) := by decide +kernel
theorem dX8_readFour_86 : decode cX8_readFour 86 = .ok (.iconst 0, 1) := by decide +kernel
theorem dX8_readFour_87 : decode cX8_readFour 87 = .ok (.istore 4, 2) := by decide +kernel
theorem dX8_readFour_89 : decode cX8_readFour 89 = .ok (.iinc 5 1, 3) := by decide +kernel
theorem dX8_readFour_92 : decode cX8_readFour 92 = .ok (.goto (-68), 3) := by decide +kernel
theorem dX8_readFour_95 : decode cX8_readFour 95 = .ok (.iload_n 3, 1) := by decide +kernel
theorem dX8_readFour_96 : decode cX8_readFour 96 = .ok (.ifCond .ne 11, 3) := by decide +kernel
theorem dX8_readFour_99 : decode cX8_readFour 99 = .ok (.aload_n 0, 1) := by decide +kernel
theorem dX8_readFour_100 : decode cX8_readFour 100 = .ok (.iconst 2, 1) := by decide +kernel
theorem dX8_readFour_101 : decode cX8_readFour 101 = .ok (.invokevirtual 141, 3) := by decide +kernel
theorem dX8_readFour_104 : decode cX8_readFour 104 = .ok (.goto 17, 3) := by decide +kernel
theorem dX8_readFour_107 : decode cX8_readFour 107 = .ok (.iload 4, 2) := by decide +kernel
theorem dX8_readFour_109 : decode cX8_readFour 109 = .ok (.ifCond .eq 11, 3) := by decide +kernel
theorem dX8_readFour_112 : decode cX8_readFour 112 = .ok (.aload_n 0, 1) := by decide +kernel
theorem dX8_readFour_113 : decode cX8_readFour 113 = .ok (.iconst 4, 1) := by decide +kernel
theorem dX8_readFour_114 : decode cX8_readFour 114 = .ok (.invokevirtual 141, 3) := by decide +kernel
theorem dX8_readFour_117 : decode cX8_readFour 117 = .ok (.goto 4, 3) := by decide +kernel
theorem dX8_readFour_120 : decode cX8_readFour 120 = .ok (.iconst 0, 1) := by decide +kernel
theorem dX8_readFour_121 : decode cX8_readFour 121 = .ok (.ireturn, 1) := by decide +kernel
theorem dX8_askedPlace_0 : decode cX8_askedPlace 0 = .ok (.iload_n 1, 1) := by decide +kernel
theorem dX8_askedPlace_1 : decode cX8_askedPlace 1 = .ok (.invokestatic 181, 3) := by decide +kernel
theorem dX8_askedPlace_4 : decode cX8_askedPlace 4 = .ok (.ifCond .eq 10, 3) := by decide +kernel
theorem dX8_askedPlace_7 : decode cX8_askedPlace 7 = .ok (.iload_n 2, 1) := by decide +kernel
theorem dX8_askedPlace_8 : decode cX8_askedPlace 8 = .ok (.invokestatic 137, 3) := by decide +kernel
theorem dX8_askedPlace_11 : decode cX8_askedPlace 11 = .ok (.ifCond .ne 5, 3) := by decide +kernel
theorem dX8_askedPlace_14 : decode cX8_askedPlace 14 = .ok (.iconst (-1), 1) := by decide +kernel
theorem dX8_askedPlace_15 : decode cX8_askedPlace 15 = .ok (.ireturn, 1) := by decide +kernel
theorem dX8_askedPlace_16 : decode cX8_askedPlace 16 = .ok (.aload_n 0, 1) := by decide +kernel
theorem dX8_askedPlace_17 : decode cX8_askedPlace 17 = .ok (.getfield 33, 3) := by decide +kernel
theorem dX8_askedPlace_20 : decode cX8_askedPlace 20 = .ok (.iload_n 1, 1) := by decide +kernel
theorem dX8_askedPlace_21 : decode cX8_askedPlace 21 = .ok (.baload, 1) := by decide +kernel
theorem dX8_askedPlace_22 : decode cX8_askedPlace 22 = .ok (.ifCond .eq 12, 3) := by decide +kernel
theorem dX8_askedPlace_25 : decode cX8_askedPlace 25 = .ok (.aload_n 0, 1) := by decide +kernel
theorem dX8_askedPlace_26 : decode cX8_askedPlace 26 = .ok (.getfield 17, 3) := by decide +kernel
theorem dX8_askedPlace_29 : decode cX8_askedPlace 29 = .ok (.iload_n 2, 1) := by decide +kernel
theorem dX8_askedPlace_30 : decode cX8_askedPlace 30 = .ok (.iaload, 1) := by decide +kernel
theorem dX8_askedPlace_31 : decode cX8_askedPlace 31 = .ok (.ifCond .ge 11, 3) := by decide +kernel
theorem dX8_askedPlace_34 : decode cX8_askedPlace 34 = .ok (.aload_n 0, 1) := by decide +kernel
theorem dX8_askedPlace_35 : decode cX8_askedPlace 35 = .ok (.iconst 1, 1) := by decide +kernel
theorem dX8_askedPlace_36 : decode cX8_askedPlace 36 = .ok (.invokevirtual 141, 3) := by decide +kernel
theorem dX8_askedPlace_39 : decode cX8_askedPlace 39 = .ok (.goto 12, 3) := by decide +kernel
theorem dX8_askedPlace_42 : decode cX8_askedPlace 42 = .ok (.aload_n 0, 1) := by decide +kernel
theorem dX8_askedPlace_43 : decode cX8_askedPlace 43 = .ok (.iload_n 2, 1) := by decide +kernel
theorem dX8_askedPlace_44 : decode cX8_askedPlace 44 = .ok (.aload_n 0, 1) := by decide +kernel
theorem dX8_askedPlace_45 : decode cX8_askedPlace 45 = .ok (.getfield 46, 3) := by decide +kernel
theorem dX8_askedPlace_48 : decode cX8_askedPlace 48 = .ok (.invokevirtual 230, 3) := by decide +kernel
theorem dX8_askedPlace_51 : decode cX8_askedPlace 51 = .ok (.ireturn, 1) := by decide +kernel
theorem dX8_tangentAt_0 : decode cX8_tangentAt 0 = .ok (.iconst 0, 1) := by decide +kernel
theorem dX8_tangentAt_1 : decode cX8_tangentAt 1 = .ok (.istore 4, 2) := by decide +kernel
theorem dX8_tangentAt_3 : decode cX8_tangentAt 3 = .ok (.iconst 0, 1) := by decide +kernel
theorem dX8_tangentAt_4 : decode cX8_tangentAt 4 = .ok (.istore 5, 2) := by decide +kernel
theorem dX8_tangentAt_6 : decode cX8_tangentAt 6 = .ok (.iload 5, 2) := by decide +kernel
theorem dX8_tangentAt_8 : decode cX8_tangentAt 8 = .ok (.iconst 4, 1) := by decide +kernel
theorem dX8_tangentAt_9 : decode cX8_tangentAt 9 = .ok (.if_icmp .ge 35, 3) := by decide +kernel
theorem dX8_tangentAt_12 : decode cX8_tangentAt 12 = .ok (.iload 4, 2) := by decide +kernel
theorem dX8_tangentAt_14 : decode cX8_tangentAt 14 = .ok (.aload_n 0, 1) := by decide +kernel
theorem dX8_tangentAt_15 : decode cX8_tangentAt 15 = .ok (.getfield 37, 3) := by decide +kernel
theorem dX8_tangentAt_18 : decode cX8_tangentAt 18 = .ok (.bipush 16, 2) := by decide +kernel
theorem dX8_tangentAt_20 : decode cX8_tangentAt 20 = .ok (.iload_n 1, 1) := by decide +kernel
theorem dX8_tangentAt_21 : decode cX8_tangentAt 21 = .ok (.imul, 1) := by decide +kernel
theorem dX8_tangentAt_22 : decode cX8_tangentAt 22 = .ok (.iconst 4, 1) := by decide +kernel
theorem dX8_tangentAt_23 : decode cX8_tangentAt 23 = .ok (.iload_n 2, 1) := by decide +kernel
theorem dX8_tangentAt_24 : decode cX8_tangentAt 24 = .ok (.imul, 1) := by decide +kernel
theorem dX8_tangentAt_25 : decode cX8_tangentAt 25 = .ok (.iadd, 1) := by decide +kernel
theorem dX8_tangentAt_26 : decode cX8_tangentAt 26 = .ok (.iload 5, 2) := by decide +kernel
theorem dX8_tangentAt_28 : decode cX8_tangentAt 28 = .ok (.iadd, 1) := by decide +kernel
theorem dX8_tangentAt_29 : decode cX8_tangentAt 29 = .ok (.iaload, 1) := by decide +kernel
theorem dX8_tangentAt_30 : decode cX8_tangentAt 30 = .ok (.aload_n 3, 1) := by decide +kernel
theorem dX8_tangentAt_31 : decode cX8_tangentAt 31 = .ok (.iload 5, 2) := by decide +kernel
theorem dX8_tangentAt_33 : decode cX8_tangentAt 33 = .ok (.iaload, 1) := by decide +kernel
theorem dX8_tangentAt_34 : decode cX8_tangentAt 34 = .ok (.imul, 1) := by decide +kernel
theorem dX8_tangentAt_35 : decode cX8_tangentAt 35 = .ok (.iadd, 1) := by decide +kernel
theorem dX8_tangentAt_36 : decode cX8_tangentAt 36 = .ok (.istore 4, 2) := by decide +kernel
theorem dX8_tangentAt_38 : decode cX8_tangentAt 38 = .ok (.iinc 5 1, 3) := by decide +kernel
theorem dX8_tangentAt_41 : decode cX8_tangentAt 41 = .ok (.goto (-35), 3) := by decide +kernel
theorem dX8_tangentAt_44 : decode cX8_tangentAt 44 = .ok (.iload 4, 2) := by decide +kernel
theorem dX8_tangentAt_46 : decode cX8_tangentAt 46 = .ok (.ireturn, 1) := by decide +kernel
theorem dX8_both_0 : decode cX8_both 0 = .ok (.iconst 0, 1) := by decide +kernel
theorem dX8_both_1 : decode cX8_both 1 = .ok (.istore 4, 2) := by decide +kernel
theorem dX8_both_3 : decode cX8_both 3 = .ok (.iconst 0, 1) := by decide +kernel
theorem dX8_both_4 : decode cX8_both 4 = .ok (.istore 5, 2) := by decide +kernel
theorem dX8_both_6 : decode cX8_both 6 = .ok (.iload 5, 2) := by decide +kernel
theorem dX8_both_8 : decode cX8_both 8 = .ok (.iconst 4, 1) := by decide +kernel
theorem dX8_both_9 : decode cX8_both 9 = .ok (.if_icmp .ge 27, 3) := by decide +kernel
theorem dX8_both_12 : decode cX8_both 12 = .ok (.iload 4, 2) := by decide +kernel
theorem dX8_both_14 : decode cX8_both 14 = .ok (.aload_n 2, 1) := by decide +kernel
theorem dX8_both_15 : decode cX8_both 15 = .ok (.iload 5, 2) := by decide +kernel
theorem dX8_both_17 : decode cX8_both 17 = .ok (.iaload, 1) := by decide +kernel
theorem dX8_both_18 : decode cX8_both 18 = .ok (.aload_n 0, 1) := by decide +kernel
theorem dX8_both_19 : decode cX8_both 19 = .ok (.iload_n 1, 1) := by decide +kernel
theorem dX8_both_20 : decode cX8_both 20 = .ok (.iload 5, 2) := by decide +kernel
theorem dX8_both_22 : decode cX8_both 22 = .ok (.aload_n 3, 1) := by decide +kernel
theorem dX8_both_23 : decode cX8_both 23 = .ok (.invokevirtual 234, 3) := by decide +kernel
theorem dX8_both_26 : decode cX8_both 26 = .ok (.imul, 1) := by decide +kernel
theorem dX8_both_27 : decode cX8_both 27 = .ok (.iadd, 1) := by decide +kernel
theorem dX8_both_28 : decode cX8_both 28 = .ok (.istore 4, 2) := by decide +kernel
theorem dX8_both_30 : decode cX8_both 30 = .ok (.iinc 5 1, 3) := by decide +kernel
theorem dX8_both_33 : decode cX8_both 33 = .ok (.goto (-27), 3) := by decide +kernel
theorem dX8_both_36 : decode cX8_both 36 = .ok (.iload 4, 2) := by decide +kernel
theorem dX8_both_38 : decode cX8_both 38 = .ok (.ireturn, 1) := by decide +kernel
theorem dX8_value_0 : decode cX8_value 0 = .ok (.aload_n 0, 1) := by decide +kernel
theorem dX8_value_1 : decode cX8_value 1 = .ok (.iload_n 1, 1) := by decide +kernel
theorem dX8_value_2 : decode cX8_value 2 = .ok (.iload_n 2, 1) := by decide +kernel
theorem dX8_value_3 : decode cX8_value 3 = .ok (.invokevirtual 238, 3) := by decide +kernel
theorem dX8_value_6 : decode cX8_value 6 = .ok (.istore_n 3, 1) := by decide +kernel
theorem dX8_value_7 : decode cX8_value 7 = .ok (.iload_n 3, 1) := by decide +kernel
theorem dX8_value_8 : decode cX8_value 8 = .ok (.ifCond .ge 7, 3) := by decide +kernel
theorem dX8_value_11 : decode cX8_value 11 = .ok (.iload_n 3, 1) := by decide +kernel
theorem dX8_value_12 : decode cX8_value 12 = .ok (.goto 21, 3) := by decide +kernel
theorem dX8_value_15 : decode cX8_value 15 = .ok (.aload_n 0, 1) := by decide +kernel
theorem dX8_value_16 : decode cX8_value 16 = .ok (.aload_n 0, 1) := by decide +kernel
theorem dX8_value_17 : decode cX8_value 17 = .ok (.iload_n 1, 1) := by decide +kernel
theorem dX8_value_18 : decode cX8_value 18 = .ok (.aload_n 0, 1) := by decide +kernel
theorem dX8_value_19 : decode cX8_value 19 = .ok (.getfield 46, 3) := by decide +kernel
theorem dX8_value_22 : decode cX8_value 22 = .ok (.aload_n 0, 1) := by decide +kernel
theorem dX8_value_23 : decode cX8_value 23 = .ok (.getfield 46, 3) := by decide +kernel
theorem dX8_value_26 : decode cX8_value 26 = .ok (.invokevirtual 241, 3) := by decide +kernel
theorem dX8_value_29 : decode cX8_value 29 = .ok (.iconst 1, 1) := by decide +kernel
theorem dX8_value_30 : decode cX8_value 30 = .ok (.invokevirtual 213, 3) := by decide +kernel
theorem dX8_value_33 : decode cX8_value 33 = .ok (.ireturn, 1) := by decide +kernel
theorem dX8_tangent_0 : decode cX8_tangent 0 = .ok (.iload_n 3, 1) := by decide +kernel
theorem dX8_tangent_1 : decode cX8_tangent 1 = .ok (.invokestatic 137, 3) := by decide +kernel
theorem dX8_tangent_4 : decode cX8_tangent 4 = .ok (.ifCond .ne 5, 3) := by decide +kernel
theorem dX8_tangent_7 : decode cX8_tangent 7 = .ok (.iconst (-1), 1) := by decide +kernel
theorem dX8_tangent_8 : decode cX8_tangent 8 = .ok (.ireturn, 1) := by decide +kernel
theorem dX8_tangent_9 : decode cX8_tangent 9 = .ok (.aload_n 0, 1) := by decide +kernel
theorem dX8_tangent_10 : decode cX8_tangent 10 = .ok (.iload_n 1, 1) := by decide +kernel
theorem dX8_tangent_11 : decode cX8_tangent 11 = .ok (.iload_n 2, 1) := by decide +kernel
theorem dX8_tangent_12 : decode cX8_tangent 12 = .ok (.invokevirtual 238, 3) := by decide +kernel
theorem dX8_tangent_15 : decode cX8_tangent 15 = .ok (.istore 4, 2) := by decide +kernel
theorem dX8_tangent_17 : decode cX8_tangent 17 = .ok (.iload 4, 2) := by decide +kernel
theorem dX8_tangent_19 : decode cX8_tangent 19 = .ok (.ifCond .ge 6, 3) := by decide +kernel
theorem dX8_tangent_22 : decode cX8_tangent 22 = .ok (.iload 4, 2) := by decide +kernel
theorem dX8_tangent_24 : decode cX8_tangent 24 = .ok (.ireturn, 1) := by decide +kernel
theorem dX8_tangent_25 : decode cX8_tangent 25 = .ok (.aload_n 0, 1) := by decide +kernel
theorem dX8_tangent_26 : decode cX8_tangent 26 = .ok (.iload_n 3, 1) := by decide +kernel
theorem dX8_tangent_27 : decode cX8_tangent 27 = .ok (.iconst 4, 1) := by decide +kernel
theorem dX8_tangent_28 : decode cX8_tangent 28 = .ok (.invokevirtual 145, 3) := by decide +kernel
theorem dX8_tangent_31 : decode cX8_tangent 31 = .ok (.iconst 0, 1) := by decide +kernel
theorem dX8_tangent_32 : decode cX8_tangent 32 = .ok (.istore 5, 2) := by decide +kernel
theorem dX8_tangent_34 : decode cX8_tangent 34 = .ok (.iload 5, 2) := by decide +kernel
theorem dX8_tangent_36 : decode cX8_tangent 36 = .ok (.iconst 4, 1) := by decide +kernel
theorem dX8_tangent_37 : decode cX8_tangent 37 = .ok (.if_icmp .ge 32, 3) := by decide +kernel
theorem dX8_tangent_40 : decode cX8_tangent 40 = .ok (.aload_n 0, 1) := by decide +kernel
theorem dX8_tangent_41 : decode cX8_tangent 41 = .ok (.getfield 20, 3) := by decide +kernel
theorem dX8_tangent_44 : decode cX8_tangent 44 = .ok (.bipush 16, 2) := by decide +kernel
theorem dX8_tangent_46 : decode cX8_tangent 46 = .ok (.iload_n 3, 1) := by decide +kernel
theorem dX8_tangent_47 : decode cX8_tangent 47 = .ok (.imul, 1) := by decide +kernel
theorem dX8_tangent_48 : decode cX8_tangent 48 = .ok (.iload 5, 2) := by decide +kernel
theorem dX8_tangent_50 : decode cX8_tangent 50 = .ok (.iadd, 1) := by decide +kernel
theorem dX8_tangent_51 : decode cX8_tangent 51 = .ok (.aload_n 0, 1) := by decide +kernel
theorem dX8_tangent_52 : decode cX8_tangent 52 = .ok (.iload_n 1, 1) := by decide +kernel
theorem dX8_tangent_53 : decode cX8_tangent 53 = .ok (.iload 5, 2) := by decide +kernel
theorem dX8_tangent_55 : decode cX8_tangent 55 = .ok (.aload_n 0, 1) := by decide +kernel
theorem dX8_tangent_56 : decode cX8_tangent 56 = .ok (.getfield 46, 3) := by decide +kernel
theorem dX8_tangent_59 : decode cX8_tangent 59 = .ok (.invokevirtual 234, 3) := by decide +kernel
theorem dX8_tangent_62 : decode cX8_tangent 62 = .ok (.iastore, 1) := by decide +kernel
theorem dX8_tangent_63 : decode cX8_tangent 63 = .ok (.iinc 5 1, 3) := by decide +kernel
theorem dX8_tangent_66 : decode cX8_tangent 66 = .ok (.goto (-32), 3) := by decide +kernel
theorem dX8_tangent_69 : decode cX8_tangent 69 = .ok (.iconst 1, 1) := by decide +kernel
theorem dX8_tangent_70 : decode cX8_tangent 70 = .ok (.ireturn, 1) := by decide +kernel
theorem dX8_line_0 : decode cX8_line 0 = .ok (.iload_n 1, 1) := by decide +kernel
theorem dX8_line_1 : decode cX8_line 1 = .ok (.invokestatic 181, 3) := by decide +kernel
theorem dX8_line_4 : decode cX8_line 4 = .ok (.ifCond .eq 17, 3) := by decide +kernel
theorem dX8_line_7 : decode cX8_line 7 = .ok (.iload_n 2, 1) := by decide +kernel
theorem dX8_line_8 : decode cX8_line 8 = .ok (.invokestatic 137, 3) := by decide +kernel
theorem dX8_line_11 : decode cX8_line 11 = .ok (.ifCond .eq 10, 3) := by decide +kernel
theorem dX8_line_14 : decode cX8_line 14 = .ok (.iload_n 3, 1) := by decide +kernel
theorem dX8_line_15 : decode cX8_line 15 = .ok (.invokestatic 137, 3) := by decide +kernel
theorem dX8_line_18 : decode cX8_line 18 = .ok (.ifCond .ne 5, 3) := by decide +kernel
theorem dX8_line_21 : decode cX8_line 21 = .ok (.iconst (-1), 1) := by decide +kernel
theorem dX8_line_22 : decode cX8_line 22 = .ok (.ireturn, 1) := by decide +kernel
theorem dX8_line_23 : decode cX8_line 23 = .ok (.aload_n 0, 1) := by decide +kernel
theorem dX8_line_24 : decode cX8_line 24 = .ok (.getfield 33, 3) := by decide +kernel
theorem dX8_line_27 : decode cX8_line 27 = .ok (.iload_n 1, 1) := by decide +kernel
theorem dX8_line_28 : decode cX8_line 28 = .ok (.baload, 1) := by decide +kernel
theorem dX8_line_29 : decode cX8_line 29 = .ok (.ifCond .eq 21, 3) := by decide +kernel
theorem dX8_line_32 : decode cX8_line 32 = .ok (.aload_n 0, 1) := by decide +kernel
theorem dX8_line_33 : decode cX8_line 33 = .ok (.getfield 17, 3) := by decide +kernel
theorem dX8_line_36 : decode cX8_line 36 = .ok (.iload_n 2, 1) := by decide +kernel
theorem dX8_line_37 : decode cX8_line 37 = .ok (.iaload, 1) := by decide +kernel
theorem dX8_line_38 : decode cX8_line 38 = .ok (.ifCond .lt 12, 3) := by decide +kernel
theorem dX8_line_41 : decode cX8_line 41 = .ok (.aload_n 0, 1) := by decide +kernel
theorem dX8_line_42 : decode cX8_line 42 = .ok (.getfield 17, 3) := by decide +kernel
theorem dX8_line_45 : decode cX8_line 45 = .ok (.iload_n 3, 1) := by decide +kernel
theorem dX8_line_46 : decode cX8_line 46 = .ok (.iaload, 1) := by decide +kernel
theorem dX8_line_47 : decode cX8_line 47 = .ok (.ifCond .ge 9, 3) := by decide +kernel
theorem dX8_line_50 : decode cX8_line 50 = .ok (.aload_n 0, 1) := by decide +kernel
theorem dX8_line_51 : decode cX8_line 51 = .ok (.iconst 1, 1) := by decide +kernel
theorem dX8_line_52 : decode cX8_line 52 = .ok (.invokevirtual 141, 3) := by decide +kernel
theorem dX8_line_55 : decode cX8_line 55 = .ok (.ireturn, 1) := by decide +kernel
theorem dX8_line_56 : decode cX8_line 56 = .ok (.aload_n 0, 1) := by decide +kernel
theorem dX8_line_57 : decode cX8_line 57 = .ok (.getfield 17, 3) := by decide +kernel
theorem dX8_line_60 : decode cX8_line 60 = .ok (.iload_n 2, 1) := by decide +kernel
theorem dX8_line_61 : decode cX8_line 61 = .ok (.iaload, 1) := by decide +kernel
theorem dX8_line_62 : decode cX8_line 62 = .ok (.iconst 4, 1) := by decide +kernel
theorem dX8_line_63 : decode cX8_line 63 = .ok (.if_icmp .lt 13, 3) := by decide +kernel
theorem dX8_line_66 : decode cX8_line 66 = .ok (.aload_n 0, 1) := by decide +kernel
theorem dX8_line_67 : decode cX8_line 67 = .ok (.getfield 17, 3) := by decide +kernel
theorem dX8_line_70 : decode cX8_line 70 = .ok (.iload_n 3, 1) := by decide +kernel
theorem dX8_line_71 : decode cX8_line 71 = .ok (.iaload, 1) := by decide +kernel
theorem dX8_line_72 : decode cX8_line 72 = .ok (.iconst 4, 1) := by decide +kernel
theorem dX8_line_73 : decode cX8_line 73 = .ok (.if_icmp .ge 9, 3) := by decide +kernel
theorem dX8_line_76 : decode cX8_line 76 = .ok (.aload_n 0, 1) := by decide +kernel
theorem dX8_line_77 : decode cX8_line 77 = .ok (.iconst 5, 1) := by decide +kernel
theorem dX8_line_78 : decode cX8_line 78 = .ok (.invokevirtual 141, 3) := by decide +kernel
theorem dX8_line_81 : decode cX8_line 81 = .ok (.ireturn, 1) := by decide +kernel
theorem dX8_line_82 : decode cX8_line 82 = .ok (.iconst 1, 1) := by decide +kernel
theorem dX8_line_83 : decode cX8_line 83 = .ok (.istore 4, 2) := by decide +kernel
theorem dX8_line_85 : decode cX8_line 85 = .ok (.iconst 1, 1) := by decide +kernel
theorem dX8_line_86 : decode cX8_line 86 = .ok (.istore 5, 2) := by decide +kernel
theorem dX8_line_88 : decode cX8_line 88 = .ok (.iconst 1, 1) := by decide +kernel
theorem dX8_line_89 : decode cX8_line 89 = .ok (.istore 6, 2) := by decide +kernel
theorem dX8_line_91 : decode cX8_line 91 = .ok (.iconst 0, 1) := by decide +kernel
theorem dX8_line_92 : decode cX8_line 92 = .ok (.istore 7, 2) := by decide +kernel
theorem dX8_line_94 : decode cX8_line 94 = .ok (.iload 7, 2) := by decide +kernel
theorem dX8_line_96 : decode cX8_line 96 = .ok (.iconst 4, 1) := by decide +kernel
theorem dX8_line_97 : decode cX8_line 97 = .ok (.if_icmp .ge 137, 3) := by decide +kernel
theorem dX8_line_100 : decode cX8_line 100 = .ok (.aload_n 0, 1) := by decide +kernel
theorem dX8_line_101 : decode cX8_line 101 = .ok (.getfield 46, 3) := by decide +kernel
theorem dX8_line_104 : decode cX8_line 104 = .ok (.iload 7, 2) := by decide +kernel
theorem dX8_line_106 : decode cX8_line 106 = .ok (.aload_n 0, 1) := by decide +kernel
theorem dX8_line_107 : decode cX8_line 107 = .ok (.getfield 20, 3) := by decide +kernel
theorem dX8_line_110 : decode cX8_line 110 = .ok (.bipush 16, 2) := by decide +kernel
theorem dX8_line_112 : decode cX8_line 112 = .ok (.iload_n 2, 1) := by decide +kernel
theorem dX8_line_113 : decode cX8_line 113 = .ok (.imul, 1) := by decide +kernel
theorem dX8_line_114 : decode cX8_line 114 = .ok (.iload 7, 2) := by decide +kernel
theorem dX8_line_116 : decode cX8_line 116 = .ok (.iadd, 1) := by decide +kernel
theorem dX8_line_117 : decode cX8_line 117 = .ok (.iaload, 1) := by decide +kernel
theorem dX8_line_118 : decode cX8_line 118 = .ok (.iastore, 1) := by decide +kernel
theorem dX8_line_119 : decode cX8_line 119 = .ok (.aload_n 0, 1) := by decide +kernel
theorem dX8_line_120 : decode cX8_line 120 = .ok (.getfield 49, 3) := by decide +kernel
theorem dX8_line_123 : decode cX8_line 123 = .ok (.iload 7, 2) := by decide +kernel
theorem dX8_line_125 : decode cX8_line 125 = .ok (.aload_n 0, 1) := by decide +kernel
theorem dX8_line_126 : decode cX8_line 126 = .ok (.getfield 20, 3) := by decide +kernel
theorem dX8_line_129 : decode cX8_line 129 = .ok (.bipush 16, 2) := by decide +kernel
theorem dX8_line_131 : decode cX8_line 131 = .ok (.iload_n 3, 1) := by decide +kernel
theorem dX8_line_132 : decode cX8_line 132 = .ok (.imul, 1) := by decide +kernel
theorem dX8_line_133 : decode cX8_line 133 = .ok (.iload 7, 2) := by decide +kernel
theorem dX8_line_135 : decode cX8_line 135 = .ok (.iadd, 1) := by decide +kernel
theorem dX8_line_136 : decode cX8_line 136 = .ok (.iaload, 1) := by decide +kernel
theorem dX8_line_137 : decode cX8_line 137 = .ok (.iastore, 1) := by decide +kernel
theorem dX8_line_138 : decode cX8_line 138 = .ok (.iload 4, 2) := by decide +kernel
theorem dX8_line_140 : decode cX8_line 140 = .ok (.ifCond .eq 41, 3) := by decide +kernel
theorem dX8_line_143 : decode cX8_line 143 = .ok (.aload_n 0, 1) := by decide +kernel
theorem dX8_line_144 : decode cX8_line 144 = .ok (.getfield 46, 3) := by decide +kernel
theorem dX8_line_147 : decode cX8_line 147 = .ok (.iload 7, 2) := by decide +kernel
theorem dX8_line_149 : decode cX8_line 149 = .ok (.iaload, 1) := by decide +kernel
theorem dX8_line_150 : decode cX8_line 150 = .ok (.bipush (-100), 2) := by decide +kernel
theorem dX8_line_152 : decode cX8_line 152 = .ok (.bipush 100, 2) := by decide +kernel
theorem dX8_line_154 : decode cX8_line 154 = .ok (.invokestatic 133, 3) := by decide +kernel
theorem dX8_line_157 : decode cX8_line 157 = .ok (.ifCond .eq 24, 3) := by decide +kernel
theorem dX8_line_160 : decode cX8_line 160 = .ok (.aload_n 0, 1) := by decide +kernel
theorem dX8_line_161 : decode cX8_line 161 = .ok (.getfield 49, 3) := by decide +kernel
theorem dX8_line_164 : decode cX8_line 164 = .ok (.iload 7, 2) := by decide +kernel
theorem dX8_line_166 : decode cX8_line 166 = .ok (.iaload, 1) := by decide +kernel
theorem dX8_line_167 : decode cX8_line 167 = .ok (.bipush (-100), 2) := by decide +kernel
theorem dX8_line_169 : decode cX8_line 169 = .ok (.bipush 100, 2) := by decide +kernel
theorem dX8_line_171 : decode cX8_line 171 = .ok (.invokestatic 133, 3) := by decide +kernel
theorem dX8_line_174 : decode cX8_line 174 = .ok (.ifCond .eq 7, 3) := by decide +kernel
theorem dX8_line_177 : decode cX8_line 177 = .ok (.iconst 1, 1) := by decide +kernel
theorem dX8_line_178 : decode cX8_line 178 = .ok (.goto 4, 3) := by decide +kernel
theorem dX8_line_181 : decode cX8_line 181 = .ok (.iconst 0, 1) := by decide +kernel
theorem dX8_line_182 : decode cX8_line 182 = .ok (.istore 4, 2) := by decide +kernel
theorem dX8_line_184 : decode cX8_line 184 = .ok (.iload 5, 2) := by decide +kernel
theorem dX8_line_186 : decode cX8_line 186 = .ok (.ifCond .eq 17, 3) := by decide +kernel
theorem dX8_line_189 : decode cX8_line 189 = .ok (.aload_n 0, 1) := by decide +kernel
theorem dX8_line_190 : decode cX8_line 190 = .ok (.getfield 46, 3) := by decide +kernel
theorem dX8_line_193 : decode cX8_line 193 = .ok (.iload 7, 2) := by decide +kernel
theorem dX8_line_195 : decode cX8_line 195 = .ok (.iaload, 1) := by decide +kernel
theorem dX8_line_196 : decode cX8_line 196 = .ok (.ifCond .ne 7, 3) := by decide +kernel
theorem dX8_line_199 : decode cX8_line 199 = .ok (.iconst 1, 1) := by decide +kernel
theorem dX8_line_200 : decode cX8_line 200 = .ok (.goto 4, 3) := by decide +kernel
theorem dX8_line_203 : decode cX8_line 203 = .ok (.iconst 0, 1) := by decide +kernel
theorem dX8_line_204 : decode cX8_line 204 = .ok (.istore 5, 2) := by decide +kernel
theorem dX8_line_206 : decode cX8_line 206 = .ok (.iload 6, 2) := by decide +kernel
theorem dX8_line_208 : decode cX8_line 208 = .ok (.ifCond .eq 17, 3) := by decide +kernel
theorem dX8_line_211 : decode cX8_line 211 = .ok (.aload_n 0, 1) := by decide +kernel
theorem dX8_line_212 : decode cX8_line 212 = .ok (.getfield 49, 3) := by decide +kernel
theorem dX8_line_215 : decode cX8_line 215 = .ok (.iload 7, 2) := by decide +kernel
theorem dX8_line_217 : decode cX8_line 217 = .ok (.iaload, 1) := by decide +kernel
theorem dX8_line_218 : decode cX8_line 218 = .ok (.ifCond .ne 7, 3) := by decide +kernel
theorem dX8_line_221 : decode cX8_line 221 = .ok (.iconst 1, 1) := by decide +kernel
theorem dX8_line_222 : decode cX8_line 222 = .ok (.goto 4, 3) := by decide +kernel
theorem dX8_line_225 : decode cX8_line 225 = .ok (.iconst 0, 1) := by decide +kernel
theorem dX8_line_226 : decode cX8_line 226 = .ok (.istore 6, 2) := by decide +kernel
theorem dX8_line_228 : decode cX8_line 228 = .ok (.iinc 7 1, 3) := by decide +kernel
theorem dX8_line_231 : decode cX8_line 231 = .ok (.goto (-137), 3) := by decide +kernel
theorem dX8_line_234 : decode cX8_line 234 = .ok (.iload 4, 2) := by decide +kernel
theorem dX8_line_236 : decode cX8_line 236 = .ok (.ifCond .ne 9, 3) := by decide +kernel
theorem dX8_line_239 : decode cX8_line 239 = .ok (.aload_n 0, 1) := by decide +kernel
theorem dX8_line_240 : decode cX8_line 240 = .ok (.iconst 2, 1) := by decide +kernel
theorem dX8_line_241 : decode cX8_line 241 = .ok (.invokevirtual 141, 3) := by decide +kernel
theorem dX8_line_244 : decode cX8_line 244 = .ok (.ireturn, 1) := by decide +kernel
theorem dX8_line_245 : decode cX8_line 245 = .ok (.iconst 1, 1) := by decide +kernel
theorem dX8_line_246 : decode cX8_line 246 = .ok (.istore 7, 2) := by decide +kernel
theorem dX8_line_248 : decode cX8_line 248 = .ok (.iconst 0, 1) := by decide +kernel
theorem dX8_line_249 : decode cX8_line 249 = .ok (.istore 8, 2) := by decide +kernel
theorem dX8_line_251 : decode cX8_line 251 = .ok (.iload 8, 2) := by decide +kernel
theorem dX8_line_253 : decode cX8_line 253 = .ok (.iconst 4, 1) := by decide +kernel
theorem dX8_line_254 : decode cX8_line 254 = .ok (.if_icmp .ge 70, 3) := by decide +kernel
theorem dX8_line_257 : decode cX8_line 257 = .ok (.iconst 0, 1) := by decide +kernel
theorem dX8_line_258 : decode cX8_line 258 = .ok (.istore 9, 2) := by decide +kernel
theorem dX8_line_260 : decode cX8_line 260 = .ok (.iload 9, 2) := by decide +kernel
theorem dX8_line_262 : decode cX8_line 262 = .ok (.iload 8, 2) := by decide +kernel
theorem dX8_line_264 : decode cX8_line 264 = .ok (.if_icmp .ge 54, 3) := by decide +kernel
theorem dX8_line_267 : decode cX8_line 267 = .ok (.iload 7, 2) := by decide +kernel
theorem dX8_line_269 : decode cX8_line 269 = .ok (.ifCond .eq 40, 3) := by decide +kernel
theorem dX8_line_272 : decode cX8_line 272 = .ok (.aload_n 0, 1) := by decide +kernel
theorem dX8_line_273 : decode cX8_line 273 = .ok (.getfield 46, 3) := by decide +kernel
theorem dX8_line_276 : decode cX8_line 276 = .ok (.iload 8, 2) := by decide +kernel
theorem dX8_line_278 : decode cX8_line 278 = .ok (.iaload, 1) := by decide +kernel
theorem dX8_line_279 : decode cX8_line 279 = .ok (.aload_n 0, 1) := by decide +kernel
theorem dX8_line_280 : decode cX8_line 280 = .ok (.getfield 49, 3) := by decide +kernel
theorem dX8_line_283 : decode cX8_line 283 = .ok (.iload 9, 2) := by decide +kernel
theorem dX8_line_285 : decode cX8_line 285 = .ok (.iaload, 1) := by decide +kernel
theorem dX8_line_286 : decode cX8_line 286 = .ok (.imul, 1) := by decide +kernel
theorem dX8_line_287 : decode cX8_line 287 = .ok (.aload_n 0, 1) := by decide +kernel
theorem dX8_line_288 : decode cX8_line 288 = .ok (.getfield 46, 3) := by decide +kernel
theorem dX8_line_291 : decode cX8_line 291 = .ok (.iload 9, 2) := by decide +kernel
theorem dX8_line_293 : decode cX8_line 293 = .ok (.iaload, 1) := by decide +kernel
theorem dX8_line_294 : decode cX8_line 294 = .ok (.aload_n 0, 1) := by decide +kernel
theorem dX8_line_295 : decode cX8_line 295 = .ok (.getfield 49, 3) := by decide +kernel
theorem dX8_line_298 : decode cX8_line 298 = .ok (.iload 8, 2) := by decide +kernel
theorem dX8_line_300 : decode cX8_line 300 = .ok (.iaload, 1) := by decide +kernel
theorem dX8_line_301 : decode cX8_line 301 = .ok (.imul, 1) := by decide +kernel
theorem dX8_line_302 : decode cX8_line 302 = .ok (.if_icmp .ne 7, 3) := by decide +kernel
theorem dX8_line_305 : decode cX8_line 305 = .ok (.iconst 1, 1) := by decide +kernel
theorem dX8_line_306 : decode cX8_line 306 = .ok (.goto 4, 3) := by decide +kernel
theorem dX8_line_309 : decode cX8_line 309 = .ok (.iconst 0, 1) := by decide +kernel
theorem dX8_line_310 : decode cX8_line 310 = .ok (.istore 7, 2) := by decide +kernel
theorem dX8_line_312 : decode cX8_line 312 = .ok (.iinc 9 1, 3) := by decide +kernel
theorem dX8_line_315 : decode cX8_line 315 = .ok (.goto (-55), 3) := by decide +kernel
theorem dX8_line_318 : decode cX8_line 318 = .ok (.iinc 8 1, 3) := by decide +kernel
theorem dX8_line_321 : decode cX8_line 321 = .ok (.goto (-70), 3) := by decide +kernel
theorem dX8_line_324 : decode cX8_line 324 = .ok (.iload 5, 2) := by decide +kernel
theorem dX8_line_326 : decode cX8_line 326 = .ok (.ifCond .ne 13, 3) := by decide +kernel
theorem dX8_line_329 : decode cX8_line 329 = .ok (.iload 6, 2) := by decide +kernel
theorem dX8_line_331 : decode cX8_line 331 = .ok (.ifCond .ne 8, 3) := by decide +kernel
theorem dX8_line_334 : decode cX8_line 334 = .ok (.iload 7, 2) := by decide +kernel
theorem dX8_line_336 : decode cX8_line 336 = .ok (.ifCond .eq 9, 3) := by decide +kernel
theorem dX8_line_339 : decode cX8_line 339 = .ok (.aload_n 0, 1) := by decide +kernel
theorem dX8_line_340 : decode cX8_line 340 = .ok (.iconst 4, 1) := by decide +kernel
theorem dX8_line_341 : decode cX8_line 341 = .ok (.invokevirtual 141, 3) := by decide +kernel
theorem dX8_line_344 : decode cX8_line 344 = .ok (.ireturn, 1) := by decide +kernel
theorem dX8_line_345 : decode cX8_line 345 = .ok (.aload_n 0, 1) := by decide +kernel
theorem dX8_line_346 : decode cX8_line 346 = .ok (.iconst 1, 1) := by decide +kernel
theorem dX8_line_347 : decode cX8_line 347 = .ok (.putfield 245, 3) := by decide +kernel
theorem dX8_line_350 : decode cX8_line 350 = .ok (.aload_n 0, 1) := by decide +kernel
theorem dX8_line_351 : decode cX8_line 351 = .ok (.getfield 52, 3) := by decide +kernel
theorem dX8_line_354 : decode cX8_line 354 = .ok (.iconst 0, 1) := by decide +kernel
theorem dX8_line_355 : decode cX8_line 355 = .ok (.aload_n 0, 1) := by decide +kernel
theorem dX8_line_356 : decode cX8_line 356 = .ok (.iload_n 1, 1) := by decide +kernel
theorem dX8_line_357 : decode cX8_line 357 = .ok (.aload_n 0, 1) := by decide +kernel
theorem dX8_line_358 : decode cX8_line 358 = .ok (.getfield 46, 3) := by decide +kernel
theorem dX8_line_361 : decode cX8_line 361 = .ok (.aload_n 0, 1) := by decide +kernel
theorem dX8_line_362 : decode cX8_line 362 = .ok (.getfield 46, 3) := by decide +kernel
theorem dX8_line_365 : decode cX8_line 365 = .ok (.invokevirtual 241, 3) := by decide +kernel
theorem dX8_line_368 : decode cX8_line 368 = .ok (.iastore, 1) := by decide +kernel
theorem dX8_line_369 : decode cX8_line 369 = .ok (.aload_n 0, 1) := by decide +kernel
theorem dX8_line_370 : decode cX8_line 370 = .ok (.getfield 52, 3) := by decide +kernel
theorem dX8_line_373 : decode cX8_line 373 = .ok (.iconst 1, 1) := by decide +kernel
theorem dX8_line_374 : decode cX8_line 374 = .ok (.aload_n 0, 1) := by decide +kernel
theorem dX8_line_375 : decode cX8_line 375 = .ok (.iload_n 1, 1) := by decide +kernel
theorem dX8_line_376 : decode cX8_line 376 = .ok (.aload_n 0, 1) := by decide +kernel
theorem dX8_line_377 : decode cX8_line 377 = .ok (.getfield 46, 3) := by decide +kernel
theorem dX8_line_380 : decode cX8_line 380 = .ok (.aload_n 0, 1) := by decide +kernel
theorem dX8_line_381 : decode cX8_line 381 = .ok (.getfield 49, 3) := by decide +kernel
theorem dX8_line_384 : decode cX8_line 384 = .ok (.invokevirtual 241, 3) := by decide +kernel
theorem dX8_line_387 : decode cX8_line 387 = .ok (.iastore, 1) := by decide +kernel
theorem dX8_line_388 : decode cX8_line 388 = .ok (.aload_n 0, 1) := by decide +kernel
theorem dX8_line_389 : decode cX8_line 389 = .ok (.getfield 52, 3) := by decide +kernel
theorem dX8_line_392 : decode cX8_line 392 = .ok (.iconst 2, 1) := by decide +kernel
theorem dX8_line_393 : decode cX8_line 393 = .ok (.aload_n 0, 1) := by decide +kernel
theorem dX8_line_394 : decode cX8_line 394 = .ok (.iload_n 1, 1) := by decide +kernel
theorem dX8_line_395 : decode cX8_line 395 = .ok (.aload_n 0, 1) := by decide +kernel
theorem dX8_line_396 : decode cX8_line 396 = .ok (.getfield 49, 3) := by decide +kernel
theorem dX8_line_399 : decode cX8_line 399 = .ok (.aload_n 0, 1) := by decide +kernel
theorem dX8_line_400 : decode cX8_line 400 = .ok (.getfield 49, 3) := by decide +kernel
theorem dX8_line_403 : decode cX8_line 403 = .ok (.invokevirtual 241, 3) := by decide +kernel
theorem dX8_line_406 : decode cX8_line 406 = .ok (.iastore, 1) := by decide +kernel
theorem dX8_line_407 : decode cX8_line 407 = .ok (.aload_n 0, 1) := by decide +kernel
theorem dX8_line_408 : decode cX8_line 408 = .ok (.getfield 52, 3) := by decide +kernel
theorem dX8_line_411 : decode cX8_line 411 = .ok (.iconst 1, 1) := by decide +kernel
theorem dX8_line_412 : decode cX8_line 412 = .ok (.iaload, 1) := by decide +kernel
theorem dX8_line_413 : decode cX8_line 413 = .ok (.i2l, 1) := by decide +kernel
theorem dX8_line_414 : decode cX8_line 414 = .ok (.aload_n 0, 1) := by decide +kernel
theorem dX8_line_415 : decode cX8_line 415 = .ok (.getfield 52, 3) := by decide +kernel
theorem dX8_line_418 : decode cX8_line 418 = .ok (.iconst 1, 1) := by decide +kernel
theorem dX8_line_419 : decode cX8_line 419 = .ok (.iaload, 1) := by decide +kernel
theorem dX8_line_420 : decode cX8_line 420 = .ok (.i2l, 1) := by decide +kernel
theorem dX8_line_421 : decode cX8_line 421 = .ok (.lmul, 1) := by decide +kernel
theorem dX8_line_422 : decode cX8_line 422 = .ok (.aload_n 0, 1) := by decide +kernel
theorem dX8_line_423 : decode cX8_line 423 = .ok (.getfield 52, 3) := by decide +kernel
theorem dX8_line_426 : decode cX8_line 426 = .ok (.iconst 0, 1) := by decide +kernel
theorem dX8_line_427 : decode cX8_line 427 = .ok (.iaload, 1) := by decide +kernel
theorem dX8_line_428 : decode cX8_line 428 = .ok (.i2l, 1) := by decide +kernel
theorem dX8_line_429 : decode cX8_line 429 = .ok (.aload_n 0, 1) := by decide +kernel
theorem dX8_line_430 : decode cX8_line 430 = .ok (.getfield 52, 3) := by decide +kernel
theorem dX8_line_433 : decode cX8_line 433 = .ok (.iconst 2, 1) := by decide +kernel
theorem dX8_line_434 : decode cX8_line 434 = .ok (.iaload, 1) := by decide +kernel
theorem dX8_line_435 : decode cX8_line 435 = .ok (.i2l, 1) := by decide +kernel
theorem dX8_line_436 : decode cX8_line 436 = .ok (.lmul, 1) := by decide +kernel
theorem dX8_line_437 : decode cX8_line 437 = .ok (.lsub, 1) := by decide +kernel
theorem dX8_line_438 : decode cX8_line 438 = .ok (.lstore 8, 2) := by decide +kernel
theorem dX8_line_440 : decode cX8_line 440 = .ok (.aload_n 0, 1) := by decide +kernel
theorem dX8_line_441 : decode cX8_line 441 = .ok (.getfield 52, 3) := by decide +kernel
theorem dX8_line_444 : decode cX8_line 444 = .ok (.iconst 0, 1) := by decide +kernel
theorem dX8_line_445 : decode cX8_line 445 = .ok (.iaload, 1) := by decide +kernel
theorem dX8_line_446 : decode cX8_line 446 = .ok (.ifCond .ne 26, 3) := by decide +kernel
theorem dX8_line_449 : decode cX8_line 449 = .ok (.aload_n 0, 1) := by decide +kernel
theorem dX8_line_450 : decode cX8_line 450 = .ok (.getfield 52, 3) := by decide +kernel
theorem dX8_line_453 : decode cX8_line 453 = .ok (.iconst 1, 1) := by decide +kernel
theorem dX8_line_454 : decode cX8_line 454 = .ok (.iaload, 1) := by decide +kernel
theorem dX8_line_455 : decode cX8_line 455 = .ok (.ifCond .ne 17, 3) := by decide +kernel
theorem dX8_line_458 : decode cX8_line 458 = .ok (.aload_n 0, 1) := by decide +kernel
theorem dX8_line_459 : decode cX8_line 459 = .ok (.getfield 52, 3) := by decide +kernel
theorem dX8_line_462 : decode cX8_line 462 = .ok (.iconst 2, 1) := by decide +kernel
theorem dX8_line_463 : decode cX8_line 463 = .ok (.iaload, 1) := by decide +kernel
theorem dX8_line_464 : decode cX8_line 464 = .ok (.ifCond .ne 8, 3) := by decide +kernel
theorem dX8_line_467 : decode cX8_line 467 = .ok (.bipush 9, 2) := by decide +kernel
theorem dX8_line_469 : decode cX8_line 469 = .ok (.goto 10, 3) := by decide +kernel
theorem dX8_line_472 : decode cX8_line 472 = .ok (.iconst 1, 1) := by decide +kernel
theorem dX8_line_473 : decode cX8_line 473 = .ok (.lload 8, 2) := by decide +kernel
theorem dX8_line_475 : decode cX8_line 475 = .ok (.invokestatic 156, 3) := by decide +kernel
theorem dX8_line_478 : decode cX8_line 478 = .ok (.iadd, 1) := by decide +kernel
theorem dX8_line_479 : decode cX8_line 479 = .ok (.ireturn, 1) := by decide +kernel
theorem dX8_lineTold_0 : decode cX8_lineTold 0 = .ok (.iload_n 1, 1) := by decide +kernel
theorem dX8_lineTold_1 : decode cX8_lineTold 1 = .ok (.iconst 0, 1) := by decide +kernel
theorem dX8_lineTold_2 : decode cX8_lineTold 2 = .ok (.iconst 2, 1) := by decide +kernel
theorem dX8_lineTold_3 : decode cX8_lineTold 3 = .ok (.invokestatic 133, 3) := by decide +kernel
theorem dX8_lineTold_6 : decode cX8_lineTold 6 = .ok (.ifCond .ne 7, 3) := by decide +kernel
theorem dX8_lineTold_9 : decode cX8_lineTold 9 = .ok (.iconst (-1), 1) := by decide +kernel
theorem dX8_lineTold_10 : decode cX8_lineTold 10 = .ok (.goto 26, 3) := by decide +kernel
theorem dX8_lineTold_13 : decode cX8_lineTold 13 = .ok (.aload_n 0, 1) := by decide +kernel
theorem dX8_lineTold_14 : decode cX8_lineTold 14 = .ok (.getfield 245, 3) := by decide +kernel
theorem dX8_lineTold_17 : decode cX8_lineTold 17 = .ok (.ifCond .eq 17, 3) := by decide +kernel
theorem dX8_lineTold_20 : decode cX8_lineTold 20 = .ok (.aload_n 0, 1) := by decide +kernel
theorem dX8_lineTold_21 : decode cX8_lineTold 21 = .ok (.aload_n 0, 1) := by decide +kernel
theorem dX8_lineTold_22 : decode cX8_lineTold 22 = .ok (.getfield 52, 3) := by decide +kernel
theorem dX8_lineTold_25 : decode cX8_lineTold 25 = .ok (.iload_n 1, 1) := by decide +kernel
theorem dX8_lineTold_26 : decode cX8_lineTold 26 = .ok (.iaload, 1) := by decide +kernel
theorem dX8_lineTold_27 : decode cX8_lineTold 27 = .ok (.iconst 1, 1) := by decide +kernel
theorem dX8_lineTold_28 : decode cX8_lineTold 28 = .ok (.invokevirtual 213, 3) := by decide +kernel
theorem dX8_lineTold_31 : decode cX8_lineTold 31 = .ok (.goto 5, 3) := by decide +kernel
theorem dX8_lineTold_34 : decode cX8_lineTold 34 = .ok (.bipush (-4), 2) := by decide +kernel
theorem dX8_lineTold_36 : decode cX8_lineTold 36 = .ok (.ireturn, 1) := by decide +kernel
theorem dX8_layCut_0 : decode cX8_layCut 0 = .ok (.iconst 0, 1) := by decide +kernel
theorem dX8_layCut_1 : decode cX8_layCut 1 = .ok (.istore_n 2, 1) := by decide +kernel
theorem dX8_layCut_2 : decode cX8_layCut 2 = .ok (.aload_n 0, 1) := by decide +kernel
theorem dX8_layCut_3 : decode cX8_layCut 3 = .ok (.getfield 46, 3) := by decide +kernel
theorem dX8_layCut_6 : decode cX8_layCut 6 = .ok (.iload_n 2, 1) := by decide +kernel
theorem dX8_layCut_7 : decode cX8_layCut 7 = .ok (.iaload, 1) := by decide +kernel
theorem dX8_layCut_8 : decode cX8_layCut 8 = .ok (.ifCond .ne 9, 3) := by decide +kernel
theorem dX8_layCut_11 : decode cX8_layCut 11 = .ok (.iinc 2 1, 3) := by decide +kernel
theorem dX8_layCut_14 : decode cX8_layCut 14 = .ok (.goto (-12), 3) := by decide +kernel
theorem dX8_layCut_17 : decode cX8_layCut 17 = .ok (.iconst 0, 1) := by decide +kernel
theorem dX8_layCut_18 : decode cX8_layCut 18 = .ok (.istore_n 3, 1) := by decide +kernel
theorem dX8_layCut_19 : decode cX8_layCut 19 = .ok (.iconst 0, 1) := by decide +kernel
theorem dX8_layCut_20 : decode cX8_layCut 20 = .ok (.istore 4, 2) := by decide +kernel
theorem dX8_layCut_22 : decode cX8_layCut 22 = .ok (.iload 4, 2) := by decide +kernel
theorem dX8_layCut_24 : decode cX8_layCut 24 = .ok (.iconst 4, 1) := by decide +kernel
theorem dX8_layCut_25 : decode cX8_layCut 25 = .ok (.if_icmp .ge 78, 3) := by decide +kernel
theorem dX8_layCut_28 : decode cX8_layCut 28 = .ok (.iload 4, 2) := by decide +kernel
theorem dX8_layCut_30 : decode cX8_layCut 30 = .ok (.iload_n 2, 1) := by decide +kernel
theorem dX8_layCut_31 : decode cX8_layCut 31 = .ok (.if_icmp .eq 66, 3) := by decide +kernel
theorem dX8_layCut_34 : decode cX8_layCut 34 = .ok (.iconst 0, 1) := by decide +kernel
theorem dX8_layCut_35 : decode cX8_layCut 35 = .ok (.istore 5, 2) := by decide +kernel
theorem dX8_layCut_37 : decode cX8_layCut 37 = .ok (.iload 5, 2) := by decide +kernel
theorem dX8_layCut_39 : decode cX8_layCut 39 = .ok (.iconst 4, 1) := by decide +kernel
theorem dX8_layCut_40 : decode cX8_layCut 40 = .ok (.if_icmp .ge 54, 3) := by decide +kernel
theorem dX8_layCut_43 : decode cX8_layCut 43 = .ok (.aload_n 0, 1) := by decide +kernel
theorem dX8_layCut_44 : decode cX8_layCut 44 = .ok (.getfield 55, 3) := by decide +kernel
theorem dX8_layCut_47 : decode cX8_layCut 47 = .ok (.iconst 4, 1) := by decide +kernel
theorem dX8_layCut_48 : decode cX8_layCut 48 = .ok (.iload_n 3, 1) := by decide +kernel
theorem dX8_layCut_49 : decode cX8_layCut 49 = .ok (.imul, 1) := by decide +kernel
theorem dX8_layCut_50 : decode cX8_layCut 50 = .ok (.iload 5, 2) := by decide +kernel
theorem dX8_layCut_52 : decode cX8_layCut 52 = .ok (.iadd, 1) := by decide +kernel
theorem dX8_layCut_53 : decode cX8_layCut 53 = .ok (.iload 5, 2) := by decide +kernel
theorem dX8_layCut_55 : decode cX8_layCut 55 = .ok (.iload 4, 2) := by decide +kernel
theorem dX8_layCut_57 : decode cX8_layCut 57 = .ok (.if_icmp .ne 12, 3) := by decide +kernel
theorem dX8_layCut_60 : decode cX8_layCut 60 = .ok (.aload_n 0, 1) := by decide +kernel
theorem dX8_layCut_61 : decode cX8_layCut 61 = .ok (.getfield 46, 3) := by decide +kernel
theorem dX8_layCut_64 : decode cX8_layCut 64 = .ok (.iload_n 2, 1) := by decide +kernel
theorem dX8_layCut_65 : decode cX8_layCut 65 = .ok (.iaload, 1) := by decide +kernel
theorem dX8_layCut_66 : decode cX8_layCut 66 = .ok (.goto 21, 3) := by decide +kernel
theorem dX8_layCut_69 : decode cX8_layCut 69 = .ok (.iload 5, 2) := by decide +kernel
theorem dX8_layCut_71 : decode cX8_layCut 71 = .ok (.iload_n 2, 1) := by decide +kernel
theorem dX8_layCut_72 : decode cX8_layCut 72 = .ok (.if_icmp .ne 14, 3) := by decide +kernel
theorem dX8_layCut_75 : decode cX8_layCut 75 = .ok (.aload_n 0, 1) := by decide +kernel
theorem dX8_layCut_76 : decode cX8_layCut 76 = .ok (.getfield 46, 3) := by decide +kernel
theorem dX8_layCut_79 : decode cX8_layCut 79 = .ok (.iload 4, 2) := by decide +kernel
theorem dX8_layCut_81 : decode cX8_layCut 81 = .ok (.iaload, 1) := by decide +kernel
theorem dX8_layCut_82 : decode cX8_layCut 82 = .ok (.ineg, 1) := by decide +kernel
theorem dX8_layCut_83 : decode cX8_layCut 83 = .ok (.goto 4, 3) := by decide +kernel
theorem dX8_layCut_86 : decode cX8_layCut 86 = .ok (.iconst 0, 1) := by decide +kernel
theorem dX8_layCut_87 : decode cX8_layCut 87 = .ok (.iastore, 1) := by decide +kernel
theorem dX8_layCut_88 : decode cX8_layCut 88 = .ok (.iinc 5 1, 3) := by decide +kernel
theorem dX8_layCut_91 : decode cX8_layCut 91 = .ok (.goto (-54), 3) := by decide +kernel
theorem dX8_layCut_94 : decode cX8_layCut 94 = .ok (.iinc 3 1, 3) := by decide +kernel
theorem dX8_layCut_97 : decode cX8_layCut 97 = .ok (.iinc 4 1, 3) := by decide +kernel
theorem dX8_layCut_100 : decode cX8_layCut 100 = .ok (.goto (-78), 3) := by decide +kernel
theorem dX8_layCut_103 : decode cX8_layCut 103 = .ok (.iconst 0, 1) := by decide +kernel
theorem dX8_layCut_104 : decode cX8_layCut 104 = .ok (.istore 4, 2) := by decide +kernel
theorem dX8_layCut_106 : decode cX8_layCut 106 = .ok (.iload 4, 2) := by decide +kernel
theorem dX8_layCut_108 : decode cX8_layCut 108 = .ok (.iconst 3, 1) := by decide +kernel
theorem dX8_layCut_109 : decode cX8_layCut 109 = .ok (.if_icmp .ge 103, 3) := by decide +kernel
theorem dX8_layCut_112 : decode cX8_layCut 112 = .ok (.iconst 0, 1) := by decide +kernel
theorem dX8_layCut_113 : decode cX8_layCut 113 = .ok (.istore 5, 2) := by decide +kernel
theorem dX8_layCut_115 : decode cX8_layCut 115 = .ok (.iload 5, 2) := by decide +kernel
theorem dX8_layCut_117 : decode cX8_layCut 117 = .ok (.iconst 3, 1) := by decide +kernel
theorem dX8_layCut_118 : decode cX8_layCut 118 = .ok (.if_icmp .ge 88, 3) := by decide +kernel
theorem dX8_layCut_121 : decode cX8_layCut 121 = .ok (.iconst 0, 1) := by decide +kernel
theorem dX8_layCut_122 : decode cX8_layCut 122 = .ok (.istore 6, 2) := by decide +kernel
theorem dX8_layCut_124 : decode cX8_layCut 124 = .ok (.iload 6, 2) := by decide +kernel
theorem dX8_layCut_126 : decode cX8_layCut 126 = .ok (.iconst 4, 1) := by decide +kernel
theorem dX8_layCut_127 : decode cX8_layCut 127 = .ok (.if_icmp .ge 47, 3) := by decide +kernel
theorem dX8_layCut_130 : decode cX8_layCut 130 = .ok (.aload_n 0, 1) := by decide +kernel
theorem dX8_layCut_131 : decode cX8_layCut 131 = .ok (.getfield 58, 3) := by decide +kernel
theorem dX8_layCut_134 : decode cX8_layCut 134 = .ok (.iload 6, 2) := by decide +kernel
theorem dX8_layCut_136 : decode cX8_layCut 136 = .ok (.aload_n 0, 1) := by decide +kernel
theorem dX8_layCut_137 : decode cX8_layCut 137 = .ok (.getfield 55, 3) := by decide +kernel
theorem dX8_layCut_140 : decode cX8_layCut 140 = .ok (.iconst 4, 1) := by decide +kernel
theorem dX8_layCut_141 : decode cX8_layCut 141 = .ok (.iload 4, 2) := by decide +kernel
theorem dX8_layCut_143 : decode cX8_layCut 143 = .ok (.imul, 1) := by decide +kernel
theorem dX8_layCut_144 : decode cX8_layCut 144 = .ok (.iload 6, 2) := by decide +kernel
theorem dX8_layCut_146 : decode cX8_layCut 146 = .ok (.iadd, 1) := by decide +kernel
theorem dX8_layCut_147 : decode cX8_layCut 147 = .ok (.iaload, 1) := by decide +kernel
theorem dX8_layCut_148 : decode cX8_layCut 148 = .ok (.iastore, 1) := by decide +kernel
theorem dX8_layCut_149 : decode cX8_layCut 149 = .ok (.aload_n 0, 1) := by decide +kernel
theorem dX8_layCut_150 : decode cX8_layCut 150 = .ok (.getfield 61, 3) := by decide +kernel
theorem dX8_layCut_153 : decode cX8_layCut 153 = .ok (.iload 6, 2) := by decide +kernel
theorem dX8_layCut_155 : decode cX8_layCut 155 = .ok (.aload_n 0, 1) := by decide +kernel
theorem dX8_layCut_156 : decode cX8_layCut 156 = .ok (.getfield 55, 3) := by decide +kernel
theorem dX8_layCut_159 : decode cX8_layCut 159 = .ok (.iconst 4, 1) := by decide +kernel
theorem dX8_layCut_160 : decode cX8_layCut 160 = .ok (.iload 5, 2) := by decide +kernel
theorem dX8_layCut_162 : decode cX8_layCut 162 = .ok (.imul, 1) := by decide +kernel
theorem dX8_layCut_163 : decode cX8_layCut 163 = .ok (.iload 6, 2) := by decide +kernel
theorem dX8_layCut_165 : decode cX8_layCut 165 = .ok (.iadd, 1) := by decide +kernel
theorem dX8_layCut_166 : decode cX8_layCut 166 = .ok (.iaload, 1) := by decide +kernel
theorem dX8_layCut_167 : decode cX8_layCut 167 = .ok (.iastore, 1) := by decide +kernel
theorem dX8_layCut_168 : decode cX8_layCut 168 = .ok (.iinc 6 1, 3) := by decide +kernel
theorem dX8_layCut_171 : decode cX8_layCut 171 = .ok (.goto (-47), 3) := by decide +kernel
theorem dX8_layCut_174 : decode cX8_layCut 174 = .ok (.aload_n 0, 1) := by decide +kernel
theorem dX8_layCut_175 : decode cX8_layCut 175 = .ok (.getfield 26, 3) := by decide +kernel
theorem dX8_layCut_178 : decode cX8_layCut 178 = .ok (.iconst 4, 1) := by decide +kernel
theorem dX8_layCut_179 : decode cX8_layCut 179 = .ok (.iload 4, 2) := by decide +kernel
theorem dX8_layCut_181 : decode cX8_layCut 181 = .ok (.imul, 1) := by decide +kernel
theorem dX8_layCut_182 : decode cX8_layCut 182 = .ok (.iload 5, 2) := by decide +kernel
theorem dX8_layCut_184 : decode cX8_layCut 184 = .ok (.iadd, 1) := by decide +kernel
theorem dX8_layCut_185 : decode cX8_layCut 185 = .ok (.aload_n 0, 1) := by decide +kernel
theorem dX8_layCut_186 : decode cX8_layCut 186 = .ok (.iload_n 1, 1) := by decide +kernel
theorem dX8_layCut_187 : decode cX8_layCut 187 = .ok (.aload_n 0, 1) := by decide +kernel
theorem dX8_layCut_188 : decode cX8_layCut 188 = .ok (.getfield 58, 3) := by decide +kernel
theorem dX8_layCut_191 : decode cX8_layCut 191 = .ok (.aload_n 0, 1) := by decide +kernel
theorem dX8_layCut_192 : decode cX8_layCut 192 = .ok (.getfield 61, 3) := by decide +kernel
theorem dX8_layCut_195 : decode cX8_layCut 195 = .ok (.invokevirtual 241, 3) := by decide +kernel
theorem dX8_layCut_198 : decode cX8_layCut 198 = .ok (.i2l, 1) := by decide +kernel
theorem dX8_layCut_199 : decode cX8_layCut 199 = .ok (.lastore, 1) := by decide +kernel
theorem dX8_layCut_200 : decode cX8_layCut 200 = .ok (.iinc 5 1, 3) := by decide +kernel
theorem dX8_layCut_203 : decode cX8_layCut 203 = .ok (.goto (-88), 3) := by decide +kernel
theorem dX8_layCut_206 : decode cX8_layCut 206 = .ok (.iinc 4 1, 3) := by decide +kernel
theorem dX8_layCut_209 : decode cX8_layCut 209 = .ok (.goto (-103), 3) := by decide +kernel
theorem dX8_layCut_212 : decode cX8_layCut 212 = .ok (.aload_n 0, 1) := by decide +kernel
theorem dX8_layCut_213 : decode cX8_layCut 213 = .ok (.invokevirtual 191, 3) := by decide +kernel
theorem dX8_layCut_216 : decode cX8_layCut 216 = .ok (.return_, 1) := by decide +kernel
theorem dX8_cut_0 : decode cX8_cut 0 = .ok (.aload_n 0, 1) := by decide +kernel
theorem dX8_cut_1 : decode cX8_cut 1 = .ok (.iload_n 1, 1) := by decide +kernel
theorem dX8_cut_2 : decode cX8_cut 2 = .ok (.iload_n 2, 1) := by decide +kernel
theorem dX8_cut_3 : decode cX8_cut 3 = .ok (.invokevirtual 238, 3) := by decide +kernel
theorem dX8_cut_6 : decode cX8_cut 6 = .ok (.istore_n 3, 1) := by decide +kernel
theorem dX8_cut_7 : decode cX8_cut 7 = .ok (.iload_n 3, 1) := by decide +kernel
theorem dX8_cut_8 : decode cX8_cut 8 = .ok (.ifCond .ge 5, 3) := by decide +kernel
theorem dX8_cut_11 : decode cX8_cut 11 = .ok (.iload_n 3, 1) := by decide +kernel
theorem dX8_cut_12 : decode cX8_cut 12 = .ok (.ireturn, 1) := by decide +kernel
theorem dX8_cut_13 : decode cX8_cut 13 = .ok (.aload_n 0, 1) := by decide +kernel
theorem dX8_cut_14 : decode cX8_cut 14 = .ok (.iload_n 1, 1) := by decide +kernel
theorem dX8_cut_15 : decode cX8_cut 15 = .ok (.invokevirtual 249, 3) := by decide +kernel
theorem dX8_cut_18 : decode cX8_cut 18 = .ok (.aload_n 0, 1) := by decide +kernel
theorem dX8_cut_19 : decode cX8_cut 19 = .ok (.getfield 160, 3) := by decide +kernel
theorem dX8_cut_22 : decode cX8_cut 22 = .ok (.aload_n 0, 1) := by decide +kernel
theorem dX8_cut_23 : decode cX8_cut 23 = .ok (.getfield 163, 3) := by decide +kernel
theorem dX8_cut_26 : decode cX8_cut 26 = .ok (.if_icmp .le 18, 3) := by decide +kernel
theorem dX8_cut_29 : decode cX8_cut 29 = .ok (.bipush 10, 2) := by decide +kernel
theorem dX8_cut_31 : decode cX8_cut 31 = .ok (.aload_n 0, 1) := by decide +kernel
theorem dX8_cut_32 : decode cX8_cut 32 = .ok (.getfield 160, 3) := by decide +kernel
theorem dX8_cut_35 : decode cX8_cut 35 = .ok (.imul, 1) := by decide +kernel
theorem dX8_cut_36 : decode cX8_cut 36 = .ok (.aload_n 0, 1) := by decide +kernel
theorem dX8_cut_37 : decode cX8_cut 37 = .ok (.getfield 163, 3) := by decide +kernel
theorem dX8_cut_40 : decode cX8_cut 40 = .ok (.iadd, 1) := by decide +kernel
theorem dX8_cut_41 : decode cX8_cut 41 = .ok (.goto 15, 3) := by decide +kernel
theorem dX8_cut_44 : decode cX8_cut 44 = .ok (.bipush 10, 2) := by decide +kernel
theorem dX8_cut_46 : decode cX8_cut 46 = .ok (.aload_n 0, 1) := by decide +kernel
theorem dX8_cut_47 : decode cX8_cut 47 = .ok (.getfield 163, 3) := by decide +kernel
theorem dX8_cut_50 : decode cX8_cut 50 = .ok (.imul, 1) := by decide +kernel
theorem dX8_cut_51 : decode cX8_cut 51 = .ok (.aload_n 0, 1) := by decide +kernel
theorem dX8_cut_52 : decode cX8_cut 52 = .ok (.getfield 160, 3) := by decide +kernel
theorem dX8_cut_55 : decode cX8_cut 55 = .ok (.iadd, 1) := by decide +kernel
theorem dX8_cut_56 : decode cX8_cut 56 = .ok (.ireturn, 1) := by decide +kernel
theorem dX8_touches_0 : decode cX8_touches 0 = .ok (.aload_n 0, 1) := by decide +kernel
theorem dX8_touches_1 : decode cX8_touches 1 = .ok (.iload_n 1, 1) := by decide +kernel
theorem dX8_touches_2 : decode cX8_touches 2 = .ok (.iload_n 2, 1) := by decide +kernel
theorem dX8_touches_3 : decode cX8_touches 3 = .ok (.invokevirtual 238, 3) := by decide +kernel
theorem dX8_touches_6 : decode cX8_touches 6 = .ok (.istore_n 3, 1) := by decide +kernel
theorem dX8_touches_7 : decode cX8_touches 7 = .ok (.iload_n 3, 1) := by decide +kernel
theorem dX8_touches_8 : decode cX8_touches 8 = .ok (.ifCond .ge 5, 3) := by decide +kernel
theorem dX8_touches_11 : decode cX8_touches 11 = .ok (.iload_n 3, 1) := by decide +kernel
theorem dX8_touches_12 : decode cX8_touches 12 = .ok (.ireturn, 1) := by decide +kernel
theorem dX8_touches_13 : decode cX8_touches 13 = .ok (.aload_n 0, 1) := by decide +kernel
theorem dX8_touches_14 : decode cX8_touches 14 = .ok (.iload_n 1, 1) := by decide +kernel
theorem dX8_touches_15 : decode cX8_touches 15 = .ok (.invokevirtual 249, 3) := by decide +kernel
theorem dX8_touches_18 : decode cX8_touches 18 = .ok (.aload_n 0, 1) := by decide +kernel
theorem dX8_touches_19 : decode cX8_touches 19 = .ok (.getfield 160, 3) := by decide +kernel
theorem dX8_touches_22 : decode cX8_touches 22 = .ok (.aload_n 0, 1) := by decide +kernel
theorem dX8_touches_23 : decode cX8_touches 23 = .ok (.getfield 163, 3) := by decide +kernel
theorem dX8_touches_26 : decode cX8_touches 26 = .ok (.iadd, 1) := by decide +kernel
theorem dX8_touches_27 : decode cX8_touches 27 = .ok (.iconst 3, 1) := by decide +kernel
theorem dX8_touches_28 : decode cX8_touches 28 = .ok (.if_icmp .ge 7, 3) := by decide +kernel
theorem dX8_touches_31 : decode cX8_touches 31 = .ok (.iconst 1, 1) := by decide +kernel
theorem dX8_touches_32 : decode cX8_touches 32 = .ok (.goto 4, 3) := by decide +kernel
theorem dX8_touches_35 : decode cX8_touches 35 = .ok (.iconst 0, 1) := by decide +kernel
theorem dX8_touches_36 : decode cX8_touches 36 = .ok (.ireturn, 1) := by decide +kernel
theorem dX8_lines_0 : decode cX8_lines 0 = .ok (.aload_n 0, 1) := by decide +kernel
theorem dX8_lines_1 : decode cX8_lines 1 = .ok (.iload_n 1, 1) := by decide +kernel
theorem dX8_lines_2 : decode cX8_lines 2 = .ok (.iload_n 2, 1) := by decide +kernel
theorem dX8_lines_3 : decode cX8_lines 3 = .ok (.invokevirtual 238, 3) := by decide +kernel
theorem dX8_lines_6 : decode cX8_lines 6 = .ok (.istore_n 3, 1) := by decide +kernel
theorem dX8_lines_7 : decode cX8_lines 7 = .ok (.iload_n 3, 1) := by decide +kernel
theorem dX8_lines_8 : decode cX8_lines 8 = .ok (.ifCond .ge 5, 3) := by decide +kernel
theorem dX8_lines_11 : decode cX8_lines 11 = .ok (.iload_n 3, 1) := by decide +kernel
theorem dX8_lines_12 : decode cX8_lines 12 = .ok (.ireturn, 1) := by decide +kernel
theorem dX8_lines_13 : decode cX8_lines 13 = .ok (.aload_n 0, 1) := by decide +kernel
theorem dX8_lines_14 : decode cX8_lines 14 = .ok (.iload_n 1, 1) := by decide +kernel
theorem dX8_lines_15 : decode cX8_lines 15 = .ok (.aload_n 0, 1) := by decide +kernel
theorem dX8_lines_16 : decode cX8_lines 16 = .ok (.getfield 46, 3) := by decide +kernel
theorem dX8_lines_19 : decode cX8_lines 19 = .ok (.aload_n 0, 1) := by decide +kernel
theorem dX8_lines_20 : decode cX8_lines 20 = .ok (.getfield 46, 3) := by decide +kernel
theorem dX8_lines_23 : decode cX8_lines 23 = .ok (.invokevirtual 241, 3) := by decide +kernel
theorem dX8_lines_26 : decode cX8_lines 26 = .ok (.ifCond .eq 5, 3) := by decide +kernel
theorem dX8_lines_29 : decode cX8_lines 29 = .ok (.iconst 0, 1) := by decide +kernel
theorem dX8_lines_30 : decode cX8_lines 30 = .ok (.ireturn, 1) := by decide +kernel
theorem dX8_lines_31 : decode cX8_lines 31 = .ok (.iconst 1, 1) := by decide +kernel
theorem dX8_lines_32 : decode cX8_lines 32 = .ok (.istore 4, 2) := by decide +kernel
theorem dX8_lines_34 : decode cX8_lines 34 = .ok (.iconst 0, 1) := by decide +kernel
theorem dX8_lines_35 : decode cX8_lines 35 = .ok (.istore 5, 2) := by decide +kernel
theorem dX8_lines_37 : decode cX8_lines 37 = .ok (.iload 5, 2) := by decide +kernel
theorem dX8_lines_39 : decode cX8_lines 39 = .ok (.iconst 4, 1) := by decide +kernel
theorem dX8_lines_40 : decode cX8_lines 40 = .ok (.if_icmp .ge 35, 3) := by decide +kernel
theorem dX8_lines_43 : decode cX8_lines 43 = .ok (.iload 4, 2) := by decide +kernel
theorem dX8_lines_45 : decode cX8_lines 45 = .ok (.ifCond .eq 21, 3) := by decide +kernel
theorem dX8_lines_48 : decode cX8_lines 48 = .ok (.aload_n 0, 1) := by decide +kernel
theorem dX8_lines_49 : decode cX8_lines 49 = .ok (.iload_n 1, 1) := by decide +kernel
theorem dX8_lines_50 : decode cX8_lines 50 = .ok (.iload 5, 2) := by decide +kernel
theorem dX8_lines_52 : decode cX8_lines 52 = .ok (.aload_n 0, 1) := by decide +kernel
theorem dX8_lines_53 : decode cX8_lines 53 = .ok (.getfield 46, 3) := by decide +kernel
theorem dX8_lines_56 : decode cX8_lines 56 = .ok (.invokevirtual 234, 3) := by decide +kernel
theorem dX8_lines_59 : decode cX8_lines 59 = .ok (.ifCond .ne 7, 3) := by decide +kernel
theorem dX8_lines_62 : decode cX8_lines 62 = .ok (.iconst 1, 1) := by decide +kernel
theorem dX8_lines_63 : decode cX8_lines 63 = .ok (.goto 4, 3) := by decide +kernel
theorem dX8_lines_66 : decode cX8_lines 66 = .ok (.iconst 0, 1) := by decide +kernel
theorem dX8_lines_67 : decode cX8_lines 67 = .ok (.istore 4, 2) := by decide +kernel
theorem dX8_lines_69 : decode cX8_lines 69 = .ok (.iinc 5 1, 3) := by decide +kernel
theorem dX8_lines_72 : decode cX8_lines 72 = .ok (.goto (-35), 3) := by decide +kernel
theorem dX8_lines_75 : decode cX8_lines 75 = .ok (.bipush 10, 2) := by decide +kernel
theorem dX8_lines_77 : decode cX8_lines 77 = .ok (.iload_n 1, 1) := by decide +kernel
theorem dX8_lines_78 : decode cX8_lines 78 = .ok (.imul, 1) := by decide +kernel
theorem dX8_lines_79 : decode cX8_lines 79 = .ok (.istore 5, 2) := by decide +kernel
theorem dX8_lines_81 : decode cX8_lines 81 = .ok (.aload_n 0, 1) := by decide +kernel
theorem dX8_lines_82 : decode cX8_lines 82 = .ok (.getfield 40, 3) := by decide +kernel
theorem dX8_lines_85 : decode cX8_lines 85 = .ok (.iload 5, 2) := by decide +kernel
theorem dX8_lines_87 : decode cX8_lines 87 = .ok (.iaload, 1) := by decide +kernel
theorem dX8_lines_88 : decode cX8_lines 88 = .ok (.tableswitch 86 1 4 #[34, 58, 86, 32], 32) := by decide +kernel
theorem dX8_lines_120 : decode cX8_lines 120 = .ok (.iconst 2, 1) := by decide +kernel
theorem dX8_lines_121 : decode cX8_lines 121 = .ok (.ireturn, 1) := by decide +kernel
theorem dX8_lines_122 : decode cX8_lines 122 = .ok (.aload_n 0, 1) := by decide +kernel
theorem dX8_lines_123 : decode cX8_lines 123 = .ok (.iload_n 1, 1) := by decide +kernel
theorem dX8_lines_124 : decode cX8_lines 124 = .ok (.invokevirtual 217, 3) := by decide +kernel
theorem dX8_lines_127 : decode cX8_lines 127 = .ok (.ifCond .ne 7, 3) := by decide +kernel
theorem dX8_lines_130 : decode cX8_lines 130 = .ok (.iconst 0, 1) := by decide +kernel
theorem dX8_lines_131 : decode cX8_lines 131 = .ok (.goto 14, 3) := by decide +kernel
theorem dX8_lines_134 : decode cX8_lines 134 = .ok (.iload 4, 2) := by decide +kernel
theorem dX8_lines_136 : decode cX8_lines 136 = .ok (.ifCond .eq 8, 3) := by decide +kernel
theorem dX8_lines_139 : decode cX8_lines 139 = .ok (.bipush 9, 2) := by decide +kernel
theorem dX8_lines_141 : decode cX8_lines 141 = .ok (.goto 4, 3) := by decide +kernel
theorem dX8_lines_144 : decode cX8_lines 144 = .ok (.iconst 1, 1) := by decide +kernel
theorem dX8_lines_145 : decode cX8_lines 145 = .ok (.ireturn, 1) := by decide +kernel
theorem dX8_lines_146 : decode cX8_lines 146 = .ok (.aload_n 0, 1) := by decide +kernel
theorem dX8_lines_147 : decode cX8_lines 147 = .ok (.getfield 40, 3) := by decide +kernel
theorem dX8_lines_150 : decode cX8_lines 150 = .ok (.iload 5, 2) := by decide +kernel
theorem dX8_lines_152 : decode cX8_lines 152 = .ok (.iconst 3, 1) := by decide +kernel
theorem dX8_lines_153 : decode cX8_lines 153 = .ok (.iadd, 1) := by decide +kernel
theorem dX8_lines_154 : decode cX8_lines 154 = .ok (.iaload, 1) := by decide +kernel
theorem dX8_lines_155 : decode cX8_lines 155 = .ok (.iconst 2, 1) := by decide +kernel
theorem dX8_lines_156 : decode cX8_lines 156 = .ok (.if_icmp .ne 15, 3) := by decide +kernel
theorem dX8_lines_159 : decode cX8_lines 159 = .ok (.aload_n 0, 1) := by decide +kernel
theorem dX8_lines_160 : decode cX8_lines 160 = .ok (.iload_n 1, 1) := by decide +kernel
theorem dX8_lines_161 : decode cX8_lines 161 = .ok (.invokevirtual 217, 3) := by decide +kernel
theorem dX8_lines_164 : decode cX8_lines 164 = .ok (.ifCond .ne 7, 3) := by decide +kernel
theorem dX8_lines_167 : decode cX8_lines 167 = .ok (.iconst 1, 1) := by decide +kernel
theorem dX8_lines_168 : decode cX8_lines 168 = .ok (.goto 5, 3) := by decide +kernel
theorem dX8_lines_171 : decode cX8_lines 171 = .ok (.bipush 9, 2) := by decide +kernel
theorem dX8_lines_173 : decode cX8_lines 173 = .ok (.ireturn, 1) := by decide +kernel
theorem dX8_lines_174 : decode cX8_lines 174 = .ok (.iconst 0, 1) := by decide +kernel
theorem dX8_lines_175 : decode cX8_lines 175 = .ok (.ireturn, 1) := by decide +kernel
theorem dX8_middle_0 : decode cX8_middle 0 = .ok (.iload_n 2, 1) := by decide +kernel
theorem dX8_middle_1 : decode cX8_middle 1 = .ok (.iconst 0, 1) := by decide +kernel
theorem dX8_middle_2 : decode cX8_middle 2 = .ok (.iconst 2, 1) := by decide +kernel
theorem dX8_middle_3 : decode cX8_middle 3 = .ok (.invokestatic 133, 3) := by decide +kernel
theorem dX8_middle_6 : decode cX8_middle 6 = .ok (.ifCond .ne 5, 3) := by decide +kernel
theorem dX8_middle_9 : decode cX8_middle 9 = .ok (.iconst (-1), 1) := by decide +kernel
theorem dX8_middle_10 : decode cX8_middle 10 = .ok (.ireturn, 1) := by decide +kernel
theorem dX8_middle_11 : decode cX8_middle 11 = .ok (.aload_n 0, 1) := by decide +kernel
theorem dX8_middle_12 : decode cX8_middle 12 = .ok (.iload_n 1, 1) := by decide +kernel
theorem dX8_middle_13 : decode cX8_middle 13 = .ok (.invokevirtual 210, 3) := by decide +kernel
theorem dX8_middle_16 : decode cX8_middle 16 = .ok (.istore_n 3, 1) := by decide +kernel
theorem dX8_middle_17 : decode cX8_middle 17 = .ok (.iload_n 3, 1) := by decide +kernel
theorem dX8_middle_18 : decode cX8_middle 18 = .ok (.ifCond .ge 5, 3) := by decide +kernel
theorem dX8_middle_21 : decode cX8_middle 21 = .ok (.iload_n 3, 1) := by decide +kernel
theorem dX8_middle_22 : decode cX8_middle 22 = .ok (.ireturn, 1) := by decide +kernel
theorem dX8_middle_23 : decode cX8_middle 23 = .ok (.aload_n 0, 1) := by decide +kernel
theorem dX8_middle_24 : decode cX8_middle 24 = .ok (.getfield 40, 3) := by decide +kernel
theorem dX8_middle_27 : decode cX8_middle 27 = .ok (.bipush 10, 2) := by decide +kernel
theorem dX8_middle_29 : decode cX8_middle 29 = .ok (.iload_n 1, 1) := by decide +kernel
theorem dX8_middle_30 : decode cX8_middle 30 = .ok (.imul, 1) := by decide +kernel
theorem dX8_middle_31 : decode cX8_middle 31 = .ok (.bipush 8, 2) := by decide +kernel
theorem dX8_middle_33 : decode cX8_middle 33 = .ok (.iadd, 1) := by decide +kernel
theorem dX8_middle_34 : decode cX8_middle 34 = .ok (.iaload, 1) := by decide +kernel
theorem dX8_middle_35 : decode cX8_middle 35 = .ok (.i2l, 1) := by decide +kernel
theorem dX8_middle_36 : decode cX8_middle 36 = .ok (.lstore 4, 2) := by decide +kernel
theorem dX8_middle_38 : decode cX8_middle 38 = .ok (.lload 4, 2) := by decide +kernel
theorem dX8_middle_40 : decode cX8_middle 40 = .ok (.lconst 0, 1) := by decide +kernel
theorem dX8_middle_41 : decode cX8_middle 41 = .ok (.lcmp, 1) := by decide +kernel
theorem dX8_middle_42 : decode cX8_middle 42 = .ok (.ifCond .ne 9, 3) := by decide +kernel
theorem dX8_middle_45 : decode cX8_middle 45 = .ok (.aload_n 0, 1) := by decide +kernel
theorem dX8_middle_46 : decode cX8_middle 46 = .ok (.iconst 4, 1) := by decide +kernel
theorem dX8_middle_47 : decode cX8_middle 47 = .ok (.invokevirtual 141, 3) := by decide +kernel
theorem dX8_middle_50 : decode cX8_middle 50 = .ok (.ireturn, 1) := by decide +kernel
theorem dX8_middle_51 : decode cX8_middle 51 = .ok (.aload_n 0, 1) := by decide +kernel
theorem dX8_middle_52 : decode cX8_middle 52 = .ok (.iload_n 1, 1) := by decide +kernel
theorem dX8_middle_53 : decode cX8_middle 53 = .ok (.invokevirtual 184, 3) := by decide +kernel
theorem dX8_middle_56 : decode cX8_middle 56 = .ok (.iconst 0, 1) := by decide +kernel
theorem dX8_middle_57 : decode cX8_middle 57 = .ok (.istore 6, 2) := by decide +kernel
theorem dX8_middle_59 : decode cX8_middle 59 = .ok (.iload 6, 2) := by decide +kernel
theorem dX8_middle_61 : decode cX8_middle 61 = .ok (.iconst 3, 1) := by decide +kernel
theorem dX8_middle_62 : decode cX8_middle 62 = .ok (.if_icmp .ge 81, 3) := by decide +kernel
theorem dX8_middle_65 : decode cX8_middle 65 = .ok (.iconst 0, 1) := by decide +kernel
theorem dX8_middle_66 : decode cX8_middle 66 = .ok (.istore 7, 2) := by decide +kernel
theorem dX8_middle_68 : decode cX8_middle 68 = .ok (.iload 7, 2) := by decide +kernel
theorem dX8_middle_70 : decode cX8_middle 70 = .ok (.iconst 3, 1) := by decide +kernel
theorem dX8_middle_71 : decode cX8_middle 71 = .ok (.if_icmp .ge 66, 3) := by decide +kernel
theorem dX8_middle_74 : decode cX8_middle 74 = .ok (.aload_n 0, 1) := by decide +kernel
theorem dX8_middle_75 : decode cX8_middle 75 = .ok (.getfield 26, 3) := by decide +kernel
theorem dX8_middle_78 : decode cX8_middle 78 = .ok (.iconst 4, 1) := by decide +kernel
theorem dX8_middle_79 : decode cX8_middle 79 = .ok (.iload 6, 2) := by decide +kernel
theorem dX8_middle_81 : decode cX8_middle 81 = .ok (.imul, 1) := by decide +kernel
theorem dX8_middle_82 : decode cX8_middle 82 = .ok (.iload 7, 2) := by decide +kernel
theorem dX8_middle_84 : decode cX8_middle 84 = .ok (.iadd, 1) := by decide +kernel
theorem dX8_middle_85 : decode cX8_middle 85 = .ok (.iload 7, 2) := by decide +kernel
theorem dX8_middle_87 : decode cX8_middle 87 = .ok (.iload_n 2, 1) := by decide +kernel
theorem dX8_middle_88 : decode cX8_middle 88 = .ok (.if_icmp .ne 24, 3) := by decide +kernel
theorem dX8_middle_91 : decode cX8_middle 91 = .ok (.aload_n 0, 1) := by decide +kernel
theorem dX8_middle_92 : decode cX8_middle 92 = .ok (.getfield 37, 3) := by decide +kernel
theorem dX8_middle_95 : decode cX8_middle 95 = .ok (.bipush 16, 2) := by decide +kernel
theorem dX8_middle_97 : decode cX8_middle 97 = .ok (.iload_n 1, 1) := by decide +kernel
theorem dX8_middle_98 : decode cX8_middle 98 = .ok (.imul, 1) := by decide +kernel
theorem dX8_middle_99 : decode cX8_middle 99 = .ok (.iconst 4, 1) := by decide +kernel
theorem dX8_middle_100 : decode cX8_middle 100 = .ok (.iload 6, 2) := by decide +kernel
theorem dX8_middle_102 : decode cX8_middle 102 = .ok (.imul, 1) := by decide +kernel
theorem dX8_middle_103 : decode cX8_middle 103 = .ok (.iadd, 1) := by decide +kernel
theorem dX8_middle_104 : decode cX8_middle 104 = .ok (.iconst 3, 1) := by decide +kernel
theorem dX8_middle_105 : decode cX8_middle 105 = .ok (.iadd, 1) := by decide +kernel
theorem dX8_middle_106 : decode cX8_middle 106 = .ok (.iaload, 1) := by decide +kernel
theorem dX8_middle_107 : decode cX8_middle 107 = .ok (.ineg, 1) := by decide +kernel
theorem dX8_middle_108 : decode cX8_middle 108 = .ok (.i2l, 1) := by decide +kernel
theorem dX8_middle_109 : decode cX8_middle 109 = .ok (.goto 21, 3) := by decide +kernel
theorem dX8_middle_112 : decode cX8_middle 112 = .ok (.aload_n 0, 1) := by decide +kernel
theorem dX8_middle_113 : decode cX8_middle 113 = .ok (.getfield 37, 3) := by decide +kernel
theorem dX8_middle_116 : decode cX8_middle 116 = .ok (.bipush 16, 2) := by decide +kernel
theorem dX8_middle_118 : decode cX8_middle 118 = .ok (.iload_n 1, 1) := by decide +kernel
theorem dX8_middle_119 : decode cX8_middle 119 = .ok (.imul, 1) := by decide +kernel
theorem dX8_middle_120 : decode cX8_middle 120 = .ok (.iconst 4, 1) := by decide +kernel
theorem dX8_middle_121 : decode cX8_middle 121 = .ok (.iload 6, 2) := by decide +kernel
theorem dX8_middle_123 : decode cX8_middle 123 = .ok (.imul, 1) := by decide +kernel
theorem dX8_middle_124 : decode cX8_middle 124 = .ok (.iadd, 1) := by decide +kernel
theorem dX8_middle_125 : decode cX8_middle 125 = .ok (.iload 7, 2) := by decide +kernel
theorem dX8_middle_127 : decode cX8_middle 127 = .ok (.iadd, 1) := by decide +kernel
theorem dX8_middle_128 : decode cX8_middle 128 = .ok (.iaload, 1) := by decide +kernel
theorem dX8_middle_129 : decode cX8_middle 129 = .ok (.i2l, 1) := by decide +kernel
theorem dX8_middle_130 : decode cX8_middle 130 = .ok (.lastore, 1) := by decide +kernel
theorem dX8_middle_131 : decode cX8_middle 131 = .ok (.iinc 7 1, 3) := by decide +kernel
theorem dX8_middle_134 : decode cX8_middle 134 = .ok (.goto (-66), 3) := by decide +kernel
theorem dX8_middle_137 : decode cX8_middle 137 = .ok (.iinc 6 1, 3) := by decide +kernel
theorem dX8_middle_140 : decode cX8_middle 140 = .ok (.goto (-81), 3) := by decide +kernel
theorem dX8_middle_143 : decode cX8_middle 143 = .ok (.aload_n 0, 1) := by decide +kernel
theorem dX8_middle_144 : decode cX8_middle 144 = .ok (.getfield 26, 3) := by decide +kernel
theorem dX8_middle_147 : decode cX8_middle 147 = .ok (.iconst 0, 1) := by decide +kernel
theorem dX8_middle_148 : decode cX8_middle 148 = .ok (.laload, 1) := by decide +kernel
theorem dX8_middle_149 : decode cX8_middle 149 = .ok (.aload_n 0, 1) := by decide +kernel
theorem dX8_middle_150 : decode cX8_middle 150 = .ok (.getfield 26, 3) := by decide +kernel
theorem dX8_middle_153 : decode cX8_middle 153 = .ok (.iconst 5, 1) := by decide +kernel
theorem dX8_middle_154 : decode cX8_middle 154 = .ok (.laload, 1) := by decide +kernel
theorem dX8_middle_155 : decode cX8_middle 155 = .ok (.aload_n 0, 1) := by decide +kernel
theorem dX8_middle_156 : decode cX8_middle 156 = .ok (.getfield 26, 3) := by decide +kernel
theorem dX8_middle_159 : decode cX8_middle 159 = .ok (.bipush 10, 2) := by decide +kernel
theorem dX8_middle_161 : decode cX8_middle 161 = .ok (.laload, 1) := by decide +kernel
theorem dX8_middle_162 : decode cX8_middle 162 = .ok (.lmul, 1) := by decide +kernel
theorem dX8_middle_163 : decode cX8_middle 163 = .ok (.aload_n 0, 1) := by decide +kernel
theorem dX8_middle_164 : decode cX8_middle 164 = .ok (.getfield 26, 3) := by decide +kernel
theorem dX8_middle_167 : decode cX8_middle 167 = .ok (.bipush 6, 2) := by decide +kernel
theorem dX8_middle_169 : decode cX8_middle 169 = .ok (.laload, 1) := by decide +kernel
theorem dX8_middle_170 : decode cX8_middle 170 = .ok (.aload_n 0, 1) := by decide +kernel
theorem dX8_middle_171 : decode cX8_middle 171 = .ok (.getfield 26, 3) := by decide +kernel
theorem dX8_middle_174 : decode cX8_middle 174 = .ok (.bipush 9, 2) := by decide +kernel
theorem dX8_middle_176 : decode cX8_middle 176 = .ok (.laload, 1) := by decide +kernel
theorem dX8_middle_177 : decode cX8_middle 177 = .ok (.lmul, 1) := by decide +kernel
theorem dX8_middle_178 : decode cX8_middle 178 = .ok (.lsub, 1) := by decide +kernel
theorem dX8_middle_179 : decode cX8_middle 179 = .ok (.lmul, 1) := by decide +kernel
theorem dX8_middle_180 : decode cX8_middle 180 = .ok (.aload_n 0, 1) := by decide +kernel
theorem dX8_middle_181 : decode cX8_middle 181 = .ok (.getfield 26, 3) := by decide +kernel
theorem dX8_middle_184 : decode cX8_middle 184 = .ok (.iconst 1, 1) := by decide +kernel
theorem dX8_middle_185 : decode cX8_middle 185 = .ok (.laload, 1) := by decide +kernel
theorem dX8_middle_186 : decode cX8_middle 186 = .ok (.aload_n 0, 1) := by decide +kernel
theorem dX8_middle_187 : decode cX8_middle 187 = .ok (.getfield 26, 3) := by decide +kernel
theorem dX8_middle_190 : decode cX8_middle 190 = .ok (.iconst 4, 1) := by decide +kernel
theorem dX8_middle_191 : decode cX8_middle 191 = .ok (.laload, 1) := by decide +kernel
theorem dX8_middle_192 : decode cX8_middle 192 = .ok (.aload_n 0, 1) := by decide +kernel
theorem dX8_middle_193 : decode cX8_middle 193 = .ok (.getfield 26, 3) := by decide +kernel
theorem dX8_middle_196 : decode cX8_middle 196 = .ok (.bipush 10, 2) := by decide +kernel
theorem dX8_middle_198 : decode cX8_middle 198 = .ok (.laload, 1) := by decide +kernel
theorem dX8_middle_199 : decode cX8_middle 199 = .ok (.lmul, 1) := by decide +kernel
theorem dX8_middle_200 : decode cX8_middle 200 = .ok (.aload_n 0, 1) := by decide +kernel
theorem dX8_middle_201 : decode cX8_middle 201 = .ok (.getfield 26, 3) := by decide +kernel
theorem dX8_middle_204 : decode cX8_middle 204 = .ok (.bipush 6, 2) := by decide +kernel
theorem dX8_middle_206 : decode cX8_middle 206 = .ok (.laload, 1) := by decide +kernel
theorem dX8_middle_207 : decode cX8_middle 207 = .ok (.aload_n 0, 1) := by decide +kernel
theorem dX8_middle_208 : decode cX8_middle 208 = .ok (.getfield 26, 3) := by decide +kernel
theorem dX8_middle_211 : decode cX8_middle 211 = .ok (.bipush 8, 2) := by decide +kernel
theorem dX8_middle_213 : decode cX8_middle 213 = .ok (.laload, 1) := by decide +kernel
theorem dX8_middle_214 : decode cX8_middle 214 = .ok (.lmul, 1) := by decide +kernel
theorem dX8_middle_215 : decode cX8_middle 215 = .ok (.lsub, 1) := by decide +kernel
theorem dX8_middle_216 : decode cX8_middle 216 = .ok (.lmul, 1) := by decide +kernel
theorem dX8_middle_217 : decode cX8_middle 217 = .ok (.lsub, 1) := by decide +kernel
theorem dX8_middle_218 : decode cX8_middle 218 = .ok (.aload_n 0, 1) := by decide +kernel
theorem dX8_middle_219 : decode cX8_middle 219 = .ok (.getfield 26, 3) := by decide +kernel
theorem dX8_middle_222 : decode cX8_middle 222 = .ok (.iconst 2, 1) := by decide +kernel
theorem dX8_middle_223 : decode cX8_middle 223 = .ok (.laload, 1) := by decide +kernel
theorem dX8_middle_224 : decode cX8_middle 224 = .ok (.aload_n 0, 1) := by decide +kernel
theorem dX8_middle_225 : decode cX8_middle 225 = .ok (.getfield 26, 3) := by decide +kernel
theorem dX8_middle_228 : decode cX8_middle 228 = .ok (.iconst 4, 1) := by decide +kernel
theorem dX8_middle_229 : decode cX8_middle 229 = .ok (.laload, 1) := by decide +kernel
theorem dX8_middle_230 : decode cX8_middle 230 = .ok (.aload_n 0, 1) := by decide +kernel
theorem dX8_middle_231 : decode cX8_middle 231 = .ok (.getfield 26, 3) := by decide +kernel
theorem dX8_middle_234 : decode cX8_middle 234 = .ok (.bipush 9, 2) := by decide +kernel
theorem dX8_middle_236 : decode cX8_middle 236 = .ok (.laload, 1) := by decide +kernel
theorem dX8_middle_237 : decode cX8_middle 237 = .ok (.lmul, 1) := by decide +kernel
theorem dX8_middle_238 : decode cX8_middle 238 = .ok (.aload_n 0, 1) := by decide +kernel
theorem dX8_middle_239 : decode cX8_middle 239 = .ok (.getfield 26, 3) := by decide +kernel
theorem dX8_middle_242 : decode cX8_middle 242 = .ok (.iconst 5, 1) := by decide +kernel
theorem dX8_middle_243 : decode cX8_middle 243 = .ok (.laload, 1) := by decide +kernel
theorem dX8_middle_244 : decode cX8_middle 244 = .ok (.aload_n 0, 1) := by decide +kernel
theorem dX8_middle_245 : decode cX8_middle 245 = .ok (.getfield 26, 3) := by decide +kernel
theorem dX8_middle_248 : decode cX8_middle 248 = .ok (.bipush 8, 2) := by decide +kernel
theorem dX8_middle_250 : decode cX8_middle 250 = .ok (.laload, 1) := by decide +kernel
theorem dX8_middle_251 : decode cX8_middle 251 = .ok (.lmul, 1) := by decide +kernel
theorem dX8_middle_252 : decode cX8_middle 252 = .ok (.lsub, 1) := by decide +kernel
theorem dX8_middle_253 : decode cX8_middle 253 = .ok (.lmul, 1) := by decide +kernel
theorem dX8_middle_254 : decode cX8_middle 254 = .ok (.ladd, 1) := by decide +kernel
theorem dX8_middle_255 : decode cX8_middle 255 = .ok (.lstore 6, 2) := by decide +kernel
theorem dX8_middle_257 : decode cX8_middle 257 = .ok (.aload_n 0, 1) := by decide +kernel
theorem dX8_middle_258 : decode cX8_middle 258 = .ok (.lload 6, 2) := by decide +kernel
theorem dX8_middle_260 : decode cX8_middle 260 = .ok (.lload 4, 2) := by decide +kernel
theorem dX8_middle_262 : decode cX8_middle 262 = .ok (.iconst 1, 1) := by decide +kernel
theorem dX8_middle_263 : decode cX8_middle 263 = .ok (.invokevirtual 252, 3) := by decide +kernel
theorem dX8_middle_266 : decode cX8_middle 266 = .ok (.ireturn, 1) := by decide +kernel
theorem dX8_layPair_0 : decode cX8_layPair 0 = .ok (.iconst 0, 1) := by decide +kernel
theorem dX8_layPair_1 : decode cX8_layPair 1 = .ok (.istore_n 3, 1) := by decide +kernel
theorem dX8_layPair_2 : decode cX8_layPair 2 = .ok (.iload_n 3, 1) := by decide +kernel
theorem dX8_layPair_3 : decode cX8_layPair 3 = .ok (.bipush 16, 2) := by decide +kernel
theorem dX8_layPair_5 : decode cX8_layPair 5 = .ok (.if_icmp .ge 43, 3) := by decide +kernel
theorem dX8_layPair_8 : decode cX8_layPair 8 = .ok (.aload_n 0, 1) := by decide +kernel
theorem dX8_layPair_9 : decode cX8_layPair 9 = .ok (.getfield 67, 3) := by decide +kernel
theorem dX8_layPair_12 : decode cX8_layPair 12 = .ok (.iload_n 3, 1) := by decide +kernel
theorem dX8_layPair_13 : decode cX8_layPair 13 = .ok (.aload_n 0, 1) := by decide +kernel
theorem dX8_layPair_14 : decode cX8_layPair 14 = .ok (.getfield 37, 3) := by decide +kernel
theorem dX8_layPair_17 : decode cX8_layPair 17 = .ok (.bipush 16, 2) := by decide +kernel
theorem dX8_layPair_19 : decode cX8_layPair 19 = .ok (.iload_n 1, 1) := by decide +kernel
theorem dX8_layPair_20 : decode cX8_layPair 20 = .ok (.imul, 1) := by decide +kernel
theorem dX8_layPair_21 : decode cX8_layPair 21 = .ok (.iload_n 3, 1) := by decide +kernel
theorem dX8_layPair_22 : decode cX8_layPair 22 = .ok (.iadd, 1) := by decide +kernel
theorem dX8_layPair_23 : decode cX8_layPair 23 = .ok (.iaload, 1) := by decide +kernel
theorem dX8_layPair_24 : decode cX8_layPair 24 = .ok (.iastore, 1) := by decide +kernel
theorem dX8_layPair_25 : decode cX8_layPair 25 = .ok (.aload_n 0, 1) := by decide +kernel
theorem dX8_layPair_26 : decode cX8_layPair 26 = .ok (.getfield 70, 3) := by decide +kernel
theorem dX8_layPair_29 : decode cX8_layPair 29 = .ok (.iload_n 3, 1) := by decide +kernel
theorem dX8_layPair_30 : decode cX8_layPair 30 = .ok (.aload_n 0, 1) := by decide +kernel
theorem dX8_layPair_31 : decode cX8_layPair 31 = .ok (.getfield 37, 3) := by decide +kernel
theorem dX8_layPair_34 : decode cX8_layPair 34 = .ok (.bipush 16, 2) := by decide +kernel
theorem dX8_layPair_36 : decode cX8_layPair 36 = .ok (.iload_n 2, 1) := by decide +kernel
theorem dX8_layPair_37 : decode cX8_layPair 37 = .ok (.imul, 1) := by decide +kernel
theorem dX8_layPair_38 : decode cX8_layPair 38 = .ok (.iload_n 3, 1) := by decide +kernel
theorem dX8_layPair_39 : decode cX8_layPair 39 = .ok (.iadd, 1) := by decide +kernel
theorem dX8_layPair_40 : decode cX8_layPair 40 = .ok (.iaload, 1) := by decide +kernel
theorem dX8_layPair_41 : decode cX8_layPair 41 = .ok (.iastore, 1) := by decide +kernel
theorem dX8_layPair_42 : decode cX8_layPair 42 = .ok (.iinc 3 1, 3) := by decide +kernel
theorem dX8_layPair_45 : decode cX8_layPair 45 = .ok (.goto (-43), 3) := by decide +kernel
theorem dX8_layPair_48 : decode cX8_layPair 48 = .ok (.return_, 1) := by decide +kernel
theorem dX8_layForm_0 : decode cX8_layForm 0 = .ok (.iconst 0, 1) := by decide +kernel
theorem dX8_layForm_1 : decode cX8_layForm 1 = .ok (.istore_n 1, 1) := by decide +kernel
theorem dX8_layForm_2 : decode cX8_layForm 2 = .ok (.iload_n 1, 1) := by decide +kernel
theorem dX8_layForm_3 : decode cX8_layForm 3 = .ok (.iconst 5, 1) := by decide +kernel
theorem dX8_layForm_4 : decode cX8_layForm 4 = .ok (.if_icmp .ge 16, 3) := by decide +kernel
theorem dX8_layForm_7 : decode cX8_layForm 7 = .ok (.aload_n 0, 1) := by decide +kernel
theorem dX8_layForm_8 : decode cX8_layForm 8 = .ok (.getfield 64, 3) := by decide +kernel
theorem dX8_layForm_11 : decode cX8_layForm 11 = .ok (.iload_n 1, 1) := by decide +kernel
theorem dX8_layForm_12 : decode cX8_layForm 12 = .ok (.lconst 0, 1) := by decide +kernel
theorem dX8_layForm_13 : decode cX8_layForm 13 = .ok (.lastore, 1) := by decide +kernel
theorem dX8_layForm_14 : decode cX8_layForm 14 = .ok (.iinc 1 1, 3) := by decide +kernel
theorem dX8_layForm_17 : decode cX8_layForm 17 = .ok (.goto (-15), 3) := by decide +kernel
theorem dX8_layForm_20 : decode cX8_layForm 20 = .ok (.iconst 0, 1) := by decide +kernel
theorem dX8_layForm_21 : decode cX8_layForm 21 = .ok (.istore_n 1, 1) := by decide +kernel
theorem dX8_layForm_22 : decode cX8_layForm 22 = .ok (.iload_n 1, 1) := by decide +kernel
theorem dX8_layForm_23 : decode cX8_layForm 23 = .ok (.bipush 16, 2) := by decide +kernel
theorem dX8_layForm_25 : decode cX8_layForm 25 = .ok (.if_icmp .ge 129, 3) := by decide +kernel
theorem dX8_layForm_28 : decode cX8_layForm 28 = .ok (.iconst 0, 1) := by decide +kernel
theorem dX8_layForm_29 : decode cX8_layForm 29 = .ok (.istore_n 2, 1) := by decide +kernel
theorem dX8_layForm_30 : decode cX8_layForm 30 = .ok (.iconst 0, 1) := by decide +kernel
theorem dX8_layForm_31 : decode cX8_layForm 31 = .ok (.istore_n 3, 1) := by decide +kernel
theorem dX8_layForm_32 : decode cX8_layForm 32 = .ok (.iload_n 3, 1) := by decide +kernel
theorem dX8_layForm_33 : decode cX8_layForm 33 = .ok (.iconst 4, 1) := by decide +kernel
theorem dX8_layForm_34 : decode cX8_layForm 34 = .ok (.if_icmp .ge 96, 3) := by decide +kernel
theorem dX8_layForm_37 : decode cX8_layForm 37 = .ok (.iload_n 1, 1) := by decide +kernel
theorem dX8_layForm_38 : decode cX8_layForm 38 = .ok (.iload_n 3, 1) := by decide +kernel
theorem dX8_layForm_39 : decode cX8_layForm 39 = .ok (.ishr, 1) := by decide +kernel
theorem dX8_layForm_40 : decode cX8_layForm 40 = .ok (.iconst 1, 1) := by decide +kernel
theorem dX8_layForm_41 : decode cX8_layForm 41 = .ok (.iand, 1) := by decide +kernel
theorem dX8_layForm_42 : decode cX8_layForm 42 = .ok (.iconst 1, 1) := by decide +kernel
theorem dX8_layForm_43 : decode cX8_layForm 43 = .ok (.if_icmp .ne 7, 3) := by decide +kernel
theorem dX8_layForm_46 : decode cX8_layForm 46 = .ok (.iconst 1, 1) := by decide +kernel
theorem dX8_layForm_47 : decode cX8_layForm 47 = .ok (.goto 4, 3) := by decide +kernel
theorem dX8_layForm_50 : decode cX8_layForm 50 = .ok (.iconst 0, 1) := by decide +kernel
theorem dX8_layForm_51 : decode cX8_layForm 51 = .ok (.istore 4, 2) := by decide +kernel
theorem dX8_layForm_53 : decode cX8_layForm 53 = .ok (.iload_n 2, 1) := by decide +kernel
theorem dX8_layForm_54 : decode cX8_layForm 54 = .ok (.iload 4, 2) := by decide +kernel
theorem dX8_layForm_56 : decode cX8_layForm 56 = .ok (.ifCond .eq 7, 3) := by decide +kernel
theorem dX8_layForm_59 : decode cX8_layForm 59 = .ok (.iconst 1, 1) := by decide +kernel
theorem dX8_layForm_60 : decode cX8_layForm 60 = .ok (.goto 4, 3) := by decide +kernel
theorem dX8_layForm_63 : decode cX8_layForm 63 = .ok (.iconst 0, 1) := by decide +kernel
theorem dX8_layForm_64 : decode cX8_layForm 64 = .ok (.iadd, 1) := by decide +kernel
theorem dX8_layForm_65 : decode cX8_layForm 65 = .ok (.istore_n 2, 1) := by decide +kernel
theorem dX8_layForm_66 : decode cX8_layForm 66 = .ok (.iconst 0, 1) := by decide +kernel
theorem dX8_layForm_67 : decode cX8_layForm 67 = .ok (.istore 5, 2) := by decide +kernel
theorem dX8_layForm_69 : decode cX8_layForm 69 = .ok (.iload 5, 2) := by decide +kernel
theorem dX8_layForm_71 : decode cX8_layForm 71 = .ok (.iconst 4, 1) := by decide +kernel
theorem dX8_layForm_72 : decode cX8_layForm 72 = .ok (.if_icmp .ge 52, 3) := by decide +kernel
theorem dX8_layForm_75 : decode cX8_layForm 75 = .ok (.aload_n 0, 1) := by decide +kernel
theorem dX8_layForm_76 : decode cX8_layForm 76 = .ok (.getfield 26, 3) := by decide +kernel
theorem dX8_layForm_79 : decode cX8_layForm 79 = .ok (.iconst 4, 1) := by decide +kernel
theorem dX8_layForm_80 : decode cX8_layForm 80 = .ok (.iload_n 3, 1) := by decide +kernel
theorem dX8_layForm_81 : decode cX8_layForm 81 = .ok (.imul, 1) := by decide +kernel
theorem dX8_layForm_82 : decode cX8_layForm 82 = .ok (.iload 5, 2) := by decide +kernel
theorem dX8_layForm_84 : decode cX8_layForm 84 = .ok (.iadd, 1) := by decide +kernel
theorem dX8_layForm_85 : decode cX8_layForm 85 = .ok (.iload 4, 2) := by decide +kernel
theorem dX8_layForm_87 : decode cX8_layForm 87 = .ok (.ifCond .eq 18, 3) := by decide +kernel
theorem dX8_layForm_90 : decode cX8_layForm 90 = .ok (.aload_n 0, 1) := by decide +kernel
theorem dX8_layForm_91 : decode cX8_layForm 91 = .ok (.getfield 67, 3) := by decide +kernel
theorem dX8_layForm_94 : decode cX8_layForm 94 = .ok (.iconst 4, 1) := by decide +kernel
theorem dX8_layForm_95 : decode cX8_layForm 95 = .ok (.iload_n 3, 1) := by decide +kernel
theorem dX8_layForm_96 : decode cX8_layForm 96 = .ok (.imul, 1) := by decide +kernel
theorem dX8_layForm_97 : decode cX8_layForm 97 = .ok (.iload 5, 2) := by decide +kernel
theorem dX8_layForm_99 : decode cX8_layForm 99 = .ok (.iadd, 1) := by decide +kernel
theorem dX8_layForm_100 : decode cX8_layForm 100 = .ok (.iaload, 1) := by decide +kernel
theorem dX8_layForm_101 : decode cX8_layForm 101 = .ok (.i2l, 1) := by decide +kernel
theorem dX8_layForm_102 : decode cX8_layForm 102 = .ok (.goto 15, 3) := by decide +kernel
theorem dX8_layForm_105 : decode cX8_layForm 105 = .ok (.aload_n 0, 1) := by decide +kernel
theorem dX8_layForm_106 : decode cX8_layForm 106 = .ok (.getfield 70, 3) := by decide +kernel
theorem dX8_layForm_109 : decode cX8_layForm 109 = .ok (.iconst 4, 1) := by decide +kernel
theorem dX8_layForm_110 : decode cX8_layForm 110 = .ok (.iload_n 3, 1) := by decide +kernel
theorem dX8_layForm_111 : decode cX8_layForm 111 = .ok (.imul, 1) := by decide +kernel
theorem dX8_layForm_112 : decode cX8_layForm 112 = .ok (.iload 5, 2) := by decide +kernel
theorem dX8_layForm_114 : decode cX8_layForm 114 = .ok (.iadd, 1) := by decide +kernel
theorem dX8_layForm_115 : decode cX8_layForm 115 = .ok (.iaload, 1) := by decide +kernel
theorem dX8_layForm_116 : decode cX8_layForm 116 = .ok (.i2l, 1) := by decide +kernel
theorem dX8_layForm_117 : decode cX8_layForm 117 = .ok (.lastore, 1) := by decide +kernel
theorem dX8_layForm_118 : decode cX8_layForm 118 = .ok (.iinc 5 1, 3) := by decide +kernel
theorem dX8_layForm_121 : decode cX8_layForm 121 = .ok (.goto (-52), 3) := by decide +kernel
theorem dX8_layForm_124 : decode cX8_layForm 124 = .ok (.iinc 3 1, 3) := by decide +kernel
theorem dX8_layForm_127 : decode cX8_layForm 127 = .ok (.goto (-95), 3) := by decide +kernel
theorem dX8_layForm_130 : decode cX8_layForm 130 = .ok (.aload_n 0, 1) := by decide +kernel
theorem dX8_layForm_131 : decode cX8_layForm 131 = .ok (.getfield 64, 3) := by decide +kernel
theorem dX8_layForm_134 : decode cX8_layForm 134 = .ok (.iconst 4, 1) := by decide +kernel
theorem dX8_layForm_135 : decode cX8_layForm 135 = .ok (.iload_n 2, 1) := by decide +kernel
theorem dX8_layForm_136 : decode cX8_layForm 136 = .ok (.isub, 1) := by decide +kernel
theorem dX8_layForm_137 : decode cX8_layForm 137 = .ok (.dup2, 1) := by decide +kernel
theorem dX8_layForm_138 : decode cX8_layForm 138 = .ok (.laload, 1) := by decide +kernel
theorem dX8_layForm_139 : decode cX8_layForm 139 = .ok (.aload_n 0, 1) := by decide +kernel
theorem dX8_layForm_140 : decode cX8_layForm 140 = .ok (.getfield 26, 3) := by decide +kernel
theorem dX8_layForm_143 : decode cX8_layForm 143 = .ok (.invokestatic 173, 3) := by decide +kernel
theorem dX8_layForm_146 : decode cX8_layForm 146 = .ok (.ladd, 1) := by decide +kernel
theorem dX8_layForm_147 : decode cX8_layForm 147 = .ok (.lastore, 1) := by decide +kernel
theorem dX8_layForm_148 : decode cX8_layForm 148 = .ok (.iinc 1 1, 3) := by decide +kernel
theorem dX8_layForm_151 : decode cX8_layForm 151 = .ok (.goto (-129), 3) := by decide +kernel
theorem dX8_layForm_154 : decode cX8_layForm 154 = .ok (.return_, 1) := by decide +kernel
theorem dX8_form_0 : decode cX8_form 0 = .ok (.aload_n 0, 1) := by decide +kernel
theorem dX8_form_1 : decode cX8_form 1 = .ok (.iload_n 1, 1) := by decide +kernel
theorem dX8_form_2 : decode cX8_form 2 = .ok (.iload_n 2, 1) := by decide +kernel
theorem dX8_form_3 : decode cX8_form 3 = .ok (.invokevirtual 227, 3) := by decide +kernel
theorem dX8_form_6 : decode cX8_form 6 = .ok (.istore_n 3, 1) := by decide +kernel
theorem dX8_form_7 : decode cX8_form 7 = .ok (.iload_n 3, 1) := by decide +kernel
theorem dX8_form_8 : decode cX8_form 8 = .ok (.ifCond .ge 5, 3) := by decide +kernel
theorem dX8_form_11 : decode cX8_form 11 = .ok (.iload_n 3, 1) := by decide +kernel
theorem dX8_form_12 : decode cX8_form 12 = .ok (.ireturn, 1) := by decide +kernel
theorem dX8_form_13 : decode cX8_form 13 = .ok (.aload_n 0, 1) := by decide +kernel
theorem dX8_form_14 : decode cX8_form 14 = .ok (.iload_n 1, 1) := by decide +kernel
theorem dX8_form_15 : decode cX8_form 15 = .ok (.iload_n 2, 1) := by decide +kernel
theorem dX8_form_16 : decode cX8_form 16 = .ok (.invokevirtual 256, 3) := by decide +kernel
theorem dX8_form_19 : decode cX8_form 19 = .ok (.aload_n 0, 1) := by decide +kernel
theorem dX8_form_20 : decode cX8_form 20 = .ok (.invokevirtual 259, 3) := by decide +kernel
theorem dX8_form_23 : decode cX8_form 23 = .ok (.aload_n 0, 1) := by decide +kernel
theorem dX8_form_24 : decode cX8_form 24 = .ok (.iconst 1, 1) := by decide +kernel
theorem dX8_form_25 : decode cX8_form 25 = .ok (.putfield 262, 3) := by decide +kernel
theorem dX8_form_28 : decode cX8_form 28 = .ok (.iconst 0, 1) := by decide +kernel
theorem dX8_form_29 : decode cX8_form 29 = .ok (.istore 4, 2) := by decide +kernel
theorem dX8_form_31 : decode cX8_form 31 = .ok (.iconst 0, 1) := by decide +kernel
theorem dX8_form_32 : decode cX8_form 32 = .ok (.istore 5, 2) := by decide +kernel
theorem dX8_form_34 : decode cX8_form 34 = .ok (.iload 5, 2) := by decide +kernel
theorem dX8_form_36 : decode cX8_form 36 = .ok (.iconst 5, 1) := by decide +kernel
theorem dX8_form_37 : decode cX8_form 37 = .ok (.if_icmp .ge 45, 3) := by decide +kernel
theorem dX8_form_40 : decode cX8_form 40 = .ok (.aload_n 0, 1) := by decide +kernel
theorem dX8_form_41 : decode cX8_form 41 = .ok (.getfield 73, 3) := by decide +kernel
theorem dX8_form_44 : decode cX8_form 44 = .ok (.iload 5, 2) := by decide +kernel
theorem dX8_form_46 : decode cX8_form 46 = .ok (.aload_n 0, 1) := by decide +kernel
theorem dX8_form_47 : decode cX8_form 47 = .ok (.getfield 64, 3) := by decide +kernel
theorem dX8_form_50 : decode cX8_form 50 = .ok (.iload 5, 2) := by decide +kernel
theorem dX8_form_52 : decode cX8_form 52 = .ok (.laload, 1) := by decide +kernel
theorem dX8_form_53 : decode cX8_form 53 = .ok (.lastore, 1) := by decide +kernel
theorem dX8_form_54 : decode cX8_form 54 = .ok (.iload 4, 2) := by decide +kernel
theorem dX8_form_56 : decode cX8_form 56 = .ok (.aload_n 0, 1) := by decide +kernel
theorem dX8_form_57 : decode cX8_form 57 = .ok (.getfield 64, 3) := by decide +kernel
theorem dX8_form_60 : decode cX8_form 60 = .ok (.iload 5, 2) := by decide +kernel
theorem dX8_form_62 : decode cX8_form 62 = .ok (.laload, 1) := by decide +kernel
theorem dX8_form_63 : decode cX8_form 63 = .ok (.lconst 0, 1) := by decide +kernel
theorem dX8_form_64 : decode cX8_form 64 = .ok (.lcmp, 1) := by decide +kernel
theorem dX8_form_65 : decode cX8_form 65 = .ok (.ifCond .ne 7, 3) := by decide +kernel
theorem dX8_form_68 : decode cX8_form 68 = .ok (.iconst 0, 1) := by decide +kernel
theorem dX8_form_69 : decode cX8_form 69 = .ok (.goto 4, 3) := by decide +kernel
theorem dX8_form_72 : decode cX8_form 72 = .ok (.iconst 1, 1) := by decide +kernel
theorem dX8_form_73 : decode cX8_form 73 = .ok (.iadd, 1) := by decide +kernel
theorem dX8_form_74 : decode cX8_form 74 = .ok (.istore 4, 2) := by decide +kernel
theorem dX8_form_76 : decode cX8_form 76 = .ok (.iinc 5 1, 3) := by decide +kernel
theorem dX8_form_79 : decode cX8_form 79 = .ok (.goto (-45), 3) := by decide +kernel
theorem dX8_form_82 : decode cX8_form 82 = .ok (.iload 4, 2) := by decide +kernel
theorem dX8_form_84 : decode cX8_form 84 = .ok (.ireturn, 1) := by decide +kernel
theorem dX8_formTold_0 : decode cX8_formTold 0 = .ok (.iload_n 1, 1) := by decide +kernel
theorem dX8_formTold_1 : decode cX8_formTold 1 = .ok (.iconst 0, 1) := by decide +kernel
theorem dX8_formTold_2 : decode cX8_formTold 2 = .ok (.iconst 4, 1) := by decide +kernel
theorem dX8_formTold_3 : decode cX8_formTold 3 = .ok (.invokestatic 133, 3) := by decide +kernel
theorem dX8_formTold_6 : decode cX8_formTold 6 = .ok (.ifCond .ne 7, 3) := by decide +kernel
theorem dX8_formTold_9 : decode cX8_formTold 9 = .ok (.iconst (-1), 1) := by decide +kernel
theorem dX8_formTold_10 : decode cX8_formTold 10 = .ok (.goto 27, 3) := by decide +kernel
theorem dX8_formTold_13 : decode cX8_formTold 13 = .ok (.aload_n 0, 1) := by decide +kernel
theorem dX8_formTold_14 : decode cX8_formTold 14 = .ok (.getfield 262, 3) := by decide +kernel
theorem dX8_formTold_17 : decode cX8_formTold 17 = .ok (.ifCond .eq 18, 3) := by decide +kernel
theorem dX8_formTold_20 : decode cX8_formTold 20 = .ok (.aload_n 0, 1) := by decide +kernel
theorem dX8_formTold_21 : decode cX8_formTold 21 = .ok (.aload_n 0, 1) := by decide +kernel
theorem dX8_formTold_22 : decode cX8_formTold 22 = .ok (.getfield 73, 3) := by decide +kernel
theorem dX8_formTold_25 : decode cX8_formTold 25 = .ok (.iload_n 1, 1) := by decide +kernel
theorem dX8_formTold_26 : decode cX8_formTold 26 = .ok (.laload, 1) := by decide +kernel
theorem dX8_formTold_27 : decode cX8_formTold 27 = .ok (.l2i, 1) := by decide +kernel
theorem dX8_formTold_28 : decode cX8_formTold 28 = .ok (.iconst 1, 1) := by decide +kernel
theorem dX8_formTold_29 : decode cX8_formTold 29 = .ok (.invokevirtual 213, 3) := by decide +kernel
theorem dX8_formTold_32 : decode cX8_formTold 32 = .ok (.goto 5, 3) := by decide +kernel
theorem dX8_formTold_35 : decode cX8_formTold 35 = .ok (.bipush (-4), 2) := by decide +kernel
theorem dX8_formTold_37 : decode cX8_formTold 37 = .ok (.ireturn, 1) := by decide +kernel
theorem dX8_begin_0 : decode cX8_begin 0 = .ok (.iconst 0, 1) := by decide +kernel
theorem dX8_begin_1 : decode cX8_begin 1 = .ok (.istore_n 1, 1) := by decide +kernel
theorem dX8_begin_2 : decode cX8_begin 2 = .ok (.iload_n 1, 1) := by decide +kernel
theorem dX8_begin_3 : decode cX8_begin 3 = .ok (.bipush 8, 2) := by decide +kernel
theorem dX8_begin_5 : decode cX8_begin 5 = .ok (.if_icmp .ge 21, 3) := by decide +kernel
theorem dX8_begin_8 : decode cX8_begin 8 = .ok (.aload_n 0, 1) := by decide +kernel
theorem dX8_begin_9 : decode cX8_begin 9 = .ok (.iload_n 1, 1) := by decide +kernel
theorem dX8_begin_10 : decode cX8_begin 10 = .ok (.iload_n 1, 1) := by decide +kernel
theorem dX8_begin_11 : decode cX8_begin 11 = .ok (.ifCond .ne 7, 3) := by decide +kernel
theorem dX8_begin_14 : decode cX8_begin 14 = .ok (.lconst 1, 1) := by decide +kernel
theorem dX8_begin_15 : decode cX8_begin 15 = .ok (.goto 4, 3) := by decide +kernel
theorem dX8_begin_18 : decode cX8_begin 18 = .ok (.lconst 0, 1) := by decide +kernel
theorem dX8_begin_19 : decode cX8_begin 19 = .ok (.lastore, 1) := by decide +kernel
theorem dX8_begin_20 : decode cX8_begin 20 = .ok (.iinc 1 1, 3) := by decide +kernel
theorem dX8_begin_23 : decode cX8_begin 23 = .ok (.goto (-21), 3) := by decide +kernel
theorem dX8_begin_26 : decode cX8_begin 26 = .ok (.return_, 1) := by decide +kernel
theorem dX8_times_0 : decode cX8_times 0 = .ok (.ldc2_w 265, 3) := by decide +kernel
theorem dX8_times_3 : decode cX8_times 3 = .ok (.lstore 4, 2) := by decide +kernel
theorem dX8_times_5 : decode cX8_times 5 = .ok (.iconst 0, 1) := by decide +kernel
theorem dX8_times_6 : decode cX8_times 6 = .ok (.istore 6, 2) := by decide +kernel
theorem dX8_times_8 : decode cX8_times 8 = .ok (.iload 6, 2) := by decide +kernel
theorem dX8_times_10 : decode cX8_times 10 = .ok (.bipush 8, 2) := by decide +kernel
theorem dX8_times_12 : decode cX8_times 12 = .ok (.if_icmp .ge 17, 3) := by decide +kernel
theorem dX8_times_15 : decode cX8_times 15 = .ok (.aload_n 0, 1) := by decide +kernel
theorem dX8_times_16 : decode cX8_times 16 = .ok (.getfield 82, 3) := by decide +kernel
theorem dX8_times_19 : decode cX8_times 19 = .ok (.iload 6, 2) := by decide +kernel
theorem dX8_times_21 : decode cX8_times 21 = .ok (.lconst 0, 1) := by decide +kernel
theorem dX8_times_22 : decode cX8_times 22 = .ok (.lastore, 1) := by decide +kernel
theorem dX8_times_23 : decode cX8_times 23 = .ok (.iinc 6 1, 3) := by decide +kernel
theorem dX8_times_26 : decode cX8_times 26 = .ok (.goto (-18), 3) := by decide +kernel
theorem dX8_times_29 : decode cX8_times 29 = .ok (.lload_n 2, 1) := by decide +kernel
theorem dX8_times_30 : decode cX8_times 30 = .ok (.lstore 6, 2) := by decide +kernel
theorem dX8_times_32 : decode cX8_times 32 = .ok (.iconst 0, 1) := by decide +kernel
theorem dX8_times_33 : decode cX8_times 33 = .ok (.istore 8, 2) := by decide +kernel
theorem dX8_times_35 : decode cX8_times 35 = .ok (.lload 6, 2) := by decide +kernel
theorem dX8_times_37 : decode cX8_times 37 = .ok (.lconst 0, 1) := by decide +kernel
theorem dX8_times_38 : decode cX8_times 38 = .ok (.lcmp, 1) := by decide +kernel
theorem dX8_times_39 : decode cX8_times 39 = .ok (.ifCond .le 90, 3) := by decide +kernel
theorem dX8_times_42 : decode cX8_times 42 = .ok (.lload 6, 2) := by decide +kernel
theorem dX8_times_44 : decode cX8_times 44 = .ok (.lload 4, 2) := by decide +kernel
theorem dX8_times_46 : decode cX8_times 46 = .ok (.lrem, 1) := by decide +kernel
theorem dX8_times_47 : decode cX8_times 47 = .ok (.lstore 9, 2) := by decide +kernel
theorem dX8_times_49 : decode cX8_times 49 = .ok (.lload 6, 2) := by decide +kernel
theorem dX8_times_51 : decode cX8_times 51 = .ok (.lload 4, 2) := by decide +kernel
theorem dX8_times_53 : decode cX8_times 53 = .ok (.ldiv, 1) := by decide +kernel
theorem dX8_times_54 : decode cX8_times 54 = .ok (.lstore 6, 2) := by decide +kernel
theorem dX8_times_56 : decode cX8_times 56 = .ok (.lconst 0, 1) := by decide +kernel
theorem dX8_times_57 : decode cX8_times 57 = .ok (.lstore 11, 2) := by decide +kernel
theorem dX8_times_59 : decode cX8_times 59 = .ok (.iconst 0, 1) := by decide +kernel
theorem dX8_times_60 : decode cX8_times 60 = .ok (.istore 13, 2) := by decide +kernel
theorem dX8_times_62 : decode cX8_times 62 = .ok (.iload 13, 2) := by decide +kernel
theorem dX8_times_64 : decode cX8_times 64 = .ok (.iload 8, 2) := by decide +kernel
theorem dX8_times_66 : decode cX8_times 66 = .ok (.iadd, 1) := by decide +kernel
theorem dX8_times_67 : decode cX8_times 67 = .ok (.bipush 8, 2) := by decide +kernel
theorem dX8_times_69 : decode cX8_times 69 = .ok (.if_icmp .ge 54, 3) := by decide +kernel
theorem dX8_times_72 : decode cX8_times 72 = .ok (.aload_n 0, 1) := by decide +kernel
theorem dX8_times_73 : decode cX8_times 73 = .ok (.getfield 82, 3) := by decide +kernel
theorem dX8_times_76 : decode cX8_times 76 = .ok (.iload 13, 2) := by decide +kernel
theorem dX8_times_78 : decode cX8_times 78 = .ok (.iload 8, 2) := by decide +kernel
theorem dX8_times_80 : decode cX8_times 80 = .ok (.iadd, 1) := by decide +kernel
theorem dX8_times_81 : decode cX8_times 81 = .ok (.laload, 1) := by decide +kernel
theorem dX8_times_82 : decode cX8_times 82 = .ok (.aload_n 1, 1) := by decide +kernel
theorem dX8_times_83 : decode cX8_times 83 = .ok (.iload 13, 2) := by decide +kernel
theorem dX8_times_85 : decode cX8_times 85 = .ok (.laload, 1) := by decide +kernel
theorem dX8_times_86 : decode cX8_times 86 = .ok (.lload 9, 2) := by decide +kernel
theorem dX8_times_88 : decode cX8_times 88 = .ok (.lmul, 1) := by decide +kernel
theorem dX8_times_89 : decode cX8_times 89 = .ok (.ladd, 1) := by decide +kernel
theorem dX8_times_90 : decode cX8_times 90 = .ok (.lload 11, 2) := by decide +kernel
theorem dX8_times_92 : decode cX8_times 92 = .ok (.ladd, 1) := by decide +kernel
theorem dX8_times_93 : decode cX8_times 93 = .ok (.lstore 14, 2) := by decide +kernel
theorem dX8_times_95 : decode cX8_times 95 = .ok (.aload_n 0, 1) := by decide +kernel
theorem dX8_times_96 : decode cX8_times 96 = .ok (.getfield 82, 3) := by decide +kernel
theorem dX8_times_99 : decode cX8_times 99 = .ok (.iload 13, 2) := by decide +kernel
theorem dX8_times_101 : decode cX8_times 101 = .ok (.iload 8, 2) := by decide +kernel
theorem dX8_times_103 : decode cX8_times 103 = .ok (.iadd, 1) := by decide +kernel
theorem dX8_times_104 : decode cX8_times 104 = .ok (.lload 14, 2) := by decide +kernel
theorem dX8_times_106 : decode cX8_times 106 = .ok (.lload 4, 2) := by decide +kernel
theorem dX8_times_108 : decode cX8_times 108 = .ok (.lrem, 1) := by decide +kernel
theorem dX8_times_109 : decode cX8_times 109 = .ok (.lastore, 1) := by decide +kernel
theorem dX8_times_110 : decode cX8_times 110 = .ok (.lload 14, 2) := by decide +kernel
theorem dX8_times_112 : decode cX8_times 112 = .ok (.lload 4, 2) := by decide +kernel
theorem dX8_times_114 : decode cX8_times 114 = .ok (.ldiv, 1) := by decide +kernel
theorem dX8_times_115 : decode cX8_times 115 = .ok (.lstore 11, 2) := by decide +kernel
theorem dX8_times_117 : decode cX8_times 117 = .ok (.iinc 13 1, 3) := by decide +kernel
theorem dX8_times_120 : decode cX8_times 120 = .ok (.goto (-58), 3) := by decide +kernel
theorem dX8_times_123 : decode cX8_times 123 = .ok (.iinc 8 1, 3) := by decide +kernel
theorem dX8_times_126 : decode cX8_times 126 = .ok (.goto (-91), 3) := by decide +kernel
theorem dX8_times_129 : decode cX8_times 129 = .ok (.iconst 0, 1) := by decide +kernel
theorem dX8_times_130 : decode cX8_times 130 = .ok (.istore 8, 2) := by decide +kernel
theorem dX8_times_132 : decode cX8_times 132 = .ok (.iload 8, 2) := by decide +kernel
theorem dX8_times_134 : decode cX8_times 134 = .ok (.bipush 8, 2) := by decide +kernel
theorem dX8_times_136 : decode cX8_times 136 = .ok (.if_icmp .ge 20, 3) := by decide +kernel
theorem dX8_times_139 : decode cX8_times 139 = .ok (.aload_n 1, 1) := by decide +kernel
theorem dX8_times_140 : decode cX8_times 140 = .ok (.iload 8, 2) := by decide +kernel
theorem dX8_times_142 : decode cX8_times 142 = .ok (.aload_n 0, 1) := by decide +kernel
theorem dX8_times_143 : decode cX8_times 143 = .ok (.getfield 82, 3) := by decide +kernel
theorem dX8_times_146 : decode cX8_times 146 = .ok (.iload 8, 2) := by decide +kernel
theorem dX8_times_148 : decode cX8_times 148 = .ok (.laload, 1) := by decide +kernel
theorem dX8_times_149 : decode cX8_times 149 = .ok (.lastore, 1) := by decide +kernel
theorem dX8_times_150 : decode cX8_times 150 = .ok (.iinc 8 1, 3) := by decide +kernel
theorem dX8_times_153 : decode cX8_times 153 = .ok (.goto (-21), 3) := by decide +kernel
theorem dX8_times_156 : decode cX8_times 156 = .ok (.return_, 1) := by decide +kernel
theorem dX8_compare_0 : decode cX8_compare 0 = .ok (.bipush 7, 2) := by decide +kernel
theorem dX8_compare_2 : decode cX8_compare 2 = .ok (.istore_n 1, 1) := by decide +kernel
theorem dX8_compare_3 : decode cX8_compare 3 = .ok (.iload_n 1, 1) := by decide +kernel
theorem dX8_compare_4 : decode cX8_compare 4 = .ok (.ifCond .lt 47, 3) := by decide +kernel
theorem dX8_compare_7 : decode cX8_compare 7 = .ok (.aload_n 0, 1) := by decide +kernel
theorem dX8_compare_8 : decode cX8_compare 8 = .ok (.getfield 76, 3) := by decide +kernel
theorem dX8_compare_11 : decode cX8_compare 11 = .ok (.iload_n 1, 1) := by decide +kernel
theorem dX8_compare_12 : decode cX8_compare 12 = .ok (.laload, 1) := by decide +kernel
theorem dX8_compare_13 : decode cX8_compare 13 = .ok (.aload_n 0, 1) := by decide +kernel
theorem dX8_compare_14 : decode cX8_compare 14 = .ok (.getfield 79, 3) := by decide +kernel
theorem dX8_compare_17 : decode cX8_compare 17 = .ok (.iload_n 1, 1) := by decide +kernel
theorem dX8_compare_18 : decode cX8_compare 18 = .ok (.laload, 1) := by decide +kernel
theorem dX8_compare_19 : decode cX8_compare 19 = .ok (.lcmp, 1) := by decide +kernel
theorem dX8_compare_20 : decode cX8_compare 20 = .ok (.ifCond .eq 25, 3) := by decide +kernel
theorem dX8_compare_23 : decode cX8_compare 23 = .ok (.aload_n 0, 1) := by decide +kernel
theorem dX8_compare_24 : decode cX8_compare 24 = .ok (.getfield 76, 3) := by decide +kernel
theorem dX8_compare_27 : decode cX8_compare 27 = .ok (.iload_n 1, 1) := by decide +kernel
theorem dX8_compare_28 : decode cX8_compare 28 = .ok (.laload, 1) := by decide +kernel
theorem dX8_compare_29 : decode cX8_compare 29 = .ok (.aload_n 0, 1) := by decide +kernel
theorem dX8_compare_30 : decode cX8_compare 30 = .ok (.getfield 79, 3) := by decide +kernel
theorem dX8_compare_33 : decode cX8_compare 33 = .ok (.iload_n 1, 1) := by decide +kernel
theorem dX8_compare_34 : decode cX8_compare 34 = .ok (.laload, 1) := by decide +kernel
theorem dX8_compare_35 : decode cX8_compare 35 = .ok (.lcmp, 1) := by decide +kernel
theorem dX8_compare_36 : decode cX8_compare 36 = .ok (.ifCond .le 7, 3) := by decide +kernel
theorem dX8_compare_39 : decode cX8_compare 39 = .ok (.iconst 1, 1) := by decide +kernel
theorem dX8_compare_40 : decode cX8_compare 40 = .ok (.goto 4, 3) := by decide +kernel
theorem dX8_compare_43 : decode cX8_compare 43 = .ok (.iconst (-1), 1) := by decide +kernel
theorem dX8_compare_44 : decode cX8_compare 44 = .ok (.ireturn, 1) := by decide +kernel
theorem dX8_compare_45 : decode cX8_compare 45 = .ok (.iinc 1 (-1), 3) := by decide +kernel
theorem dX8_compare_48 : decode cX8_compare 48 = .ok (.goto (-45), 3) := by decide +kernel
theorem dX8_compare_51 : decode cX8_compare 51 = .ok (.iconst 0, 1) := by decide +kernel
theorem dX8_compare_52 : decode cX8_compare 52 = .ok (.ireturn, 1) := by decide +kernel
theorem dX8_at_0 : decode cX8_at 0 = .ok (.lconst 0, 1) := by decide +kernel
theorem dX8_at_1 : decode cX8_at 1 = .ok (.lstore 5, 2) := by decide +kernel
theorem dX8_at_3 : decode cX8_at 3 = .ok (.lconst 1, 1) := by decide +kernel
theorem dX8_at_4 : decode cX8_at 4 = .ok (.lstore 7, 2) := by decide +kernel
theorem dX8_at_6 : decode cX8_at 6 = .ok (.iconst 0, 1) := by decide +kernel
theorem dX8_at_7 : decode cX8_at 7 = .ok (.istore 9, 2) := by decide +kernel
theorem dX8_at_9 : decode cX8_at 9 = .ok (.iload 9, 2) := by decide +kernel
theorem dX8_at_11 : decode cX8_at 11 = .ok (.aload_n 0, 1) := by decide +kernel
theorem dX8_at_12 : decode cX8_at 12 = .ok (.getfield 267, 3) := by decide +kernel
theorem dX8_at_15 : decode cX8_at 15 = .ok (.if_icmp .gt 32, 3) := by decide +kernel
theorem dX8_at_18 : decode cX8_at 18 = .ok (.lload 5, 2) := by decide +kernel
theorem dX8_at_20 : decode cX8_at 20 = .ok (.lload_n 1, 1) := by decide +kernel
theorem dX8_at_21 : decode cX8_at 21 = .ok (.lmul, 1) := by decide +kernel
theorem dX8_at_22 : decode cX8_at 22 = .ok (.aload_n 0, 1) := by decide +kernel
theorem dX8_at_23 : decode cX8_at 23 = .ok (.getfield 94, 3) := by decide +kernel
theorem dX8_at_26 : decode cX8_at 26 = .ok (.iload 9, 2) := by decide +kernel
theorem dX8_at_28 : decode cX8_at 28 = .ok (.laload, 1) := by decide +kernel
theorem dX8_at_29 : decode cX8_at 29 = .ok (.lload 7, 2) := by decide +kernel
theorem dX8_at_31 : decode cX8_at 31 = .ok (.lmul, 1) := by decide +kernel
theorem dX8_at_32 : decode cX8_at 32 = .ok (.ladd, 1) := by decide +kernel
theorem dX8_at_33 : decode cX8_at 33 = .ok (.lstore 5, 2) := by decide +kernel
theorem dX8_at_35 : decode cX8_at 35 = .ok (.lload 7, 2) := by decide +kernel
theorem dX8_at_37 : decode cX8_at 37 = .ok (.lload_n 3, 1) := by decide +kernel
theorem dX8_at_38 : decode cX8_at 38 = .ok (.lmul, 1) := by decide +kernel
theorem dX8_at_39 : decode cX8_at 39 = .ok (.lstore 7, 2) := by decide +kernel
theorem dX8_at_41 : decode cX8_at 41 = .ok (.iinc 9 1, 3) := by decide +kernel
theorem dX8_at_44 : decode cX8_at 44 = .ok (.goto (-35), 3) := by decide +kernel
theorem dX8_at_47 : decode cX8_at 47 = .ok (.lload 5, 2) := by decide +kernel
theorem dX8_at_49 : decode cX8_at 49 = .ok (.lreturn, 1) := by decide +kernel
theorem dX8_slopeAt_0 : decode cX8_slopeAt 0 = .ok (.lconst 0, 1) := by decide +kernel
theorem dX8_slopeAt_1 : decode cX8_slopeAt 1 = .ok (.lstore 5, 2) := by decide +kernel
theorem dX8_slopeAt_3 : decode cX8_slopeAt 3 = .ok (.lconst 1, 1) := by decide +kernel
theorem dX8_slopeAt_4 : decode cX8_slopeAt 4 = .ok (.lstore 7, 2) := by decide +kernel
theorem dX8_slopeAt_6 : decode cX8_slopeAt 6 = .ok (.iconst 0, 1) := by decide +kernel
theorem dX8_slopeAt_7 : decode cX8_slopeAt 7 = .ok (.istore 9, 2) := by decide +kernel
theorem dX8_slopeAt_9 : decode cX8_slopeAt 9 = .ok (.iload 9, 2) := by decide +kernel
theorem dX8_slopeAt_11 : decode cX8_slopeAt 11 = .ok (.aload_n 0, 1) := by decide +kernel
theorem dX8_slopeAt_12 : decode cX8_slopeAt 12 = .ok (.getfield 267, 3) := by decide +kernel
theorem dX8_slopeAt_15 : decode cX8_slopeAt 15 = .ok (.if_icmp .ge 41, 3) := by decide +kernel
theorem dX8_slopeAt_18 : decode cX8_slopeAt 18 = .ok (.lload 5, 2) := by decide +kernel
theorem dX8_slopeAt_20 : decode cX8_slopeAt 20 = .ok (.lload_n 1, 1) := by decide +kernel
theorem dX8_slopeAt_21 : decode cX8_slopeAt 21 = .ok (.lmul, 1) := by decide +kernel
theorem dX8_slopeAt_22 : decode cX8_slopeAt 22 = .ok (.aload_n 0, 1) := by decide +kernel
theorem dX8_slopeAt_23 : decode cX8_slopeAt 23 = .ok (.getfield 267, 3) := by decide +kernel
theorem dX8_slopeAt_26 : decode cX8_slopeAt 26 = .ok (.iload 9, 2) := by decide +kernel
theorem dX8_slopeAt_28 : decode cX8_slopeAt 28 = .ok (.isub, 1) := by decide +kernel
theorem dX8_slopeAt_29 : decode cX8_slopeAt 29 = .ok (.i2l, 1) := by decide +kernel
theorem dX8_slopeAt_30 : decode cX8_slopeAt 30 = .ok (.aload_n 0, 1) := by decide +kernel
theorem dX8_slopeAt_31 : decode cX8_slopeAt 31 = .ok (.getfield 94, 3) := by decide +kernel
theorem dX8_slopeAt_34 : decode cX8_slopeAt 34 = .ok (.iload 9, 2) := by decide +kernel
theorem dX8_slopeAt_36 : decode cX8_slopeAt 36 = .ok (.laload, 1) := by decide +kernel
theorem dX8_slopeAt_37 : decode cX8_slopeAt 37 = .ok (.lmul, 1) := by decide +kernel
theorem dX8_slopeAt_38 : decode cX8_slopeAt 38 = .ok (.lload 7, 2) := by decide +kernel
theorem dX8_slopeAt_40 : decode cX8_slopeAt 40 = .ok (.lmul, 1) := by decide +kernel
theorem dX8_slopeAt_41 : decode cX8_slopeAt 41 = .ok (.ladd, 1) := by decide +kernel
theorem dX8_slopeAt_42 : decode cX8_slopeAt 42 = .ok (.lstore 5, 2) := by decide +kernel
theorem dX8_slopeAt_44 : decode cX8_slopeAt 44 = .ok (.lload 7, 2) := by decide +kernel
theorem dX8_slopeAt_46 : decode cX8_slopeAt 46 = .ok (.lload_n 3, 1) := by decide +kernel
theorem dX8_slopeAt_47 : decode cX8_slopeAt 47 = .ok (.lmul, 1) := by decide +kernel
theorem dX8_slopeAt_48 : decode cX8_slopeAt 48 = .ok (.lstore 7, 2) := by decide +kernel
theorem dX8_slopeAt_50 : decode cX8_slopeAt 50 = .ok (.iinc 9 1, 3) := by decide +kernel
theorem dX8_slopeAt_53 : decode cX8_slopeAt 53 = .ok (.goto (-44), 3) := by decide +kernel
theorem dX8_slopeAt_56 : decode cX8_slopeAt 56 = .ok (.lload 5, 2) := by decide +kernel
theorem dX8_slopeAt_58 : decode cX8_slopeAt 58 = .ok (.lreturn, 1) := by decide +kernel
theorem dX8_divide_0 : decode cX8_divide 0 = .ok (.lconst 0, 1) := by decide +kernel
theorem dX8_divide_1 : decode cX8_divide 1 = .ok (.lstore 5, 2) := by decide +kernel
theorem dX8_divide_3 : decode cX8_divide 3 = .ok (.iconst 0, 1) := by decide +kernel
theorem dX8_divide_4 : decode cX8_divide 4 = .ok (.istore 7, 2) := by decide +kernel
theorem dX8_divide_6 : decode cX8_divide 6 = .ok (.iload 7, 2) := by decide +kernel
theorem dX8_divide_8 : decode cX8_divide 8 = .ok (.aload_n 0, 1) := by decide +kernel
theorem dX8_divide_9 : decode cX8_divide 9 = .ok (.getfield 267, 3) := by decide +kernel
theorem dX8_divide_12 : decode cX8_divide 12 = .ok (.if_icmp .ge 38, 3) := by decide +kernel
theorem dX8_divide_15 : decode cX8_divide 15 = .ok (.aload_n 0, 1) := by decide +kernel
theorem dX8_divide_16 : decode cX8_divide 16 = .ok (.getfield 94, 3) := by decide +kernel
theorem dX8_divide_19 : decode cX8_divide 19 = .ok (.iload 7, 2) := by decide +kernel
theorem dX8_divide_21 : decode cX8_divide 21 = .ok (.laload, 1) := by decide +kernel
theorem dX8_divide_22 : decode cX8_divide 22 = .ok (.lload 5, 2) := by decide +kernel
theorem dX8_divide_24 : decode cX8_divide 24 = .ok (.ladd, 1) := by decide +kernel
theorem dX8_divide_25 : decode cX8_divide 25 = .ok (.lload_n 3, 1) := by decide +kernel
theorem dX8_divide_26 : decode cX8_divide 26 = .ok (.ldiv, 1) := by decide +kernel
theorem dX8_divide_27 : decode cX8_divide 27 = .ok (.lstore 8, 2) := by decide +kernel
theorem dX8_divide_29 : decode cX8_divide 29 = .ok (.lload 8, 2) := by decide +kernel
theorem dX8_divide_31 : decode cX8_divide 31 = .ok (.lload_n 1, 1) := by decide +kernel
theorem dX8_divide_32 : decode cX8_divide 32 = .ok (.lmul, 1) := by decide +kernel
theorem dX8_divide_33 : decode cX8_divide 33 = .ok (.lstore 5, 2) := by decide +kernel
theorem dX8_divide_35 : decode cX8_divide 35 = .ok (.aload_n 0, 1) := by decide +kernel
theorem dX8_divide_36 : decode cX8_divide 36 = .ok (.getfield 94, 3) := by decide +kernel
theorem dX8_divide_39 : decode cX8_divide 39 = .ok (.iload 7, 2) := by decide +kernel
theorem dX8_divide_41 : decode cX8_divide 41 = .ok (.lload 8, 2) := by decide +kernel
theorem dX8_divide_43 : decode cX8_divide 43 = .ok (.lastore, 1) := by decide +kernel
theorem dX8_divide_44 : decode cX8_divide 44 = .ok (.iinc 7 1, 3) := by decide +kernel
theorem dX8_divide_47 : decode cX8_divide 47 = .ok (.goto (-41), 3) := by decide +kernel
theorem dX8_divide_50 : decode cX8_divide 50 = .ok (.aload_n 0, 1) := by decide +kernel
theorem dX8_divide_51 : decode cX8_divide 51 = .ok (.dup, 1) := by decide +kernel
theorem dX8_divide_52 : decode cX8_divide 52 = .ok (.getfield 267, 3) := by decide +kernel
theorem dX8_divide_55 : decode cX8_divide 55 = .ok (.iconst 1, 1) := by decide +kernel
theorem dX8_divide_56 : decode cX8_divide 56 = .ok (.isub, 1) := by decide +kernel
theorem dX8_divide_57 : decode cX8_divide 57 = .ok (.putfield 267, 3) := by decide +kernel
theorem dX8_divide_60 : decode cX8_divide 60 = .ok (.return_, 1) := by decide +kernel
theorem dX8_takeRoot_0 : decode cX8_takeRoot 0 = .ok (.iconst 0, 1) := by decide +kernel
theorem dX8_takeRoot_1 : decode cX8_takeRoot 1 = .ok (.istore 5, 2) := by decide +kernel
theorem dX8_takeRoot_3 : decode cX8_takeRoot 3 = .ok (.aload_n 0, 1) := by decide +kernel
theorem dX8_takeRoot_4 : decode cX8_takeRoot 4 = .ok (.getfield 267, 3) := by decide +kernel
theorem dX8_takeRoot_7 : decode cX8_takeRoot 7 = .ok (.ifCond .le 26, 3) := by decide +kernel
theorem dX8_takeRoot_10 : decode cX8_takeRoot 10 = .ok (.aload_n 0, 1) := by decide +kernel
theorem dX8_takeRoot_11 : decode cX8_takeRoot 11 = .ok (.lload_n 1, 1) := by decide +kernel
theorem dX8_takeRoot_12 : decode cX8_takeRoot 12 = .ok (.lload_n 3, 1) := by decide +kernel
theorem dX8_takeRoot_13 : decode cX8_takeRoot 13 = .ok (.invokevirtual 270, 3) := by decide +kernel
theorem dX8_takeRoot_16 : decode cX8_takeRoot 16 = .ok (.lconst 0, 1) := by decide +kernel
theorem dX8_takeRoot_17 : decode cX8_takeRoot 17 = .ok (.lcmp, 1) := by decide +kernel
theorem dX8_takeRoot_18 : decode cX8_takeRoot 18 = .ok (.ifCond .ne 15, 3) := by decide +kernel
theorem dX8_takeRoot_21 : decode cX8_takeRoot 21 = .ok (.aload_n 0, 1) := by decide +kernel
theorem dX8_takeRoot_22 : decode cX8_takeRoot 22 = .ok (.lload_n 1, 1) := by decide +kernel
theorem dX8_takeRoot_23 : decode cX8_takeRoot 23 = .ok (.lload_n 3, 1) := by decide +kernel
theorem dX8_takeRoot_24 : decode cX8_takeRoot 24 = .ok (.invokevirtual 273, 3) := by decide +kernel
theorem dX8_takeRoot_27 : decode cX8_takeRoot 27 = .ok (.iinc 5 1, 3) := by decide +kernel
theorem dX8_takeRoot_30 : decode cX8_takeRoot 30 = .ok (.goto (-27), 3) := by decide +kernel
theorem dX8_takeRoot_33 : decode cX8_takeRoot 33 = .ok (.aload_n 0, 1) := by decide +kernel
theorem dX8_takeRoot_34 : decode cX8_takeRoot 34 = .ok (.getfield 85, 3) := by decide +kernel
theorem dX8_takeRoot_37 : decode cX8_takeRoot 37 = .ok (.aload_n 0, 1) := by decide +kernel
theorem dX8_takeRoot_38 : decode cX8_takeRoot 38 = .ok (.getfield 277, 3) := by decide +kernel
theorem dX8_takeRoot_41 : decode cX8_takeRoot 41 = .ok (.lload_n 1, 1) := by decide +kernel
theorem dX8_takeRoot_42 : decode cX8_takeRoot 42 = .ok (.lastore, 1) := by decide +kernel
theorem dX8_takeRoot_43 : decode cX8_takeRoot 43 = .ok (.aload_n 0, 1) := by decide +kernel
theorem dX8_takeRoot_44 : decode cX8_takeRoot 44 = .ok (.getfield 88, 3) := by decide +kernel
theorem dX8_takeRoot_47 : decode cX8_takeRoot 47 = .ok (.aload_n 0, 1) := by decide +kernel
theorem dX8_takeRoot_48 : decode cX8_takeRoot 48 = .ok (.getfield 277, 3) := by decide +kernel
theorem dX8_takeRoot_51 : decode cX8_takeRoot 51 = .ok (.lload_n 3, 1) := by decide +kernel
theorem dX8_takeRoot_52 : decode cX8_takeRoot 52 = .ok (.lastore, 1) := by decide +kernel
theorem dX8_takeRoot_53 : decode cX8_takeRoot 53 = .ok (.aload_n 0, 1) := by decide +kernel
theorem dX8_takeRoot_54 : decode cX8_takeRoot 54 = .ok (.getfield 91, 3) := by decide +kernel
theorem dX8_takeRoot_57 : decode cX8_takeRoot 57 = .ok (.aload_n 0, 1) := by decide +kernel
theorem dX8_takeRoot_58 : decode cX8_takeRoot 58 = .ok (.getfield 277, 3) := by decide +kernel
theorem dX8_takeRoot_61 : decode cX8_takeRoot 61 = .ok (.iload 5, 2) := by decide +kernel
theorem dX8_takeRoot_63 : decode cX8_takeRoot 63 = .ok (.iastore, 1) := by decide +kernel
theorem dX8_takeRoot_64 : decode cX8_takeRoot 64 = .ok (.aload_n 0, 1) := by decide +kernel
theorem dX8_takeRoot_65 : decode cX8_takeRoot 65 = .ok (.dup, 1) := by decide +kernel
theorem dX8_takeRoot_66 : decode cX8_takeRoot 66 = .ok (.getfield 277, 3) := by decide +kernel
theorem dX8_takeRoot_69 : decode cX8_takeRoot 69 = .ok (.iconst 1, 1) := by decide +kernel
theorem dX8_takeRoot_70 : decode cX8_takeRoot 70 = .ok (.iadd, 1) := by decide +kernel
theorem dX8_takeRoot_71 : decode cX8_takeRoot 71 = .ok (.putfield 277, 3) := by decide +kernel
theorem dX8_takeRoot_74 : decode cX8_takeRoot 74 = .ok (.return_, 1) := by decide +kernel
theorem dX8_parts_0 : decode cX8_parts 0 = .ok (.aload_n 0, 1) := by decide +kernel
theorem dX8_parts_1 : decode cX8_parts 1 = .ok (.iconst 0, 1) := by decide +kernel
theorem dX8_parts_2 : decode cX8_parts 2 = .ok (.putfield 277, 3) := by decide +kernel
theorem dX8_parts_5 : decode cX8_parts 5 = .ok (.aload_n 0, 1) := by decide +kernel
theorem dX8_parts_6 : decode cX8_parts 6 = .ok (.iconst 0, 1) := by decide +kernel
theorem dX8_parts_7 : decode cX8_parts 7 = .ok (.putfield 280, 3) := by decide +kernel
theorem dX8_parts_10 : decode cX8_parts 10 = .ok (.aload_n 0, 1) := by decide +kernel
theorem dX8_parts_11 : decode cX8_parts 11 = .ok (.getfield 280, 3) := by decide +kernel
theorem dX8_parts_14 : decode cX8_parts 14 = .ok (.iconst 5, 1) := by decide +kernel
theorem dX8_parts_15 : decode cX8_parts 15 = .ok (.if_icmp .ge 30, 3) := by decide +kernel
theorem dX8_parts_18 : decode cX8_parts 18 = .ok (.aload_n 0, 1) := by decide +kernel
theorem dX8_parts_19 : decode cX8_parts 19 = .ok (.getfield 64, 3) := by decide +kernel
theorem dX8_parts_22 : decode cX8_parts 22 = .ok (.aload_n 0, 1) := by decide +kernel
theorem dX8_parts_23 : decode cX8_parts 23 = .ok (.getfield 280, 3) := by decide +kernel
theorem dX8_parts_26 : decode cX8_parts 26 = .ok (.laload, 1) := by decide +kernel
theorem dX8_parts_27 : decode cX8_parts 27 = .ok (.lconst 0, 1) := by decide +kernel
theorem dX8_parts_28 : decode cX8_parts 28 = .ok (.lcmp, 1) := by decide +kernel
theorem dX8_parts_29 : decode cX8_parts 29 = .ok (.ifCond .ne 16, 3) := by decide +kernel
theorem dX8_parts_32 : decode cX8_parts 32 = .ok (.aload_n 0, 1) := by decide +kernel
theorem dX8_parts_33 : decode cX8_parts 33 = .ok (.dup, 1) := by decide +kernel
theorem dX8_parts_34 : decode cX8_parts 34 = .ok (.getfield 280, 3) := by decide +kernel
theorem dX8_parts_37 : decode cX8_parts 37 = .ok (.iconst 1, 1) := by decide +kernel
theorem dX8_parts_38 : decode cX8_parts 38 = .ok (.iadd, 1) := by decide +kernel
theorem dX8_parts_39 : decode cX8_parts 39 = .ok (.putfield 280, 3) := by decide +kernel
theorem dX8_parts_42 : decode cX8_parts 42 = .ok (.goto (-32), 3) := by decide +kernel
theorem dX8_parts_45 : decode cX8_parts 45 = .ok (.aload_n 0, 1) := by decide +kernel
theorem dX8_parts_46 : decode cX8_parts 46 = .ok (.getfield 280, 3) := by decide +kernel
theorem dX8_parts_49 : decode cX8_parts 49 = .ok (.iconst 5, 1) := by decide +kernel
theorem dX8_parts_50 : decode cX8_parts 50 = .ok (.if_icmp .ne 5, 3) := by decide +kernel
theorem dX8_parts_53 : decode cX8_parts 53 = .ok (.iconst 0, 1) := by decide +kernel
theorem dX8_parts_54 : decode cX8_parts 54 = .ok (.ireturn, 1) := by decide +kernel
theorem dX8_parts_55 : decode cX8_parts 55 = .ok (.aload_n 0, 1) := by decide +kernel
theorem dX8_parts_56 : decode cX8_parts 56 = .ok (.iconst 4, 1) := by decide +kernel
theorem dX8_parts_57 : decode cX8_parts 57 = .ok (.aload_n 0, 1) := by decide +kernel
theorem dX8_parts_58 : decode cX8_parts 58 = .ok (.getfield 280, 3) := by decide +kernel
theorem dX8_parts_61 : decode cX8_parts 61 = .ok (.isub, 1) := by decide +kernel
theorem dX8_parts_62 : decode cX8_parts 62 = .ok (.putfield 267, 3) := by decide +kernel
theorem dX8_parts_65 : decode cX8_parts 65 = .ok (.lconst 0, 1) := by decide +kernel
theorem dX8_parts_66 : decode cX8_parts 66 = .ok (.lstore_n 1, 1) := by decide +kernel
theorem dX8_parts_67 : decode cX8_parts 67 = .ok (.iconst 0, 1) := by decide +kernel
theorem dX8_parts_68 : decode cX8_parts 68 = .ok (.istore_n 3, 1) := by decide +kernel
theorem dX8_parts_69 : decode cX8_parts 69 = .ok (.iload_n 3, 1) := by decide +kernel
theorem dX8_parts_70 : decode cX8_parts 70 = .ok (.aload_n 0, 1) := by decide +kernel
theorem dX8_parts_71 : decode cX8_parts 71 = .ok (.getfield 267, 3) := by decide +kernel
theorem dX8_parts_74 : decode cX8_parts 74 = .ok (.if_icmp .gt 25, 3) := by decide +kernel
theorem dX8_parts_77 : decode cX8_parts 77 = .ok (.lload_n 1, 1) := by decide +kernel
theorem dX8_parts_78 : decode cX8_parts 78 = .ok (.aload_n 0, 1) := by decide +kernel
theorem dX8_parts_79 : decode cX8_parts 79 = .ok (.getfield 64, 3) := by decide +kernel
theorem dX8_parts_82 : decode cX8_parts 82 = .ok (.aload_n 0, 1) := by decide +kernel
theorem dX8_parts_83 : decode cX8_parts 83 = .ok (.getfield 280, 3) := by decide +kernel
theorem dX8_parts_86 : decode cX8_parts 86 = .ok (.iload_n 3, 1) := by decide +kernel
theorem dX8_parts_87 : decode cX8_parts 87 = .ok (.iadd, 1) := by decide +kernel
theorem dX8_parts_88 : decode cX8_parts 88 = .ok (.laload, 1) := by decide +kernel
theorem dX8_parts_89 : decode cX8_parts 89 = .ok (.invokestatic 126, 3) := by decide +kernel
theorem dX8_parts_92 : decode cX8_parts 92 = .ok (.lstore_n 1, 1) := by decide +kernel
theorem dX8_parts_93 : decode cX8_parts 93 = .ok (.iinc 3 1, 3) := by decide +kernel
theorem dX8_parts_96 : decode cX8_parts 96 = .ok (.goto (-27), 3) := by decide +kernel
theorem dX8_parts_99 : decode cX8_parts 99 = .ok (.iconst 0, 1) := by decide +kernel
theorem dX8_parts_100 : decode cX8_parts 100 = .ok (.istore_n 3, 1) := by decide +kernel
theorem dX8_parts_101 : decode cX8_parts 101 = .ok (.iload_n 3, 1) := by decide +kernel
theorem dX8_parts_102 : decode cX8_parts 102 = .ok (.aload_n 0, 1) := by decide +kernel
theorem dX8_parts_103 : decode cX8_parts 103 = .ok (.getfield 267, 3) := by decide +kernel
theorem dX8_parts_106 : decode cX8_parts 106 = .ok (.if_icmp .gt 28, 3) := by decide +kernel
theorem dX8_parts_109 : decode cX8_parts 109 = .ok (.aload_n 0, 1) := by decide +kernel
theorem dX8_parts_110 : decode cX8_parts 110 = .ok (.getfield 94, 3) := by decide +kernel
theorem dX8_parts_113 : decode cX8_parts 113 = .ok (.iload_n 3, 1) := by decide +kernel
theorem dX8_parts_114 : decode cX8_parts 114 = .ok (.aload_n 0, 1) := by decide +kernel
theorem dX8_parts_115 : decode cX8_parts 115 = .ok (.getfield 64, 3) := by decide +kernel
theorem dX8_parts_118 : decode cX8_parts 118 = .ok (.aload_n 0, 1) := by decide +kernel
theorem dX8_parts_119 : decode cX8_parts 119 = .ok (.getfield 280, 3) := by decide +kernel
theorem dX8_parts_122 : decode cX8_parts 122 = .ok (.iload_n 3, 1) := by decide +kernel
theorem dX8_parts_123 : decode cX8_parts 123 = .ok (.iadd, 1) := by decide +kernel
theorem dX8_parts_124 : decode cX8_parts 124 = .ok (.laload, 1) := by decide +kernel
theorem dX8_parts_125 : decode cX8_parts 125 = .ok (.lload_n 1, 1) := by decide +kernel
theorem dX8_parts_126 : decode cX8_parts 126 = .ok (.ldiv, 1) := by decide +kernel
theorem dX8_parts_127 : decode cX8_parts 127 = .ok (.lastore, 1) := by decide +kernel
theorem dX8_parts_128 : decode cX8_parts 128 = .ok (.iinc 3 1, 3) := by decide +kernel
theorem dX8_parts_131 : decode cX8_parts 131 = .ok (.goto (-30), 3) := by decide +kernel
theorem dX8_parts_134 : decode cX8_parts 134 = .ok (.aload_n 0, 1) := by decide +kernel
theorem dX8_parts_135 : decode cX8_parts 135 = .ok (.getfield 267, 3) := by decide +kernel
theorem dX8_parts_138 : decode cX8_parts 138 = .ok (.iconst 1, 1) := by decide +kernel
theorem dX8_parts_139 : decode cX8_parts 139 = .ok (.if_icmp .le 39, 3) := by decide +kernel
theorem dX8_parts_142 : decode cX8_parts 142 = .ok (.aload_n 0, 1) := by decide +kernel
theorem dX8_parts_143 : decode cX8_parts 143 = .ok (.getfield 94, 3) := by decide +kernel
theorem dX8_parts_146 : decode cX8_parts 146 = .ok (.aload_n 0, 1) := by decide +kernel
theorem dX8_parts_147 : decode cX8_parts 147 = .ok (.getfield 267, 3) := by decide +kernel
theorem dX8_parts_150 : decode cX8_parts 150 = .ok (.laload, 1) := by decide +kernel
theorem dX8_parts_151 : decode cX8_parts 151 = .ok (.lconst 0, 1) := by decide +kernel
theorem dX8_parts_152 : decode cX8_parts 152 = .ok (.lcmp, 1) := by decide +kernel
theorem dX8_parts_153 : decode cX8_parts 153 = .ok (.ifCond .ne 25, 3) := by decide +kernel
theorem dX8_parts_156 : decode cX8_parts 156 = .ok (.aload_n 0, 1) := by decide +kernel
theorem dX8_parts_157 : decode cX8_parts 157 = .ok (.getfield 94, 3) := by decide +kernel
theorem dX8_parts_160 : decode cX8_parts 160 = .ok (.aload_n 0, 1) := by decide +kernel
theorem dX8_parts_161 : decode cX8_parts 161 = .ok (.getfield 267, 3) := by decide +kernel
theorem dX8_parts_164 : decode cX8_parts 164 = .ok (.iconst 1, 1) := by decide +kernel
theorem dX8_parts_165 : decode cX8_parts 165 = .ok (.isub, 1) := by decide +kernel
theorem dX8_parts_166 : decode cX8_parts 166 = .ok (.laload, 1) := by decide +kernel
theorem dX8_parts_167 : decode cX8_parts 167 = .ok (.lconst 0, 1) := by decide +kernel
theorem dX8_parts_168 : decode cX8_parts 168 = .ok (.lcmp, 1) := by decide +kernel
theorem dX8_parts_169 : decode cX8_parts 169 = .ok (.ifCond .ne 9, 3) := by decide +kernel
theorem dX8_parts_172 : decode cX8_parts 172 = .ok (.aload_n 0, 1) := by decide +kernel
theorem dX8_parts_173 : decode cX8_parts 173 = .ok (.lconst 0, 1) := by decide +kernel
theorem dX8_parts_174 : decode cX8_parts 174 = .ok (.lconst 1, 1) := by decide +kernel
theorem dX8_parts_175 : decode cX8_parts 175 = .ok (.invokevirtual 283, 3) := by decide +kernel
theorem dX8_parts_178 : decode cX8_parts 178 = .ok (.aload_n 0, 1) := by decide +kernel
theorem dX8_parts_179 : decode cX8_parts 179 = .ok (.getfield 94, 3) := by decide +kernel
theorem dX8_parts_182 : decode cX8_parts 182 = .ok (.iconst 0, 1) := by decide +kernel
theorem dX8_parts_183 : decode cX8_parts 183 = .ok (.laload, 1) := by decide +kernel
theorem dX8_parts_184 : decode cX8_parts 184 = .ok (.invokestatic 122, 3) := by decide +kernel
theorem dX8_parts_187 : decode cX8_parts 187 = .ok (.lstore_n 3, 1) := by decide +kernel
theorem dX8_parts_188 : decode cX8_parts 188 = .ok (.aload_n 0, 1) := by decide +kernel
theorem dX8_parts_189 : decode cX8_parts 189 = .ok (.getfield 94, 3) := by decide +kernel
theorem dX8_parts_192 : decode cX8_parts 192 = .ok (.aload_n 0, 1) := by decide +kernel
theorem dX8_parts_193 : decode cX8_parts 193 = .ok (.getfield 267, 3) := by decide +kernel
theorem dX8_parts_196 : decode cX8_parts 196 = .ok (.laload, 1) := by decide +kernel
theorem dX8_parts_197 : decode cX8_parts 197 = .ok (.lconst 0, 1) := by decide +kernel
theorem dX8_parts_198 : decode cX8_parts 198 = .ok (.lcmp, 1) := by decide +kernel
theorem dX8_parts_199 : decode cX8_parts 199 = .ok (.ifCond .ne 24, 3) := by decide +kernel
theorem dX8_parts_202 : decode cX8_parts 202 = .ok (.aload_n 0, 1) := by decide +kernel
theorem dX8_parts_203 : decode cX8_parts 203 = .ok (.getfield 267, 3) := by decide +kernel
theorem dX8_parts_206 : decode cX8_parts 206 = .ok (.ifCond .le 17, 3) := by decide +kernel
theorem dX8_parts_209 : decode cX8_parts 209 = .ok (.aload_n 0, 1) := by decide +kernel
theorem dX8_parts_210 : decode cX8_parts 210 = .ok (.getfield 94, 3) := by decide +kernel
theorem dX8_parts_213 : decode cX8_parts 213 = .ok (.aload_n 0, 1) := by decide +kernel
theorem dX8_parts_214 : decode cX8_parts 214 = .ok (.getfield 267, 3) := by decide +kernel
theorem dX8_parts_217 : decode cX8_parts 217 = .ok (.iconst 1, 1) := by decide +kernel
theorem dX8_parts_218 : decode cX8_parts 218 = .ok (.isub, 1) := by decide +kernel
theorem dX8_parts_219 : decode cX8_parts 219 = .ok (.laload, 1) := by decide +kernel
theorem dX8_parts_220 : decode cX8_parts 220 = .ok (.goto 12, 3) := by decide +kernel
theorem dX8_parts_223 : decode cX8_parts 223 = .ok (.aload_n 0, 1) := by decide +kernel
theorem dX8_parts_224 : decode cX8_parts 224 = .ok (.getfield 94, 3) := by decide +kernel
theorem dX8_parts_227 : decode cX8_parts 227 = .ok (.aload_n 0, 1) := by decide +kernel
theorem dX8_parts_228 : decode cX8_parts 228 = .ok (.getfield 267, 3) := by decide +kernel
theorem dX8_parts_231 : decode cX8_parts 231 = .ok (.laload, 1) := by decide +kernel
theorem dX8_parts_232 : decode cX8_parts 232 = .ok (.invokestatic 122, 3) := by decide +kernel
theorem dX8_parts_235 : decode cX8_parts 235 = .ok (.lstore 5, 2) := by decide +kernel
theorem dX8_parts_237 : decode cX8_parts 237 = .ok (.lconst 1, 1) := by decide +kernel
theorem dX8_parts_238 : decode cX8_parts 238 = .ok (.lstore 7, 2) := by decide +kernel
theorem dX8_parts_240 : decode cX8_parts 240 = .ok (.lload 7, 2) := by decide +kernel
theorem dX8_parts_242 : decode cX8_parts 242 = .ok (.lload 7, 2) := by decide +kernel
theorem dX8_parts_244 : decode cX8_parts 244 = .ok (.lmul, 1) := by decide +kernel
theorem dX8_parts_245 : decode cX8_parts 245 = .ok (.lload_n 3, 1) := by decide +kernel
theorem dX8_parts_246 : decode cX8_parts 246 = .ok (.lcmp, 1) := by decide +kernel
theorem dX8_parts_247 : decode cX8_parts 247 = .ok (.ifCond .gt 89, 3) := by decide +kernel
theorem dX8_parts_250 : decode cX8_parts 250 = .ok (.lconst 1, 1) := by decide +kernel
theorem dX8_parts_251 : decode cX8_parts 251 = .ok (.lstore 9, 2) := by decide +kernel
theorem dX8_parts_253 : decode cX8_parts 253 = .ok (.lload 9, 2) := by decide +kernel
theorem dX8_parts_255 : decode cX8_parts 255 = .ok (.lload 9, 2) := by decide +kernel
theorem dX8_parts_257 : decode cX8_parts 257 = .ok (.lmul, 1) := by decide +kernel
theorem dX8_parts_258 : decode cX8_parts 258 = .ok (.lload 5, 2) := by decide +kernel
theorem dX8_parts_260 : decode cX8_parts 260 = .ok (.lcmp, 1) := by decide +kernel
theorem dX8_parts_261 : decode cX8_parts 261 = .ok (.ifCond .gt 66, 3) := by decide +kernel
theorem dX8_parts_264 : decode cX8_parts 264 = .ok (.lload_n 3, 1) := by decide +kernel
theorem dX8_parts_265 : decode cX8_parts 265 = .ok (.lload 7, 2) := by decide +kernel
theorem dX8_parts_267 : decode cX8_parts 267 = .ok (.lload 7, 2) := by decide +kernel
theorem dX8_parts_269 : decode cX8_parts 269 = .ok (.lmul, 1) := by decide +kernel
theorem dX8_parts_270 : decode cX8_parts 270 = .ok (.lrem, 1) := by decide +kernel
theorem dX8_parts_271 : decode cX8_parts 271 = .ok (.lconst 0, 1) := by decide +kernel
theorem dX8_parts_272 : decode cX8_parts 272 = .ok (.lcmp, 1) := by decide +kernel
theorem dX8_parts_273 : decode cX8_parts 273 = .ok (.ifCond .ne 54, 3) := by decide +kernel
theorem dX8_parts_276 : decode cX8_parts 276 = .ok (.lload 5, 2) := by decide +kernel
theorem dX8_parts_278 : decode cX8_parts 278 = .ok (.lload 9, 2) := by decide +kernel
theorem dX8_parts_280 : decode cX8_parts 280 = .ok (.lload 9, 2) := by decide +kernel
theorem dX8_parts_282 : decode cX8_parts 282 = .ok (.lmul, 1) := by decide +kernel
theorem dX8_parts_283 : decode cX8_parts 283 = .ok (.lrem, 1) := by decide +kernel
theorem dX8_parts_284 : decode cX8_parts 284 = .ok (.lconst 0, 1) := by decide +kernel
theorem dX8_parts_285 : decode cX8_parts 285 = .ok (.lcmp, 1) := by decide +kernel
theorem dX8_parts_286 : decode cX8_parts 286 = .ok (.ifCond .ne 32, 3) := by decide +kernel
theorem dX8_parts_289 : decode cX8_parts 289 = .ok (.lload 9, 2) := by decide +kernel
theorem dX8_parts_291 : decode cX8_parts 291 = .ok (.lload 7, 2) := by decide +kernel
theorem dX8_parts_293 : decode cX8_parts 293 = .ok (.invokestatic 126, 3) := by decide +kernel
theorem dX8_parts_296 : decode cX8_parts 296 = .ok (.lconst 1, 1) := by decide +kernel
theorem dX8_parts_297 : decode cX8_parts 297 = .ok (.lcmp, 1) := by decide +kernel
theorem dX8_parts_298 : decode cX8_parts 298 = .ok (.ifCond .ne 20, 3) := by decide +kernel
theorem dX8_parts_301 : decode cX8_parts 301 = .ok (.aload_n 0, 1) := by decide +kernel
theorem dX8_parts_302 : decode cX8_parts 302 = .ok (.lload 9, 2) := by decide +kernel
theorem dX8_parts_304 : decode cX8_parts 304 = .ok (.lload 7, 2) := by decide +kernel
theorem dX8_parts_306 : decode cX8_parts 306 = .ok (.invokevirtual 286, 3) := by decide +kernel
theorem dX8_parts_309 : decode cX8_parts 309 = .ok (.aload_n 0, 1) := by decide +kernel
theorem dX8_parts_310 : decode cX8_parts 310 = .ok (.lload 9, 2) := by decide +kernel
theorem dX8_parts_312 : decode cX8_parts 312 = .ok (.lneg, 1) := by decide +kernel
theorem dX8_parts_313 : decode cX8_parts 313 = .ok (.lload 7, 2) := by decide +kernel
theorem dX8_parts_315 : decode cX8_parts 315 = .ok (.invokevirtual 286, 3) := by decide +kernel
theorem dX8_parts_318 : decode cX8_parts 318 = .ok (.lload 9, 2) := by decide +kernel
theorem dX8_parts_320 : decode cX8_parts 320 = .ok (.lconst 1, 1) := by decide +kernel
theorem dX8_parts_321 : decode cX8_parts 321 = .ok (.ladd, 1) := by decide +kernel
theorem dX8_parts_322 : decode cX8_parts 322 = .ok (.lstore 9, 2) := by decide +kernel
theorem dX8_parts_324 : decode cX8_parts 324 = .ok (.goto (-71), 3) := by decide +kernel
theorem dX8_parts_327 : decode cX8_parts 327 = .ok (.lload 7, 2) := by decide +kernel
theorem dX8_parts_329 : decode cX8_parts 329 = .ok (.lconst 1, 1) := by decide +kernel
theorem dX8_parts_330 : decode cX8_parts 330 = .ok (.ladd, 1) := by decide +kernel
theorem dX8_parts_331 : decode cX8_parts 331 = .ok (.lstore 7, 2) := by decide +kernel
theorem dX8_parts_333 : decode cX8_parts 333 = .ok (.goto (-93), 3) := by decide +kernel
theorem dX8_parts_336 : decode cX8_parts 336 = .ok (.aload_n 0, 1) := by decide +kernel
theorem dX8_parts_337 : decode cX8_parts 337 = .ok (.invokevirtual 289, 3) := by decide +kernel
theorem dX8_parts_340 : decode cX8_parts 340 = .ok (.iconst 1, 1) := by decide +kernel
theorem dX8_parts_341 : decode cX8_parts 341 = .ok (.ireturn, 1) := by decide +kernel
theorem dX8_tryRoot_0 : decode cX8_tryRoot 0 = .ok (.aload_n 0, 1) := by decide +kernel
theorem dX8_tryRoot_1 : decode cX8_tryRoot 1 = .ok (.getfield 267, 3) := by decide +kernel
theorem dX8_tryRoot_4 : decode cX8_tryRoot 4 = .ok (.iconst 1, 1) := by decide +kernel
theorem dX8_tryRoot_5 : decode cX8_tryRoot 5 = .ok (.if_icmp .le 31, 3) := by decide +kernel
theorem dX8_tryRoot_8 : decode cX8_tryRoot 8 = .ok (.aload_n 0, 1) := by decide +kernel
theorem dX8_tryRoot_9 : decode cX8_tryRoot 9 = .ok (.lload_n 1, 1) := by decide +kernel
theorem dX8_tryRoot_10 : decode cX8_tryRoot 10 = .ok (.lload_n 3, 1) := by decide +kernel
theorem dX8_tryRoot_11 : decode cX8_tryRoot 11 = .ok (.invokevirtual 270, 3) := by decide +kernel
theorem dX8_tryRoot_14 : decode cX8_tryRoot 14 = .ok (.lconst 0, 1) := by decide +kernel
theorem dX8_tryRoot_15 : decode cX8_tryRoot 15 = .ok (.lcmp, 1) := by decide +kernel
theorem dX8_tryRoot_16 : decode cX8_tryRoot 16 = .ok (.ifCond .ne 20, 3) := by decide +kernel
theorem dX8_tryRoot_19 : decode cX8_tryRoot 19 = .ok (.aload_n 0, 1) := by decide +kernel
theorem dX8_tryRoot_20 : decode cX8_tryRoot 20 = .ok (.lload_n 1, 1) := by decide +kernel
theorem dX8_tryRoot_21 : decode cX8_tryRoot 21 = .ok (.lload_n 3, 1) := by decide +kernel
theorem dX8_tryRoot_22 : decode cX8_tryRoot 22 = .ok (.invokevirtual 292, 3) := by decide +kernel
theorem dX8_tryRoot_25 : decode cX8_tryRoot 25 = .ok (.lconst 0, 1) := by decide +kernel
theorem dX8_tryRoot_26 : decode cX8_tryRoot 26 = .ok (.lcmp, 1) := by decide +kernel
theorem dX8_tryRoot_27 : decode cX8_tryRoot 27 = .ok (.ifCond .ne 9, 3) := by decide +kernel
theorem dX8_tryRoot_30 : decode cX8_tryRoot 30 = .ok (.aload_n 0, 1) := by decide +kernel
theorem dX8_tryRoot_31 : decode cX8_tryRoot 31 = .ok (.lload_n 1, 1) := by decide +kernel
theorem dX8_tryRoot_32 : decode cX8_tryRoot 32 = .ok (.lload_n 3, 1) := by decide +kernel
theorem dX8_tryRoot_33 : decode cX8_tryRoot 33 = .ok (.invokevirtual 283, 3) := by decide +kernel
theorem dX8_tryRoot_36 : decode cX8_tryRoot 36 = .ok (.return_, 1) := by decide +kernel
theorem dX8_sortRoots_0 : decode cX8_sortRoots 0 = .ok (.iconst 0, 1) := by decide +kernel
theorem dX8_sortRoots_1 : decode cX8_sortRoots 1 = .ok (.istore_n 1, 1) := by decide +kernel
theorem dX8_sortRoots_2 : decode cX8_sortRoots 2 = .ok (.iload_n 1, 1) := by decide +kernel
theorem dX8_sortRoots_3 : decode cX8_sortRoots 3 = .ok (.aload_n 0, 1) := by decide +kernel
theorem dX8_sortRoots_4 : decode cX8_sortRoots 4 = .ok (.getfield 277, 3) := by decide +kernel
theorem dX8_sortRoots_7 : decode cX8_sortRoots 7 = .ok (.if_icmp .ge 134, 3) := by decide +kernel
theorem dX8_sortRoots_10 : decode cX8_sortRoots 10 = .ok (.iconst 0, 1) := by decide +kernel
theorem dX8_sortRoots_11 : decode cX8_sortRoots 11 = .ok (.istore_n 2, 1) := by decide +kernel
theorem dX8_sortRoots_12 : decode cX8_sortRoots 12 = .ok (.iload_n 2, 1) := by decide +kernel
theorem dX8_sortRoots_13 : decode cX8_sortRoots 13 = .ok (.iload_n 1, 1) := by decide +kernel
theorem dX8_sortRoots_14 : decode cX8_sortRoots 14 = .ok (.if_icmp .ge 121, 3) := by decide +kernel
theorem dX8_sortRoots_17 : decode cX8_sortRoots 17 = .ok (.aload_n 0, 1) := by decide +kernel
theorem dX8_sortRoots_18 : decode cX8_sortRoots 18 = .ok (.getfield 85, 3) := by decide +kernel
theorem dX8_sortRoots_21 : decode cX8_sortRoots 21 = .ok (.iload_n 1, 1) := by decide +kernel
theorem dX8_sortRoots_22 : decode cX8_sortRoots 22 = .ok (.laload, 1) := by decide +kernel
theorem dX8_sortRoots_23 : decode cX8_sortRoots 23 = .ok (.aload_n 0, 1) := by decide +kernel
theorem dX8_sortRoots_24 : decode cX8_sortRoots 24 = .ok (.getfield 88, 3) := by decide +kernel
theorem dX8_sortRoots_27 : decode cX8_sortRoots 27 = .ok (.iload_n 2, 1) := by decide +kernel
theorem dX8_sortRoots_28 : decode cX8_sortRoots 28 = .ok (.laload, 1) := by decide +kernel
theorem dX8_sortRoots_29 : decode cX8_sortRoots 29 = .ok (.lmul, 1) := by decide +kernel
theorem dX8_sortRoots_30 : decode cX8_sortRoots 30 = .ok (.aload_n 0, 1) := by decide +kernel
theorem dX8_sortRoots_31 : decode cX8_sortRoots 31 = .ok (.getfield 85, 3) := by decide +kernel
theorem dX8_sortRoots_34 : decode cX8_sortRoots 34 = .ok (.iload_n 2, 1) := by decide +kernel
theorem dX8_sortRoots_35 : decode cX8_sortRoots 35 = .ok (.laload, 1) := by decide +kernel
theorem dX8_sortRoots_36 : decode cX8_sortRoots 36 = .ok (.aload_n 0, 1) := by decide +kernel
theorem dX8_sortRoots_37 : decode cX8_sortRoots 37 = .ok (.getfield 88, 3) := by decide +kernel
theorem dX8_sortRoots_40 : decode cX8_sortRoots 40 = .ok (.iload_n 1, 1) := by decide +kernel
theorem dX8_sortRoots_41 : decode cX8_sortRoots 41 = .ok (.laload, 1) := by decide +kernel
theorem dX8_sortRoots_42 : decode cX8_sortRoots 42 = .ok (.lmul, 1) := by decide +kernel
theorem dX8_sortRoots_43 : decode cX8_sortRoots 43 = .ok (.lcmp, 1) := by decide +kernel
theorem dX8_sortRoots_44 : decode cX8_sortRoots 44 = .ok (.ifCond .ge 85, 3) := by decide +kernel
theorem dX8_sortRoots_47 : decode cX8_sortRoots 47 = .ok (.aload_n 0, 1) := by decide +kernel
theorem dX8_sortRoots_48 : decode cX8_sortRoots 48 = .ok (.getfield 85, 3) := by decide +kernel
theorem dX8_sortRoots_51 : decode cX8_sortRoots 51 = .ok (.iload_n 1, 1) := by decide +kernel
theorem dX8_sortRoots_52 : decode cX8_sortRoots 52 = .ok (.laload, 1) := by decide +kernel
theorem dX8_sortRoots_53 : decode cX8_sortRoots 53 = .ok (.lstore_n 3, 1) := by decide +kernel
theorem dX8_sortRoots_54 : decode cX8_sortRoots 54 = .ok (.aload_n 0, 1) := by decide +kernel
theorem dX8_sortRoots_55 : decode cX8_sortRoots 55 = .ok (.getfield 88, 3) := by decide +kernel
theorem dX8_sortRoots_58 : decode cX8_sortRoots 58 = .ok (.iload_n 1, 1) := by decide +kernel
theorem dX8_sortRoots_59 : decode cX8_sortRoots 59 = .ok (.laload, 1) := by decide +kernel
theorem dX8_sortRoots_60 : decode cX8_sortRoots 60 = .ok (.lstore 5, 2) := by decide +kernel
theorem dX8_sortRoots_62 : decode cX8_sortRoots 62 = .ok (.aload_n 0, 1) := by decide +kernel
theorem dX8_sortRoots_63 : decode cX8_sortRoots 63 = .ok (.getfield 91, 3) := by decide +kernel
theorem dX8_sortRoots_66 : decode cX8_sortRoots 66 = .ok (.iload_n 1, 1) := by decide +kernel
theorem dX8_sortRoots_67 : decode cX8_sortRoots 67 = .ok (.iaload, 1) := by decide +kernel
theorem dX8_sortRoots_68 : decode cX8_sortRoots 68 = .ok (.istore 7, 2) := by decide +kernel
theorem dX8_sortRoots_70 : decode cX8_sortRoots 70 = .ok (.aload_n 0, 1) := by decide +kernel
theorem dX8_sortRoots_71 : decode cX8_sortRoots 71 = .ok (.getfield 85, 3) := by decide +kernel
theorem dX8_sortRoots_74 : decode cX8_sortRoots 74 = .ok (.iload_n 1, 1) := by decide +kernel
theorem dX8_sortRoots_75 : decode cX8_sortRoots 75 = .ok (.aload_n 0, 1) := by decide +kernel
theorem dX8_sortRoots_76 : decode cX8_sortRoots 76 = .ok (.getfield 85, 3) := by decide +kernel
theorem dX8_sortRoots_79 : decode cX8_sortRoots 79 = .ok (.iload_n 2, 1) := by decide +kernel
theorem dX8_sortRoots_80 : decode cX8_sortRoots 80 = .ok (.laload, 1) := by decide +kernel
theorem dX8_sortRoots_81 : decode cX8_sortRoots 81 = .ok (.lastore, 1) := by decide +kernel
theorem dX8_sortRoots_82 : decode cX8_sortRoots 82 = .ok (.aload_n 0, 1) := by decide +kernel
theorem dX8_sortRoots_83 : decode cX8_sortRoots 83 = .ok (.getfield 88, 3) := by decide +kernel
theorem dX8_sortRoots_86 : decode cX8_sortRoots 86 = .ok (.iload_n 1, 1) := by decide +kernel
theorem dX8_sortRoots_87 : decode cX8_sortRoots 87 = .ok (.aload_n 0, 1) := by decide +kernel
theorem dX8_sortRoots_88 : decode cX8_sortRoots 88 = .ok (.getfield 88, 3) := by decide +kernel
theorem dX8_sortRoots_91 : decode cX8_sortRoots 91 = .ok (.iload_n 2, 1) := by decide +kernel
theorem dX8_sortRoots_92 : decode cX8_sortRoots 92 = .ok (.laload, 1) := by decide +kernel
theorem dX8_sortRoots_93 : decode cX8_sortRoots 93 = .ok (.lastore, 1) := by decide +kernel
theorem dX8_sortRoots_94 : decode cX8_sortRoots 94 = .ok (.aload_n 0, 1) := by decide +kernel
theorem dX8_sortRoots_95 : decode cX8_sortRoots 95 = .ok (.getfield 91, 3) := by decide +kernel
theorem dX8_sortRoots_98 : decode cX8_sortRoots 98 = .ok (.iload_n 1, 1) := by decide +kernel
theorem dX8_sortRoots_99 : decode cX8_sortRoots 99 = .ok (.aload_n 0, 1) := by decide +kernel
theorem dX8_sortRoots_100 : decode cX8_sortRoots 100 = .ok (.getfield 91, 3) := by decide +kernel
theorem dX8_sortRoots_103 : decode cX8_sortRoots 103 = .ok (.iload_n 2, 1) := by decide +kernel
theorem dX8_sortRoots_104 : decode cX8_sortRoots 104 = .ok (.iaload, 1) := by decide +kernel
theorem dX8_sortRoots_105 : decode cX8_sortRoots 105 = .ok (.iastore, 1) := by decide +kernel
theorem dX8_sortRoots_106 : decode cX8_sortRoots 106 = .ok (.aload_n 0, 1) := by decide +kernel
theorem dX8_sortRoots_107 : decode cX8_sortRoots 107 = .ok (.getfield 85, 3) := by decide +kernel
theorem dX8_sortRoots_110 : decode cX8_sortRoots 110 = .ok (.iload_n 2, 1) := by decide +kernel
theorem dX8_sortRoots_111 : decode cX8_sortRoots 111 = .ok (.lload_n 3, 1) := by decide +kernel
theorem dX8_sortRoots_112 : decode cX8_sortRoots 112 = .ok (.lastore, 1) := by decide +kernel
theorem dX8_sortRoots_113 : decode cX8_sortRoots 113 = .ok (.aload_n 0, 1) := by decide +kernel
theorem dX8_sortRoots_114 : decode cX8_sortRoots 114 = .ok (.getfield 88, 3) := by decide +kernel
theorem dX8_sortRoots_117 : decode cX8_sortRoots 117 = .ok (.iload_n 2, 1) := by decide +kernel
theorem dX8_sortRoots_118 : decode cX8_sortRoots 118 = .ok (.lload 5, 2) := by decide +kernel
theorem dX8_sortRoots_120 : decode cX8_sortRoots 120 = .ok (.lastore, 1) := by decide +kernel
theorem dX8_sortRoots_121 : decode cX8_sortRoots 121 = .ok (.aload_n 0, 1) := by decide +kernel
theorem dX8_sortRoots_122 : decode cX8_sortRoots 122 = .ok (.getfield 91, 3) := by decide +kernel
theorem dX8_sortRoots_125 : decode cX8_sortRoots 125 = .ok (.iload_n 2, 1) := by decide +kernel
theorem dX8_sortRoots_126 : decode cX8_sortRoots 126 = .ok (.iload 7, 2) := by decide +kernel
theorem dX8_sortRoots_128 : decode cX8_sortRoots 128 = .ok (.iastore, 1) := by decide +kernel
theorem dX8_sortRoots_129 : decode cX8_sortRoots 129 = .ok (.iinc 2 1, 3) := by decide +kernel
theorem dX8_sortRoots_132 : decode cX8_sortRoots 132 = .ok (.goto (-120), 3) := by decide +kernel
theorem dX8_sortRoots_135 : decode cX8_sortRoots 135 = .ok (.iinc 1 1, 3) := by decide +kernel
theorem dX8_sortRoots_138 : decode cX8_sortRoots 138 = .ok (.goto (-136), 3) := by decide +kernel
theorem dX8_sortRoots_141 : decode cX8_sortRoots 141 = .ok (.return_, 1) := by decide +kernel
theorem dX8_layLeft_0 : decode cX8_layLeft 0 = .ok (.aload_n 0, 1) := by decide +kernel
theorem dX8_layLeft_1 : decode cX8_layLeft 1 = .ok (.iconst 0, 1) := by decide +kernel
theorem dX8_layLeft_2 : decode cX8_layLeft 2 = .ok (.putfield 295, 3) := by decide +kernel
theorem dX8_layLeft_5 : decode cX8_layLeft 5 = .ok (.aload_n 0, 1) := by decide +kernel
theorem dX8_layLeft_6 : decode cX8_layLeft 6 = .ok (.getfield 267, 3) := by decide +kernel
theorem dX8_layLeft_9 : decode cX8_layLeft 9 = .ok (.tableswitch 107 0 3 #[31, 31, 42, 88], 31) := by decide +kernel
theorem dX8_layLeft_40 : decode cX8_layLeft 40 = .ok (.aload_n 0, 1) := by decide +kernel
theorem dX8_layLeft_41 : decode cX8_layLeft 41 = .ok (.aload_n 0, 1) := by decide +kernel
theorem dX8_layLeft_42 : decode cX8_layLeft 42 = .ok (.getfield 267, 3) := by decide +kernel
theorem dX8_layLeft_45 : decode cX8_layLeft 45 = .ok (.putfield 298, 3) := by decide +kernel
theorem dX8_layLeft_48 : decode cX8_layLeft 48 = .ok (.goto 72, 3) := by decide +kernel
theorem dX8_layLeft_51 : decode cX8_layLeft 51 = .ok (.aload_n 0, 1) := by decide +kernel
theorem dX8_layLeft_52 : decode cX8_layLeft 52 = .ok (.aload_n 0, 1) := by decide +kernel
theorem dX8_layLeft_53 : decode cX8_layLeft 53 = .ok (.getfield 94, 3) := by decide +kernel
theorem dX8_layLeft_56 : decode cX8_layLeft 56 = .ok (.iconst 1, 1) := by decide +kernel
theorem dX8_layLeft_57 : decode cX8_layLeft 57 = .ok (.laload, 1) := by decide +kernel
theorem dX8_layLeft_58 : decode cX8_layLeft 58 = .ok (.aload_n 0, 1) := by decide +kernel
theorem dX8_layLeft_59 : decode cX8_layLeft 59 = .ok (.getfield 94, 3) := by decide +kernel
theorem dX8_layLeft_62 : decode cX8_layLeft 62 = .ok (.iconst 1, 1) := by decide +kernel
theorem dX8_layLeft_63 : decode cX8_layLeft 63 = .ok (.laload, 1) := by decide +kernel
theorem dX8_layLeft_64 : decode cX8_layLeft 64 = .ok (.lmul, 1) := by decide +kernel
theorem dX8_layLeft_65 : decode cX8_layLeft 65 = .ok (.ldc2_w 301, 3) := by decide +kernel
theorem dX8_layLeft_68 : decode cX8_layLeft 68 = .ok (.aload_n 0, 1) := by decide +kernel
theorem dX8_layLeft_69 : decode cX8_layLeft 69 = .ok (.getfield 94, 3) := by decide +kernel
theorem dX8_layLeft_72 : decode cX8_layLeft 72 = .ok (.iconst 0, 1) := by decide +kernel
theorem dX8_layLeft_73 : decode cX8_layLeft 73 = .ok (.laload, 1) := by decide +kernel
theorem dX8_layLeft_74 : decode cX8_layLeft 74 = .ok (.lmul, 1) := by decide +kernel
theorem dX8_layLeft_75 : decode cX8_layLeft 75 = .ok (.aload_n 0, 1) := by decide +kernel
theorem dX8_layLeft_76 : decode cX8_layLeft 76 = .ok (.getfield 94, 3) := by decide +kernel
theorem dX8_layLeft_79 : decode cX8_layLeft 79 = .ok (.iconst 2, 1) := by decide +kernel
theorem dX8_layLeft_80 : decode cX8_layLeft 80 = .ok (.laload, 1) := by decide +kernel
theorem dX8_layLeft_81 : decode cX8_layLeft 81 = .ok (.lmul, 1) := by decide +kernel
theorem dX8_layLeft_82 : decode cX8_layLeft 82 = .ok (.lcmp, 1) := by decide +kernel
theorem dX8_layLeft_83 : decode cX8_layLeft 83 = .ok (.ifCond .le 7, 3) := by decide +kernel
theorem dX8_layLeft_86 : decode cX8_layLeft 86 = .ok (.iconst 2, 1) := by decide +kernel
theorem dX8_layLeft_87 : decode cX8_layLeft 87 = .ok (.goto 4, 3) := by decide +kernel
theorem dX8_layLeft_90 : decode cX8_layLeft 90 = .ok (.iconst 0, 1) := by decide +kernel
theorem dX8_layLeft_91 : decode cX8_layLeft 91 = .ok (.putfield 298, 3) := by decide +kernel
theorem dX8_layLeft_94 : decode cX8_layLeft 94 = .ok (.goto 26, 3) := by decide +kernel
theorem dX8_layLeft_97 : decode cX8_layLeft 97 = .ok (.aload_n 0, 1) := by decide +kernel
theorem dX8_layLeft_98 : decode cX8_layLeft 98 = .ok (.aload_n 0, 1) := by decide +kernel
theorem dX8_layLeft_99 : decode cX8_layLeft 99 = .ok (.invokevirtual 303, 3) := by decide +kernel
theorem dX8_layLeft_102 : decode cX8_layLeft 102 = .ok (.ifCond .eq 7, 3) := by decide +kernel
theorem dX8_layLeft_105 : decode cX8_layLeft 105 = .ok (.iconst 3, 1) := by decide +kernel
theorem dX8_layLeft_106 : decode cX8_layLeft 106 = .ok (.goto 4, 3) := by decide +kernel
theorem dX8_layLeft_109 : decode cX8_layLeft 109 = .ok (.iconst 1, 1) := by decide +kernel
theorem dX8_layLeft_110 : decode cX8_layLeft 110 = .ok (.putfield 298, 3) := by decide +kernel
theorem dX8_layLeft_113 : decode cX8_layLeft 113 = .ok (.goto 7, 3) := by decide +kernel
theorem dX8_layLeft_116 : decode cX8_layLeft 116 = .ok (.aload_n 0, 1) := by decide +kernel
theorem dX8_layLeft_117 : decode cX8_layLeft 117 = .ok (.invokevirtual 307, 3) := by decide +kernel
theorem dX8_layLeft_120 : decode cX8_layLeft 120 = .ok (.return_, 1) := by decide +kernel
theorem dX8_threeRoots_0 : decode cX8_threeRoots 0 = .ok (.aload_n 0, 1) := by decide +kernel
theorem dX8_threeRoots_1 : decode cX8_threeRoots 1 = .ok (.getfield 94, 3) := by decide +kernel
theorem dX8_threeRoots_4 : decode cX8_threeRoots 4 = .ok (.iconst 0, 1) := by decide +kernel
theorem dX8_threeRoots_5 : decode cX8_threeRoots 5 = .ok (.laload, 1) := by decide +kernel
theorem dX8_threeRoots_6 : decode cX8_threeRoots 6 = .ok (.lstore_n 1, 1) := by decide +kernel
theorem dX8_threeRoots_7 : decode cX8_threeRoots 7 = .ok (.aload_n 0, 1) := by decide +kernel
theorem dX8_threeRoots_8 : decode cX8_threeRoots 8 = .ok (.getfield 94, 3) := by decide +kernel
theorem dX8_threeRoots_11 : decode cX8_threeRoots 11 = .ok (.iconst 1, 1) := by decide +kernel
theorem dX8_threeRoots_12 : decode cX8_threeRoots 12 = .ok (.laload, 1) := by decide +kernel
theorem dX8_threeRoots_13 : decode cX8_threeRoots 13 = .ok (.lstore_n 3, 1) := by decide +kernel
theorem dX8_threeRoots_14 : decode cX8_threeRoots 14 = .ok (.aload_n 0, 1) := by decide +kernel
theorem dX8_threeRoots_15 : decode cX8_threeRoots 15 = .ok (.getfield 94, 3) := by decide +kernel
theorem dX8_threeRoots_18 : decode cX8_threeRoots 18 = .ok (.iconst 2, 1) := by decide +kernel
theorem dX8_threeRoots_19 : decode cX8_threeRoots 19 = .ok (.laload, 1) := by decide +kernel
theorem dX8_threeRoots_20 : decode cX8_threeRoots 20 = .ok (.lstore 5, 2) := by decide +kernel
theorem dX8_threeRoots_22 : decode cX8_threeRoots 22 = .ok (.aload_n 0, 1) := by decide +kernel
theorem dX8_threeRoots_23 : decode cX8_threeRoots 23 = .ok (.getfield 94, 3) := by decide +kernel
theorem dX8_threeRoots_26 : decode cX8_threeRoots 26 = .ok (.iconst 3, 1) := by decide +kernel
theorem dX8_threeRoots_27 : decode cX8_threeRoots 27 = .ok (.laload, 1) := by decide +kernel
theorem dX8_threeRoots_28 : decode cX8_threeRoots 28 = .ok (.lstore 7, 2) := by decide +kernel
theorem dX8_threeRoots_30 : decode cX8_threeRoots 30 = .ok (.ldc2_w 310, 3) := by decide +kernel
theorem dX8_threeRoots_33 : decode cX8_threeRoots 33 = .ok (.lload_n 1, 1) := by decide +kernel
theorem dX8_threeRoots_34 : decode cX8_threeRoots 34 = .ok (.lmul, 1) := by decide +kernel
theorem dX8_threeRoots_35 : decode cX8_threeRoots 35 = .ok (.lload_n 3, 1) := by decide +kernel
theorem dX8_threeRoots_36 : decode cX8_threeRoots 36 = .ok (.lmul, 1) := by decide +kernel
theorem dX8_threeRoots_37 : decode cX8_threeRoots 37 = .ok (.lload 5, 2) := by decide +kernel
theorem dX8_threeRoots_39 : decode cX8_threeRoots 39 = .ok (.lmul, 1) := by decide +kernel
theorem dX8_threeRoots_40 : decode cX8_threeRoots 40 = .ok (.lload 7, 2) := by decide +kernel
theorem dX8_threeRoots_42 : decode cX8_threeRoots 42 = .ok (.lmul, 1) := by decide +kernel
theorem dX8_threeRoots_43 : decode cX8_threeRoots 43 = .ok (.ldc2_w 301, 3) := by decide +kernel
theorem dX8_threeRoots_46 : decode cX8_threeRoots 46 = .ok (.lload_n 3, 1) := by decide +kernel
theorem dX8_threeRoots_47 : decode cX8_threeRoots 47 = .ok (.lmul, 1) := by decide +kernel
theorem dX8_threeRoots_48 : decode cX8_threeRoots 48 = .ok (.lload_n 3, 1) := by decide +kernel
theorem dX8_threeRoots_49 : decode cX8_threeRoots 49 = .ok (.lmul, 1) := by decide +kernel
theorem dX8_threeRoots_50 : decode cX8_threeRoots 50 = .ok (.lload_n 3, 1) := by decide +kernel
theorem dX8_threeRoots_51 : decode cX8_threeRoots 51 = .ok (.lmul, 1) := by decide +kernel
theorem dX8_threeRoots_52 : decode cX8_threeRoots 52 = .ok (.lload 7, 2) := by decide +kernel
theorem dX8_threeRoots_54 : decode cX8_threeRoots 54 = .ok (.lmul, 1) := by decide +kernel
theorem dX8_threeRoots_55 : decode cX8_threeRoots 55 = .ok (.lsub, 1) := by decide +kernel
theorem dX8_threeRoots_56 : decode cX8_threeRoots 56 = .ok (.lload_n 3, 1) := by decide +kernel
theorem dX8_threeRoots_57 : decode cX8_threeRoots 57 = .ok (.lload_n 3, 1) := by decide +kernel
theorem dX8_threeRoots_58 : decode cX8_threeRoots 58 = .ok (.lmul, 1) := by decide +kernel
theorem dX8_threeRoots_59 : decode cX8_threeRoots 59 = .ok (.lload 5, 2) := by decide +kernel
theorem dX8_threeRoots_61 : decode cX8_threeRoots 61 = .ok (.lmul, 1) := by decide +kernel
theorem dX8_threeRoots_62 : decode cX8_threeRoots 62 = .ok (.lload 5, 2) := by decide +kernel
theorem dX8_threeRoots_64 : decode cX8_threeRoots 64 = .ok (.lmul, 1) := by decide +kernel
theorem dX8_threeRoots_65 : decode cX8_threeRoots 65 = .ok (.ladd, 1) := by decide +kernel
theorem dX8_threeRoots_66 : decode cX8_threeRoots 66 = .ok (.ldc2_w 301, 3) := by decide +kernel
theorem dX8_threeRoots_69 : decode cX8_threeRoots 69 = .ok (.lload_n 1, 1) := by decide +kernel
theorem dX8_threeRoots_70 : decode cX8_threeRoots 70 = .ok (.lmul, 1) := by decide +kernel
theorem dX8_threeRoots_71 : decode cX8_threeRoots 71 = .ok (.lload 5, 2) := by decide +kernel
theorem dX8_threeRoots_73 : decode cX8_threeRoots 73 = .ok (.lmul, 1) := by decide +kernel
theorem dX8_threeRoots_74 : decode cX8_threeRoots 74 = .ok (.lload 5, 2) := by decide +kernel
theorem dX8_threeRoots_76 : decode cX8_threeRoots 76 = .ok (.lmul, 1) := by decide +kernel
theorem dX8_threeRoots_77 : decode cX8_threeRoots 77 = .ok (.lload 5, 2) := by decide +kernel
theorem dX8_threeRoots_79 : decode cX8_threeRoots 79 = .ok (.lmul, 1) := by decide +kernel
theorem dX8_threeRoots_80 : decode cX8_threeRoots 80 = .ok (.lsub, 1) := by decide +kernel
theorem dX8_threeRoots_81 : decode cX8_threeRoots 81 = .ok (.ldc2_w 312, 3) := by decide +kernel
theorem dX8_threeRoots_84 : decode cX8_threeRoots 84 = .ok (.lload_n 1, 1) := by decide +kernel
theorem dX8_threeRoots_85 : decode cX8_threeRoots 85 = .ok (.lmul, 1) := by decide +kernel
theorem dX8_threeRoots_86 : decode cX8_threeRoots 86 = .ok (.lload_n 1, 1) := by decide +kernel
theorem dX8_threeRoots_87 : decode cX8_threeRoots 87 = .ok (.lmul, 1) := by decide +kernel
theorem dX8_threeRoots_88 : decode cX8_threeRoots 88 = .ok (.lload 7, 2) := by decide +kernel
theorem dX8_threeRoots_90 : decode cX8_threeRoots 90 = .ok (.lmul, 1) := by decide +kernel
theorem dX8_threeRoots_91 : decode cX8_threeRoots 91 = .ok (.lload 7, 2) := by decide +kernel
theorem dX8_threeRoots_93 : decode cX8_threeRoots 93 = .ok (.lmul, 1) := by decide +kernel
theorem dX8_threeRoots_94 : decode cX8_threeRoots 94 = .ok (.lsub, 1) := by decide +kernel
theorem dX8_threeRoots_95 : decode cX8_threeRoots 95 = .ok (.lconst 0, 1) := by decide +kernel
theorem dX8_threeRoots_96 : decode cX8_threeRoots 96 = .ok (.lcmp, 1) := by decide +kernel
theorem dX8_threeRoots_97 : decode cX8_threeRoots 97 = .ok (.ifCond .le 7, 3) := by decide +kernel
theorem dX8_threeRoots_100 : decode cX8_threeRoots 100 = .ok (.iconst 1, 1) := by decide +kernel
theorem dX8_threeRoots_101 : decode cX8_threeRoots 101 = .ok (.goto 4, 3) := by decide +kernel
theorem dX8_threeRoots_104 : decode cX8_threeRoots 104 = .ok (.iconst 0, 1) := by decide +kernel
theorem dX8_threeRoots_105 : decode cX8_threeRoots 105 = .ok (.ireturn, 1) := by decide +kernel
theorem dX8_layQuartic_0 : decode cX8_layQuartic 0 = .ok (.aload_n 0, 1) := by decide +kernel
theorem dX8_layQuartic_1 : decode cX8_layQuartic 1 = .ok (.getfield 94, 3) := by decide +kernel
theorem dX8_layQuartic_4 : decode cX8_layQuartic 4 = .ok (.iconst 0, 1) := by decide +kernel
theorem dX8_layQuartic_5 : decode cX8_layQuartic 5 = .ok (.laload, 1) := by decide +kernel
theorem dX8_layQuartic_6 : decode cX8_layQuartic 6 = .ok (.lstore_n 1, 1) := by decide +kernel
theorem dX8_layQuartic_7 : decode cX8_layQuartic 7 = .ok (.aload_n 0, 1) := by decide +kernel
theorem dX8_layQuartic_8 : decode cX8_layQuartic 8 = .ok (.getfield 94, 3) := by decide +kernel
theorem dX8_layQuartic_11 : decode cX8_layQuartic 11 = .ok (.iconst 1, 1) := by decide +kernel
theorem dX8_layQuartic_12 : decode cX8_layQuartic 12 = .ok (.laload, 1) := by decide +kernel
theorem dX8_layQuartic_13 : decode cX8_layQuartic 13 = .ok (.lstore_n 3, 1) := by decide +kernel
theorem dX8_layQuartic_14 : decode cX8_layQuartic 14 = .ok (.aload_n 0, 1) := by decide +kernel
theorem dX8_layQuartic_15 : decode cX8_layQuartic 15 = .ok (.getfield 94, 3) := by decide +kernel
theorem dX8_layQuartic_18 : decode cX8_layQuartic 18 = .ok (.iconst 2, 1) := by decide +kernel
theorem dX8_layQuartic_19 : decode cX8_layQuartic 19 = .ok (.laload, 1) := by decide +kernel
theorem dX8_layQuartic_20 : decode cX8_layQuartic 20 = .ok (.lstore 5, 2) := by decide +kernel
theorem dX8_layQuartic_22 : decode cX8_layQuartic 22 = .ok (.aload_n 0, 1) := by decide +kernel
theorem dX8_layQuartic_23 : decode cX8_layQuartic 23 = .ok (.getfield 94, 3) := by decide +kernel
theorem dX8_layQuartic_26 : decode cX8_layQuartic 26 = .ok (.iconst 3, 1) := by decide +kernel
theorem dX8_layQuartic_27 : decode cX8_layQuartic 27 = .ok (.laload, 1) := by decide +kernel
theorem dX8_layQuartic_28 : decode cX8_layQuartic 28 = .ok (.lstore 7, 2) := by decide +kernel
theorem dX8_layQuartic_30 : decode cX8_layQuartic 30 = .ok (.aload_n 0, 1) := by decide +kernel
theorem dX8_layQuartic_31 : decode cX8_layQuartic 31 = .ok (.getfield 94, 3) := by decide +kernel
theorem dX8_layQuartic_34 : decode cX8_layQuartic 34 = .ok (.iconst 4, 1) := by decide +kernel
theorem dX8_layQuartic_35 : decode cX8_layQuartic 35 = .ok (.laload, 1) := by decide +kernel
theorem dX8_layQuartic_36 : decode cX8_layQuartic 36 = .ok (.lstore 9, 2) := by decide +kernel
theorem dX8_layQuartic_38 : decode cX8_layQuartic 38 = .ok (.ldc2_w 314, 3) := by decide +kernel
theorem dX8_layQuartic_41 : decode cX8_layQuartic 41 = .ok (.lload_n 1, 1) := by decide +kernel
theorem dX8_layQuartic_42 : decode cX8_layQuartic 42 = .ok (.lmul, 1) := by decide +kernel
theorem dX8_layQuartic_43 : decode cX8_layQuartic 43 = .ok (.lload 9, 2) := by decide +kernel
theorem dX8_layQuartic_45 : decode cX8_layQuartic 45 = .ok (.lmul, 1) := by decide +kernel
theorem dX8_layQuartic_46 : decode cX8_layQuartic 46 = .ok (.ldc2_w 316, 3) := by decide +kernel
theorem dX8_layQuartic_49 : decode cX8_layQuartic 49 = .ok (.lload_n 3, 1) := by decide +kernel
theorem dX8_layQuartic_50 : decode cX8_layQuartic 50 = .ok (.lmul, 1) := by decide +kernel
theorem dX8_layQuartic_51 : decode cX8_layQuartic 51 = .ok (.lload 7, 2) := by decide +kernel
theorem dX8_layQuartic_53 : decode cX8_layQuartic 53 = .ok (.lmul, 1) := by decide +kernel
theorem dX8_layQuartic_54 : decode cX8_layQuartic 54 = .ok (.lsub, 1) := by decide +kernel
theorem dX8_layQuartic_55 : decode cX8_layQuartic 55 = .ok (.lload 5, 2) := by decide +kernel
theorem dX8_layQuartic_57 : decode cX8_layQuartic 57 = .ok (.lload 5, 2) := by decide +kernel
theorem dX8_layQuartic_59 : decode cX8_layQuartic 59 = .ok (.lmul, 1) := by decide +kernel
theorem dX8_layQuartic_60 : decode cX8_layQuartic 60 = .ok (.ladd, 1) := by decide +kernel
theorem dX8_layQuartic_61 : decode cX8_layQuartic 61 = .ok (.lstore 11, 2) := by decide +kernel
theorem dX8_layQuartic_63 : decode cX8_layQuartic 63 = .ok (.ldc2_w 318, 3) := by decide +kernel
theorem dX8_layQuartic_66 : decode cX8_layQuartic 66 = .ok (.lload_n 1, 1) := by decide +kernel
theorem dX8_layQuartic_67 : decode cX8_layQuartic 67 = .ok (.lmul, 1) := by decide +kernel
theorem dX8_layQuartic_68 : decode cX8_layQuartic 68 = .ok (.lload 5, 2) := by decide +kernel
theorem dX8_layQuartic_70 : decode cX8_layQuartic 70 = .ok (.lmul, 1) := by decide +kernel
theorem dX8_layQuartic_71 : decode cX8_layQuartic 71 = .ok (.lload 9, 2) := by decide +kernel
theorem dX8_layQuartic_73 : decode cX8_layQuartic 73 = .ok (.lmul, 1) := by decide +kernel
theorem dX8_layQuartic_74 : decode cX8_layQuartic 74 = .ok (.ldc2_w 320, 3) := by decide +kernel
theorem dX8_layQuartic_77 : decode cX8_layQuartic 77 = .ok (.lload_n 3, 1) := by decide +kernel
theorem dX8_layQuartic_78 : decode cX8_layQuartic 78 = .ok (.lmul, 1) := by decide +kernel
theorem dX8_layQuartic_79 : decode cX8_layQuartic 79 = .ok (.lload 5, 2) := by decide +kernel
theorem dX8_layQuartic_81 : decode cX8_layQuartic 81 = .ok (.lmul, 1) := by decide +kernel
theorem dX8_layQuartic_82 : decode cX8_layQuartic 82 = .ok (.lload 7, 2) := by decide +kernel
theorem dX8_layQuartic_84 : decode cX8_layQuartic 84 = .ok (.lmul, 1) := by decide +kernel
theorem dX8_layQuartic_85 : decode cX8_layQuartic 85 = .ok (.ladd, 1) := by decide +kernel
theorem dX8_layQuartic_86 : decode cX8_layQuartic 86 = .ok (.ldc2_w 312, 3) := by decide +kernel
theorem dX8_layQuartic_89 : decode cX8_layQuartic 89 = .ok (.lload_n 1, 1) := by decide +kernel
theorem dX8_layQuartic_90 : decode cX8_layQuartic 90 = .ok (.lmul, 1) := by decide +kernel
theorem dX8_layQuartic_91 : decode cX8_layQuartic 91 = .ok (.lload 7, 2) := by decide +kernel
theorem dX8_layQuartic_93 : decode cX8_layQuartic 93 = .ok (.lmul, 1) := by decide +kernel
theorem dX8_layQuartic_94 : decode cX8_layQuartic 94 = .ok (.lload 7, 2) := by decide +kernel
theorem dX8_layQuartic_96 : decode cX8_layQuartic 96 = .ok (.lmul, 1) := by decide +kernel
theorem dX8_layQuartic_97 : decode cX8_layQuartic 97 = .ok (.lsub, 1) := by decide +kernel
theorem dX8_layQuartic_98 : decode cX8_layQuartic 98 = .ok (.ldc2_w 312, 3) := by decide +kernel
theorem dX8_layQuartic_101 : decode cX8_layQuartic 101 = .ok (.lload 9, 2) := by decide +kernel
theorem dX8_layQuartic_103 : decode cX8_layQuartic 103 = .ok (.lmul, 1) := by decide +kernel
theorem dX8_layQuartic_104 : decode cX8_layQuartic 104 = .ok (.lload_n 3, 1) := by decide +kernel
theorem dX8_layQuartic_105 : decode cX8_layQuartic 105 = .ok (.lmul, 1) := by decide +kernel
theorem dX8_layQuartic_106 : decode cX8_layQuartic 106 = .ok (.lload_n 3, 1) := by decide +kernel
theorem dX8_layQuartic_107 : decode cX8_layQuartic 107 = .ok (.lmul, 1) := by decide +kernel
theorem dX8_layQuartic_108 : decode cX8_layQuartic 108 = .ok (.lsub, 1) := by decide +kernel
theorem dX8_layQuartic_109 : decode cX8_layQuartic 109 = .ok (.ldc2_w 322, 3) := by decide +kernel
theorem dX8_layQuartic_112 : decode cX8_layQuartic 112 = .ok (.lload 5, 2) := by decide +kernel
theorem dX8_layQuartic_114 : decode cX8_layQuartic 114 = .ok (.lmul, 1) := by decide +kernel
theorem dX8_layQuartic_115 : decode cX8_layQuartic 115 = .ok (.lload 5, 2) := by decide +kernel
theorem dX8_layQuartic_117 : decode cX8_layQuartic 117 = .ok (.lmul, 1) := by decide +kernel
theorem dX8_layQuartic_118 : decode cX8_layQuartic 118 = .ok (.lload 5, 2) := by decide +kernel
theorem dX8_layQuartic_120 : decode cX8_layQuartic 120 = .ok (.lmul, 1) := by decide +kernel
theorem dX8_layQuartic_121 : decode cX8_layQuartic 121 = .ok (.lsub, 1) := by decide +kernel
theorem dX8_layQuartic_122 : decode cX8_layQuartic 122 = .ok (.lstore 13, 2) := by decide +kernel
theorem dX8_layQuartic_124 : decode cX8_layQuartic 124 = .ok (.ldc2_w 324, 3) := by decide +kernel
theorem dX8_layQuartic_127 : decode cX8_layQuartic 127 = .ok (.lload_n 1, 1) := by decide +kernel
theorem dX8_layQuartic_128 : decode cX8_layQuartic 128 = .ok (.lmul, 1) := by decide +kernel
theorem dX8_layQuartic_129 : decode cX8_layQuartic 129 = .ok (.lload 5, 2) := by decide +kernel
theorem dX8_layQuartic_131 : decode cX8_layQuartic 131 = .ok (.lmul, 1) := by decide +kernel
theorem dX8_layQuartic_132 : decode cX8_layQuartic 132 = .ok (.ldc2_w 316, 3) := by decide +kernel
theorem dX8_layQuartic_135 : decode cX8_layQuartic 135 = .ok (.lload_n 3, 1) := by decide +kernel
theorem dX8_layQuartic_136 : decode cX8_layQuartic 136 = .ok (.lmul, 1) := by decide +kernel
theorem dX8_layQuartic_137 : decode cX8_layQuartic 137 = .ok (.lload_n 3, 1) := by decide +kernel
theorem dX8_layQuartic_138 : decode cX8_layQuartic 138 = .ok (.lmul, 1) := by decide +kernel
theorem dX8_layQuartic_139 : decode cX8_layQuartic 139 = .ok (.lsub, 1) := by decide +kernel
theorem dX8_layQuartic_140 : decode cX8_layQuartic 140 = .ok (.lstore 15, 2) := by decide +kernel
theorem dX8_layQuartic_142 : decode cX8_layQuartic 142 = .ok (.iconst (-1), 1) := by decide +kernel
theorem dX8_layQuartic_143 : decode cX8_layQuartic 143 = .ok (.istore 17, 2) := by decide +kernel
theorem dX8_layQuartic_145 : decode cX8_layQuartic 145 = .ok (.lload 11, 2) := by decide +kernel
theorem dX8_layQuartic_147 : decode cX8_layQuartic 147 = .ok (.lconst 0, 1) := by decide +kernel
theorem dX8_layQuartic_148 : decode cX8_layQuartic 148 = .ok (.lcmp, 1) := by decide +kernel
theorem dX8_layQuartic_149 : decode cX8_layQuartic 149 = .ok (.ifCond .gt 17, 3) := by decide +kernel
theorem dX8_layQuartic_152 : decode cX8_layQuartic 152 = .ok (.lload 11, 2) := by decide +kernel
theorem dX8_layQuartic_154 : decode cX8_layQuartic 154 = .ok (.lconst 0, 1) := by decide +kernel
theorem dX8_layQuartic_155 : decode cX8_layQuartic 155 = .ok (.lcmp, 1) := by decide +kernel
theorem dX8_layQuartic_156 : decode cX8_layQuartic 156 = .ok (.ifCond .ne 97, 3) := by decide +kernel
theorem dX8_layQuartic_159 : decode cX8_layQuartic 159 = .ok (.lload 13, 2) := by decide +kernel
theorem dX8_layQuartic_161 : decode cX8_layQuartic 161 = .ok (.lconst 0, 1) := by decide +kernel
theorem dX8_layQuartic_162 : decode cX8_layQuartic 162 = .ok (.lcmp, 1) := by decide +kernel
theorem dX8_layQuartic_163 : decode cX8_layQuartic 163 = .ok (.ifCond .ne 90, 3) := by decide +kernel
theorem dX8_layQuartic_166 : decode cX8_layQuartic 166 = .ok (.aload_n 0, 1) := by decide +kernel
theorem dX8_layQuartic_167 : decode cX8_layQuartic 167 = .ok (.getfield 76, 3) := by decide +kernel
theorem dX8_layQuartic_170 : decode cX8_layQuartic 170 = .ok (.invokestatic 326, 3) := by decide +kernel
theorem dX8_layQuartic_173 : decode cX8_layQuartic 173 = .ok (.aload_n 0, 1) := by decide +kernel
theorem dX8_layQuartic_174 : decode cX8_layQuartic 174 = .ok (.aload_n 0, 1) := by decide +kernel
theorem dX8_layQuartic_175 : decode cX8_layQuartic 175 = .ok (.getfield 76, 3) := by decide +kernel
theorem dX8_layQuartic_178 : decode cX8_layQuartic 178 = .ok (.ldc2_w 301, 3) := by decide +kernel
theorem dX8_layQuartic_181 : decode cX8_layQuartic 181 = .ok (.invokevirtual 330, 3) := by decide +kernel
theorem dX8_layQuartic_184 : decode cX8_layQuartic 184 = .ok (.aload_n 0, 1) := by decide +kernel
theorem dX8_layQuartic_185 : decode cX8_layQuartic 185 = .ok (.aload_n 0, 1) := by decide +kernel
theorem dX8_layQuartic_186 : decode cX8_layQuartic 186 = .ok (.getfield 76, 3) := by decide +kernel
theorem dX8_layQuartic_189 : decode cX8_layQuartic 189 = .ok (.lload 11, 2) := by decide +kernel
theorem dX8_layQuartic_191 : decode cX8_layQuartic 191 = .ok (.invokevirtual 330, 3) := by decide +kernel
theorem dX8_layQuartic_194 : decode cX8_layQuartic 194 = .ok (.aload_n 0, 1) := by decide +kernel
theorem dX8_layQuartic_195 : decode cX8_layQuartic 195 = .ok (.aload_n 0, 1) := by decide +kernel
theorem dX8_layQuartic_196 : decode cX8_layQuartic 196 = .ok (.getfield 76, 3) := by decide +kernel
theorem dX8_layQuartic_199 : decode cX8_layQuartic 199 = .ok (.lload 11, 2) := by decide +kernel
theorem dX8_layQuartic_201 : decode cX8_layQuartic 201 = .ok (.invokevirtual 330, 3) := by decide +kernel
theorem dX8_layQuartic_204 : decode cX8_layQuartic 204 = .ok (.aload_n 0, 1) := by decide +kernel
theorem dX8_layQuartic_205 : decode cX8_layQuartic 205 = .ok (.aload_n 0, 1) := by decide +kernel
theorem dX8_layQuartic_206 : decode cX8_layQuartic 206 = .ok (.getfield 76, 3) := by decide +kernel
theorem dX8_layQuartic_209 : decode cX8_layQuartic 209 = .ok (.lload 11, 2) := by decide +kernel
theorem dX8_layQuartic_211 : decode cX8_layQuartic 211 = .ok (.invokevirtual 330, 3) := by decide +kernel
theorem dX8_layQuartic_214 : decode cX8_layQuartic 214 = .ok (.aload_n 0, 1) := by decide +kernel
theorem dX8_layQuartic_215 : decode cX8_layQuartic 215 = .ok (.getfield 79, 3) := by decide +kernel
theorem dX8_layQuartic_218 : decode cX8_layQuartic 218 = .ok (.invokestatic 326, 3) := by decide +kernel
theorem dX8_layQuartic_221 : decode cX8_layQuartic 221 = .ok (.aload_n 0, 1) := by decide +kernel
theorem dX8_layQuartic_222 : decode cX8_layQuartic 222 = .ok (.aload_n 0, 1) := by decide +kernel
theorem dX8_layQuartic_223 : decode cX8_layQuartic 223 = .ok (.getfield 79, 3) := by decide +kernel
theorem dX8_layQuartic_226 : decode cX8_layQuartic 226 = .ok (.lload 13, 2) := by decide +kernel
theorem dX8_layQuartic_228 : decode cX8_layQuartic 228 = .ok (.invokestatic 122, 3) := by decide +kernel
theorem dX8_layQuartic_231 : decode cX8_layQuartic 231 = .ok (.invokevirtual 330, 3) := by decide +kernel
theorem dX8_layQuartic_234 : decode cX8_layQuartic 234 = .ok (.aload_n 0, 1) := by decide +kernel
theorem dX8_layQuartic_235 : decode cX8_layQuartic 235 = .ok (.aload_n 0, 1) := by decide +kernel
theorem dX8_layQuartic_236 : decode cX8_layQuartic 236 = .ok (.getfield 79, 3) := by decide +kernel
theorem dX8_layQuartic_239 : decode cX8_layQuartic 239 = .ok (.lload 13, 2) := by decide +kernel
theorem dX8_layQuartic_241 : decode cX8_layQuartic 241 = .ok (.invokestatic 122, 3) := by decide +kernel
theorem dX8_layQuartic_244 : decode cX8_layQuartic 244 = .ok (.invokevirtual 330, 3) := by decide +kernel
theorem dX8_layQuartic_247 : decode cX8_layQuartic 247 = .ok (.aload_n 0, 1) := by decide +kernel
theorem dX8_layQuartic_248 : decode cX8_layQuartic 248 = .ok (.invokevirtual 334, 3) := by decide +kernel
theorem dX8_layQuartic_251 : decode cX8_layQuartic 251 = .ok (.istore 17, 2) := by decide +kernel
theorem dX8_layQuartic_253 : decode cX8_layQuartic 253 = .ok (.aload_n 0, 1) := by decide +kernel
theorem dX8_layQuartic_254 : decode cX8_layQuartic 254 = .ok (.iload 17, 2) := by decide +kernel
theorem dX8_layQuartic_256 : decode cX8_layQuartic 256 = .ok (.ifCond .ne 7, 3) := by decide +kernel
theorem dX8_layQuartic_259 : decode cX8_layQuartic 259 = .ok (.iconst 1, 1) := by decide +kernel
theorem dX8_layQuartic_260 : decode cX8_layQuartic 260 = .ok (.goto 4, 3) := by decide +kernel
theorem dX8_layQuartic_263 : decode cX8_layQuartic 263 = .ok (.iconst 0, 1) := by decide +kernel
theorem dX8_layQuartic_264 : decode cX8_layQuartic 264 = .ok (.putfield 295, 3) := by decide +kernel
theorem dX8_layQuartic_267 : decode cX8_layQuartic 267 = .ok (.iload 17, 2) := by decide +kernel
theorem dX8_layQuartic_269 : decode cX8_layQuartic 269 = .ok (.ifCond .ge 11, 3) := by decide +kernel
theorem dX8_layQuartic_272 : decode cX8_layQuartic 272 = .ok (.aload_n 0, 1) := by decide +kernel
theorem dX8_layQuartic_273 : decode cX8_layQuartic 273 = .ok (.iconst 2, 1) := by decide +kernel
theorem dX8_layQuartic_274 : decode cX8_layQuartic 274 = .ok (.putfield 298, 3) := by decide +kernel
theorem dX8_layQuartic_277 : decode cX8_layQuartic 277 = .ok (.goto 135, 3) := by decide +kernel
theorem dX8_layQuartic_280 : decode cX8_layQuartic 280 = .ok (.iload 17, 2) := by decide +kernel
theorem dX8_layQuartic_282 : decode cX8_layQuartic 282 = .ok (.ifCond .ne 22, 3) := by decide +kernel
theorem dX8_layQuartic_285 : decode cX8_layQuartic 285 = .ok (.aload_n 0, 1) := by decide +kernel
theorem dX8_layQuartic_286 : decode cX8_layQuartic 286 = .ok (.lload 15, 2) := by decide +kernel
theorem dX8_layQuartic_288 : decode cX8_layQuartic 288 = .ok (.lconst 0, 1) := by decide +kernel
theorem dX8_layQuartic_289 : decode cX8_layQuartic 289 = .ok (.lcmp, 1) := by decide +kernel
theorem dX8_layQuartic_290 : decode cX8_layQuartic 290 = .ok (.ifCond .ge 7, 3) := by decide +kernel
theorem dX8_layQuartic_293 : decode cX8_layQuartic 293 = .ok (.iconst 2, 1) := by decide +kernel
theorem dX8_layQuartic_294 : decode cX8_layQuartic 294 = .ok (.goto 4, 3) := by decide +kernel
theorem dX8_layQuartic_297 : decode cX8_layQuartic 297 = .ok (.iconst 0, 1) := by decide +kernel
theorem dX8_layQuartic_298 : decode cX8_layQuartic 298 = .ok (.putfield 298, 3) := by decide +kernel
theorem dX8_layQuartic_301 : decode cX8_layQuartic 301 = .ok (.goto 111, 3) := by decide +kernel
theorem dX8_layQuartic_304 : decode cX8_layQuartic 304 = .ok (.aload_n 0, 1) := by decide +kernel
theorem dX8_layQuartic_305 : decode cX8_layQuartic 305 = .ok (.getfield 76, 3) := by decide +kernel
theorem dX8_layQuartic_308 : decode cX8_layQuartic 308 = .ok (.invokestatic 326, 3) := by decide +kernel
theorem dX8_layQuartic_311 : decode cX8_layQuartic 311 = .ok (.aload_n 0, 1) := by decide +kernel
theorem dX8_layQuartic_312 : decode cX8_layQuartic 312 = .ok (.aload_n 0, 1) := by decide +kernel
theorem dX8_layQuartic_313 : decode cX8_layQuartic 313 = .ok (.getfield 76, 3) := by decide +kernel
theorem dX8_layQuartic_316 : decode cX8_layQuartic 316 = .ok (.lload 15, 2) := by decide +kernel
theorem dX8_layQuartic_318 : decode cX8_layQuartic 318 = .ok (.invokestatic 122, 3) := by decide +kernel
theorem dX8_layQuartic_321 : decode cX8_layQuartic 321 = .ok (.invokevirtual 330, 3) := by decide +kernel
theorem dX8_layQuartic_324 : decode cX8_layQuartic 324 = .ok (.aload_n 0, 1) := by decide +kernel
theorem dX8_layQuartic_325 : decode cX8_layQuartic 325 = .ok (.aload_n 0, 1) := by decide +kernel
theorem dX8_layQuartic_326 : decode cX8_layQuartic 326 = .ok (.getfield 76, 3) := by decide +kernel
theorem dX8_layQuartic_329 : decode cX8_layQuartic 329 = .ok (.lload 15, 2) := by decide +kernel
theorem dX8_layQuartic_331 : decode cX8_layQuartic 331 = .ok (.invokestatic 122, 3) := by decide +kernel
theorem dX8_layQuartic_334 : decode cX8_layQuartic 334 = .ok (.invokevirtual 330, 3) := by decide +kernel
theorem dX8_layQuartic_337 : decode cX8_layQuartic 337 = .ok (.aload_n 0, 1) := by decide +kernel
theorem dX8_layQuartic_338 : decode cX8_layQuartic 338 = .ok (.getfield 79, 3) := by decide +kernel
theorem dX8_layQuartic_341 : decode cX8_layQuartic 341 = .ok (.invokestatic 326, 3) := by decide +kernel
theorem dX8_layQuartic_344 : decode cX8_layQuartic 344 = .ok (.aload_n 0, 1) := by decide +kernel
theorem dX8_layQuartic_345 : decode cX8_layQuartic 345 = .ok (.aload_n 0, 1) := by decide +kernel
theorem dX8_layQuartic_346 : decode cX8_layQuartic 346 = .ok (.getfield 79, 3) := by decide +kernel
theorem dX8_layQuartic_349 : decode cX8_layQuartic 349 = .ok (.ldc2_w 338, 3) := by decide +kernel
theorem dX8_layQuartic_352 : decode cX8_layQuartic 352 = .ok (.invokevirtual 330, 3) := by decide +kernel
theorem dX8_layQuartic_355 : decode cX8_layQuartic 355 = .ok (.aload_n 0, 1) := by decide +kernel
theorem dX8_layQuartic_356 : decode cX8_layQuartic 356 = .ok (.aload_n 0, 1) := by decide +kernel
theorem dX8_layQuartic_357 : decode cX8_layQuartic 357 = .ok (.getfield 79, 3) := by decide +kernel
theorem dX8_layQuartic_360 : decode cX8_layQuartic 360 = .ok (.lload_n 1, 1) := by decide +kernel
theorem dX8_layQuartic_361 : decode cX8_layQuartic 361 = .ok (.invokestatic 122, 3) := by decide +kernel
theorem dX8_layQuartic_364 : decode cX8_layQuartic 364 = .ok (.invokevirtual 330, 3) := by decide +kernel
theorem dX8_layQuartic_367 : decode cX8_layQuartic 367 = .ok (.aload_n 0, 1) := by decide +kernel
theorem dX8_layQuartic_368 : decode cX8_layQuartic 368 = .ok (.aload_n 0, 1) := by decide +kernel
theorem dX8_layQuartic_369 : decode cX8_layQuartic 369 = .ok (.getfield 79, 3) := by decide +kernel
theorem dX8_layQuartic_372 : decode cX8_layQuartic 372 = .ok (.lload_n 1, 1) := by decide +kernel
theorem dX8_layQuartic_373 : decode cX8_layQuartic 373 = .ok (.invokestatic 122, 3) := by decide +kernel
theorem dX8_layQuartic_376 : decode cX8_layQuartic 376 = .ok (.invokevirtual 330, 3) := by decide +kernel
theorem dX8_layQuartic_379 : decode cX8_layQuartic 379 = .ok (.aload_n 0, 1) := by decide +kernel
theorem dX8_layQuartic_380 : decode cX8_layQuartic 380 = .ok (.aload_n 0, 1) := by decide +kernel
theorem dX8_layQuartic_381 : decode cX8_layQuartic 381 = .ok (.getfield 79, 3) := by decide +kernel
theorem dX8_layQuartic_384 : decode cX8_layQuartic 384 = .ok (.lload 11, 2) := by decide +kernel
theorem dX8_layQuartic_386 : decode cX8_layQuartic 386 = .ok (.invokevirtual 330, 3) := by decide +kernel
theorem dX8_layQuartic_389 : decode cX8_layQuartic 389 = .ok (.aload_n 0, 1) := by decide +kernel
theorem dX8_layQuartic_390 : decode cX8_layQuartic 390 = .ok (.lload 15, 2) := by decide +kernel
theorem dX8_layQuartic_392 : decode cX8_layQuartic 392 = .ok (.lconst 0, 1) := by decide +kernel
theorem dX8_layQuartic_393 : decode cX8_layQuartic 393 = .ok (.lcmp, 1) := by decide +kernel
theorem dX8_layQuartic_394 : decode cX8_layQuartic 394 = .ok (.ifCond .ge 14, 3) := by decide +kernel
theorem dX8_layQuartic_397 : decode cX8_layQuartic 397 = .ok (.aload_n 0, 1) := by decide +kernel
theorem dX8_layQuartic_398 : decode cX8_layQuartic 398 = .ok (.invokevirtual 334, 3) := by decide +kernel
theorem dX8_layQuartic_401 : decode cX8_layQuartic 401 = .ok (.ifCond .le 7, 3) := by decide +kernel
theorem dX8_layQuartic_404 : decode cX8_layQuartic 404 = .ok (.iconst 4, 1) := by decide +kernel
theorem dX8_layQuartic_405 : decode cX8_layQuartic 405 = .ok (.goto 4, 3) := by decide +kernel
theorem dX8_layQuartic_408 : decode cX8_layQuartic 408 = .ok (.iconst 0, 1) := by decide +kernel
