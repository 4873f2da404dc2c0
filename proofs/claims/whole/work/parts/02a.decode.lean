theorem dX0_init_0 : decode cX0_init 0 = .ok (.aload_n 0, 1) := by decide +kernel
theorem dX0_init_1 : decode cX0_init 1 = .ok (.invokespecial 3, 3) := by decide +kernel
theorem dX0_init_4 : decode cX0_init 4 = .ok (.aload_n 0, 1) := by decide +kernel
theorem dX0_init_5 : decode cX0_init 5 = .ok (.iconst 5, 1) := by decide +kernel
theorem dX0_init_6 : decode cX0_init 6 = .ok (.newarray .long, 2) := by decide +kernel
theorem dX0_init_8 : decode cX0_init 8 = .ok (.putfield 9, 3) := by decide +kernel
theorem dX0_init_11 : decode cX0_init 11 = .ok (.aload_n 0, 1) := by decide +kernel
theorem dX0_init_12 : decode cX0_init 12 = .ok (.iconst 5, 1) := by decide +kernel
theorem dX0_init_13 : decode cX0_init 13 = .ok (.newarray .long, 2) := by decide +kernel
theorem dX0_init_15 : decode cX0_init 15 = .ok (.putfield 15, 3) := by decide +kernel
theorem dX0_init_18 : decode cX0_init 18 = .ok (.aload_n 0, 1) := by decide +kernel
theorem dX0_init_19 : decode cX0_init 19 = .ok (.new 18, 3) := by decide +kernel
theorem dX0_init_22 : decode cX0_init 22 = .ok (.dup, 1) := by decide +kernel
theorem dX0_init_23 : decode cX0_init 23 = .ok (.invokespecial 20, 3) := by decide +kernel
theorem dX0_init_26 : decode cX0_init 26 = .ok (.putfield 21, 3) := by decide +kernel
theorem dX0_init_29 : decode cX0_init 29 = .ok (.aload_n 0, 1) := by decide +kernel
theorem dX0_init_30 : decode cX0_init 30 = .ok (.new 25, 3) := by decide +kernel
theorem dX0_init_33 : decode cX0_init 33 = .ok (.dup, 1) := by decide +kernel
theorem dX0_init_34 : decode cX0_init 34 = .ok (.invokespecial 27, 3) := by decide +kernel
theorem dX0_init_37 : decode cX0_init 37 = .ok (.putfield 28, 3) := by decide +kernel
theorem dX0_init_40 : decode cX0_init 40 = .ok (.aload_n 0, 1) := by decide +kernel
theorem dX0_init_41 : decode cX0_init 41 = .ok (.new 25, 3) := by decide +kernel
theorem dX0_init_44 : decode cX0_init 44 = .ok (.dup, 1) := by decide +kernel
theorem dX0_init_45 : decode cX0_init 45 = .ok (.invokespecial 27, 3) := by decide +kernel
theorem dX0_init_48 : decode cX0_init 48 = .ok (.putfield 32, 3) := by decide +kernel
theorem dX0_init_51 : decode cX0_init 51 = .ok (.aload_n 0, 1) := by decide +kernel
theorem dX0_init_52 : decode cX0_init 52 = .ok (.iconst 4, 1) := by decide +kernel
theorem dX0_init_53 : decode cX0_init 53 = .ok (.newarray .int, 2) := by decide +kernel
theorem dX0_init_55 : decode cX0_init 55 = .ok (.putfield 35, 3) := by decide +kernel
theorem dX0_init_58 : decode cX0_init 58 = .ok (.aload_n 0, 1) := by decide +kernel
theorem dX0_init_59 : decode cX0_init 59 = .ok (.iconst 4, 1) := by decide +kernel
theorem dX0_init_60 : decode cX0_init 60 = .ok (.newarray .int, 2) := by decide +kernel
theorem dX0_init_62 : decode cX0_init 62 = .ok (.putfield 39, 3) := by decide +kernel
theorem dX0_init_65 : decode cX0_init 65 = .ok (.return_, 1) := by decide +kernel
theorem dX0_read_0 : decode cX0_read 0 = .ok (.aload_n 0, 1) := by decide +kernel
theorem dX0_read_1 : decode cX0_read 1 = .ok (.aload_n 1, 1) := by decide +kernel
theorem dX0_read_2 : decode cX0_read 2 = .ok (.iload_n 2, 1) := by decide +kernel
theorem dX0_read_3 : decode cX0_read 3 = .ok (.aload_n 3, 1) := by decide +kernel
theorem dX0_read_4 : decode cX0_read 4 = .ok (.iconst 0, 1) := by decide +kernel
theorem dX0_read_5 : decode cX0_read 5 = .ok (.invokevirtual 42, 3) := by decide +kernel
theorem dX0_read_8 : decode cX0_read 8 = .ok (.lstore 5, 2) := by decide +kernel
theorem dX0_read_10 : decode cX0_read 10 = .ok (.aload_n 0, 1) := by decide +kernel
theorem dX0_read_11 : decode cX0_read 11 = .ok (.aload_n 1, 1) := by decide +kernel
theorem dX0_read_12 : decode cX0_read 12 = .ok (.iconst 0, 1) := by decide +kernel
theorem dX0_read_13 : decode cX0_read 13 = .ok (.aload_n 3, 1) := by decide +kernel
theorem dX0_read_14 : decode cX0_read 14 = .ok (.iload 4, 2) := by decide +kernel
theorem dX0_read_16 : decode cX0_read 16 = .ok (.invokevirtual 42, 3) := by decide +kernel
theorem dX0_read_19 : decode cX0_read 19 = .ok (.lstore 7, 2) := by decide +kernel
theorem dX0_read_21 : decode cX0_read 21 = .ok (.aload_n 0, 1) := by decide +kernel
theorem dX0_read_22 : decode cX0_read 22 = .ok (.aload_n 1, 1) := by decide +kernel
theorem dX0_read_23 : decode cX0_read 23 = .ok (.iload_n 2, 1) := by decide +kernel
theorem dX0_read_24 : decode cX0_read 24 = .ok (.aload_n 3, 1) := by decide +kernel
theorem dX0_read_25 : decode cX0_read 25 = .ok (.iload 4, 2) := by decide +kernel
theorem dX0_read_27 : decode cX0_read 27 = .ok (.invokevirtual 42, 3) := by decide +kernel
theorem dX0_read_30 : decode cX0_read 30 = .ok (.lstore 9, 2) := by decide +kernel
theorem dX0_read_32 : decode cX0_read 32 = .ok (.aload_n 0, 1) := by decide +kernel
theorem dX0_read_33 : decode cX0_read 33 = .ok (.aload_n 1, 1) := by decide +kernel
theorem dX0_read_34 : decode cX0_read 34 = .ok (.iload_n 2, 1) := by decide +kernel
theorem dX0_read_35 : decode cX0_read 35 = .ok (.ineg, 1) := by decide +kernel
theorem dX0_read_36 : decode cX0_read 36 = .ok (.aload_n 3, 1) := by decide +kernel
theorem dX0_read_37 : decode cX0_read 37 = .ok (.iload 4, 2) := by decide +kernel
theorem dX0_read_39 : decode cX0_read 39 = .ok (.invokevirtual 42, 3) := by decide +kernel
theorem dX0_read_42 : decode cX0_read 42 = .ok (.lstore 11, 2) := by decide +kernel
theorem dX0_read_44 : decode cX0_read 44 = .ok (.aload_n 0, 1) := by decide +kernel
theorem dX0_read_45 : decode cX0_read 45 = .ok (.aload_n 1, 1) := by decide +kernel
theorem dX0_read_46 : decode cX0_read 46 = .ok (.iconst 2, 1) := by decide +kernel
theorem dX0_read_47 : decode cX0_read 47 = .ok (.iload_n 2, 1) := by decide +kernel
theorem dX0_read_48 : decode cX0_read 48 = .ok (.imul, 1) := by decide +kernel
theorem dX0_read_49 : decode cX0_read 49 = .ok (.aload_n 3, 1) := by decide +kernel
theorem dX0_read_50 : decode cX0_read 50 = .ok (.iload 4, 2) := by decide +kernel
theorem dX0_read_52 : decode cX0_read 52 = .ok (.invokevirtual 42, 3) := by decide +kernel
theorem dX0_read_55 : decode cX0_read 55 = .ok (.lstore 13, 2) := by decide +kernel
theorem dX0_read_57 : decode cX0_read 57 = .ok (.lload 9, 2) := by decide +kernel
theorem dX0_read_59 : decode cX0_read 59 = .ok (.lload 11, 2) := by decide +kernel
theorem dX0_read_61 : decode cX0_read 61 = .ok (.ladd, 1) := by decide +kernel
theorem dX0_read_62 : decode cX0_read 62 = .ok (.ldc2_w 46, 3) := by decide +kernel
theorem dX0_read_65 : decode cX0_read 65 = .ok (.ldiv, 1) := by decide +kernel
theorem dX0_read_66 : decode cX0_read 66 = .ok (.lload 5, 2) := by decide +kernel
theorem dX0_read_68 : decode cX0_read 68 = .ok (.lsub, 1) := by decide +kernel
theorem dX0_read_69 : decode cX0_read 69 = .ok (.lload 7, 2) := by decide +kernel
theorem dX0_read_71 : decode cX0_read 71 = .ok (.lsub, 1) := by decide +kernel
theorem dX0_read_72 : decode cX0_read 72 = .ok (.lstore 15, 2) := by decide +kernel
theorem dX0_read_74 : decode cX0_read 74 = .ok (.lload 9, 2) := by decide +kernel
theorem dX0_read_76 : decode cX0_read 76 = .ok (.lload 11, 2) := by decide +kernel
theorem dX0_read_78 : decode cX0_read 78 = .ok (.lsub, 1) := by decide +kernel
theorem dX0_read_79 : decode cX0_read 79 = .ok (.ldc2_w 46, 3) := by decide +kernel
theorem dX0_read_82 : decode cX0_read 82 = .ok (.ldiv, 1) := by decide +kernel
theorem dX0_read_83 : decode cX0_read 83 = .ok (.lstore 17, 2) := by decide +kernel
theorem dX0_read_85 : decode cX0_read 85 = .ok (.lload 13, 2) := by decide +kernel
theorem dX0_read_87 : decode cX0_read 87 = .ok (.ldc2_w 48, 3) := by decide +kernel
theorem dX0_read_90 : decode cX0_read 90 = .ok (.lload 5, 2) := by decide +kernel
theorem dX0_read_92 : decode cX0_read 92 = .ok (.lmul, 1) := by decide +kernel
theorem dX0_read_93 : decode cX0_read 93 = .ok (.lsub, 1) := by decide +kernel
theorem dX0_read_94 : decode cX0_read 94 = .ok (.ldc2_w 50, 3) := by decide +kernel
theorem dX0_read_97 : decode cX0_read 97 = .ok (.lload 15, 2) := by decide +kernel
theorem dX0_read_99 : decode cX0_read 99 = .ok (.lmul, 1) := by decide +kernel
theorem dX0_read_100 : decode cX0_read 100 = .ok (.lsub, 1) := by decide +kernel
theorem dX0_read_101 : decode cX0_read 101 = .ok (.lload 7, 2) := by decide +kernel
theorem dX0_read_103 : decode cX0_read 103 = .ok (.lsub, 1) := by decide +kernel
theorem dX0_read_104 : decode cX0_read 104 = .ok (.ldc2_w 46, 3) := by decide +kernel
theorem dX0_read_107 : decode cX0_read 107 = .ok (.lload 17, 2) := by decide +kernel
theorem dX0_read_109 : decode cX0_read 109 = .ok (.lmul, 1) := by decide +kernel
theorem dX0_read_110 : decode cX0_read 110 = .ok (.lsub, 1) := by decide +kernel
theorem dX0_read_111 : decode cX0_read 111 = .ok (.ldc2_w 52, 3) := by decide +kernel
theorem dX0_read_114 : decode cX0_read 114 = .ok (.ldiv, 1) := by decide +kernel
theorem dX0_read_115 : decode cX0_read 115 = .ok (.lstore 19, 2) := by decide +kernel
theorem dX0_read_117 : decode cX0_read 117 = .ok (.lload 17, 2) := by decide +kernel
theorem dX0_read_119 : decode cX0_read 119 = .ok (.lload 19, 2) := by decide +kernel
theorem dX0_read_121 : decode cX0_read 121 = .ok (.lsub, 1) := by decide +kernel
theorem dX0_read_122 : decode cX0_read 122 = .ok (.lstore 21, 2) := by decide +kernel
theorem dX0_read_124 : decode cX0_read 124 = .ok (.aload_n 0, 1) := by decide +kernel
theorem dX0_read_125 : decode cX0_read 125 = .ok (.getfield 9, 3) := by decide +kernel
theorem dX0_read_128 : decode cX0_read 128 = .ok (.iconst 0, 1) := by decide +kernel
theorem dX0_read_129 : decode cX0_read 129 = .ok (.lload 5, 2) := by decide +kernel
theorem dX0_read_131 : decode cX0_read 131 = .ok (.lastore, 1) := by decide +kernel
theorem dX0_read_132 : decode cX0_read 132 = .ok (.aload_n 0, 1) := by decide +kernel
theorem dX0_read_133 : decode cX0_read 133 = .ok (.getfield 9, 3) := by decide +kernel
theorem dX0_read_136 : decode cX0_read 136 = .ok (.iconst 1, 1) := by decide +kernel
theorem dX0_read_137 : decode cX0_read 137 = .ok (.lload 19, 2) := by decide +kernel
theorem dX0_read_139 : decode cX0_read 139 = .ok (.lastore, 1) := by decide +kernel
theorem dX0_read_140 : decode cX0_read 140 = .ok (.aload_n 0, 1) := by decide +kernel
theorem dX0_read_141 : decode cX0_read 141 = .ok (.getfield 9, 3) := by decide +kernel
theorem dX0_read_144 : decode cX0_read 144 = .ok (.iconst 2, 1) := by decide +kernel
theorem dX0_read_145 : decode cX0_read 145 = .ok (.lload 15, 2) := by decide +kernel
theorem dX0_read_147 : decode cX0_read 147 = .ok (.lastore, 1) := by decide +kernel
theorem dX0_read_148 : decode cX0_read 148 = .ok (.aload_n 0, 1) := by decide +kernel
theorem dX0_read_149 : decode cX0_read 149 = .ok (.getfield 9, 3) := by decide +kernel
theorem dX0_read_152 : decode cX0_read 152 = .ok (.iconst 3, 1) := by decide +kernel
theorem dX0_read_153 : decode cX0_read 153 = .ok (.lload 21, 2) := by decide +kernel
theorem dX0_read_155 : decode cX0_read 155 = .ok (.lastore, 1) := by decide +kernel
theorem dX0_read_156 : decode cX0_read 156 = .ok (.aload_n 0, 1) := by decide +kernel
theorem dX0_read_157 : decode cX0_read 157 = .ok (.getfield 9, 3) := by decide +kernel
theorem dX0_read_160 : decode cX0_read 160 = .ok (.iconst 4, 1) := by decide +kernel
theorem dX0_read_161 : decode cX0_read 161 = .ok (.lload 7, 2) := by decide +kernel
theorem dX0_read_163 : decode cX0_read 163 = .ok (.lastore, 1) := by decide +kernel
theorem dX0_read_164 : decode cX0_read 164 = .ok (.aload_n 0, 1) := by decide +kernel
theorem dX0_read_165 : decode cX0_read 165 = .ok (.ldc2_w 54, 3) := by decide +kernel
theorem dX0_read_168 : decode cX0_read 168 = .ok (.lload 5, 2) := by decide +kernel
theorem dX0_read_170 : decode cX0_read 170 = .ok (.lmul, 1) := by decide +kernel
theorem dX0_read_171 : decode cX0_read 171 = .ok (.lload 7, 2) := by decide +kernel
theorem dX0_read_173 : decode cX0_read 173 = .ok (.lmul, 1) := by decide +kernel
theorem dX0_read_174 : decode cX0_read 174 = .ok (.ldc2_w 56, 3) := by decide +kernel
theorem dX0_read_177 : decode cX0_read 177 = .ok (.lload 19, 2) := by decide +kernel
theorem dX0_read_179 : decode cX0_read 179 = .ok (.lmul, 1) := by decide +kernel
theorem dX0_read_180 : decode cX0_read 180 = .ok (.lload 21, 2) := by decide +kernel
theorem dX0_read_182 : decode cX0_read 182 = .ok (.lmul, 1) := by decide +kernel
theorem dX0_read_183 : decode cX0_read 183 = .ok (.lsub, 1) := by decide +kernel
theorem dX0_read_184 : decode cX0_read 184 = .ok (.lload 15, 2) := by decide +kernel
theorem dX0_read_186 : decode cX0_read 186 = .ok (.lload 15, 2) := by decide +kernel
theorem dX0_read_188 : decode cX0_read 188 = .ok (.lmul, 1) := by decide +kernel
theorem dX0_read_189 : decode cX0_read 189 = .ok (.ladd, 1) := by decide +kernel
theorem dX0_read_190 : decode cX0_read 190 = .ok (.putfield 58, 3) := by decide +kernel
theorem dX0_read_193 : decode cX0_read 193 = .ok (.aload_n 0, 1) := by decide +kernel
theorem dX0_read_194 : decode cX0_read 194 = .ok (.ldc2_w 62, 3) := by decide +kernel
theorem dX0_read_197 : decode cX0_read 197 = .ok (.lload 5, 2) := by decide +kernel
theorem dX0_read_199 : decode cX0_read 199 = .ok (.lmul, 1) := by decide +kernel
theorem dX0_read_200 : decode cX0_read 200 = .ok (.lload 15, 2) := by decide +kernel
theorem dX0_read_202 : decode cX0_read 202 = .ok (.lmul, 1) := by decide +kernel
theorem dX0_read_203 : decode cX0_read 203 = .ok (.lload 7, 2) := by decide +kernel
theorem dX0_read_205 : decode cX0_read 205 = .ok (.lmul, 1) := by decide +kernel
theorem dX0_read_206 : decode cX0_read 206 = .ok (.ldc2_w 64, 3) := by decide +kernel
theorem dX0_read_209 : decode cX0_read 209 = .ok (.lload 19, 2) := by decide +kernel
theorem dX0_read_211 : decode cX0_read 211 = .ok (.lmul, 1) := by decide +kernel
theorem dX0_read_212 : decode cX0_read 212 = .ok (.lload 15, 2) := by decide +kernel
theorem dX0_read_214 : decode cX0_read 214 = .ok (.lmul, 1) := by decide +kernel
theorem dX0_read_215 : decode cX0_read 215 = .ok (.lload 21, 2) := by decide +kernel
theorem dX0_read_217 : decode cX0_read 217 = .ok (.lmul, 1) := by decide +kernel
theorem dX0_read_218 : decode cX0_read 218 = .ok (.ladd, 1) := by decide +kernel
theorem dX0_read_219 : decode cX0_read 219 = .ok (.ldc2_w 66, 3) := by decide +kernel
theorem dX0_read_222 : decode cX0_read 222 = .ok (.lload 5, 2) := by decide +kernel
theorem dX0_read_224 : decode cX0_read 224 = .ok (.lmul, 1) := by decide +kernel
theorem dX0_read_225 : decode cX0_read 225 = .ok (.lload 21, 2) := by decide +kernel
theorem dX0_read_227 : decode cX0_read 227 = .ok (.lmul, 1) := by decide +kernel
theorem dX0_read_228 : decode cX0_read 228 = .ok (.lload 21, 2) := by decide +kernel
theorem dX0_read_230 : decode cX0_read 230 = .ok (.lmul, 1) := by decide +kernel
theorem dX0_read_231 : decode cX0_read 231 = .ok (.lsub, 1) := by decide +kernel
theorem dX0_read_232 : decode cX0_read 232 = .ok (.ldc2_w 66, 3) := by decide +kernel
theorem dX0_read_235 : decode cX0_read 235 = .ok (.lload 7, 2) := by decide +kernel
theorem dX0_read_237 : decode cX0_read 237 = .ok (.lmul, 1) := by decide +kernel
theorem dX0_read_238 : decode cX0_read 238 = .ok (.lload 19, 2) := by decide +kernel
theorem dX0_read_240 : decode cX0_read 240 = .ok (.lmul, 1) := by decide +kernel
theorem dX0_read_241 : decode cX0_read 241 = .ok (.lload 19, 2) := by decide +kernel
theorem dX0_read_243 : decode cX0_read 243 = .ok (.lmul, 1) := by decide +kernel
theorem dX0_read_244 : decode cX0_read 244 = .ok (.lsub, 1) := by decide +kernel
theorem dX0_read_245 : decode cX0_read 245 = .ok (.ldc2_w 46, 3) := by decide +kernel
theorem dX0_read_248 : decode cX0_read 248 = .ok (.lload 15, 2) := by decide +kernel
theorem dX0_read_250 : decode cX0_read 250 = .ok (.lmul, 1) := by decide +kernel
theorem dX0_read_251 : decode cX0_read 251 = .ok (.lload 15, 2) := by decide +kernel
theorem dX0_read_253 : decode cX0_read 253 = .ok (.lmul, 1) := by decide +kernel
theorem dX0_read_254 : decode cX0_read 254 = .ok (.lload 15, 2) := by decide +kernel
theorem dX0_read_256 : decode cX0_read 256 = .ok (.lmul, 1) := by decide +kernel
theorem dX0_read_257 : decode cX0_read 257 = .ok (.lsub, 1) := by decide +kernel
theorem dX0_read_258 : decode cX0_read 258 = .ok (.putfield 68, 3) := by decide +kernel
theorem dX0_read_261 : decode cX0_read 261 = .ok (.return_, 1) := by decide +kernel
theorem dX0_worthOf_0 : decode cX0_worthOf 0 = .ok (.aload_n 0, 1) := by decide +kernel
theorem dX0_worthOf_1 : decode cX0_worthOf 1 = .ok (.getfield 21, 3) := by decide +kernel
theorem dX0_worthOf_4 : decode cX0_worthOf 4 = .ok (.aload_n 1, 1) := by decide +kernel
theorem dX0_worthOf_5 : decode cX0_worthOf 5 = .ok (.iload_n 2, 1) := by decide +kernel
theorem dX0_worthOf_6 : decode cX0_worthOf 6 = .ok (.i2l, 1) := by decide +kernel
theorem dX0_worthOf_7 : decode cX0_worthOf 7 = .ok (.aload_n 3, 1) := by decide +kernel
theorem dX0_worthOf_8 : decode cX0_worthOf 8 = .ok (.iload 4, 2) := by decide +kernel
theorem dX0_worthOf_10 : decode cX0_worthOf 10 = .ok (.i2l, 1) := by decide +kernel
theorem dX0_worthOf_11 : decode cX0_worthOf 11 = .ok (.invokevirtual 71, 3) := by decide +kernel
theorem dX0_worthOf_14 : decode cX0_worthOf 14 = .ok (.aload_n 0, 1) := by decide +kernel
theorem dX0_worthOf_15 : decode cX0_worthOf 15 = .ok (.getfield 21, 3) := by decide +kernel
theorem dX0_worthOf_18 : decode cX0_worthOf 18 = .ok (.invokevirtual 75, 3) := by decide +kernel
theorem dX0_worthOf_21 : decode cX0_worthOf 21 = .ok (.lreturn, 1) := by decide +kernel
theorem dX0_degree_0 : decode cX0_degree 0 = .ok (.iconst 0, 1) := by decide +kernel
theorem dX0_degree_1 : decode cX0_degree 1 = .ok (.istore_n 1, 1) := by decide +kernel
theorem dX0_degree_2 : decode cX0_degree 2 = .ok (.iload_n 1, 1) := by decide +kernel
theorem dX0_degree_3 : decode cX0_degree 3 = .ok (.iconst 5, 1) := by decide +kernel
theorem dX0_degree_4 : decode cX0_degree 4 = .ok (.if_icmp .ge 24, 3) := by decide +kernel
theorem dX0_degree_7 : decode cX0_degree 7 = .ok (.aload_n 0, 1) := by decide +kernel
theorem dX0_degree_8 : decode cX0_degree 8 = .ok (.getfield 9, 3) := by decide +kernel
theorem dX0_degree_11 : decode cX0_degree 11 = .ok (.iload_n 1, 1) := by decide +kernel
theorem dX0_degree_12 : decode cX0_degree 12 = .ok (.laload, 1) := by decide +kernel
theorem dX0_degree_13 : decode cX0_degree 13 = .ok (.lconst 0, 1) := by decide +kernel
theorem dX0_degree_14 : decode cX0_degree 14 = .ok (.lcmp, 1) := by decide +kernel
theorem dX0_degree_15 : decode cX0_degree 15 = .ok (.ifCond .eq 7, 3) := by decide +kernel
theorem dX0_degree_18 : decode cX0_degree 18 = .ok (.iconst 4, 1) := by decide +kernel
theorem dX0_degree_19 : decode cX0_degree 19 = .ok (.iload_n 1, 1) := by decide +kernel
theorem dX0_degree_20 : decode cX0_degree 20 = .ok (.isub, 1) := by decide +kernel
theorem dX0_degree_21 : decode cX0_degree 21 = .ok (.ireturn, 1) := by decide +kernel
theorem dX0_degree_22 : decode cX0_degree 22 = .ok (.iinc 1 1, 3) := by decide +kernel
theorem dX0_degree_25 : decode cX0_degree 25 = .ok (.goto (-23), 3) := by decide +kernel
theorem dX0_degree_28 : decode cX0_degree 28 = .ok (.iconst (-1), 1) := by decide +kernel
theorem dX0_degree_29 : decode cX0_degree 29 = .ok (.ireturn, 1) := by decide +kernel
theorem dX0_isNought_0 : decode cX0_isNought 0 = .ok (.aload_n 0, 1) := by decide +kernel
theorem dX0_isNought_1 : decode cX0_isNought 1 = .ok (.invokevirtual 79, 3) := by decide +kernel
theorem dX0_isNought_4 : decode cX0_isNought 4 = .ok (.ifCond .ge 7, 3) := by decide +kernel
theorem dX0_isNought_7 : decode cX0_isNought 7 = .ok (.iconst 1, 1) := by decide +kernel
theorem dX0_isNought_8 : decode cX0_isNought 8 = .ok (.goto 4, 3) := by decide +kernel
theorem dX0_isNought_11 : decode cX0_isNought 11 = .ok (.iconst 0, 1) := by decide +kernel
theorem dX0_isNought_12 : decode cX0_isNought 12 = .ok (.ireturn, 1) := by decide +kernel
theorem dX0_figures_0 : decode cX0_figures 0 = .ok (.aload_n 0, 1) := by decide +kernel
theorem dX0_figures_1 : decode cX0_figures 1 = .ok (.invokevirtual 79, 3) := by decide +kernel
theorem dX0_figures_4 : decode cX0_figures 4 = .ok (.tableswitch 56 0 4 #[54, 51, 46, 41, 36], 36) := by decide +kernel
theorem dX0_figures_40 : decode cX0_figures 40 = .ok (.aload_n 0, 1) := by decide +kernel
theorem dX0_figures_41 : decode cX0_figures 41 = .ok (.invokevirtual 83, 3) := by decide +kernel
theorem dX0_figures_44 : decode cX0_figures 44 = .ok (.ireturn, 1) := by decide +kernel
theorem dX0_figures_45 : decode cX0_figures 45 = .ok (.aload_n 0, 1) := by decide +kernel
theorem dX0_figures_46 : decode cX0_figures 46 = .ok (.invokevirtual 86, 3) := by decide +kernel
theorem dX0_figures_49 : decode cX0_figures 49 = .ok (.ireturn, 1) := by decide +kernel
theorem dX0_figures_50 : decode cX0_figures 50 = .ok (.aload_n 0, 1) := by decide +kernel
theorem dX0_figures_51 : decode cX0_figures 51 = .ok (.invokevirtual 89, 3) := by decide +kernel
theorem dX0_figures_54 : decode cX0_figures 54 = .ok (.ireturn, 1) := by decide +kernel
theorem dX0_figures_55 : decode cX0_figures 55 = .ok (.bipush 13, 2) := by decide +kernel
theorem dX0_figures_57 : decode cX0_figures 57 = .ok (.ireturn, 1) := by decide +kernel
theorem dX0_figures_58 : decode cX0_figures 58 = .ok (.iconst 4, 1) := by decide +kernel
theorem dX0_figures_59 : decode cX0_figures 59 = .ok (.ireturn, 1) := by decide +kernel
theorem dX0_figures_60 : decode cX0_figures 60 = .ok (.iconst 0, 1) := by decide +kernel
theorem dX0_figures_61 : decode cX0_figures 61 = .ok (.ireturn, 1) := by decide +kernel
theorem dX0_figuresOfTwo_0 : decode cX0_figuresOfTwo 0 = .ok (.aload_n 0, 1) := by decide +kernel
theorem dX0_figuresOfTwo_1 : decode cX0_figuresOfTwo 1 = .ok (.getfield 9, 3) := by decide +kernel
theorem dX0_figuresOfTwo_4 : decode cX0_figuresOfTwo 4 = .ok (.iconst 3, 1) := by decide +kernel
theorem dX0_figuresOfTwo_5 : decode cX0_figuresOfTwo 5 = .ok (.laload, 1) := by decide +kernel
theorem dX0_figuresOfTwo_6 : decode cX0_figuresOfTwo 6 = .ok (.aload_n 0, 1) := by decide +kernel
theorem dX0_figuresOfTwo_7 : decode cX0_figuresOfTwo 7 = .ok (.getfield 9, 3) := by decide +kernel
theorem dX0_figuresOfTwo_10 : decode cX0_figuresOfTwo 10 = .ok (.iconst 3, 1) := by decide +kernel
theorem dX0_figuresOfTwo_11 : decode cX0_figuresOfTwo 11 = .ok (.laload, 1) := by decide +kernel
theorem dX0_figuresOfTwo_12 : decode cX0_figuresOfTwo 12 = .ok (.lmul, 1) := by decide +kernel
theorem dX0_figuresOfTwo_13 : decode cX0_figuresOfTwo 13 = .ok (.ldc2_w 50, 3) := by decide +kernel
theorem dX0_figuresOfTwo_16 : decode cX0_figuresOfTwo 16 = .ok (.aload_n 0, 1) := by decide +kernel
theorem dX0_figuresOfTwo_17 : decode cX0_figuresOfTwo 17 = .ok (.getfield 9, 3) := by decide +kernel
theorem dX0_figuresOfTwo_20 : decode cX0_figuresOfTwo 20 = .ok (.iconst 2, 1) := by decide +kernel
theorem dX0_figuresOfTwo_21 : decode cX0_figuresOfTwo 21 = .ok (.laload, 1) := by decide +kernel
theorem dX0_figuresOfTwo_22 : decode cX0_figuresOfTwo 22 = .ok (.lmul, 1) := by decide +kernel
theorem dX0_figuresOfTwo_23 : decode cX0_figuresOfTwo 23 = .ok (.aload_n 0, 1) := by decide +kernel
theorem dX0_figuresOfTwo_24 : decode cX0_figuresOfTwo 24 = .ok (.getfield 9, 3) := by decide +kernel
theorem dX0_figuresOfTwo_27 : decode cX0_figuresOfTwo 27 = .ok (.iconst 4, 1) := by decide +kernel
theorem dX0_figuresOfTwo_28 : decode cX0_figuresOfTwo 28 = .ok (.laload, 1) := by decide +kernel
theorem dX0_figuresOfTwo_29 : decode cX0_figuresOfTwo 29 = .ok (.lmul, 1) := by decide +kernel
theorem dX0_figuresOfTwo_30 : decode cX0_figuresOfTwo 30 = .ok (.lsub, 1) := by decide +kernel
theorem dX0_figuresOfTwo_31 : decode cX0_figuresOfTwo 31 = .ok (.invokestatic 92, 3) := by decide +kernel
theorem dX0_figuresOfTwo_34 : decode cX0_figuresOfTwo 34 = .ok (.istore_n 1, 1) := by decide +kernel
theorem dX0_figuresOfTwo_35 : decode cX0_figuresOfTwo 35 = .ok (.iload_n 1, 1) := by decide +kernel
theorem dX0_figuresOfTwo_36 : decode cX0_figuresOfTwo 36 = .ok (.ifCond .ne 6, 3) := by decide +kernel
theorem dX0_figuresOfTwo_39 : decode cX0_figuresOfTwo 39 = .ok (.bipush 22, 2) := by decide +kernel
theorem dX0_figuresOfTwo_41 : decode cX0_figuresOfTwo 41 = .ok (.ireturn, 1) := by decide +kernel
theorem dX0_figuresOfTwo_42 : decode cX0_figuresOfTwo 42 = .ok (.iload_n 1, 1) := by decide +kernel
theorem dX0_figuresOfTwo_43 : decode cX0_figuresOfTwo 43 = .ok (.ifCond .le 8, 3) := by decide +kernel
theorem dX0_figuresOfTwo_46 : decode cX0_figuresOfTwo 46 = .ok (.bipush 112, 2) := by decide +kernel
theorem dX0_figuresOfTwo_48 : decode cX0_figuresOfTwo 48 = .ok (.goto 5, 3) := by decide +kernel
theorem dX0_figuresOfTwo_51 : decode cX0_figuresOfTwo 51 = .ok (.bipush 25, 2) := by decide +kernel
theorem dX0_figuresOfTwo_53 : decode cX0_figuresOfTwo 53 = .ok (.ireturn, 1) := by decide +kernel
theorem dX0_figuresOfThree_0 : decode cX0_figuresOfThree 0 = .ok (.aload_n 0, 1) := by decide +kernel
theorem dX0_figuresOfThree_1 : decode cX0_figuresOfThree 1 = .ok (.invokevirtual 96, 3) := by decide +kernel
theorem dX0_figuresOfThree_4 : decode cX0_figuresOfThree 4 = .ok (.istore_n 1, 1) := by decide +kernel
theorem dX0_figuresOfThree_5 : decode cX0_figuresOfThree 5 = .ok (.iload_n 1, 1) := by decide +kernel
theorem dX0_figuresOfThree_6 : decode cX0_figuresOfThree 6 = .ok (.ifCond .eq 16, 3) := by decide +kernel
theorem dX0_figuresOfThree_9 : decode cX0_figuresOfThree 9 = .ok (.iload_n 1, 1) := by decide +kernel
theorem dX0_figuresOfThree_10 : decode cX0_figuresOfThree 10 = .ok (.ifCond .le 9, 3) := by decide +kernel
theorem dX0_figuresOfThree_13 : decode cX0_figuresOfThree 13 = .ok (.sipush 1111, 3) := by decide +kernel
theorem dX0_figuresOfThree_16 : decode cX0_figuresOfThree 16 = .ok (.goto 5, 3) := by decide +kernel
theorem dX0_figuresOfThree_19 : decode cX0_figuresOfThree 19 = .ok (.bipush 115, 2) := by decide +kernel
theorem dX0_figuresOfThree_21 : decode cX0_figuresOfThree 21 = .ok (.ireturn, 1) := by decide +kernel
theorem dX0_figuresOfThree_22 : decode cX0_figuresOfThree 22 = .ok (.aload_n 0, 1) := by decide +kernel
theorem dX0_figuresOfThree_23 : decode cX0_figuresOfThree 23 = .ok (.getfield 58, 3) := by decide +kernel
theorem dX0_figuresOfThree_26 : decode cX0_figuresOfThree 26 = .ok (.lconst 0, 1) := by decide +kernel
theorem dX0_figuresOfThree_27 : decode cX0_figuresOfThree 27 = .ok (.lcmp, 1) := by decide +kernel
theorem dX0_figuresOfThree_28 : decode cX0_figuresOfThree 28 = .ok (.ifCond .ne 6, 3) := by decide +kernel
theorem dX0_figuresOfThree_31 : decode cX0_figuresOfThree 31 = .ok (.bipush 31, 2) := by decide +kernel
theorem dX0_figuresOfThree_33 : decode cX0_figuresOfThree 33 = .ok (.ireturn, 1) := by decide +kernel
theorem dX0_figuresOfThree_34 : decode cX0_figuresOfThree 34 = .ok (.aload_n 0, 1) := by decide +kernel
theorem dX0_figuresOfThree_35 : decode cX0_figuresOfThree 35 = .ok (.getfield 68, 3) := by decide +kernel
theorem dX0_figuresOfThree_38 : decode cX0_figuresOfThree 38 = .ok (.invokestatic 92, 3) := by decide +kernel
theorem dX0_figuresOfThree_41 : decode cX0_figuresOfThree 41 = .ok (.aload_n 0, 1) := by decide +kernel
theorem dX0_figuresOfThree_42 : decode cX0_figuresOfThree 42 = .ok (.getfield 9, 3) := by decide +kernel
theorem dX0_figuresOfThree_45 : decode cX0_figuresOfThree 45 = .ok (.iconst 1, 1) := by decide +kernel
theorem dX0_figuresOfThree_46 : decode cX0_figuresOfThree 46 = .ok (.laload, 1) := by decide +kernel
theorem dX0_figuresOfThree_47 : decode cX0_figuresOfThree 47 = .ok (.invokestatic 92, 3) := by decide +kernel
theorem dX0_figuresOfThree_50 : decode cX0_figuresOfThree 50 = .ok (.if_icmp .ne 9, 3) := by decide +kernel
theorem dX0_figuresOfThree_53 : decode cX0_figuresOfThree 53 = .ok (.sipush 211, 3) := by decide +kernel
theorem dX0_figuresOfThree_56 : decode cX0_figuresOfThree 56 = .ok (.goto 5, 3) := by decide +kernel
theorem dX0_figuresOfThree_59 : decode cX0_figuresOfThree 59 = .ok (.bipush 121, 2) := by decide +kernel
theorem dX0_figuresOfThree_61 : decode cX0_figuresOfThree 61 = .ok (.ireturn, 1) := by decide +kernel
theorem dX0_figuresOfFour_0 : decode cX0_figuresOfFour 0 = .ok (.aload_n 0, 1) := by decide +kernel
theorem dX0_figuresOfFour_1 : decode cX0_figuresOfFour 1 = .ok (.invokevirtual 96, 3) := by decide +kernel
theorem dX0_figuresOfFour_4 : decode cX0_figuresOfFour 4 = .ok (.istore_n 1, 1) := by decide +kernel
theorem dX0_figuresOfFour_5 : decode cX0_figuresOfFour 5 = .ok (.iload_n 1, 1) := by decide +kernel
theorem dX0_figuresOfFour_6 : decode cX0_figuresOfFour 6 = .ok (.ifCond .ge 6, 3) := by decide +kernel
theorem dX0_figuresOfFour_9 : decode cX0_figuresOfFour 9 = .ok (.bipush 115, 2) := by decide +kernel
theorem dX0_figuresOfFour_11 : decode cX0_figuresOfFour 11 = .ok (.ireturn, 1) := by decide +kernel
theorem dX0_figuresOfFour_12 : decode cX0_figuresOfFour 12 = .ok (.aload_n 0, 1) := by decide +kernel
theorem dX0_figuresOfFour_13 : decode cX0_figuresOfFour 13 = .ok (.invokevirtual 99, 3) := by decide +kernel
theorem dX0_figuresOfFour_16 : decode cX0_figuresOfFour 16 = .ok (.lconst 0, 1) := by decide +kernel
theorem dX0_figuresOfFour_17 : decode cX0_figuresOfFour 17 = .ok (.lcmp, 1) := by decide +kernel
theorem dX0_figuresOfFour_18 : decode cX0_figuresOfFour 18 = .ok (.ifCond .ge 14, 3) := by decide +kernel
theorem dX0_figuresOfFour_21 : decode cX0_figuresOfFour 21 = .ok (.aload_n 0, 1) := by decide +kernel
theorem dX0_figuresOfFour_22 : decode cX0_figuresOfFour 22 = .ok (.invokevirtual 102, 3) := by decide +kernel
theorem dX0_figuresOfFour_25 : decode cX0_figuresOfFour 25 = .ok (.ifCond .ge 7, 3) := by decide +kernel
theorem dX0_figuresOfFour_28 : decode cX0_figuresOfFour 28 = .ok (.iconst 1, 1) := by decide +kernel
theorem dX0_figuresOfFour_29 : decode cX0_figuresOfFour 29 = .ok (.goto 4, 3) := by decide +kernel
theorem dX0_figuresOfFour_32 : decode cX0_figuresOfFour 32 = .ok (.iconst 0, 1) := by decide +kernel
theorem dX0_figuresOfFour_33 : decode cX0_figuresOfFour 33 = .ok (.istore_n 2, 1) := by decide +kernel
theorem dX0_figuresOfFour_34 : decode cX0_figuresOfFour 34 = .ok (.iload_n 1, 1) := by decide +kernel
theorem dX0_figuresOfFour_35 : decode cX0_figuresOfFour 35 = .ok (.ifCond .le 16, 3) := by decide +kernel
theorem dX0_figuresOfFour_38 : decode cX0_figuresOfFour 38 = .ok (.iload_n 2, 1) := by decide +kernel
theorem dX0_figuresOfFour_39 : decode cX0_figuresOfFour 39 = .ok (.ifCond .eq 9, 3) := by decide +kernel
theorem dX0_figuresOfFour_42 : decode cX0_figuresOfFour 42 = .ok (.sipush 1111, 3) := by decide +kernel
theorem dX0_figuresOfFour_45 : decode cX0_figuresOfFour 45 = .ok (.goto 5, 3) := by decide +kernel
theorem dX0_figuresOfFour_48 : decode cX0_figuresOfFour 48 = .ok (.bipush 55, 2) := by decide +kernel
theorem dX0_figuresOfFour_50 : decode cX0_figuresOfFour 50 = .ok (.ireturn, 1) := by decide +kernel
theorem dX0_figuresOfFour_51 : decode cX0_figuresOfFour 51 = .ok (.aload_n 0, 1) := by decide +kernel
theorem dX0_figuresOfFour_52 : decode cX0_figuresOfFour 52 = .ok (.invokevirtual 105, 3) := by decide +kernel
theorem dX0_figuresOfFour_55 : decode cX0_figuresOfFour 55 = .ok (.invokestatic 92, 3) := by decide +kernel
theorem dX0_figuresOfFour_58 : decode cX0_figuresOfFour 58 = .ok (.aload_n 0, 1) := by decide +kernel
theorem dX0_figuresOfFour_59 : decode cX0_figuresOfFour 59 = .ok (.getfield 9, 3) := by decide +kernel
theorem dX0_figuresOfFour_62 : decode cX0_figuresOfFour 62 = .ok (.iconst 0, 1) := by decide +kernel
theorem dX0_figuresOfFour_63 : decode cX0_figuresOfFour 63 = .ok (.laload, 1) := by decide +kernel
theorem dX0_figuresOfFour_64 : decode cX0_figuresOfFour 64 = .ok (.invokestatic 92, 3) := by decide +kernel
theorem dX0_figuresOfFour_67 : decode cX0_figuresOfFour 67 = .ok (.imul, 1) := by decide +kernel
theorem dX0_figuresOfFour_68 : decode cX0_figuresOfFour 68 = .ok (.istore_n 3, 1) := by decide +kernel
theorem dX0_figuresOfFour_69 : decode cX0_figuresOfFour 69 = .ok (.aload_n 0, 1) := by decide +kernel
theorem dX0_figuresOfFour_70 : decode cX0_figuresOfFour 70 = .ok (.getfield 58, 3) := by decide +kernel
theorem dX0_figuresOfFour_73 : decode cX0_figuresOfFour 73 = .ok (.lconst 0, 1) := by decide +kernel
theorem dX0_figuresOfFour_74 : decode cX0_figuresOfFour 74 = .ok (.lcmp, 1) := by decide +kernel
theorem dX0_figuresOfFour_75 : decode cX0_figuresOfFour 75 = .ok (.ifCond .ne 23, 3) := by decide +kernel
theorem dX0_figuresOfFour_78 : decode cX0_figuresOfFour 78 = .ok (.iload_n 3, 1) := by decide +kernel
theorem dX0_figuresOfFour_79 : decode cX0_figuresOfFour 79 = .ok (.ifCond .ne 7, 3) := by decide +kernel
theorem dX0_figuresOfFour_82 : decode cX0_figuresOfFour 82 = .ok (.iconst 4, 1) := by decide +kernel
theorem dX0_figuresOfFour_83 : decode cX0_figuresOfFour 83 = .ok (.goto 14, 3) := by decide +kernel
theorem dX0_figuresOfFour_86 : decode cX0_figuresOfFour 86 = .ok (.iload_n 3, 1) := by decide +kernel
theorem dX0_figuresOfFour_87 : decode cX0_figuresOfFour 87 = .ok (.ifCond .le 8, 3) := by decide +kernel
theorem dX0_figuresOfFour_90 : decode cX0_figuresOfFour 90 = .ok (.bipush 13, 2) := by decide +kernel
theorem dX0_figuresOfFour_92 : decode cX0_figuresOfFour 92 = .ok (.goto 5, 3) := by decide +kernel
theorem dX0_figuresOfFour_95 : decode cX0_figuresOfFour 95 = .ok (.bipush 31, 2) := by decide +kernel
theorem dX0_figuresOfFour_97 : decode cX0_figuresOfFour 97 = .ok (.ireturn, 1) := by decide +kernel
theorem dX0_figuresOfFour_98 : decode cX0_figuresOfFour 98 = .ok (.iload_n 3, 1) := by decide +kernel
theorem dX0_figuresOfFour_99 : decode cX0_figuresOfFour 99 = .ok (.ifCond .ne 27, 3) := by decide +kernel
theorem dX0_figuresOfFour_102 : decode cX0_figuresOfFour 102 = .ok (.aload_n 0, 1) := by decide +kernel
theorem dX0_figuresOfFour_103 : decode cX0_figuresOfFour 103 = .ok (.invokevirtual 102, 3) := by decide +kernel
theorem dX0_figuresOfFour_106 : decode cX0_figuresOfFour 106 = .ok (.ifCond .ne 20, 3) := by decide +kernel
theorem dX0_figuresOfFour_109 : decode cX0_figuresOfFour 109 = .ok (.aload_n 0, 1) := by decide +kernel
theorem dX0_figuresOfFour_110 : decode cX0_figuresOfFour 110 = .ok (.invokevirtual 99, 3) := by decide +kernel
theorem dX0_figuresOfFour_113 : decode cX0_figuresOfFour 113 = .ok (.lconst 0, 1) := by decide +kernel
theorem dX0_figuresOfFour_114 : decode cX0_figuresOfFour 114 = .ok (.lcmp, 1) := by decide +kernel
theorem dX0_figuresOfFour_115 : decode cX0_figuresOfFour 115 = .ok (.ifCond .ge 8, 3) := by decide +kernel
theorem dX0_figuresOfFour_118 : decode cX0_figuresOfFour 118 = .ok (.bipush 22, 2) := by decide +kernel
theorem dX0_figuresOfFour_120 : decode cX0_figuresOfFour 120 = .ok (.goto 5, 3) := by decide +kernel
theorem dX0_figuresOfFour_123 : decode cX0_figuresOfFour 123 = .ok (.bipush 6, 2) := by decide +kernel
theorem dX0_figuresOfFour_125 : decode cX0_figuresOfFour 125 = .ok (.ireturn, 1) := by decide +kernel
theorem dX0_figuresOfFour_126 : decode cX0_figuresOfFour 126 = .ok (.iload_n 2, 1) := by decide +kernel
theorem dX0_figuresOfFour_127 : decode cX0_figuresOfFour 127 = .ok (.ifCond .ne 6, 3) := by decide +kernel
theorem dX0_figuresOfFour_130 : decode cX0_figuresOfFour 130 = .ok (.bipush 25, 2) := by decide +kernel
theorem dX0_figuresOfFour_132 : decode cX0_figuresOfFour 132 = .ok (.ireturn, 1) := by decide +kernel
theorem dX0_figuresOfFour_133 : decode cX0_figuresOfFour 133 = .ok (.aload_n 0, 1) := by decide +kernel
theorem dX0_figuresOfFour_134 : decode cX0_figuresOfFour 134 = .ok (.getfield 68, 3) := by decide +kernel
theorem dX0_figuresOfFour_137 : decode cX0_figuresOfFour 137 = .ok (.invokestatic 92, 3) := by decide +kernel
theorem dX0_figuresOfFour_140 : decode cX0_figuresOfFour 140 = .ok (.aload_n 0, 1) := by decide +kernel
theorem dX0_figuresOfFour_141 : decode cX0_figuresOfFour 141 = .ok (.getfield 9, 3) := by decide +kernel
theorem dX0_figuresOfFour_144 : decode cX0_figuresOfFour 144 = .ok (.iconst 0, 1) := by decide +kernel
theorem dX0_figuresOfFour_145 : decode cX0_figuresOfFour 145 = .ok (.laload, 1) := by decide +kernel
theorem dX0_figuresOfFour_146 : decode cX0_figuresOfFour 146 = .ok (.invokestatic 92, 3) := by decide +kernel
theorem dX0_figuresOfFour_149 : decode cX0_figuresOfFour 149 = .ok (.if_icmp .ne 6, 3) := by decide +kernel
theorem dX0_figuresOfFour_152 : decode cX0_figuresOfFour 152 = .ok (.bipush 121, 2) := by decide +kernel
theorem dX0_figuresOfFour_154 : decode cX0_figuresOfFour 154 = .ok (.ireturn, 1) := by decide +kernel
theorem dX0_figuresOfFour_155 : decode cX0_figuresOfFour 155 = .ok (.iload_n 3, 1) := by decide +kernel
theorem dX0_figuresOfFour_156 : decode cX0_figuresOfFour 156 = .ok (.ifCond .ge 9, 3) := by decide +kernel
theorem dX0_figuresOfFour_159 : decode cX0_figuresOfFour 159 = .ok (.sipush 211, 3) := by decide +kernel
theorem dX0_figuresOfFour_162 : decode cX0_figuresOfFour 162 = .ok (.goto 5, 3) := by decide +kernel
theorem dX0_figuresOfFour_165 : decode cX0_figuresOfFour 165 = .ok (.bipush 112, 2) := by decide +kernel
theorem dX0_figuresOfFour_167 : decode cX0_figuresOfFour 167 = .ok (.ireturn, 1) := by decide +kernel
theorem dX0_signOfApartness_0 : decode cX0_signOfApartness 0 = .ok (.aload_n 0, 1) := by decide +kernel
theorem dX0_signOfApartness_1 : decode cX0_signOfApartness 1 = .ok (.getfield 58, 3) := by decide +kernel
theorem dX0_signOfApartness_4 : decode cX0_signOfApartness 4 = .ok (.lconst 0, 1) := by decide +kernel
theorem dX0_signOfApartness_5 : decode cX0_signOfApartness 5 = .ok (.lcmp, 1) := by decide +kernel
theorem dX0_signOfApartness_6 : decode cX0_signOfApartness 6 = .ok (.ifCond .gt 27, 3) := by decide +kernel
theorem dX0_signOfApartness_9 : decode cX0_signOfApartness 9 = .ok (.aload_n 0, 1) := by decide +kernel
theorem dX0_signOfApartness_10 : decode cX0_signOfApartness 10 = .ok (.getfield 58, 3) := by decide +kernel
theorem dX0_signOfApartness_13 : decode cX0_signOfApartness 13 = .ok (.lconst 0, 1) := by decide +kernel
theorem dX0_signOfApartness_14 : decode cX0_signOfApartness 14 = .ok (.lcmp, 1) := by decide +kernel
theorem dX0_signOfApartness_15 : decode cX0_signOfApartness 15 = .ok (.ifCond .ne 16, 3) := by decide +kernel
theorem dX0_signOfApartness_18 : decode cX0_signOfApartness 18 = .ok (.aload_n 0, 1) := by decide +kernel
theorem dX0_signOfApartness_19 : decode cX0_signOfApartness 19 = .ok (.getfield 68, 3) := by decide +kernel
theorem dX0_signOfApartness_22 : decode cX0_signOfApartness 22 = .ok (.lconst 0, 1) := by decide +kernel
theorem dX0_signOfApartness_23 : decode cX0_signOfApartness 23 = .ok (.lcmp, 1) := by decide +kernel
theorem dX0_signOfApartness_24 : decode cX0_signOfApartness 24 = .ok (.ifCond .ne 7, 3) := by decide +kernel
theorem dX0_signOfApartness_27 : decode cX0_signOfApartness 27 = .ok (.iconst 0, 1) := by decide +kernel
theorem dX0_signOfApartness_28 : decode cX0_signOfApartness 28 = .ok (.goto 4, 3) := by decide +kernel
theorem dX0_signOfApartness_31 : decode cX0_signOfApartness 31 = .ok (.iconst (-1), 1) := by decide +kernel
theorem dX0_signOfApartness_32 : decode cX0_signOfApartness 32 = .ok (.ireturn, 1) := by decide +kernel
theorem dX0_signOfApartness_33 : decode cX0_signOfApartness 33 = .ok (.aload_n 0, 1) := by decide +kernel
theorem dX0_signOfApartness_34 : decode cX0_signOfApartness 34 = .ok (.getfield 28, 3) := by decide +kernel
theorem dX0_signOfApartness_37 : decode cX0_signOfApartness 37 = .ok (.ldc2_w 50, 3) := by decide +kernel
theorem dX0_signOfApartness_40 : decode cX0_signOfApartness 40 = .ok (.invokevirtual 108, 3) := by decide +kernel
theorem dX0_signOfApartness_43 : decode cX0_signOfApartness 43 = .ok (.aload_n 0, 1) := by decide +kernel
theorem dX0_signOfApartness_44 : decode cX0_signOfApartness 44 = .ok (.getfield 28, 3) := by decide +kernel
theorem dX0_signOfApartness_47 : decode cX0_signOfApartness 47 = .ok (.aload_n 0, 1) := by decide +kernel
theorem dX0_signOfApartness_48 : decode cX0_signOfApartness 48 = .ok (.getfield 58, 3) := by decide +kernel
theorem dX0_signOfApartness_51 : decode cX0_signOfApartness 51 = .ok (.invokevirtual 112, 3) := by decide +kernel
theorem dX0_signOfApartness_54 : decode cX0_signOfApartness 54 = .ok (.aload_n 0, 1) := by decide +kernel
theorem dX0_signOfApartness_55 : decode cX0_signOfApartness 55 = .ok (.getfield 28, 3) := by decide +kernel
theorem dX0_signOfApartness_58 : decode cX0_signOfApartness 58 = .ok (.aload_n 0, 1) := by decide +kernel
theorem dX0_signOfApartness_59 : decode cX0_signOfApartness 59 = .ok (.getfield 58, 3) := by decide +kernel
theorem dX0_signOfApartness_62 : decode cX0_signOfApartness 62 = .ok (.invokevirtual 112, 3) := by decide +kernel
theorem dX0_signOfApartness_65 : decode cX0_signOfApartness 65 = .ok (.aload_n 0, 1) := by decide +kernel
theorem dX0_signOfApartness_66 : decode cX0_signOfApartness 66 = .ok (.getfield 28, 3) := by decide +kernel
theorem dX0_signOfApartness_69 : decode cX0_signOfApartness 69 = .ok (.aload_n 0, 1) := by decide +kernel
theorem dX0_signOfApartness_70 : decode cX0_signOfApartness 70 = .ok (.getfield 58, 3) := by decide +kernel
theorem dX0_signOfApartness_73 : decode cX0_signOfApartness 73 = .ok (.invokevirtual 112, 3) := by decide +kernel
theorem dX0_signOfApartness_76 : decode cX0_signOfApartness 76 = .ok (.aload_n 0, 1) := by decide +kernel
theorem dX0_signOfApartness_77 : decode cX0_signOfApartness 77 = .ok (.getfield 32, 3) := by decide +kernel
theorem dX0_signOfApartness_80 : decode cX0_signOfApartness 80 = .ok (.aload_n 0, 1) := by decide +kernel
theorem dX0_signOfApartness_81 : decode cX0_signOfApartness 81 = .ok (.getfield 68, 3) := by decide +kernel
theorem dX0_signOfApartness_84 : decode cX0_signOfApartness 84 = .ok (.invokestatic 115, 3) := by decide +kernel
theorem dX0_signOfApartness_87 : decode cX0_signOfApartness 87 = .ok (.invokevirtual 108, 3) := by decide +kernel
theorem dX0_signOfApartness_90 : decode cX0_signOfApartness 90 = .ok (.aload_n 0, 1) := by decide +kernel
theorem dX0_signOfApartness_91 : decode cX0_signOfApartness 91 = .ok (.getfield 32, 3) := by decide +kernel
theorem dX0_signOfApartness_94 : decode cX0_signOfApartness 94 = .ok (.aload_n 0, 1) := by decide +kernel
theorem dX0_signOfApartness_95 : decode cX0_signOfApartness 95 = .ok (.getfield 68, 3) := by decide +kernel
theorem dX0_signOfApartness_98 : decode cX0_signOfApartness 98 = .ok (.invokestatic 115, 3) := by decide +kernel
theorem dX0_signOfApartness_101 : decode cX0_signOfApartness 101 = .ok (.invokevirtual 112, 3) := by decide +kernel
theorem dX0_signOfApartness_104 : decode cX0_signOfApartness 104 = .ok (.aload_n 0, 1) := by decide +kernel
theorem dX0_signOfApartness_105 : decode cX0_signOfApartness 105 = .ok (.getfield 28, 3) := by decide +kernel
theorem dX0_signOfApartness_108 : decode cX0_signOfApartness 108 = .ok (.aload_n 0, 1) := by decide +kernel
theorem dX0_signOfApartness_109 : decode cX0_signOfApartness 109 = .ok (.getfield 32, 3) := by decide +kernel
theorem dX0_signOfApartness_112 : decode cX0_signOfApartness 112 = .ok (.invokevirtual 121, 3) := by decide +kernel
theorem dX0_signOfApartness_115 : decode cX0_signOfApartness 115 = .ok (.ireturn, 1) := by decide +kernel
theorem dX0_eightACLessThreeBB_0 : decode cX0_eightACLessThreeBB 0 = .ok (.ldc2_w 125, 3) := by decide +kernel
theorem dX0_eightACLessThreeBB_3 : decode cX0_eightACLessThreeBB 3 = .ok (.aload_n 0, 1) := by decide +kernel
theorem dX0_eightACLessThreeBB_4 : decode cX0_eightACLessThreeBB 4 = .ok (.getfield 9, 3) := by decide +kernel
theorem dX0_eightACLessThreeBB_7 : decode cX0_eightACLessThreeBB 7 = .ok (.iconst 0, 1) := by decide +kernel
theorem dX0_eightACLessThreeBB_8 : decode cX0_eightACLessThreeBB 8 = .ok (.laload, 1) := by decide +kernel
theorem dX0_eightACLessThreeBB_9 : decode cX0_eightACLessThreeBB 9 = .ok (.lmul, 1) := by decide +kernel
theorem dX0_eightACLessThreeBB_10 : decode cX0_eightACLessThreeBB 10 = .ok (.aload_n 0, 1) := by decide +kernel
theorem dX0_eightACLessThreeBB_11 : decode cX0_eightACLessThreeBB 11 = .ok (.getfield 9, 3) := by decide +kernel
theorem dX0_eightACLessThreeBB_14 : decode cX0_eightACLessThreeBB 14 = .ok (.iconst 2, 1) := by decide +kernel
theorem dX0_eightACLessThreeBB_15 : decode cX0_eightACLessThreeBB 15 = .ok (.laload, 1) := by decide +kernel
theorem dX0_eightACLessThreeBB_16 : decode cX0_eightACLessThreeBB 16 = .ok (.lmul, 1) := by decide +kernel
theorem dX0_eightACLessThreeBB_17 : decode cX0_eightACLessThreeBB 17 = .ok (.ldc2_w 56, 3) := by decide +kernel
theorem dX0_eightACLessThreeBB_20 : decode cX0_eightACLessThreeBB 20 = .ok (.aload_n 0, 1) := by decide +kernel
theorem dX0_eightACLessThreeBB_21 : decode cX0_eightACLessThreeBB 21 = .ok (.getfield 9, 3) := by decide +kernel
theorem dX0_eightACLessThreeBB_24 : decode cX0_eightACLessThreeBB 24 = .ok (.iconst 1, 1) := by decide +kernel
theorem dX0_eightACLessThreeBB_25 : decode cX0_eightACLessThreeBB 25 = .ok (.laload, 1) := by decide +kernel
theorem dX0_eightACLessThreeBB_26 : decode cX0_eightACLessThreeBB 26 = .ok (.lmul, 1) := by decide +kernel
theorem dX0_eightACLessThreeBB_27 : decode cX0_eightACLessThreeBB 27 = .ok (.aload_n 0, 1) := by decide +kernel
theorem dX0_eightACLessThreeBB_28 : decode cX0_eightACLessThreeBB 28 = .ok (.getfield 9, 3) := by decide +kernel
theorem dX0_eightACLessThreeBB_31 : decode cX0_eightACLessThreeBB 31 = .ok (.iconst 1, 1) := by decide +kernel
theorem dX0_eightACLessThreeBB_32 : decode cX0_eightACLessThreeBB 32 = .ok (.laload, 1) := by decide +kernel
theorem dX0_eightACLessThreeBB_33 : decode cX0_eightACLessThreeBB 33 = .ok (.lmul, 1) := by decide +kernel
theorem dX0_eightACLessThreeBB_34 : decode cX0_eightACLessThreeBB 34 = .ok (.lsub, 1) := by decide +kernel
theorem dX0_eightACLessThreeBB_35 : decode cX0_eightACLessThreeBB 35 = .ok (.lreturn, 1) := by decide +kernel
theorem dX0_signOfSpread_0 : decode cX0_signOfSpread 0 = .ok (.aload_n 0, 1) := by decide +kernel
theorem dX0_signOfSpread_1 : decode cX0_signOfSpread 1 = .ok (.invokevirtual 99, 3) := by decide +kernel
theorem dX0_signOfSpread_4 : decode cX0_signOfSpread 4 = .ok (.invokestatic 115, 3) := by decide +kernel
theorem dX0_signOfSpread_7 : decode cX0_signOfSpread 7 = .ok (.lstore_n 1, 1) := by decide +kernel
theorem dX0_signOfSpread_8 : decode cX0_signOfSpread 8 = .ok (.aload_n 0, 1) := by decide +kernel
theorem dX0_signOfSpread_9 : decode cX0_signOfSpread 9 = .ok (.getfield 58, 3) := by decide +kernel
theorem dX0_signOfSpread_12 : decode cX0_signOfSpread 12 = .ok (.lconst 0, 1) := by decide +kernel
theorem dX0_signOfSpread_13 : decode cX0_signOfSpread 13 = .ok (.lcmp, 1) := by decide +kernel
theorem dX0_signOfSpread_14 : decode cX0_signOfSpread 14 = .ok (.ifCond .gt 24, 3) := by decide +kernel
theorem dX0_signOfSpread_17 : decode cX0_signOfSpread 17 = .ok (.aload_n 0, 1) := by decide +kernel
theorem dX0_signOfSpread_18 : decode cX0_signOfSpread 18 = .ok (.getfield 58, 3) := by decide +kernel
theorem dX0_signOfSpread_21 : decode cX0_signOfSpread 21 = .ok (.lconst 0, 1) := by decide +kernel
theorem dX0_signOfSpread_22 : decode cX0_signOfSpread 22 = .ok (.lcmp, 1) := by decide +kernel
theorem dX0_signOfSpread_23 : decode cX0_signOfSpread 23 = .ok (.ifCond .ne 13, 3) := by decide +kernel
theorem dX0_signOfSpread_26 : decode cX0_signOfSpread 26 = .ok (.lload_n 1, 1) := by decide +kernel
theorem dX0_signOfSpread_27 : decode cX0_signOfSpread 27 = .ok (.lconst 0, 1) := by decide +kernel
theorem dX0_signOfSpread_28 : decode cX0_signOfSpread 28 = .ok (.lcmp, 1) := by decide +kernel
theorem dX0_signOfSpread_29 : decode cX0_signOfSpread 29 = .ok (.ifCond .ne 7, 3) := by decide +kernel
theorem dX0_signOfSpread_32 : decode cX0_signOfSpread 32 = .ok (.iconst 0, 1) := by decide +kernel
theorem dX0_signOfSpread_33 : decode cX0_signOfSpread 33 = .ok (.goto 4, 3) := by decide +kernel
theorem dX0_signOfSpread_36 : decode cX0_signOfSpread 36 = .ok (.iconst (-1), 1) := by decide +kernel
theorem dX0_signOfSpread_37 : decode cX0_signOfSpread 37 = .ok (.ireturn, 1) := by decide +kernel
theorem dX0_signOfSpread_38 : decode cX0_signOfSpread 38 = .ok (.aload_n 0, 1) := by decide +kernel
theorem dX0_signOfSpread_39 : decode cX0_signOfSpread 39 = .ok (.getfield 28, 3) := by decide +kernel
theorem dX0_signOfSpread_42 : decode cX0_signOfSpread 42 = .ok (.ldc2_w 48, 3) := by decide +kernel
theorem dX0_signOfSpread_45 : decode cX0_signOfSpread 45 = .ok (.invokevirtual 108, 3) := by decide +kernel
theorem dX0_signOfSpread_48 : decode cX0_signOfSpread 48 = .ok (.aload_n 0, 1) := by decide +kernel
theorem dX0_signOfSpread_49 : decode cX0_signOfSpread 49 = .ok (.getfield 28, 3) := by decide +kernel
theorem dX0_signOfSpread_52 : decode cX0_signOfSpread 52 = .ok (.aload_n 0, 1) := by decide +kernel
theorem dX0_signOfSpread_53 : decode cX0_signOfSpread 53 = .ok (.getfield 9, 3) := by decide +kernel
theorem dX0_signOfSpread_56 : decode cX0_signOfSpread 56 = .ok (.iconst 0, 1) := by decide +kernel
theorem dX0_signOfSpread_57 : decode cX0_signOfSpread 57 = .ok (.laload, 1) := by decide +kernel
theorem dX0_signOfSpread_58 : decode cX0_signOfSpread 58 = .ok (.invokestatic 115, 3) := by decide +kernel
theorem dX0_signOfSpread_61 : decode cX0_signOfSpread 61 = .ok (.invokevirtual 112, 3) := by decide +kernel
theorem dX0_signOfSpread_64 : decode cX0_signOfSpread 64 = .ok (.aload_n 0, 1) := by decide +kernel
theorem dX0_signOfSpread_65 : decode cX0_signOfSpread 65 = .ok (.getfield 28, 3) := by decide +kernel
theorem dX0_signOfSpread_68 : decode cX0_signOfSpread 68 = .ok (.aload_n 0, 1) := by decide +kernel
theorem dX0_signOfSpread_69 : decode cX0_signOfSpread 69 = .ok (.getfield 9, 3) := by decide +kernel
theorem dX0_signOfSpread_72 : decode cX0_signOfSpread 72 = .ok (.iconst 0, 1) := by decide +kernel
theorem dX0_signOfSpread_73 : decode cX0_signOfSpread 73 = .ok (.laload, 1) := by decide +kernel
theorem dX0_signOfSpread_74 : decode cX0_signOfSpread 74 = .ok (.invokestatic 115, 3) := by decide +kernel
theorem dX0_signOfSpread_77 : decode cX0_signOfSpread 77 = .ok (.invokevirtual 112, 3) := by decide +kernel
theorem dX0_signOfSpread_80 : decode cX0_signOfSpread 80 = .ok (.aload_n 0, 1) := by decide +kernel
theorem dX0_signOfSpread_81 : decode cX0_signOfSpread 81 = .ok (.getfield 28, 3) := by decide +kernel
theorem dX0_signOfSpread_84 : decode cX0_signOfSpread 84 = .ok (.aload_n 0, 1) := by decide +kernel
theorem dX0_signOfSpread_85 : decode cX0_signOfSpread 85 = .ok (.getfield 58, 3) := by decide +kernel
theorem dX0_signOfSpread_88 : decode cX0_signOfSpread 88 = .ok (.invokevirtual 112, 3) := by decide +kernel
theorem dX0_signOfSpread_91 : decode cX0_signOfSpread 91 = .ok (.aload_n 0, 1) := by decide +kernel
theorem dX0_signOfSpread_92 : decode cX0_signOfSpread 92 = .ok (.getfield 32, 3) := by decide +kernel
theorem dX0_signOfSpread_95 : decode cX0_signOfSpread 95 = .ok (.lload_n 1, 1) := by decide +kernel
theorem dX0_signOfSpread_96 : decode cX0_signOfSpread 96 = .ok (.invokevirtual 108, 3) := by decide +kernel
theorem dX0_signOfSpread_99 : decode cX0_signOfSpread 99 = .ok (.aload_n 0, 1) := by decide +kernel
theorem dX0_signOfSpread_100 : decode cX0_signOfSpread 100 = .ok (.getfield 32, 3) := by decide +kernel
theorem dX0_signOfSpread_103 : decode cX0_signOfSpread 103 = .ok (.lload_n 1, 1) := by decide +kernel
theorem dX0_signOfSpread_104 : decode cX0_signOfSpread 104 = .ok (.invokevirtual 112, 3) := by decide +kernel
theorem dX0_signOfSpread_107 : decode cX0_signOfSpread 107 = .ok (.aload_n 0, 1) := by decide +kernel
theorem dX0_signOfSpread_108 : decode cX0_signOfSpread 108 = .ok (.getfield 28, 3) := by decide +kernel
theorem dX0_signOfSpread_111 : decode cX0_signOfSpread 111 = .ok (.aload_n 0, 1) := by decide +kernel
theorem dX0_signOfSpread_112 : decode cX0_signOfSpread 112 = .ok (.getfield 32, 3) := by decide +kernel
theorem dX0_signOfSpread_115 : decode cX0_signOfSpread 115 = .ok (.invokevirtual 121, 3) := by decide +kernel
theorem dX0_signOfSpread_118 : decode cX0_signOfSpread 118 = .ok (.ireturn, 1) := by decide +kernel
theorem dX0_leaning_0 : decode cX0_leaning 0 = .ok (.aload_n 0, 1) := by decide +kernel
theorem dX0_leaning_1 : decode cX0_leaning 1 = .ok (.getfield 9, 3) := by decide +kernel
theorem dX0_leaning_4 : decode cX0_leaning 4 = .ok (.iconst 1, 1) := by decide +kernel
theorem dX0_leaning_5 : decode cX0_leaning 5 = .ok (.laload, 1) := by decide +kernel
theorem dX0_leaning_6 : decode cX0_leaning 6 = .ok (.aload_n 0, 1) := by decide +kernel
theorem dX0_leaning_7 : decode cX0_leaning 7 = .ok (.getfield 9, 3) := by decide +kernel
theorem dX0_leaning_10 : decode cX0_leaning 10 = .ok (.iconst 1, 1) := by decide +kernel
theorem dX0_leaning_11 : decode cX0_leaning 11 = .ok (.laload, 1) := by decide +kernel
theorem dX0_leaning_12 : decode cX0_leaning 12 = .ok (.lmul, 1) := by decide +kernel
theorem dX0_leaning_13 : decode cX0_leaning 13 = .ok (.aload_n 0, 1) := by decide +kernel
theorem dX0_leaning_14 : decode cX0_leaning 14 = .ok (.getfield 9, 3) := by decide +kernel
theorem dX0_leaning_17 : decode cX0_leaning 17 = .ok (.iconst 1, 1) := by decide +kernel
theorem dX0_leaning_18 : decode cX0_leaning 18 = .ok (.laload, 1) := by decide +kernel
theorem dX0_leaning_19 : decode cX0_leaning 19 = .ok (.lmul, 1) := by decide +kernel
theorem dX0_leaning_20 : decode cX0_leaning 20 = .ok (.ldc2_w 125, 3) := by decide +kernel
theorem dX0_leaning_23 : decode cX0_leaning 23 = .ok (.aload_n 0, 1) := by decide +kernel
theorem dX0_leaning_24 : decode cX0_leaning 24 = .ok (.getfield 9, 3) := by decide +kernel
theorem dX0_leaning_27 : decode cX0_leaning 27 = .ok (.iconst 0, 1) := by decide +kernel
theorem dX0_leaning_28 : decode cX0_leaning 28 = .ok (.laload, 1) := by decide +kernel
theorem dX0_leaning_29 : decode cX0_leaning 29 = .ok (.lmul, 1) := by decide +kernel
theorem dX0_leaning_30 : decode cX0_leaning 30 = .ok (.aload_n 0, 1) := by decide +kernel
theorem dX0_leaning_31 : decode cX0_leaning 31 = .ok (.getfield 9, 3) := by decide +kernel
theorem dX0_leaning_34 : decode cX0_leaning 34 = .ok (.iconst 0, 1) := by decide +kernel
theorem dX0_leaning_35 : decode cX0_leaning 35 = .ok (.laload, 1) := by decide +kernel
theorem dX0_leaning_36 : decode cX0_leaning 36 = .ok (.lmul, 1) := by decide +kernel
theorem dX0_leaning_37 : decode cX0_leaning 37 = .ok (.aload_n 0, 1) := by decide +kernel
theorem dX0_leaning_38 : decode cX0_leaning 38 = .ok (.getfield 9, 3) := by decide +kernel
theorem dX0_leaning_41 : decode cX0_leaning 41 = .ok (.iconst 3, 1) := by decide +kernel
theorem dX0_leaning_42 : decode cX0_leaning 42 = .ok (.laload, 1) := by decide +kernel
theorem dX0_leaning_43 : decode cX0_leaning 43 = .ok (.lmul, 1) := by decide +kernel
theorem dX0_leaning_44 : decode cX0_leaning 44 = .ok (.ladd, 1) := by decide +kernel
theorem dX0_leaning_45 : decode cX0_leaning 45 = .ok (.ldc2_w 50, 3) := by decide +kernel
theorem dX0_leaning_48 : decode cX0_leaning 48 = .ok (.aload_n 0, 1) := by decide +kernel
theorem dX0_leaning_49 : decode cX0_leaning 49 = .ok (.getfield 9, 3) := by decide +kernel
theorem dX0_leaning_52 : decode cX0_leaning 52 = .ok (.iconst 0, 1) := by decide +kernel
theorem dX0_leaning_53 : decode cX0_leaning 53 = .ok (.laload, 1) := by decide +kernel
theorem dX0_leaning_54 : decode cX0_leaning 54 = .ok (.lmul, 1) := by decide +kernel
theorem dX0_leaning_55 : decode cX0_leaning 55 = .ok (.aload_n 0, 1) := by decide +kernel
theorem dX0_leaning_56 : decode cX0_leaning 56 = .ok (.getfield 9, 3) := by decide +kernel
theorem dX0_leaning_59 : decode cX0_leaning 59 = .ok (.iconst 1, 1) := by decide +kernel
theorem dX0_leaning_60 : decode cX0_leaning 60 = .ok (.laload, 1) := by decide +kernel
theorem dX0_leaning_61 : decode cX0_leaning 61 = .ok (.lmul, 1) := by decide +kernel
theorem dX0_leaning_62 : decode cX0_leaning 62 = .ok (.aload_n 0, 1) := by decide +kernel
theorem dX0_leaning_63 : decode cX0_leaning 63 = .ok (.getfield 9, 3) := by decide +kernel
theorem dX0_leaning_66 : decode cX0_leaning 66 = .ok (.iconst 2, 1) := by decide +kernel
theorem dX0_leaning_67 : decode cX0_leaning 67 = .ok (.laload, 1) := by decide +kernel
theorem dX0_leaning_68 : decode cX0_leaning 68 = .ok (.lmul, 1) := by decide +kernel
theorem dX0_leaning_69 : decode cX0_leaning 69 = .ok (.lsub, 1) := by decide +kernel
theorem dX0_leaning_70 : decode cX0_leaning 70 = .ok (.lreturn, 1) := by decide +kernel
theorem dX0_realRoots_0 : decode cX0_realRoots 0 = .ok (.iconst 0, 1) := by decide +kernel
theorem dX0_realRoots_1 : decode cX0_realRoots 1 = .ok (.istore_n 1, 1) := by decide +kernel
theorem dX0_realRoots_2 : decode cX0_realRoots 2 = .ok (.aload_n 0, 1) := by decide +kernel
theorem dX0_realRoots_3 : decode cX0_realRoots 3 = .ok (.invokevirtual 127, 3) := by decide +kernel
theorem dX0_realRoots_6 : decode cX0_realRoots 6 = .ok (.istore_n 2, 1) := by decide +kernel
theorem dX0_realRoots_7 : decode cX0_realRoots 7 = .ok (.iconst 0, 1) := by decide +kernel
theorem dX0_realRoots_8 : decode cX0_realRoots 8 = .ok (.istore_n 3, 1) := by decide +kernel
theorem dX0_realRoots_9 : decode cX0_realRoots 9 = .ok (.iload_n 3, 1) := by decide +kernel
theorem dX0_realRoots_10 : decode cX0_realRoots 10 = .ok (.iconst 4, 1) := by decide +kernel
theorem dX0_realRoots_11 : decode cX0_realRoots 11 = .ok (.if_icmp .ge 29, 3) := by decide +kernel
theorem dX0_realRoots_14 : decode cX0_realRoots 14 = .ok (.iload_n 2, 1) := by decide +kernel
theorem dX0_realRoots_15 : decode cX0_realRoots 15 = .ok (.ifCond .eq 25, 3) := by decide +kernel
theorem dX0_realRoots_18 : decode cX0_realRoots 18 = .ok (.iload_n 2, 1) := by decide +kernel
theorem dX0_realRoots_19 : decode cX0_realRoots 19 = .ok (.bipush 10, 2) := by decide +kernel
theorem dX0_realRoots_21 : decode cX0_realRoots 21 = .ok (.irem, 1) := by decide +kernel
theorem dX0_realRoots_22 : decode cX0_realRoots 22 = .ok (.iconst 5, 1) := by decide +kernel
theorem dX0_realRoots_23 : decode cX0_realRoots 23 = .ok (.if_icmp .ge 6, 3) := by decide +kernel
theorem dX0_realRoots_26 : decode cX0_realRoots 26 = .ok (.iinc 1 1, 3) := by decide +kernel
theorem dX0_realRoots_29 : decode cX0_realRoots 29 = .ok (.iload_n 2, 1) := by decide +kernel
theorem dX0_realRoots_30 : decode cX0_realRoots 30 = .ok (.bipush 10, 2) := by decide +kernel
theorem dX0_realRoots_32 : decode cX0_realRoots 32 = .ok (.idiv, 1) := by decide +kernel
theorem dX0_realRoots_33 : decode cX0_realRoots 33 = .ok (.istore_n 2, 1) := by decide +kernel
theorem dX0_realRoots_34 : decode cX0_realRoots 34 = .ok (.iinc 3 1, 3) := by decide +kernel
theorem dX0_realRoots_37 : decode cX0_realRoots 37 = .ok (.goto (-28), 3) := by decide +kernel
theorem dX0_realRoots_40 : decode cX0_realRoots 40 = .ok (.iload_n 1, 1) := by decide +kernel
theorem dX0_realRoots_41 : decode cX0_realRoots 41 = .ok (.ireturn, 1) := by decide +kernel
theorem dX0_singleRoots_0 : decode cX0_singleRoots 0 = .ok (.aload_n 0, 1) := by decide +kernel
theorem dX0_singleRoots_1 : decode cX0_singleRoots 1 = .ok (.invokevirtual 79, 3) := by decide +kernel
theorem dX0_singleRoots_4 : decode cX0_singleRoots 4 = .ok (.iconst 4, 1) := by decide +kernel
theorem dX0_singleRoots_5 : decode cX0_singleRoots 5 = .ok (.if_icmp .ge 7, 3) := by decide +kernel
theorem dX0_singleRoots_8 : decode cX0_singleRoots 8 = .ok (.iconst 1, 1) := by decide +kernel
theorem dX0_singleRoots_9 : decode cX0_singleRoots 9 = .ok (.goto 4, 3) := by decide +kernel
theorem dX0_singleRoots_12 : decode cX0_singleRoots 12 = .ok (.iconst 0, 1) := by decide +kernel
theorem dX0_singleRoots_13 : decode cX0_singleRoots 13 = .ok (.istore_n 1, 1) := by decide +kernel
theorem dX0_singleRoots_14 : decode cX0_singleRoots 14 = .ok (.iconst 0, 1) := by decide +kernel
theorem dX0_singleRoots_15 : decode cX0_singleRoots 15 = .ok (.istore_n 2, 1) := by decide +kernel
theorem dX0_singleRoots_16 : decode cX0_singleRoots 16 = .ok (.aload_n 0, 1) := by decide +kernel
theorem dX0_singleRoots_17 : decode cX0_singleRoots 17 = .ok (.invokevirtual 127, 3) := by decide +kernel
theorem dX0_singleRoots_20 : decode cX0_singleRoots 20 = .ok (.istore_n 3, 1) := by decide +kernel
theorem dX0_singleRoots_21 : decode cX0_singleRoots 21 = .ok (.iconst 0, 1) := by decide +kernel
theorem dX0_singleRoots_22 : decode cX0_singleRoots 22 = .ok (.istore 4, 2) := by decide +kernel
theorem dX0_singleRoots_24 : decode cX0_singleRoots 24 = .ok (.iload 4, 2) := by decide +kernel
theorem dX0_singleRoots_26 : decode cX0_singleRoots 26 = .ok (.iconst 4, 1) := by decide +kernel
theorem dX0_singleRoots_27 : decode cX0_singleRoots 27 = .ok (.if_icmp .ge 53, 3) := by decide +kernel
theorem dX0_singleRoots_30 : decode cX0_singleRoots 30 = .ok (.iload_n 3, 1) := by decide +kernel
theorem dX0_singleRoots_31 : decode cX0_singleRoots 31 = .ok (.ifCond .eq 49, 3) := by decide +kernel
theorem dX0_singleRoots_34 : decode cX0_singleRoots 34 = .ok (.iload_n 3, 1) := by decide +kernel
theorem dX0_singleRoots_35 : decode cX0_singleRoots 35 = .ok (.bipush 10, 2) := by decide +kernel
theorem dX0_singleRoots_37 : decode cX0_singleRoots 37 = .ok (.irem, 1) := by decide +kernel
theorem dX0_singleRoots_38 : decode cX0_singleRoots 38 = .ok (.istore 5, 2) := by decide +kernel
theorem dX0_singleRoots_40 : decode cX0_singleRoots 40 = .ok (.iload_n 3, 1) := by decide +kernel
theorem dX0_singleRoots_41 : decode cX0_singleRoots 41 = .ok (.bipush 10, 2) := by decide +kernel
theorem dX0_singleRoots_43 : decode cX0_singleRoots 43 = .ok (.idiv, 1) := by decide +kernel
theorem dX0_singleRoots_44 : decode cX0_singleRoots 44 = .ok (.istore_n 3, 1) := by decide +kernel
theorem dX0_singleRoots_45 : decode cX0_singleRoots 45 = .ok (.iload 5, 2) := by decide +kernel
theorem dX0_singleRoots_47 : decode cX0_singleRoots 47 = .ok (.iconst 5, 1) := by decide +kernel
theorem dX0_singleRoots_48 : decode cX0_singleRoots 48 = .ok (.if_icmp .lt 6, 3) := by decide +kernel
theorem dX0_singleRoots_51 : decode cX0_singleRoots 51 = .ok (.goto 23, 3) := by decide +kernel
theorem dX0_singleRoots_54 : decode cX0_singleRoots 54 = .ok (.iload_n 1, 1) := by decide +kernel
theorem dX0_singleRoots_55 : decode cX0_singleRoots 55 = .ok (.ifCond .eq 8, 3) := by decide +kernel
theorem dX0_singleRoots_58 : decode cX0_singleRoots 58 = .ok (.iconst 0, 1) := by decide +kernel
theorem dX0_singleRoots_59 : decode cX0_singleRoots 59 = .ok (.istore_n 1, 1) := by decide +kernel
theorem dX0_singleRoots_60 : decode cX0_singleRoots 60 = .ok (.goto 14, 3) := by decide +kernel
theorem dX0_singleRoots_63 : decode cX0_singleRoots 63 = .ok (.iload 5, 2) := by decide +kernel
theorem dX0_singleRoots_65 : decode cX0_singleRoots 65 = .ok (.iconst 1, 1) := by decide +kernel
theorem dX0_singleRoots_66 : decode cX0_singleRoots 66 = .ok (.if_icmp .le 5, 3) := by decide +kernel
theorem dX0_singleRoots_69 : decode cX0_singleRoots 69 = .ok (.iconst (-1), 1) := by decide +kernel
theorem dX0_singleRoots_70 : decode cX0_singleRoots 70 = .ok (.ireturn, 1) := by decide +kernel
theorem dX0_singleRoots_71 : decode cX0_singleRoots 71 = .ok (.iinc 2 1, 3) := by decide +kernel
theorem dX0_singleRoots_74 : decode cX0_singleRoots 74 = .ok (.iinc 4 1, 3) := by decide +kernel
theorem dX0_singleRoots_77 : decode cX0_singleRoots 77 = .ok (.goto (-53), 3) := by decide +kernel
theorem dX0_singleRoots_80 : decode cX0_singleRoots 80 = .ok (.iload_n 2, 1) := by decide +kernel
theorem dX0_singleRoots_81 : decode cX0_singleRoots 81 = .ok (.ireturn, 1) := by decide +kernel
theorem dX0_meetingOfBalls_0 : decode cX0_meetingOfBalls 0 = .ok (.aload_n 0, 1) := by decide +kernel
theorem dX0_meetingOfBalls_1 : decode cX0_meetingOfBalls 1 = .ok (.invokevirtual 127, 3) := by decide +kernel
theorem dX0_meetingOfBalls_4 : decode cX0_meetingOfBalls 4 = .ok (.bipush 10, 2) := by decide +kernel
theorem dX0_meetingOfBalls_6 : decode cX0_meetingOfBalls 6 = .ok (.irem, 1) := by decide +kernel
theorem dX0_meetingOfBalls_7 : decode cX0_meetingOfBalls 7 = .ok (.istore_n 1, 1) := by decide +kernel
theorem dX0_meetingOfBalls_8 : decode cX0_meetingOfBalls 8 = .ok (.iload_n 1, 1) := by decide +kernel
theorem dX0_meetingOfBalls_9 : decode cX0_meetingOfBalls 9 = .ok (.iconst 5, 1) := by decide +kernel
theorem dX0_meetingOfBalls_10 : decode cX0_meetingOfBalls 10 = .ok (.if_icmp .ge 14, 3) := by decide +kernel
theorem dX0_meetingOfBalls_13 : decode cX0_meetingOfBalls 13 = .ok (.aload_n 0, 1) := by decide +kernel
theorem dX0_meetingOfBalls_14 : decode cX0_meetingOfBalls 14 = .ok (.getfield 9, 3) := by decide +kernel
theorem dX0_meetingOfBalls_17 : decode cX0_meetingOfBalls 17 = .ok (.invokestatic 130, 3) := by decide +kernel
theorem dX0_meetingOfBalls_20 : decode cX0_meetingOfBalls 20 = .ok (.iconst 2, 1) := by decide +kernel
theorem dX0_meetingOfBalls_21 : decode cX0_meetingOfBalls 21 = .ok (.if_icmp .eq 5, 3) := by decide +kernel
theorem dX0_meetingOfBalls_24 : decode cX0_meetingOfBalls 24 = .ok (.iconst 0, 1) := by decide +kernel
theorem dX0_meetingOfBalls_25 : decode cX0_meetingOfBalls 25 = .ok (.ireturn, 1) := by decide +kernel
theorem dX0_meetingOfBalls_26 : decode cX0_meetingOfBalls 26 = .ok (.iload_n 1, 1) := by decide +kernel
theorem dX0_meetingOfBalls_27 : decode cX0_meetingOfBalls 27 = .ok (.iconst 1, 1) := by decide +kernel
theorem dX0_meetingOfBalls_28 : decode cX0_meetingOfBalls 28 = .ok (.if_icmp .ne 7, 3) := by decide +kernel
theorem dX0_meetingOfBalls_31 : decode cX0_meetingOfBalls 31 = .ok (.iconst 2, 1) := by decide +kernel
theorem dX0_meetingOfBalls_32 : decode cX0_meetingOfBalls 32 = .ok (.goto 4, 3) := by decide +kernel
theorem dX0_meetingOfBalls_35 : decode cX0_meetingOfBalls 35 = .ok (.iconst 1, 1) := by decide +kernel
theorem dX0_meetingOfBalls_36 : decode cX0_meetingOfBalls 36 = .ok (.ireturn, 1) := by decide +kernel
theorem dX0_worthAt_0 : decode cX0_worthAt 0 = .ok (.aload_n 0, 1) := by decide +kernel
theorem dX0_worthAt_1 : decode cX0_worthAt 1 = .ok (.getfield 9, 3) := by decide +kernel
theorem dX0_worthAt_4 : decode cX0_worthAt 4 = .ok (.iconst 4, 1) := by decide +kernel
theorem dX0_worthAt_5 : decode cX0_worthAt 5 = .ok (.lload_n 1, 1) := by decide +kernel
theorem dX0_worthAt_6 : decode cX0_worthAt 6 = .ok (.lload_n 3, 1) := by decide +kernel
theorem dX0_worthAt_7 : decode cX0_worthAt 7 = .ok (.invokestatic 134, 3) := by decide +kernel
theorem dX0_worthAt_10 : decode cX0_worthAt 10 = .ok (.lreturn, 1) := by decide +kernel
theorem dX0_valueBy_0 : decode cX0_valueBy 0 = .ok (.lconst 0, 1) := by decide +kernel
theorem dX0_valueBy_1 : decode cX0_valueBy 1 = .ok (.lstore 6, 2) := by decide +kernel
theorem dX0_valueBy_3 : decode cX0_valueBy 3 = .ok (.lconst 1, 1) := by decide +kernel
theorem dX0_valueBy_4 : decode cX0_valueBy 4 = .ok (.lstore 8, 2) := by decide +kernel
theorem dX0_valueBy_6 : decode cX0_valueBy 6 = .ok (.iconst 0, 1) := by decide +kernel
theorem dX0_valueBy_7 : decode cX0_valueBy 7 = .ok (.istore 10, 2) := by decide +kernel
theorem dX0_valueBy_9 : decode cX0_valueBy 9 = .ok (.iload 10, 2) := by decide +kernel
theorem dX0_valueBy_11 : decode cX0_valueBy 11 = .ok (.iload_n 1, 1) := by decide +kernel
theorem dX0_valueBy_12 : decode cX0_valueBy 12 = .ok (.if_icmp .gt 37, 3) := by decide +kernel
theorem dX0_valueBy_15 : decode cX0_valueBy 15 = .ok (.iload 10, 2) := by decide +kernel
theorem dX0_valueBy_17 : decode cX0_valueBy 17 = .ok (.aload_n 0, 1) := by decide +kernel
theorem dX0_valueBy_18 : decode cX0_valueBy 18 = .ok (.arraylength, 1) := by decide +kernel
theorem dX0_valueBy_19 : decode cX0_valueBy 19 = .ok (.if_icmp .ge 30, 3) := by decide +kernel
theorem dX0_valueBy_22 : decode cX0_valueBy 22 = .ok (.lload 6, 2) := by decide +kernel
theorem dX0_valueBy_24 : decode cX0_valueBy 24 = .ok (.lload_n 2, 1) := by decide +kernel
theorem dX0_valueBy_25 : decode cX0_valueBy 25 = .ok (.lmul, 1) := by decide +kernel
theorem dX0_valueBy_26 : decode cX0_valueBy 26 = .ok (.aload_n 0, 1) := by decide +kernel
theorem dX0_valueBy_27 : decode cX0_valueBy 27 = .ok (.iload 10, 2) := by decide +kernel
theorem dX0_valueBy_29 : decode cX0_valueBy 29 = .ok (.laload, 1) := by decide +kernel
theorem dX0_valueBy_30 : decode cX0_valueBy 30 = .ok (.lload 8, 2) := by decide +kernel
theorem dX0_valueBy_32 : decode cX0_valueBy 32 = .ok (.lmul, 1) := by decide +kernel
theorem dX0_valueBy_33 : decode cX0_valueBy 33 = .ok (.ladd, 1) := by decide +kernel
theorem dX0_valueBy_34 : decode cX0_valueBy 34 = .ok (.lstore 6, 2) := by decide +kernel
theorem dX0_valueBy_36 : decode cX0_valueBy 36 = .ok (.lload 8, 2) := by decide +kernel
theorem dX0_valueBy_38 : decode cX0_valueBy 38 = .ok (.lload 4, 2) := by decide +kernel
theorem dX0_valueBy_40 : decode cX0_valueBy 40 = .ok (.lmul, 1) := by decide +kernel
theorem dX0_valueBy_41 : decode cX0_valueBy 41 = .ok (.lstore 8, 2) := by decide +kernel
theorem dX0_valueBy_43 : decode cX0_valueBy 43 = .ok (.iinc 10 1, 3) := by decide +kernel
theorem dX0_valueBy_46 : decode cX0_valueBy 46 = .ok (.goto (-37), 3) := by decide +kernel
theorem dX0_valueBy_49 : decode cX0_valueBy 49 = .ok (.lload 6, 2) := by decide +kernel
theorem dX0_valueBy_51 : decode cX0_valueBy 51 = .ok (.lreturn, 1) := by decide +kernel
theorem dX0_findFractions_0 : decode cX0_findFractions 0 = .ok (.aload_n 0, 1) := by decide +kernel
theorem dX0_findFractions_1 : decode cX0_findFractions 1 = .ok (.iconst 0, 1) := by decide +kernel
theorem dX0_findFractions_2 : decode cX0_findFractions 2 = .ok (.putfield 138, 3) := by decide +kernel
theorem dX0_findFractions_5 : decode cX0_findFractions 5 = .ok (.aload_n 0, 1) := by decide +kernel
theorem dX0_findFractions_6 : decode cX0_findFractions 6 = .ok (.invokevirtual 79, 3) := by decide +kernel
theorem dX0_findFractions_9 : decode cX0_findFractions 9 = .ok (.istore_n 1, 1) := by decide +kernel
theorem dX0_findFractions_10 : decode cX0_findFractions 10 = .ok (.iload_n 1, 1) := by decide +kernel
theorem dX0_findFractions_11 : decode cX0_findFractions 11 = .ok (.ifCond .ge 4, 3) := by decide +kernel
theorem dX0_findFractions_14 : decode cX0_findFractions 14 = .ok (.return_, 1) := by decide +kernel
theorem dX0_findFractions_15 : decode cX0_findFractions 15 = .ok (.aload_n 0, 1) := by decide +kernel
theorem dX0_findFractions_16 : decode cX0_findFractions 16 = .ok (.getfield 9, 3) := by decide +kernel
theorem dX0_findFractions_19 : decode cX0_findFractions 19 = .ok (.iconst 4, 1) := by decide +kernel
theorem dX0_findFractions_20 : decode cX0_findFractions 20 = .ok (.iload_n 1, 1) := by decide +kernel
theorem dX0_findFractions_21 : decode cX0_findFractions 21 = .ok (.isub, 1) := by decide +kernel
theorem dX0_findFractions_22 : decode cX0_findFractions 22 = .ok (.laload, 1) := by decide +kernel
theorem dX0_findFractions_23 : decode cX0_findFractions 23 = .ok (.lstore_n 2, 1) := by decide +kernel
theorem dX0_findFractions_24 : decode cX0_findFractions 24 = .ok (.iconst 1, 1) := by decide +kernel
theorem dX0_findFractions_25 : decode cX0_findFractions 25 = .ok (.istore 4, 2) := by decide +kernel
theorem dX0_findFractions_27 : decode cX0_findFractions 27 = .ok (.iload 4, 2) := by decide +kernel
theorem dX0_findFractions_29 : decode cX0_findFractions 29 = .ok (.bipush 64, 2) := by decide +kernel
theorem dX0_findFractions_31 : decode cX0_findFractions 31 = .ok (.if_icmp .gt 25, 3) := by decide +kernel
theorem dX0_findFractions_34 : decode cX0_findFractions 34 = .ok (.lload_n 2, 1) := by decide +kernel
theorem dX0_findFractions_35 : decode cX0_findFractions 35 = .ok (.iload 4, 2) := by decide +kernel
theorem dX0_findFractions_37 : decode cX0_findFractions 37 = .ok (.i2l, 1) := by decide +kernel
theorem dX0_findFractions_38 : decode cX0_findFractions 38 = .ok (.lrem, 1) := by decide +kernel
theorem dX0_findFractions_39 : decode cX0_findFractions 39 = .ok (.lconst 0, 1) := by decide +kernel
theorem dX0_findFractions_40 : decode cX0_findFractions 40 = .ok (.lcmp, 1) := by decide +kernel
theorem dX0_findFractions_41 : decode cX0_findFractions 41 = .ok (.ifCond .ne 9, 3) := by decide +kernel
theorem dX0_findFractions_44 : decode cX0_findFractions 44 = .ok (.aload_n 0, 1) := by decide +kernel
theorem dX0_findFractions_45 : decode cX0_findFractions 45 = .ok (.iload 4, 2) := by decide +kernel
theorem dX0_findFractions_47 : decode cX0_findFractions 47 = .ok (.invokevirtual 142, 3) := by decide +kernel
theorem dX0_findFractions_50 : decode cX0_findFractions 50 = .ok (.iinc 4 1, 3) := by decide +kernel
theorem dX0_findFractions_53 : decode cX0_findFractions 53 = .ok (.goto (-26), 3) := by decide +kernel
theorem dX0_findFractions_56 : decode cX0_findFractions 56 = .ok (.return_, 1) := by decide +kernel
theorem dX0_findFractionsBy_0 : decode cX0_findFractionsBy 0 = .ok (.bipush (-64), 2) := by decide +kernel
theorem dX0_findFractionsBy_2 : decode cX0_findFractionsBy 2 = .ok (.istore_n 2, 1) := by decide +kernel
theorem dX0_findFractionsBy_3 : decode cX0_findFractionsBy 3 = .ok (.iload_n 2, 1) := by decide +kernel
theorem dX0_findFractionsBy_4 : decode cX0_findFractionsBy 4 = .ok (.bipush 64, 2) := by decide +kernel
theorem dX0_findFractionsBy_6 : decode cX0_findFractionsBy 6 = .ok (.if_icmp .gt 40, 3) := by decide +kernel
theorem dX0_findFractionsBy_9 : decode cX0_findFractionsBy 9 = .ok (.aload_n 0, 1) := by decide +kernel
theorem dX0_findFractionsBy_10 : decode cX0_findFractionsBy 10 = .ok (.iload_n 2, 1) := by decide +kernel
theorem dX0_findFractionsBy_11 : decode cX0_findFractionsBy 11 = .ok (.i2l, 1) := by decide +kernel
theorem dX0_findFractionsBy_12 : decode cX0_findFractionsBy 12 = .ok (.iload_n 1, 1) := by decide +kernel
theorem dX0_findFractionsBy_13 : decode cX0_findFractionsBy 13 = .ok (.i2l, 1) := by decide +kernel
theorem dX0_findFractionsBy_14 : decode cX0_findFractionsBy 14 = .ok (.invokevirtual 146, 3) := by decide +kernel
theorem dX0_findFractionsBy_17 : decode cX0_findFractionsBy 17 = .ok (.lconst 0, 1) := by decide +kernel
theorem dX0_findFractionsBy_18 : decode cX0_findFractionsBy 18 = .ok (.lcmp, 1) := by decide +kernel
theorem dX0_findFractionsBy_19 : decode cX0_findFractionsBy 19 = .ok (.ifCond .ne 21, 3) := by decide +kernel
theorem dX0_findFractionsBy_22 : decode cX0_findFractionsBy 22 = .ok (.iload_n 2, 1) := by decide +kernel
theorem dX0_findFractionsBy_23 : decode cX0_findFractionsBy 23 = .ok (.i2l, 1) := by decide +kernel
theorem dX0_findFractionsBy_24 : decode cX0_findFractionsBy 24 = .ok (.iload_n 1, 1) := by decide +kernel
theorem dX0_findFractionsBy_25 : decode cX0_findFractionsBy 25 = .ok (.i2l, 1) := by decide +kernel
theorem dX0_findFractionsBy_26 : decode cX0_findFractionsBy 26 = .ok (.invokestatic 150, 3) := by decide +kernel
theorem dX0_findFractionsBy_29 : decode cX0_findFractionsBy 29 = .ok (.lconst 1, 1) := by decide +kernel
theorem dX0_findFractionsBy_30 : decode cX0_findFractionsBy 30 = .ok (.lcmp, 1) := by decide +kernel
theorem dX0_findFractionsBy_31 : decode cX0_findFractionsBy 31 = .ok (.ifCond .ne 9, 3) := by decide +kernel
theorem dX0_findFractionsBy_34 : decode cX0_findFractionsBy 34 = .ok (.aload_n 0, 1) := by decide +kernel
theorem dX0_findFractionsBy_35 : decode cX0_findFractionsBy 35 = .ok (.iload_n 2, 1) := by decide +kernel
theorem dX0_findFractionsBy_36 : decode cX0_findFractionsBy 36 = .ok (.iload_n 1, 1) := by decide +kernel
theorem dX0_findFractionsBy_37 : decode cX0_findFractionsBy 37 = .ok (.invokevirtual 153, 3) := by decide +kernel
theorem dX0_findFractionsBy_40 : decode cX0_findFractionsBy 40 = .ok (.iinc 2 1, 3) := by decide +kernel
theorem dX0_findFractionsBy_43 : decode cX0_findFractionsBy 43 = .ok (.goto (-40), 3) := by decide +kernel
theorem dX0_findFractionsBy_46 : decode cX0_findFractionsBy 46 = .ok (.return_, 1) := by decide +kernel
theorem dX0_keepFraction_0 : decode cX0_keepFraction 0 = .ok (.aload_n 0, 1) := by decide +kernel
theorem dX0_keepFraction_1 : decode cX0_keepFraction 1 = .ok (.getfield 138, 3) := by decide +kernel
theorem dX0_keepFraction_4 : decode cX0_keepFraction 4 = .ok (.aload_n 0, 1) := by decide +kernel
theorem dX0_keepFraction_5 : decode cX0_keepFraction 5 = .ok (.getfield 35, 3) := by decide +kernel
theorem dX0_keepFraction_8 : decode cX0_keepFraction 8 = .ok (.arraylength, 1) := by decide +kernel
theorem dX0_keepFraction_9 : decode cX0_keepFraction 9 = .ok (.if_icmp .lt 4, 3) := by decide +kernel
theorem dX0_keepFraction_12 : decode cX0_keepFraction 12 = .ok (.return_, 1) := by decide +kernel
theorem dX0_keepFraction_13 : decode cX0_keepFraction 13 = .ok (.aload_n 0, 1) := by decide +kernel
theorem dX0_keepFraction_14 : decode cX0_keepFraction 14 = .ok (.getfield 138, 3) := by decide +kernel
theorem dX0_keepFraction_17 : decode cX0_keepFraction 17 = .ok (.istore_n 3, 1) := by decide +kernel
theorem dX0_keepFraction_18 : decode cX0_keepFraction 18 = .ok (.iload_n 3, 1) := by decide +kernel
theorem dX0_keepFraction_19 : decode cX0_keepFraction 19 = .ok (.ifCond .le 60, 3) := by decide +kernel
theorem dX0_keepFraction_22 : decode cX0_keepFraction 22 = .ok (.aload_n 0, 1) := by decide +kernel
theorem dX0_keepFraction_23 : decode cX0_keepFraction 23 = .ok (.getfield 35, 3) := by decide +kernel
theorem dX0_keepFraction_26 : decode cX0_keepFraction 26 = .ok (.iload_n 3, 1) := by decide +kernel
theorem dX0_keepFraction_27 : decode cX0_keepFraction 27 = .ok (.iconst 1, 1) := by decide +kernel
theorem dX0_keepFraction_28 : decode cX0_keepFraction 28 = .ok (.isub, 1) := by decide +kernel
theorem dX0_keepFraction_29 : decode cX0_keepFraction 29 = .ok (.iaload, 1) := by decide +kernel
theorem dX0_keepFraction_30 : decode cX0_keepFraction 30 = .ok (.iload_n 2, 1) := by decide +kernel
theorem dX0_keepFraction_31 : decode cX0_keepFraction 31 = .ok (.imul, 1) := by decide +kernel
theorem dX0_keepFraction_32 : decode cX0_keepFraction 32 = .ok (.iload_n 1, 1) := by decide +kernel
theorem dX0_keepFraction_33 : decode cX0_keepFraction 33 = .ok (.aload_n 0, 1) := by decide +kernel
theorem dX0_keepFraction_34 : decode cX0_keepFraction 34 = .ok (.getfield 39, 3) := by decide +kernel
theorem dX0_keepFraction_37 : decode cX0_keepFraction 37 = .ok (.iload_n 3, 1) := by decide +kernel
theorem dX0_keepFraction_38 : decode cX0_keepFraction 38 = .ok (.iconst 1, 1) := by decide +kernel
theorem dX0_keepFraction_39 : decode cX0_keepFraction 39 = .ok (.isub, 1) := by decide +kernel
theorem dX0_keepFraction_40 : decode cX0_keepFraction 40 = .ok (.iaload, 1) := by decide +kernel
theorem dX0_keepFraction_41 : decode cX0_keepFraction 41 = .ok (.imul, 1) := by decide +kernel
theorem dX0_keepFraction_42 : decode cX0_keepFraction 42 = .ok (.if_icmp .le 37, 3) := by decide +kernel
theorem dX0_keepFraction_45 : decode cX0_keepFraction 45 = .ok (.aload_n 0, 1) := by decide +kernel
theorem dX0_keepFraction_46 : decode cX0_keepFraction 46 = .ok (.getfield 35, 3) := by decide +kernel
theorem dX0_keepFraction_49 : decode cX0_keepFraction 49 = .ok (.iload_n 3, 1) := by decide +kernel
theorem dX0_keepFraction_50 : decode cX0_keepFraction 50 = .ok (.aload_n 0, 1) := by decide +kernel
theorem dX0_keepFraction_51 : decode cX0_keepFraction 51 = .ok (.getfield 35, 3) := by decide +kernel
theorem dX0_keepFraction_54 : decode cX0_keepFraction 54 = .ok (.iload_n 3, 1) := by decide +kernel
theorem dX0_keepFraction_55 : decode cX0_keepFraction 55 = .ok (.iconst 1, 1) := by decide +kernel
theorem dX0_keepFraction_56 : decode cX0_keepFraction 56 = .ok (.isub, 1) := by decide +kernel
theorem dX0_keepFraction_57 : decode cX0_keepFraction 57 = .ok (.iaload, 1) := by decide +kernel
theorem dX0_keepFraction_58 : decode cX0_keepFraction 58 = .ok (.iastore, 1) := by decide +kernel
theorem dX0_keepFraction_59 : decode cX0_keepFraction 59 = .ok (.aload_n 0, 1) := by decide +kernel
theorem dX0_keepFraction_60 : decode cX0_keepFraction 60 = .ok (.getfield 39, 3) := by decide +kernel
theorem dX0_keepFraction_63 : decode cX0_keepFraction 63 = .ok (.iload_n 3, 1) := by decide +kernel
theorem dX0_keepFraction_64 : decode cX0_keepFraction 64 = .ok (.aload_n 0, 1) := by decide +kernel
theorem dX0_keepFraction_65 : decode cX0_keepFraction 65 = .ok (.getfield 39, 3) := by decide +kernel
theorem dX0_keepFraction_68 : decode cX0_keepFraction 68 = .ok (.iload_n 3, 1) := by decide +kernel
theorem dX0_keepFraction_69 : decode cX0_keepFraction 69 = .ok (.iconst 1, 1) := by decide +kernel
theorem dX0_keepFraction_70 : decode cX0_keepFraction 70 = .ok (.isub, 1) := by decide +kernel
theorem dX0_keepFraction_71 : decode cX0_keepFraction 71 = .ok (.iaload, 1) := by decide +kernel
theorem dX0_keepFraction_72 : decode cX0_keepFraction 72 = .ok (.iastore, 1) := by decide +kernel
theorem dX0_keepFraction_73 : decode cX0_keepFraction 73 = .ok (.iinc 3 (-1), 3) := by decide +kernel
theorem dX0_keepFraction_76 : decode cX0_keepFraction 76 = .ok (.goto (-58), 3) := by decide +kernel
theorem dX0_keepFraction_79 : decode cX0_keepFraction 79 = .ok (.aload_n 0, 1) := by decide +kernel
theorem dX0_keepFraction_80 : decode cX0_keepFraction 80 = .ok (.getfield 35, 3) := by decide +kernel
theorem dX0_keepFraction_83 : decode cX0_keepFraction 83 = .ok (.iload_n 3, 1) := by decide +kernel
theorem dX0_keepFraction_84 : decode cX0_keepFraction 84 = .ok (.iload_n 1, 1) := by decide +kernel
theorem dX0_keepFraction_85 : decode cX0_keepFraction 85 = .ok (.iastore, 1) := by decide +kernel
theorem dX0_keepFraction_86 : decode cX0_keepFraction 86 = .ok (.aload_n 0, 1) := by decide +kernel
theorem dX0_keepFraction_87 : decode cX0_keepFraction 87 = .ok (.getfield 39, 3) := by decide +kernel
theorem dX0_keepFraction_90 : decode cX0_keepFraction 90 = .ok (.iload_n 3, 1) := by decide +kernel
theorem dX0_keepFraction_91 : decode cX0_keepFraction 91 = .ok (.iload_n 2, 1) := by decide +kernel
theorem dX0_keepFraction_92 : decode cX0_keepFraction 92 = .ok (.iastore, 1) := by decide +kernel
theorem dX0_keepFraction_93 : decode cX0_keepFraction 93 = .ok (.aload_n 0, 1) := by decide +kernel
theorem dX0_keepFraction_94 : decode cX0_keepFraction 94 = .ok (.dup, 1) := by decide +kernel
theorem dX0_keepFraction_95 : decode cX0_keepFraction 95 = .ok (.getfield 138, 3) := by decide +kernel
theorem dX0_keepFraction_98 : decode cX0_keepFraction 98 = .ok (.iconst 1, 1) := by decide +kernel
theorem dX0_keepFraction_99 : decode cX0_keepFraction 99 = .ok (.iadd, 1) := by decide +kernel
theorem dX0_keepFraction_100 : decode cX0_keepFraction 100 = .ok (.putfield 138, 3) := by decide +kernel
theorem dX0_keepFraction_103 : decode cX0_keepFraction 103 = .ok (.return_, 1) := by decide +kernel
theorem dX0_timesAt_0 : decode cX0_timesAt 0 = .ok (.lload_n 3, 1) := by decide +kernel
theorem dX0_timesAt_1 : decode cX0_timesAt 1 = .ok (.lconst 0, 1) := by decide +kernel
theorem dX0_timesAt_2 : decode cX0_timesAt 2 = .ok (.lcmp, 1) := by decide +kernel
theorem dX0_timesAt_3 : decode cX0_timesAt 3 = .ok (.ifCond .ne 5, 3) := by decide +kernel
theorem dX0_timesAt_6 : decode cX0_timesAt 6 = .ok (.iconst 0, 1) := by decide +kernel
theorem dX0_timesAt_7 : decode cX0_timesAt 7 = .ok (.ireturn, 1) := by decide +kernel
theorem dX0_timesAt_8 : decode cX0_timesAt 8 = .ok (.iconst 0, 1) := by decide +kernel
theorem dX0_timesAt_9 : decode cX0_timesAt 9 = .ok (.istore 5, 2) := by decide +kernel
theorem dX0_timesAt_11 : decode cX0_timesAt 11 = .ok (.iload 5, 2) := by decide +kernel
theorem dX0_timesAt_13 : decode cX0_timesAt 13 = .ok (.iconst 5, 1) := by decide +kernel
theorem dX0_timesAt_14 : decode cX0_timesAt 14 = .ok (.if_icmp .ge 23, 3) := by decide +kernel
theorem dX0_timesAt_17 : decode cX0_timesAt 17 = .ok (.aload_n 0, 1) := by decide +kernel
theorem dX0_timesAt_18 : decode cX0_timesAt 18 = .ok (.getfield 15, 3) := by decide +kernel
theorem dX0_timesAt_21 : decode cX0_timesAt 21 = .ok (.iload 5, 2) := by decide +kernel
theorem dX0_timesAt_23 : decode cX0_timesAt 23 = .ok (.aload_n 0, 1) := by decide +kernel
theorem dX0_timesAt_24 : decode cX0_timesAt 24 = .ok (.getfield 9, 3) := by decide +kernel
theorem dX0_timesAt_27 : decode cX0_timesAt 27 = .ok (.iload 5, 2) := by decide +kernel
theorem dX0_timesAt_29 : decode cX0_timesAt 29 = .ok (.laload, 1) := by decide +kernel
theorem dX0_timesAt_30 : decode cX0_timesAt 30 = .ok (.lastore, 1) := by decide +kernel
theorem dX0_timesAt_31 : decode cX0_timesAt 31 = .ok (.iinc 5 1, 3) := by decide +kernel
theorem dX0_timesAt_34 : decode cX0_timesAt 34 = .ok (.goto (-23), 3) := by decide +kernel
theorem dX0_timesAt_37 : decode cX0_timesAt 37 = .ok (.iconst 0, 1) := by decide +kernel
theorem dX0_timesAt_38 : decode cX0_timesAt 38 = .ok (.istore 5, 2) := by decide +kernel
theorem dX0_timesAt_40 : decode cX0_timesAt 40 = .ok (.iconst 4, 1) := by decide +kernel
theorem dX0_timesAt_41 : decode cX0_timesAt 41 = .ok (.istore 6, 2) := by decide +kernel
theorem dX0_timesAt_43 : decode cX0_timesAt 43 = .ok (.iload 6, 2) := by decide +kernel
theorem dX0_timesAt_45 : decode cX0_timesAt 45 = .ok (.ifCond .le 89, 3) := by decide +kernel
theorem dX0_timesAt_48 : decode cX0_timesAt 48 = .ok (.aload_n 0, 1) := by decide +kernel
theorem dX0_timesAt_49 : decode cX0_timesAt 49 = .ok (.getfield 15, 3) := by decide +kernel
theorem dX0_timesAt_52 : decode cX0_timesAt 52 = .ok (.iload 6, 2) := by decide +kernel
theorem dX0_timesAt_54 : decode cX0_timesAt 54 = .ok (.lload_n 1, 1) := by decide +kernel
theorem dX0_timesAt_55 : decode cX0_timesAt 55 = .ok (.lload_n 3, 1) := by decide +kernel
theorem dX0_timesAt_56 : decode cX0_timesAt 56 = .ok (.invokestatic 134, 3) := by decide +kernel
theorem dX0_timesAt_59 : decode cX0_timesAt 59 = .ok (.lconst 0, 1) := by decide +kernel
theorem dX0_timesAt_60 : decode cX0_timesAt 60 = .ok (.lcmp, 1) := by decide +kernel
theorem dX0_timesAt_61 : decode cX0_timesAt 61 = .ok (.ifCond .eq 6, 3) := by decide +kernel
theorem dX0_timesAt_64 : decode cX0_timesAt 64 = .ok (.iload 5, 2) := by decide +kernel
theorem dX0_timesAt_66 : decode cX0_timesAt 66 = .ok (.ireturn, 1) := by decide +kernel
theorem dX0_timesAt_67 : decode cX0_timesAt 67 = .ok (.iinc 5 1, 3) := by decide +kernel
theorem dX0_timesAt_70 : decode cX0_timesAt 70 = .ok (.aload_n 0, 1) := by decide +kernel
theorem dX0_timesAt_71 : decode cX0_timesAt 71 = .ok (.getfield 15, 3) := by decide +kernel
theorem dX0_timesAt_74 : decode cX0_timesAt 74 = .ok (.iconst 0, 1) := by decide +kernel
theorem dX0_timesAt_75 : decode cX0_timesAt 75 = .ok (.aload_n 0, 1) := by decide +kernel
theorem dX0_timesAt_76 : decode cX0_timesAt 76 = .ok (.getfield 15, 3) := by decide +kernel
theorem dX0_timesAt_79 : decode cX0_timesAt 79 = .ok (.iconst 0, 1) := by decide +kernel
theorem dX0_timesAt_80 : decode cX0_timesAt 80 = .ok (.laload, 1) := by decide +kernel
theorem dX0_timesAt_81 : decode cX0_timesAt 81 = .ok (.lload_n 3, 1) := by decide +kernel
theorem dX0_timesAt_82 : decode cX0_timesAt 82 = .ok (.ldiv, 1) := by decide +kernel
theorem dX0_timesAt_83 : decode cX0_timesAt 83 = .ok (.lastore, 1) := by decide +kernel
theorem dX0_timesAt_84 : decode cX0_timesAt 84 = .ok (.iconst 1, 1) := by decide +kernel
theorem dX0_timesAt_85 : decode cX0_timesAt 85 = .ok (.istore 7, 2) := by decide +kernel
theorem dX0_timesAt_87 : decode cX0_timesAt 87 = .ok (.iload 7, 2) := by decide +kernel
theorem dX0_timesAt_89 : decode cX0_timesAt 89 = .ok (.iload 6, 2) := by decide +kernel
theorem dX0_timesAt_91 : decode cX0_timesAt 91 = .ok (.if_icmp .ge 37, 3) := by decide +kernel
theorem dX0_timesAt_94 : decode cX0_timesAt 94 = .ok (.aload_n 0, 1) := by decide +kernel
theorem dX0_timesAt_95 : decode cX0_timesAt 95 = .ok (.getfield 15, 3) := by decide +kernel
theorem dX0_timesAt_98 : decode cX0_timesAt 98 = .ok (.iload 7, 2) := by decide +kernel
theorem dX0_timesAt_100 : decode cX0_timesAt 100 = .ok (.aload_n 0, 1) := by decide +kernel
theorem dX0_timesAt_101 : decode cX0_timesAt 101 = .ok (.getfield 15, 3) := by decide +kernel
theorem dX0_timesAt_104 : decode cX0_timesAt 104 = .ok (.iload 7, 2) := by decide +kernel
theorem dX0_timesAt_106 : decode cX0_timesAt 106 = .ok (.laload, 1) := by decide +kernel
theorem dX0_timesAt_107 : decode cX0_timesAt 107 = .ok (.lload_n 1, 1) := by decide +kernel
theorem dX0_timesAt_108 : decode cX0_timesAt 108 = .ok (.aload_n 0, 1) := by decide +kernel
theorem dX0_timesAt_109 : decode cX0_timesAt 109 = .ok (.getfield 15, 3) := by decide +kernel
theorem dX0_timesAt_112 : decode cX0_timesAt 112 = .ok (.iload 7, 2) := by decide +kernel
theorem dX0_timesAt_114 : decode cX0_timesAt 114 = .ok (.iconst 1, 1) := by decide +kernel
theorem dX0_timesAt_115 : decode cX0_timesAt 115 = .ok (.isub, 1) := by decide +kernel
theorem dX0_timesAt_116 : decode cX0_timesAt 116 = .ok (.laload, 1) := by decide +kernel
theorem dX0_timesAt_117 : decode cX0_timesAt 117 = .ok (.lmul, 1) := by decide +kernel
theorem dX0_timesAt_118 : decode cX0_timesAt 118 = .ok (.ladd, 1) := by decide +kernel
theorem dX0_timesAt_119 : decode cX0_timesAt 119 = .ok (.lload_n 3, 1) := by decide +kernel
theorem dX0_timesAt_120 : decode cX0_timesAt 120 = .ok (.ldiv, 1) := by decide +kernel
theorem dX0_timesAt_121 : decode cX0_timesAt 121 = .ok (.lastore, 1) := by decide +kernel
theorem dX0_timesAt_122 : decode cX0_timesAt 122 = .ok (.iinc 7 1, 3) := by decide +kernel
theorem dX0_timesAt_125 : decode cX0_timesAt 125 = .ok (.goto (-38), 3) := by decide +kernel
theorem dX0_timesAt_128 : decode cX0_timesAt 128 = .ok (.iinc 6 (-1), 3) := by decide +kernel
theorem dX0_timesAt_131 : decode cX0_timesAt 131 = .ok (.goto (-88), 3) := by decide +kernel
theorem dX0_timesAt_134 : decode cX0_timesAt 134 = .ok (.iload 5, 2) := by decide +kernel
theorem dX0_timesAt_136 : decode cX0_timesAt 136 = .ok (.ireturn, 1) := by decide +kernel
theorem dX1_init_0 : decode cX1_init 0 = .ok (.aload_n 0, 1) := by decide +kernel
theorem dX1_init_1 : decode cX1_init 1 = .ok (.invokespecial 3, 3) := by decide +kernel
theorem dX1_init_4 : decode cX1_init 4 = .ok (.aload_n 0, 1) := by decide +kernel
theorem dX1_init_5 : decode cX1_init 5 = .ok (.new 9, 3) := by decide +kernel
theorem dX1_init_8 : decode cX1_init 8 = .ok (.dup, 1) := by decide +kernel
theorem dX1_init_9 : decode cX1_init 9 = .ok (.invokespecial 11, 3) := by decide +kernel
theorem dX1_init_12 : decode cX1_init 12 = .ok (.putfield 12, 3) := by decide +kernel
theorem dX1_init_15 : decode cX1_init 15 = .ok (.aload_n 0, 1) := by decide +kernel
theorem dX1_init_16 : decode cX1_init 16 = .ok (.bipush 10, 2) := by decide +kernel
theorem dX1_init_18 : decode cX1_init 18 = .ok (.newarray .int, 2) := by decide +kernel
theorem dX1_init_20 : decode cX1_init 20 = .ok (.putfield 18, 3) := by decide +kernel
theorem dX1_init_23 : decode cX1_init 23 = .ok (.return_, 1) := by decide +kernel
theorem dX1_kind_0 : decode cX1_kind 0 = .ok (.aload_n 0, 1) := by decide +kernel
theorem dX1_kind_1 : decode cX1_kind 1 = .ok (.getfield 18, 3) := by decide +kernel
theorem dX1_kind_4 : decode cX1_kind 4 = .ok (.iconst 0, 1) := by decide +kernel
theorem dX1_kind_5 : decode cX1_kind 5 = .ok (.iaload, 1) := by decide +kernel
theorem dX1_kind_6 : decode cX1_kind 6 = .ok (.ireturn, 1) := by decide +kernel
theorem dX1_above_0 : decode cX1_above 0 = .ok (.aload_n 0, 1) := by decide +kernel
theorem dX1_above_1 : decode cX1_above 1 = .ok (.getfield 18, 3) := by decide +kernel
theorem dX1_above_4 : decode cX1_above 4 = .ok (.iconst 1, 1) := by decide +kernel
theorem dX1_above_5 : decode cX1_above 5 = .ok (.iaload, 1) := by decide +kernel
theorem dX1_above_6 : decode cX1_above 6 = .ok (.ireturn, 1) := by decide +kernel
theorem dX1_below_0 : decode cX1_below 0 = .ok (.aload_n 0, 1) := by decide +kernel
theorem dX1_below_1 : decode cX1_below 1 = .ok (.getfield 18, 3) := by decide +kernel
theorem dX1_below_4 : decode cX1_below 4 = .ok (.iconst 2, 1) := by decide +kernel
theorem dX1_below_5 : decode cX1_below 5 = .ok (.iaload, 1) := by decide +kernel
theorem dX1_below_6 : decode cX1_below 6 = .ok (.ireturn, 1) := by decide +kernel
theorem dX1_nought_0 : decode cX1_nought 0 = .ok (.aload_n 0, 1) := by decide +kernel
theorem dX1_nought_1 : decode cX1_nought 1 = .ok (.getfield 18, 3) := by decide +kernel
theorem dX1_nought_4 : decode cX1_nought 4 = .ok (.iconst 3, 1) := by decide +kernel
theorem dX1_nought_5 : decode cX1_nought 5 = .ok (.iaload, 1) := by decide +kernel
theorem dX1_nought_6 : decode cX1_nought 6 = .ok (.ireturn, 1) := by decide +kernel
theorem dX1_worth_0 : decode cX1_worth 0 = .ok (.aload_n 0, 1) := by decide +kernel
theorem dX1_worth_1 : decode cX1_worth 1 = .ok (.getfield 18, 3) := by decide +kernel
theorem dX1_worth_4 : decode cX1_worth 4 = .ok (.bipush 7, 2) := by decide +kernel
theorem dX1_worth_6 : decode cX1_worth 6 = .ok (.iaload, 1) := by decide +kernel
theorem dX1_worth_7 : decode cX1_worth 7 = .ok (.ireturn, 1) := by decide +kernel
theorem dX1_lesserWorth_0 : decode cX1_lesserWorth 0 = .ok (.aload_n 0, 1) := by decide +kernel
theorem dX1_lesserWorth_1 : decode cX1_lesserWorth 1 = .ok (.getfield 18, 3) := by decide +kernel
theorem dX1_lesserWorth_4 : decode cX1_lesserWorth 4 = .ok (.bipush 8, 2) := by decide +kernel
theorem dX1_lesserWorth_6 : decode cX1_lesserWorth 6 = .ok (.iaload, 1) := by decide +kernel
theorem dX1_lesserWorth_7 : decode cX1_lesserWorth 7 = .ok (.ireturn, 1) := by decide +kernel
theorem dX1_name_0 : decode cX1_name 0 = .ok (.aload_n 0, 1) := by decide +kernel
theorem dX1_name_1 : decode cX1_name 1 = .ok (.getfield 18, 3) := by decide +kernel
theorem dX1_name_4 : decode cX1_name 4 = .ok (.bipush 9, 2) := by decide +kernel
theorem dX1_name_6 : decode cX1_name 6 = .ok (.iaload, 1) := by decide +kernel
theorem dX1_name_7 : decode cX1_name 7 = .ok (.ireturn, 1) := by decide +kernel
theorem dX1_changesSign_0 : decode cX1_changesSign 0 = .ok (.aload_n 0, 1) := by decide +kernel
theorem dX1_changesSign_1 : decode cX1_changesSign 1 = .ok (.invokevirtual 22, 3) := by decide +kernel
theorem dX1_changesSign_4 : decode cX1_changesSign 4 = .ok (.ifCond .le 14, 3) := by decide +kernel
theorem dX1_changesSign_7 : decode cX1_changesSign 7 = .ok (.aload_n 0, 1) := by decide +kernel
theorem dX1_changesSign_8 : decode cX1_changesSign 8 = .ok (.invokevirtual 26, 3) := by decide +kernel
theorem dX1_changesSign_11 : decode cX1_changesSign 11 = .ok (.ifCond .le 7, 3) := by decide +kernel
theorem dX1_changesSign_14 : decode cX1_changesSign 14 = .ok (.iconst 1, 1) := by decide +kernel
theorem dX1_changesSign_15 : decode cX1_changesSign 15 = .ok (.goto 4, 3) := by decide +kernel
theorem dX1_changesSign_18 : decode cX1_changesSign 18 = .ok (.iconst 0, 1) := by decide +kernel
theorem dX1_changesSign_19 : decode cX1_changesSign 19 = .ok (.ireturn, 1) := by decide +kernel
theorem dX1_is_0 : decode cX1_is 0 = .ok (.iload_n 1, 1) := by decide +kernel
theorem dX1_is_1 : decode cX1_is 1 = .ok (.ifCond .eq 24, 3) := by decide +kernel
theorem dX1_is_4 : decode cX1_is 4 = .ok (.aload_n 0, 1) := by decide +kernel
theorem dX1_is_5 : decode cX1_is 5 = .ok (.invokevirtual 29, 3) := by decide +kernel
theorem dX1_is_8 : decode cX1_is 8 = .ok (.iload_n 1, 1) := by decide +kernel
theorem dX1_is_9 : decode cX1_is 9 = .ok (.if_icmp .eq 16, 3) := by decide +kernel
theorem dX1_is_12 : decode cX1_is 12 = .ok (.iload_n 1, 1) := by decide +kernel
theorem dX1_is_13 : decode cX1_is 13 = .ok (.iconst 1, 1) := by decide +kernel
theorem dX1_is_14 : decode cX1_is 14 = .ok (.if_icmp .ne 15, 3) := by decide +kernel
theorem dX1_is_17 : decode cX1_is 17 = .ok (.aload_n 0, 1) := by decide +kernel
theorem dX1_is_18 : decode cX1_is 18 = .ok (.invokevirtual 29, 3) := by decide +kernel
theorem dX1_is_21 : decode cX1_is 21 = .ok (.iconst 2, 1) := by decide +kernel
theorem dX1_is_22 : decode cX1_is 22 = .ok (.if_icmp .ne 7, 3) := by decide +kernel
theorem dX1_is_25 : decode cX1_is 25 = .ok (.iconst 1, 1) := by decide +kernel
theorem dX1_is_26 : decode cX1_is 26 = .ok (.goto 4, 3) := by decide +kernel
theorem dX1_is_29 : decode cX1_is 29 = .ok (.iconst 0, 1) := by decide +kernel
theorem dX1_is_30 : decode cX1_is 30 = .ok (.ireturn, 1) := by decide +kernel
theorem dX1_becomes_0 : decode cX1_becomes 0 = .ok (.aload_n 0, 1) := by decide +kernel
theorem dX1_becomes_1 : decode cX1_becomes 1 = .ok (.getfield 12, 3) := by decide +kernel
theorem dX1_becomes_4 : decode cX1_becomes 4 = .ok (.aload_n 1, 1) := by decide +kernel
theorem dX1_becomes_5 : decode cX1_becomes 5 = .ok (.invokevirtual 32, 3) := by decide +kernel
theorem dX1_becomes_8 : decode cX1_becomes 8 = .ok (.aload_n 0, 1) := by decide +kernel
theorem dX1_becomes_9 : decode cX1_becomes 9 = .ok (.getfield 12, 3) := by decide +kernel
theorem dX1_becomes_12 : decode cX1_becomes 12 = .ok (.invokevirtual 36, 3) := by decide +kernel
theorem dX1_becomes_15 : decode cX1_becomes 15 = .ok (.aload_n 2, 1) := by decide +kernel
theorem dX1_becomes_16 : decode cX1_becomes 16 = .ok (.aload_n 0, 1) := by decide +kernel
theorem dX1_becomes_17 : decode cX1_becomes 17 = .ok (.getfield 12, 3) := by decide +kernel
theorem dX1_becomes_20 : decode cX1_becomes 20 = .ok (.invokevirtual 39, 3) := by decide +kernel
theorem dX1_becomes_23 : decode cX1_becomes 23 = .ok (.aload_n 2, 1) := by decide +kernel
theorem dX1_becomes_24 : decode cX1_becomes 24 = .ok (.invokevirtual 36, 3) := by decide +kernel
theorem dX1_becomes_27 : decode cX1_becomes 27 = .ok (.aload_n 0, 1) := by decide +kernel
theorem dX1_becomes_28 : decode cX1_becomes 28 = .ok (.iconst 1, 1) := by decide +kernel
theorem dX1_becomes_29 : decode cX1_becomes 29 = .ok (.putfield 42, 3) := by decide +kernel
theorem dX1_becomes_32 : decode cX1_becomes 32 = .ok (.aload_n 0, 1) := by decide +kernel
theorem dX1_becomes_33 : decode cX1_becomes 33 = .ok (.getfield 18, 3) := by decide +kernel
theorem dX1_becomes_36 : decode cX1_becomes 36 = .ok (.iconst 1, 1) := by decide +kernel
theorem dX1_becomes_37 : decode cX1_becomes 37 = .ok (.aload_n 0, 1) := by decide +kernel
theorem dX1_becomes_38 : decode cX1_becomes 38 = .ok (.getfield 12, 3) := by decide +kernel
theorem dX1_becomes_41 : decode cX1_becomes 41 = .ok (.getfield 46, 3) := by decide +kernel
theorem dX1_becomes_44 : decode cX1_becomes 44 = .ok (.iastore, 1) := by decide +kernel
theorem dX1_becomes_45 : decode cX1_becomes 45 = .ok (.aload_n 0, 1) := by decide +kernel
theorem dX1_becomes_46 : decode cX1_becomes 46 = .ok (.getfield 18, 3) := by decide +kernel
theorem dX1_becomes_49 : decode cX1_becomes 49 = .ok (.iconst 2, 1) := by decide +kernel
theorem dX1_becomes_50 : decode cX1_becomes 50 = .ok (.aload_n 0, 1) := by decide +kernel
theorem dX1_becomes_51 : decode cX1_becomes 51 = .ok (.getfield 12, 3) := by decide +kernel
theorem dX1_becomes_54 : decode cX1_becomes 54 = .ok (.getfield 49, 3) := by decide +kernel
theorem dX1_becomes_57 : decode cX1_becomes 57 = .ok (.iastore, 1) := by decide +kernel
theorem dX1_becomes_58 : decode cX1_becomes 58 = .ok (.aload_n 0, 1) := by decide +kernel
theorem dX1_becomes_59 : decode cX1_becomes 59 = .ok (.getfield 18, 3) := by decide +kernel
theorem dX1_becomes_62 : decode cX1_becomes 62 = .ok (.iconst 3, 1) := by decide +kernel
theorem dX1_becomes_63 : decode cX1_becomes 63 = .ok (.iconst 4, 1) := by decide +kernel
theorem dX1_becomes_64 : decode cX1_becomes 64 = .ok (.aload_n 0, 1) := by decide +kernel
theorem dX1_becomes_65 : decode cX1_becomes 65 = .ok (.getfield 12, 3) := by decide +kernel
theorem dX1_becomes_68 : decode cX1_becomes 68 = .ok (.getfield 46, 3) := by decide +kernel
theorem dX1_becomes_71 : decode cX1_becomes 71 = .ok (.isub, 1) := by decide +kernel
theorem dX1_becomes_72 : decode cX1_becomes 72 = .ok (.aload_n 0, 1) := by decide +kernel
theorem dX1_becomes_73 : decode cX1_becomes 73 = .ok (.getfield 12, 3) := by decide +kernel
theorem dX1_becomes_76 : decode cX1_becomes 76 = .ok (.getfield 49, 3) := by decide +kernel
theorem dX1_becomes_79 : decode cX1_becomes 79 = .ok (.isub, 1) := by decide +kernel
theorem dX1_becomes_80 : decode cX1_becomes 80 = .ok (.iastore, 1) := by decide +kernel
theorem dX1_becomes_81 : decode cX1_becomes 81 = .ok (.aload_n 0, 1) := by decide +kernel
theorem dX1_becomes_82 : decode cX1_becomes 82 = .ok (.getfield 18, 3) := by decide +kernel
theorem dX1_becomes_85 : decode cX1_becomes 85 = .ok (.iconst 4, 1) := by decide +kernel
theorem dX1_becomes_86 : decode cX1_becomes 86 = .ok (.aload_n 2, 1) := by decide +kernel
theorem dX1_becomes_87 : decode cX1_becomes 87 = .ok (.getfield 46, 3) := by decide +kernel
theorem dX1_becomes_90 : decode cX1_becomes 90 = .ok (.iastore, 1) := by decide +kernel
theorem dX1_becomes_91 : decode cX1_becomes 91 = .ok (.aload_n 0, 1) := by decide +kernel
theorem dX1_becomes_92 : decode cX1_becomes 92 = .ok (.getfield 18, 3) := by decide +kernel
theorem dX1_becomes_95 : decode cX1_becomes 95 = .ok (.iconst 5, 1) := by decide +kernel
theorem dX1_becomes_96 : decode cX1_becomes 96 = .ok (.aload_n 2, 1) := by decide +kernel
theorem dX1_becomes_97 : decode cX1_becomes 97 = .ok (.getfield 49, 3) := by decide +kernel
theorem dX1_becomes_100 : decode cX1_becomes 100 = .ok (.iastore, 1) := by decide +kernel
theorem dX1_becomes_101 : decode cX1_becomes 101 = .ok (.aload_n 0, 1) := by decide +kernel
theorem dX1_becomes_102 : decode cX1_becomes 102 = .ok (.getfield 18, 3) := by decide +kernel
theorem dX1_becomes_105 : decode cX1_becomes 105 = .ok (.bipush 6, 2) := by decide +kernel
theorem dX1_becomes_107 : decode cX1_becomes 107 = .ok (.iconst 3, 1) := by decide +kernel
theorem dX1_becomes_108 : decode cX1_becomes 108 = .ok (.aload_n 2, 1) := by decide +kernel
theorem dX1_becomes_109 : decode cX1_becomes 109 = .ok (.getfield 46, 3) := by decide +kernel
theorem dX1_becomes_112 : decode cX1_becomes 112 = .ok (.isub, 1) := by decide +kernel
theorem dX1_becomes_113 : decode cX1_becomes 113 = .ok (.aload_n 2, 1) := by decide +kernel
theorem dX1_becomes_114 : decode cX1_becomes 114 = .ok (.getfield 49, 3) := by decide +kernel
theorem dX1_becomes_117 : decode cX1_becomes 117 = .ok (.isub, 1) := by decide +kernel
theorem dX1_becomes_118 : decode cX1_becomes 118 = .ok (.iastore, 1) := by decide +kernel
theorem dX1_becomes_119 : decode cX1_becomes 119 = .ok (.aload_n 0, 1) := by decide +kernel
theorem dX1_becomes_120 : decode cX1_becomes 120 = .ok (.getfield 18, 3) := by decide +kernel
theorem dX1_becomes_123 : decode cX1_becomes 123 = .ok (.bipush 7, 2) := by decide +kernel
theorem dX1_becomes_125 : decode cX1_becomes 125 = .ok (.aload_n 0, 1) := by decide +kernel
theorem dX1_becomes_126 : decode cX1_becomes 126 = .ok (.getfield 12, 3) := by decide +kernel
theorem dX1_becomes_129 : decode cX1_becomes 129 = .ok (.invokevirtual 51, 3) := by decide +kernel
theorem dX1_becomes_132 : decode cX1_becomes 132 = .ok (.l2i, 1) := by decide +kernel
theorem dX1_becomes_133 : decode cX1_becomes 133 = .ok (.iastore, 1) := by decide +kernel
theorem dX1_becomes_134 : decode cX1_becomes 134 = .ok (.aload_n 0, 1) := by decide +kernel
theorem dX1_becomes_135 : decode cX1_becomes 135 = .ok (.getfield 18, 3) := by decide +kernel
theorem dX1_becomes_138 : decode cX1_becomes 138 = .ok (.bipush 8, 2) := by decide +kernel
theorem dX1_becomes_140 : decode cX1_becomes 140 = .ok (.aload_n 0, 1) := by decide +kernel
theorem dX1_becomes_141 : decode cX1_becomes 141 = .ok (.getfield 12, 3) := by decide +kernel
theorem dX1_becomes_144 : decode cX1_becomes 144 = .ok (.iconst 0, 1) := by decide +kernel
theorem dX1_becomes_145 : decode cX1_becomes 145 = .ok (.iconst 1, 1) := by decide +kernel
theorem dX1_becomes_146 : decode cX1_becomes 146 = .ok (.iconst 2, 1) := by decide +kernel
theorem dX1_becomes_147 : decode cX1_becomes 147 = .ok (.invokevirtual 55, 3) := by decide +kernel
theorem dX1_becomes_150 : decode cX1_becomes 150 = .ok (.l2i, 1) := by decide +kernel
theorem dX1_becomes_151 : decode cX1_becomes 151 = .ok (.iastore, 1) := by decide +kernel
theorem dX1_becomes_152 : decode cX1_becomes 152 = .ok (.aload_n 0, 1) := by decide +kernel
theorem dX1_becomes_153 : decode cX1_becomes 153 = .ok (.getfield 18, 3) := by decide +kernel
theorem dX1_becomes_156 : decode cX1_becomes 156 = .ok (.bipush 9, 2) := by decide +kernel
theorem dX1_becomes_158 : decode cX1_becomes 158 = .ok (.aload_n 0, 1) := by decide +kernel
theorem dX1_becomes_159 : decode cX1_becomes 159 = .ok (.getfield 12, 3) := by decide +kernel
theorem dX1_becomes_162 : decode cX1_becomes 162 = .ok (.getfield 46, 3) := by decide +kernel
theorem dX1_becomes_165 : decode cX1_becomes 165 = .ok (.aload_n 0, 1) := by decide +kernel
theorem dX1_becomes_166 : decode cX1_becomes 166 = .ok (.getfield 12, 3) := by decide +kernel
theorem dX1_becomes_169 : decode cX1_becomes 169 = .ok (.getfield 49, 3) := by decide +kernel
theorem dX1_becomes_172 : decode cX1_becomes 172 = .ok (.aload_n 2, 1) := by decide +kernel
theorem dX1_becomes_173 : decode cX1_becomes 173 = .ok (.getfield 46, 3) := by decide +kernel
theorem dX1_becomes_176 : decode cX1_becomes 176 = .ok (.aload_n 2, 1) := by decide +kernel
theorem dX1_becomes_177 : decode cX1_becomes 177 = .ok (.getfield 49, 3) := by decide +kernel
theorem dX1_becomes_180 : decode cX1_becomes 180 = .ok (.invokestatic 59, 3) := by decide +kernel
theorem dX1_becomes_183 : decode cX1_becomes 183 = .ok (.aload_n 0, 1) := by decide +kernel
theorem dX1_becomes_184 : decode cX1_becomes 184 = .ok (.getfield 12, 3) := by decide +kernel
theorem dX1_becomes_187 : decode cX1_becomes 187 = .ok (.getfield 49, 3) := by decide +kernel
theorem dX1_becomes_190 : decode cX1_becomes 190 = .ok (.aload_n 0, 1) := by decide +kernel
theorem dX1_becomes_191 : decode cX1_becomes 191 = .ok (.getfield 12, 3) := by decide +kernel
theorem dX1_becomes_194 : decode cX1_becomes 194 = .ok (.getfield 46, 3) := by decide +kernel
theorem dX1_becomes_197 : decode cX1_becomes 197 = .ok (.aload_n 2, 1) := by decide +kernel
theorem dX1_becomes_198 : decode cX1_becomes 198 = .ok (.getfield 49, 3) := by decide +kernel
theorem dX1_becomes_201 : decode cX1_becomes 201 = .ok (.aload_n 2, 1) := by decide +kernel
theorem dX1_becomes_202 : decode cX1_becomes 202 = .ok (.getfield 46, 3) := by decide +kernel
theorem dX1_becomes_205 : decode cX1_becomes 205 = .ok (.invokestatic 59, 3) := by decide +kernel
theorem dX1_becomes_208 : decode cX1_becomes 208 = .ok (.invokestatic 63, 3) := by decide +kernel
theorem dX1_becomes_211 : decode cX1_becomes 211 = .ok (.iastore, 1) := by decide +kernel
theorem dX1_becomes_212 : decode cX1_becomes 212 = .ok (.aload_n 0, 1) := by decide +kernel
theorem dX1_becomes_213 : decode cX1_becomes 213 = .ok (.getfield 18, 3) := by decide +kernel
theorem dX1_becomes_216 : decode cX1_becomes 216 = .ok (.iconst 0, 1) := by decide +kernel
theorem dX1_becomes_217 : decode cX1_becomes 217 = .ok (.aload_n 0, 1) := by decide +kernel
theorem dX1_becomes_218 : decode cX1_becomes 218 = .ok (.invokevirtual 69, 3) := by decide +kernel
theorem dX1_becomes_221 : decode cX1_becomes 221 = .ok (.iastore, 1) := by decide +kernel
theorem dX1_becomes_222 : decode cX1_becomes 222 = .ok (.aload_n 0, 1) := by decide +kernel
theorem dX1_becomes_223 : decode cX1_becomes 223 = .ok (.invokevirtual 29, 3) := by decide +kernel
theorem dX1_becomes_226 : decode cX1_becomes 226 = .ok (.ireturn, 1) := by decide +kernel
theorem dX1_nameBy_0 : decode cX1_nameBy 0 = .ok (.sipush 1000, 3) := by decide +kernel
theorem dX1_nameBy_3 : decode cX1_nameBy 3 = .ok (.iload_n 0, 1) := by decide +kernel
theorem dX1_nameBy_4 : decode cX1_nameBy 4 = .ok (.imul, 1) := by decide +kernel
theorem dX1_nameBy_5 : decode cX1_nameBy 5 = .ok (.bipush 100, 2) := by decide +kernel
theorem dX1_nameBy_7 : decode cX1_nameBy 7 = .ok (.iload_n 1, 1) := by decide +kernel
theorem dX1_nameBy_8 : decode cX1_nameBy 8 = .ok (.imul, 1) := by decide +kernel
theorem dX1_nameBy_9 : decode cX1_nameBy 9 = .ok (.iadd, 1) := by decide +kernel
theorem dX1_nameBy_10 : decode cX1_nameBy 10 = .ok (.bipush 10, 2) := by decide +kernel
theorem dX1_nameBy_12 : decode cX1_nameBy 12 = .ok (.iload_n 2, 1) := by decide +kernel
theorem dX1_nameBy_13 : decode cX1_nameBy 13 = .ok (.imul, 1) := by decide +kernel
theorem dX1_nameBy_14 : decode cX1_nameBy 14 = .ok (.iadd, 1) := by decide +kernel
theorem dX1_nameBy_15 : decode cX1_nameBy 15 = .ok (.iload_n 3, 1) := by decide +kernel
theorem dX1_nameBy_16 : decode cX1_nameBy 16 = .ok (.iadd, 1) := by decide +kernel
theorem dX1_nameBy_17 : decode cX1_nameBy 17 = .ok (.ireturn, 1) := by decide +kernel
theorem dX1_kindBySigns_0 : decode cX1_kindBySigns 0 = .ok (.aload_n 0, 1) := by decide +kernel
theorem dX1_kindBySigns_1 : decode cX1_kindBySigns 1 = .ok (.invokevirtual 22, 3) := by decide +kernel
theorem dX1_kindBySigns_4 : decode cX1_kindBySigns 4 = .ok (.iconst 3, 1) := by decide +kernel
theorem dX1_kindBySigns_5 : decode cX1_kindBySigns 5 = .ok (.if_icmp .ne 25, 3) := by decide +kernel
theorem dX1_kindBySigns_8 : decode cX1_kindBySigns 8 = .ok (.aload_n 0, 1) := by decide +kernel
theorem dX1_kindBySigns_9 : decode cX1_kindBySigns 9 = .ok (.invokevirtual 26, 3) := by decide +kernel
theorem dX1_kindBySigns_12 : decode cX1_kindBySigns 12 = .ok (.iconst 1, 1) := by decide +kernel
theorem dX1_kindBySigns_13 : decode cX1_kindBySigns 13 = .ok (.if_icmp .ne 17, 3) := by decide +kernel
theorem dX1_kindBySigns_16 : decode cX1_kindBySigns 16 = .ok (.aload_n 0, 1) := by decide +kernel
theorem dX1_kindBySigns_17 : decode cX1_kindBySigns 17 = .ok (.getfield 18, 3) := by decide +kernel
theorem dX1_kindBySigns_20 : decode cX1_kindBySigns 20 = .ok (.iconst 4, 1) := by decide +kernel
theorem dX1_kindBySigns_21 : decode cX1_kindBySigns 21 = .ok (.iaload, 1) := by decide +kernel
theorem dX1_kindBySigns_22 : decode cX1_kindBySigns 22 = .ok (.iconst 3, 1) := by decide +kernel
theorem dX1_kindBySigns_23 : decode cX1_kindBySigns 23 = .ok (.if_icmp .ne 7, 3) := by decide +kernel
theorem dX1_kindBySigns_26 : decode cX1_kindBySigns 26 = .ok (.iconst 1, 1) := by decide +kernel
theorem dX1_kindBySigns_27 : decode cX1_kindBySigns 27 = .ok (.goto 4, 3) := by decide +kernel
theorem dX1_kindBySigns_30 : decode cX1_kindBySigns 30 = .ok (.iconst 0, 1) := by decide +kernel
theorem dX1_kindBySigns_31 : decode cX1_kindBySigns 31 = .ok (.istore_n 1, 1) := by decide +kernel
theorem dX1_kindBySigns_32 : decode cX1_kindBySigns 32 = .ok (.aload_n 0, 1) := by decide +kernel
theorem dX1_kindBySigns_33 : decode cX1_kindBySigns 33 = .ok (.invokevirtual 22, 3) := by decide +kernel
theorem dX1_kindBySigns_36 : decode cX1_kindBySigns 36 = .ok (.iconst 1, 1) := by decide +kernel
theorem dX1_kindBySigns_37 : decode cX1_kindBySigns 37 = .ok (.if_icmp .ne 25, 3) := by decide +kernel
theorem dX1_kindBySigns_40 : decode cX1_kindBySigns 40 = .ok (.aload_n 0, 1) := by decide +kernel
theorem dX1_kindBySigns_41 : decode cX1_kindBySigns 41 = .ok (.invokevirtual 26, 3) := by decide +kernel
theorem dX1_kindBySigns_44 : decode cX1_kindBySigns 44 = .ok (.iconst 3, 1) := by decide +kernel
theorem dX1_kindBySigns_45 : decode cX1_kindBySigns 45 = .ok (.if_icmp .ne 17, 3) := by decide +kernel
theorem dX1_kindBySigns_48 : decode cX1_kindBySigns 48 = .ok (.aload_n 0, 1) := by decide +kernel
theorem dX1_kindBySigns_49 : decode cX1_kindBySigns 49 = .ok (.getfield 18, 3) := by decide +kernel
theorem dX1_kindBySigns_52 : decode cX1_kindBySigns 52 = .ok (.iconst 5, 1) := by decide +kernel
theorem dX1_kindBySigns_53 : decode cX1_kindBySigns 53 = .ok (.iaload, 1) := by decide +kernel
theorem dX1_kindBySigns_54 : decode cX1_kindBySigns 54 = .ok (.iconst 3, 1) := by decide +kernel
theorem dX1_kindBySigns_55 : decode cX1_kindBySigns 55 = .ok (.if_icmp .ne 7, 3) := by decide +kernel
theorem dX1_kindBySigns_58 : decode cX1_kindBySigns 58 = .ok (.iconst 1, 1) := by decide +kernel
theorem dX1_kindBySigns_59 : decode cX1_kindBySigns 59 = .ok (.goto 4, 3) := by decide +kernel
theorem dX1_kindBySigns_62 : decode cX1_kindBySigns 62 = .ok (.iconst 0, 1) := by decide +kernel
theorem dX1_kindBySigns_63 : decode cX1_kindBySigns 63 = .ok (.istore_n 2, 1) := by decide +kernel
theorem dX1_kindBySigns_64 : decode cX1_kindBySigns 64 = .ok (.iload_n 1, 1) := by decide +kernel
theorem dX1_kindBySigns_65 : decode cX1_kindBySigns 65 = .ok (.ifCond .ne 7, 3) := by decide +kernel
theorem dX1_kindBySigns_68 : decode cX1_kindBySigns 68 = .ok (.iload_n 2, 1) := by decide +kernel
theorem dX1_kindBySigns_69 : decode cX1_kindBySigns 69 = .ok (.ifCond .eq 5, 3) := by decide +kernel
theorem dX1_kindBySigns_72 : decode cX1_kindBySigns 72 = .ok (.iconst 3, 1) := by decide +kernel
theorem dX1_kindBySigns_73 : decode cX1_kindBySigns 73 = .ok (.ireturn, 1) := by decide +kernel
theorem dX1_kindBySigns_74 : decode cX1_kindBySigns 74 = .ok (.aload_n 0, 1) := by decide +kernel
theorem dX1_kindBySigns_75 : decode cX1_kindBySigns 75 = .ok (.invokevirtual 22, 3) := by decide +kernel
theorem dX1_kindBySigns_78 : decode cX1_kindBySigns 78 = .ok (.iconst 2, 1) := by decide +kernel
theorem dX1_kindBySigns_79 : decode cX1_kindBySigns 79 = .ok (.if_icmp .ne 13, 3) := by decide +kernel
theorem dX1_kindBySigns_82 : decode cX1_kindBySigns 82 = .ok (.aload_n 0, 1) := by decide +kernel
theorem dX1_kindBySigns_83 : decode cX1_kindBySigns 83 = .ok (.invokevirtual 26, 3) := by decide +kernel
theorem dX1_kindBySigns_86 : decode cX1_kindBySigns 86 = .ok (.iconst 2, 1) := by decide +kernel
theorem dX1_kindBySigns_87 : decode cX1_kindBySigns 87 = .ok (.if_icmp .ne 5, 3) := by decide +kernel
theorem dX1_kindBySigns_90 : decode cX1_kindBySigns 90 = .ok (.iconst 4, 1) := by decide +kernel
theorem dX1_kindBySigns_91 : decode cX1_kindBySigns 91 = .ok (.ireturn, 1) := by decide +kernel
theorem dX1_kindBySigns_92 : decode cX1_kindBySigns 92 = .ok (.aload_n 0, 1) := by decide +kernel
theorem dX1_kindBySigns_93 : decode cX1_kindBySigns 93 = .ok (.invokevirtual 72, 3) := by decide +kernel
theorem dX1_kindBySigns_96 : decode cX1_kindBySigns 96 = .ok (.iconst 1, 1) := by decide +kernel
theorem dX1_kindBySigns_97 : decode cX1_kindBySigns 97 = .ok (.if_icmp .ne 5, 3) := by decide +kernel
theorem dX1_kindBySigns_100 : decode cX1_kindBySigns 100 = .ok (.iconst 1, 1) := by decide +kernel
theorem dX1_kindBySigns_101 : decode cX1_kindBySigns 101 = .ok (.ireturn, 1) := by decide +kernel
theorem dX1_kindBySigns_102 : decode cX1_kindBySigns 102 = .ok (.aload_n 0, 1) := by decide +kernel
theorem dX1_kindBySigns_103 : decode cX1_kindBySigns 103 = .ok (.invokevirtual 72, 3) := by decide +kernel
theorem dX1_kindBySigns_106 : decode cX1_kindBySigns 106 = .ok (.iconst 1, 1) := by decide +kernel
theorem dX1_kindBySigns_107 : decode cX1_kindBySigns 107 = .ok (.if_icmp .le 7, 3) := by decide +kernel
theorem dX1_kindBySigns_110 : decode cX1_kindBySigns 110 = .ok (.iconst 2, 1) := by decide +kernel
theorem dX1_kindBySigns_111 : decode cX1_kindBySigns 111 = .ok (.goto 4, 3) := by decide +kernel
theorem dX1_kindBySigns_114 : decode cX1_kindBySigns 114 = .ok (.iconst 0, 1) := by decide +kernel
theorem dX1_kindBySigns_115 : decode cX1_kindBySigns 115 = .ok (.ireturn, 1) := by decide +kernel
theorem dX1_addTo_0 : decode cX1_addTo 0 = .ok (.aload_n 0, 1) := by decide +kernel
theorem dX1_addTo_1 : decode cX1_addTo 1 = .ok (.getfield 42, 3) := by decide +kernel
theorem dX1_addTo_4 : decode cX1_addTo 4 = .ok (.ifCond .ne 11, 3) := by decide +kernel
theorem dX1_addTo_7 : decode cX1_addTo 7 = .ok (.ldc2_w 75, 3) := by decide +kernel
theorem dX1_addTo_10 : decode cX1_addTo 10 = .ok (.lload_n 1, 1) := by decide +kernel
theorem dX1_addTo_11 : decode cX1_addTo 11 = .ok (.lmul, 1) := by decide +kernel
theorem dX1_addTo_12 : decode cX1_addTo 12 = .ok (.lconst 1, 1) := by decide +kernel
theorem dX1_addTo_13 : decode cX1_addTo 13 = .ok (.lsub, 1) := by decide +kernel
theorem dX1_addTo_14 : decode cX1_addTo 14 = .ok (.lreturn, 1) := by decide +kernel
theorem dX1_addTo_15 : decode cX1_addTo 15 = .ok (.lload_n 1, 1) := by decide +kernel
theorem dX1_addTo_16 : decode cX1_addTo 16 = .ok (.lstore_n 3, 1) := by decide +kernel
theorem dX1_addTo_17 : decode cX1_addTo 17 = .ok (.iconst 0, 1) := by decide +kernel
theorem dX1_addTo_18 : decode cX1_addTo 18 = .ok (.istore 5, 2) := by decide +kernel
theorem dX1_addTo_20 : decode cX1_addTo 20 = .ok (.iload 5, 2) := by decide +kernel
theorem dX1_addTo_22 : decode cX1_addTo 22 = .ok (.bipush 10, 2) := by decide +kernel
theorem dX1_addTo_24 : decode cX1_addTo 24 = .ok (.if_icmp .ge 25, 3) := by decide +kernel
theorem dX1_addTo_27 : decode cX1_addTo 27 = .ok (.ldc2_w 75, 3) := by decide +kernel
theorem dX1_addTo_30 : decode cX1_addTo 30 = .ok (.lload_n 3, 1) := by decide +kernel
theorem dX1_addTo_31 : decode cX1_addTo 31 = .ok (.lmul, 1) := by decide +kernel
theorem dX1_addTo_32 : decode cX1_addTo 32 = .ok (.aload_n 0, 1) := by decide +kernel
theorem dX1_addTo_33 : decode cX1_addTo 33 = .ok (.getfield 12, 3) := by decide +kernel
theorem dX1_addTo_36 : decode cX1_addTo 36 = .ok (.iload 5, 2) := by decide +kernel
theorem dX1_addTo_38 : decode cX1_addTo 38 = .ok (.invokevirtual 77, 3) := by decide +kernel
theorem dX1_addTo_41 : decode cX1_addTo 41 = .ok (.ladd, 1) := by decide +kernel
theorem dX1_addTo_42 : decode cX1_addTo 42 = .ok (.lstore_n 3, 1) := by decide +kernel
theorem dX1_addTo_43 : decode cX1_addTo 43 = .ok (.iinc 5 1, 3) := by decide +kernel
theorem dX1_addTo_46 : decode cX1_addTo 46 = .ok (.goto (-26), 3) := by decide +kernel
theorem dX1_addTo_49 : decode cX1_addTo 49 = .ok (.iconst 0, 1) := by decide +kernel
theorem dX1_addTo_50 : decode cX1_addTo 50 = .ok (.istore 5, 2) := by decide +kernel
theorem dX1_addTo_52 : decode cX1_addTo 52 = .ok (.iload 5, 2) := by decide +kernel
theorem dX1_addTo_54 : decode cX1_addTo 54 = .ok (.bipush 10, 2) := by decide +kernel
theorem dX1_addTo_56 : decode cX1_addTo 56 = .ok (.if_icmp .ge 24, 3) := by decide +kernel
theorem dX1_addTo_59 : decode cX1_addTo 59 = .ok (.ldc2_w 75, 3) := by decide +kernel
theorem dX1_addTo_62 : decode cX1_addTo 62 = .ok (.lload_n 3, 1) := by decide +kernel
theorem dX1_addTo_63 : decode cX1_addTo 63 = .ok (.lmul, 1) := by decide +kernel
theorem dX1_addTo_64 : decode cX1_addTo 64 = .ok (.aload_n 0, 1) := by decide +kernel
theorem dX1_addTo_65 : decode cX1_addTo 65 = .ok (.getfield 18, 3) := by decide +kernel
theorem dX1_addTo_68 : decode cX1_addTo 68 = .ok (.iload 5, 2) := by decide +kernel
theorem dX1_addTo_70 : decode cX1_addTo 70 = .ok (.iaload, 1) := by decide +kernel
theorem dX1_addTo_71 : decode cX1_addTo 71 = .ok (.i2l, 1) := by decide +kernel
theorem dX1_addTo_72 : decode cX1_addTo 72 = .ok (.ladd, 1) := by decide +kernel
theorem dX1_addTo_73 : decode cX1_addTo 73 = .ok (.lstore_n 3, 1) := by decide +kernel
theorem dX1_addTo_74 : decode cX1_addTo 74 = .ok (.iinc 5 1, 3) := by decide +kernel
theorem dX1_addTo_77 : decode cX1_addTo 77 = .ok (.goto (-25), 3) := by decide +kernel
theorem dX1_addTo_80 : decode cX1_addTo 80 = .ok (.lload_n 3, 1) := by decide +kernel
theorem dX1_addTo_81 : decode cX1_addTo 81 = .ok (.lreturn, 1) := by decide +kernel
theorem dX2_init_0 : decode cX2_init 0 = .ok (.aload_n 0, 1) := by decide +kernel
theorem dX2_init_1 : decode cX2_init 1 = .ok (.invokespecial 3, 3) := by decide +kernel
theorem dX2_init_4 : decode cX2_init 4 = .ok (.aload_n 0, 1) := by decide +kernel
theorem dX2_init_5 : decode cX2_init 5 = .ok (.sipush 300, 3) := by decide +kernel
theorem dX2_init_8 : decode cX2_init 8 = .ok (.newarray .int, 2) := by decide +kernel
theorem dX2_init_10 : decode cX2_init 10 = .ok (.putfield 9, 3) := by decide +kernel
theorem dX2_init_13 : decode cX2_init 13 = .ok (.return_, 1) := by decide +kernel
theorem dX2_seek_0 : decode cX2_seek 0 = .ok (.aload_n 0, 1) := by decide +kernel
theorem dX2_seek_1 : decode cX2_seek 1 = .ok (.iconst 0, 1) := by decide +kernel
theorem dX2_seek_2 : decode cX2_seek 2 = .ok (.putfield 15, 3) := by decide +kernel
theorem dX2_seek_5 : decode cX2_seek 5 = .ok (.iload 4, 2) := by decide +kernel
theorem dX2_seek_7 : decode cX2_seek 7 = .ok (.ineg, 1) := by decide +kernel
theorem dX2_seek_8 : decode cX2_seek 8 = .ok (.istore 5, 2) := by decide +kernel
theorem dX2_seek_10 : decode cX2_seek 10 = .ok (.iload 5, 2) := by decide +kernel
theorem dX2_seek_12 : decode cX2_seek 12 = .ok (.iload 4, 2) := by decide +kernel
theorem dX2_seek_14 : decode cX2_seek 14 = .ok (.if_icmp .gt 115, 3) := by decide +kernel
theorem dX2_seek_17 : decode cX2_seek 17 = .ok (.iload 4, 2) := by decide +kernel
theorem dX2_seek_19 : decode cX2_seek 19 = .ok (.ineg, 1) := by decide +kernel
theorem dX2_seek_20 : decode cX2_seek 20 = .ok (.istore 6, 2) := by decide +kernel
theorem dX2_seek_22 : decode cX2_seek 22 = .ok (.iload 6, 2) := by decide +kernel
theorem dX2_seek_24 : decode cX2_seek 24 = .ok (.iload 4, 2) := by decide +kernel
theorem dX2_seek_26 : decode cX2_seek 26 = .ok (.if_icmp .gt 97, 3) := by decide +kernel
theorem dX2_seek_29 : decode cX2_seek 29 = .ok (.aload_n 1, 1) := by decide +kernel
theorem dX2_seek_30 : decode cX2_seek 30 = .ok (.iload 5, 2) := by decide +kernel
theorem dX2_seek_32 : decode cX2_seek 32 = .ok (.i2l, 1) := by decide +kernel
theorem dX2_seek_33 : decode cX2_seek 33 = .ok (.iload 6, 2) := by decide +kernel
theorem dX2_seek_35 : decode cX2_seek 35 = .ok (.i2l, 1) := by decide +kernel
theorem dX2_seek_36 : decode cX2_seek 36 = .ok (.invokevirtual 19, 3) := by decide +kernel
theorem dX2_seek_39 : decode cX2_seek 39 = .ok (.aload_n 2, 1) := by decide +kernel
theorem dX2_seek_40 : decode cX2_seek 40 = .ok (.iload 5, 2) := by decide +kernel
theorem dX2_seek_42 : decode cX2_seek 42 = .ok (.i2l, 1) := by decide +kernel
theorem dX2_seek_43 : decode cX2_seek 43 = .ok (.iload 6, 2) := by decide +kernel
theorem dX2_seek_45 : decode cX2_seek 45 = .ok (.i2l, 1) := by decide +kernel
theorem dX2_seek_46 : decode cX2_seek 46 = .ok (.invokevirtual 19, 3) := by decide +kernel
theorem dX2_seek_49 : decode cX2_seek 49 = .ok (.aload_n 3, 1) := by decide +kernel
theorem dX2_seek_50 : decode cX2_seek 50 = .ok (.iload 5, 2) := by decide +kernel
theorem dX2_seek_52 : decode cX2_seek 52 = .ok (.i2l, 1) := by decide +kernel
theorem dX2_seek_53 : decode cX2_seek 53 = .ok (.iload 6, 2) := by decide +kernel
theorem dX2_seek_55 : decode cX2_seek 55 = .ok (.i2l, 1) := by decide +kernel
theorem dX2_seek_56 : decode cX2_seek 56 = .ok (.invokevirtual 19, 3) := by decide +kernel
theorem dX2_seek_59 : decode cX2_seek 59 = .ok (.iload 4, 2) := by decide +kernel
theorem dX2_seek_61 : decode cX2_seek 61 = .ok (.ineg, 1) := by decide +kernel
theorem dX2_seek_62 : decode cX2_seek 62 = .ok (.istore 7, 2) := by decide +kernel
theorem dX2_seek_64 : decode cX2_seek 64 = .ok (.iload 7, 2) := by decide +kernel
theorem dX2_seek_66 : decode cX2_seek 66 = .ok (.iload 4, 2) := by decide +kernel
theorem dX2_seek_68 : decode cX2_seek 68 = .ok (.if_icmp .gt 49, 3) := by decide +kernel
theorem dX2_seek_71 : decode cX2_seek 71 = .ok (.aload_n 1, 1) := by decide +kernel
theorem dX2_seek_72 : decode cX2_seek 72 = .ok (.iload 7, 2) := by decide +kernel
theorem dX2_seek_74 : decode cX2_seek 74 = .ok (.i2l, 1) := by decide +kernel
theorem dX2_seek_75 : decode cX2_seek 75 = .ok (.invokevirtual 25, 3) := by decide +kernel
theorem dX2_seek_78 : decode cX2_seek 78 = .ok (.ifCond .eq 33, 3) := by decide +kernel
theorem dX2_seek_81 : decode cX2_seek 81 = .ok (.aload_n 2, 1) := by decide +kernel
theorem dX2_seek_82 : decode cX2_seek 82 = .ok (.iload 7, 2) := by decide +kernel
theorem dX2_seek_84 : decode cX2_seek 84 = .ok (.i2l, 1) := by decide +kernel
theorem dX2_seek_85 : decode cX2_seek 85 = .ok (.invokevirtual 25, 3) := by decide +kernel
theorem dX2_seek_88 : decode cX2_seek 88 = .ok (.ifCond .eq 23, 3) := by decide +kernel
theorem dX2_seek_91 : decode cX2_seek 91 = .ok (.aload_n 3, 1) := by decide +kernel
theorem dX2_seek_92 : decode cX2_seek 92 = .ok (.iload 7, 2) := by decide +kernel
theorem dX2_seek_94 : decode cX2_seek 94 = .ok (.i2l, 1) := by decide +kernel
theorem dX2_seek_95 : decode cX2_seek 95 = .ok (.invokevirtual 25, 3) := by decide +kernel
theorem dX2_seek_98 : decode cX2_seek 98 = .ok (.ifCond .eq 13, 3) := by decide +kernel
theorem dX2_seek_101 : decode cX2_seek 101 = .ok (.aload_n 0, 1) := by decide +kernel
theorem dX2_seek_102 : decode cX2_seek 102 = .ok (.iload 5, 2) := by decide +kernel
theorem dX2_seek_104 : decode cX2_seek 104 = .ok (.iload 6, 2) := by decide +kernel
theorem dX2_seek_106 : decode cX2_seek 106 = .ok (.iload 7, 2) := by decide +kernel
theorem dX2_seek_108 : decode cX2_seek 108 = .ok (.invokevirtual 29, 3) := by decide +kernel
theorem dX2_seek_111 : decode cX2_seek 111 = .ok (.iinc 7 1, 3) := by decide +kernel
theorem dX2_seek_114 : decode cX2_seek 114 = .ok (.goto (-50), 3) := by decide +kernel
theorem dX2_seek_117 : decode cX2_seek 117 = .ok (.iinc 6 1, 3) := by decide +kernel
theorem dX2_seek_120 : decode cX2_seek 120 = .ok (.goto (-98), 3) := by decide +kernel
theorem dX2_seek_123 : decode cX2_seek 123 = .ok (.iinc 5 1, 3) := by decide +kernel
theorem dX2_seek_126 : decode cX2_seek 126 = .ok (.goto (-116), 3) := by decide +kernel
theorem dX2_seek_129 : decode cX2_seek 129 = .ok (.aload_n 0, 1) := by decide +kernel
theorem dX2_seek_130 : decode cX2_seek 130 = .ok (.getfield 15, 3) := by decide +kernel
theorem dX2_seek_133 : decode cX2_seek 133 = .ok (.ireturn, 1) := by decide +kernel
theorem dX2_keep_0 : decode cX2_keep 0 = .ok (.aload_n 0, 1) := by decide +kernel
theorem dX2_keep_1 : decode cX2_keep 1 = .ok (.getfield 15, 3) := by decide +kernel
theorem dX2_keep_4 : decode cX2_keep 4 = .ok (.bipush 100, 2) := by decide +kernel
theorem dX2_keep_6 : decode cX2_keep 6 = .ok (.if_icmp .ge 43, 3) := by decide +kernel
theorem dX2_keep_9 : decode cX2_keep 9 = .ok (.aload_n 0, 1) := by decide +kernel
theorem dX2_keep_10 : decode cX2_keep 10 = .ok (.getfield 9, 3) := by decide +kernel
theorem dX2_keep_13 : decode cX2_keep 13 = .ok (.iconst 3, 1) := by decide +kernel
theorem dX2_keep_14 : decode cX2_keep 14 = .ok (.aload_n 0, 1) := by decide +kernel
theorem dX2_keep_15 : decode cX2_keep 15 = .ok (.getfield 15, 3) := by decide +kernel
theorem dX2_keep_18 : decode cX2_keep 18 = .ok (.imul, 1) := by decide +kernel
theorem dX2_keep_19 : decode cX2_keep 19 = .ok (.iload_n 1, 1) := by decide +kernel
theorem dX2_keep_20 : decode cX2_keep 20 = .ok (.iastore, 1) := by decide +kernel
theorem dX2_keep_21 : decode cX2_keep 21 = .ok (.aload_n 0, 1) := by decide +kernel
theorem dX2_keep_22 : decode cX2_keep 22 = .ok (.getfield 9, 3) := by decide +kernel
theorem dX2_keep_25 : decode cX2_keep 25 = .ok (.iconst 3, 1) := by decide +kernel
theorem dX2_keep_26 : decode cX2_keep 26 = .ok (.aload_n 0, 1) := by decide +kernel
theorem dX2_keep_27 : decode cX2_keep 27 = .ok (.getfield 15, 3) := by decide +kernel
theorem dX2_keep_30 : decode cX2_keep 30 = .ok (.imul, 1) := by decide +kernel
theorem dX2_keep_31 : decode cX2_keep 31 = .ok (.iconst 1, 1) := by decide +kernel
theorem dX2_keep_32 : decode cX2_keep 32 = .ok (.iadd, 1) := by decide +kernel
theorem dX2_keep_33 : decode cX2_keep 33 = .ok (.iload_n 2, 1) := by decide +kernel
theorem dX2_keep_34 : decode cX2_keep 34 = .ok (.iastore, 1) := by decide +kernel
theorem dX2_keep_35 : decode cX2_keep 35 = .ok (.aload_n 0, 1) := by decide +kernel
theorem dX2_keep_36 : decode cX2_keep 36 = .ok (.getfield 9, 3) := by decide +kernel
theorem dX2_keep_39 : decode cX2_keep 39 = .ok (.iconst 3, 1) := by decide +kernel
theorem dX2_keep_40 : decode cX2_keep 40 = .ok (.aload_n 0, 1) := by decide +kernel
theorem dX2_keep_41 : decode cX2_keep 41 = .ok (.getfield 15, 3) := by decide +kernel
theorem dX2_keep_44 : decode cX2_keep 44 = .ok (.imul, 1) := by decide +kernel
theorem dX2_keep_45 : decode cX2_keep 45 = .ok (.iconst 2, 1) := by decide +kernel
theorem dX2_keep_46 : decode cX2_keep 46 = .ok (.iadd, 1) := by decide +kernel
theorem dX2_keep_47 : decode cX2_keep 47 = .ok (.iload_n 3, 1) := by decide +kernel
theorem dX2_keep_48 : decode cX2_keep 48 = .ok (.iastore, 1) := by decide +kernel
theorem dX2_keep_49 : decode cX2_keep 49 = .ok (.aload_n 0, 1) := by decide +kernel
theorem dX2_keep_50 : decode cX2_keep 50 = .ok (.dup, 1) := by decide +kernel
theorem dX2_keep_51 : decode cX2_keep 51 = .ok (.getfield 15, 3) := by decide +kernel
theorem dX2_keep_54 : decode cX2_keep 54 = .ok (.iconst 1, 1) := by decide +kernel
theorem dX2_keep_55 : decode cX2_keep 55 = .ok (.iadd, 1) := by decide +kernel
theorem dX2_keep_56 : decode cX2_keep 56 = .ok (.putfield 15, 3) := by decide +kernel
theorem dX2_keep_59 : decode cX2_keep 59 = .ok (.return_, 1) := by decide +kernel
theorem dX3_init_0 : decode cX3_init 0 = .ok (.aload_n 0, 1) := by decide +kernel
theorem dX3_init_1 : decode cX3_init 1 = .ok (.invokespecial 3, 3) := by decide +kernel
theorem dX3_init_4 : decode cX3_init 4 = .ok (.aload_n 0, 1) := by decide +kernel
theorem dX3_init_5 : decode cX3_init 5 = .ok (.bipush 16, 2) := by decide +kernel
theorem dX3_init_7 : decode cX3_init 7 = .ok (.newarray .int, 2) := by decide +kernel
theorem dX3_init_9 : decode cX3_init 9 = .ok (.putfield 9, 3) := by decide +kernel
theorem dX3_init_12 : decode cX3_init 12 = .ok (.aload_n 0, 1) := by decide +kernel
theorem dX3_init_13 : decode cX3_init 13 = .ok (.iconst (-1), 1) := by decide +kernel
theorem dX3_init_14 : decode cX3_init 14 = .ok (.putfield 15, 3) := by decide +kernel
theorem dX3_init_17 : decode cX3_init 17 = .ok (.return_, 1) := by decide +kernel
theorem dX3_missing_0 : decode cX3_missing 0 = .ok (.aload_n 0, 1) := by decide +kernel
theorem dX3_missing_1 : decode cX3_missing 1 = .ok (.getfield 15, 3) := by decide +kernel
theorem dX3_missing_4 : decode cX3_missing 4 = .ok (.ifCond .ge 7, 3) := by decide +kernel
theorem dX3_missing_7 : decode cX3_missing 7 = .ok (.iconst 1, 1) := by decide +kernel
theorem dX3_missing_8 : decode cX3_missing 8 = .ok (.goto 4, 3) := by decide +kernel
theorem dX3_missing_11 : decode cX3_missing 11 = .ok (.iconst 0, 1) := by decide +kernel
theorem dX3_missing_12 : decode cX3_missing 12 = .ok (.ireturn, 1) := by decide +kernel
theorem dX3_begin_0 : decode cX3_begin 0 = .ok (.iconst 0, 1) := by decide +kernel
theorem dX3_begin_1 : decode cX3_begin 1 = .ok (.istore_n 2, 1) := by decide +kernel
theorem dX3_begin_2 : decode cX3_begin 2 = .ok (.iload_n 2, 1) := by decide +kernel
theorem dX3_begin_3 : decode cX3_begin 3 = .ok (.bipush 16, 2) := by decide +kernel
theorem dX3_begin_5 : decode cX3_begin 5 = .ok (.if_icmp .ge 16, 3) := by decide +kernel
theorem dX3_begin_8 : decode cX3_begin 8 = .ok (.aload_n 0, 1) := by decide +kernel
theorem dX3_begin_9 : decode cX3_begin 9 = .ok (.getfield 9, 3) := by decide +kernel
theorem dX3_begin_12 : decode cX3_begin 12 = .ok (.iload_n 2, 1) := by decide +kernel
theorem dX3_begin_13 : decode cX3_begin 13 = .ok (.iconst 0, 1) := by decide +kernel
theorem dX3_begin_14 : decode cX3_begin 14 = .ok (.iastore, 1) := by decide +kernel
theorem dX3_begin_15 : decode cX3_begin 15 = .ok (.iinc 2 1, 3) := by decide +kernel
theorem dX3_begin_18 : decode cX3_begin 18 = .ok (.goto (-16), 3) := by decide +kernel
theorem dX3_begin_21 : decode cX3_begin 21 = .ok (.aload_n 0, 1) := by decide +kernel
theorem dX3_begin_22 : decode cX3_begin 22 = .ok (.iload_n 1, 1) := by decide +kernel
theorem dX3_begin_23 : decode cX3_begin 23 = .ok (.putfield 15, 3) := by decide +kernel
theorem dX3_begin_26 : decode cX3_begin 26 = .ok (.return_, 1) := by decide +kernel
theorem dX3_end_0 : decode cX3_end 0 = .ok (.aload_n 0, 1) := by decide +kernel
theorem dX3_end_1 : decode cX3_end 1 = .ok (.iconst (-1), 1) := by decide +kernel
theorem dX3_end_2 : decode cX3_end 2 = .ok (.invokevirtual 19, 3) := by decide +kernel
theorem dX3_end_5 : decode cX3_end 5 = .ok (.return_, 1) := by decide +kernel
theorem dX3_hasFrom_0 : decode cX3_hasFrom 0 = .ok (.iload_n 1, 1) := by decide +kernel
theorem dX3_hasFrom_1 : decode cX3_hasFrom 1 = .ok (.ifCond .lt 29, 3) := by decide +kernel
theorem dX3_hasFrom_4 : decode cX3_hasFrom 4 = .ok (.iload_n 2, 1) := by decide +kernel
theorem dX3_hasFrom_5 : decode cX3_hasFrom 5 = .ok (.ifCond .lt 25, 3) := by decide +kernel
theorem dX3_hasFrom_8 : decode cX3_hasFrom 8 = .ok (.iload_n 2, 1) := by decide +kernel
theorem dX3_hasFrom_9 : decode cX3_hasFrom 9 = .ok (.aload_n 0, 1) := by decide +kernel
theorem dX3_hasFrom_10 : decode cX3_hasFrom 10 = .ok (.getfield 15, 3) := by decide +kernel
theorem dX3_hasFrom_13 : decode cX3_hasFrom 13 = .ok (.if_icmp .gt 17, 3) := by decide +kernel
theorem dX3_hasFrom_16 : decode cX3_hasFrom 16 = .ok (.iload_n 1, 1) := by decide +kernel
theorem dX3_hasFrom_17 : decode cX3_hasFrom 17 = .ok (.aload_n 0, 1) := by decide +kernel
theorem dX3_hasFrom_18 : decode cX3_hasFrom 18 = .ok (.getfield 15, 3) := by decide +kernel
theorem dX3_hasFrom_21 : decode cX3_hasFrom 21 = .ok (.iload_n 2, 1) := by decide +kernel
theorem dX3_hasFrom_22 : decode cX3_hasFrom 22 = .ok (.isub, 1) := by decide +kernel
theorem dX3_hasFrom_23 : decode cX3_hasFrom 23 = .ok (.if_icmp .gt 7, 3) := by decide +kernel
theorem dX3_hasFrom_26 : decode cX3_hasFrom 26 = .ok (.iconst 1, 1) := by decide +kernel
theorem dX3_hasFrom_27 : decode cX3_hasFrom 27 = .ok (.goto 4, 3) := by decide +kernel
theorem dX3_hasFrom_30 : decode cX3_hasFrom 30 = .ok (.iconst 0, 1) := by decide +kernel
theorem dX3_hasFrom_31 : decode cX3_hasFrom 31 = .ok (.ireturn, 1) := by decide +kernel
theorem dX3_goesBeyond_0 : decode cX3_goesBeyond 0 = .ok (.iconst 0, 1) := by decide +kernel
theorem dX3_goesBeyond_1 : decode cX3_goesBeyond 1 = .ok (.istore_n 3, 1) := by decide +kernel
theorem dX3_goesBeyond_2 : decode cX3_goesBeyond 2 = .ok (.iload_n 3, 1) := by decide +kernel
theorem dX3_goesBeyond_3 : decode cX3_goesBeyond 3 = .ok (.iload_n 1, 1) := by decide +kernel
theorem dX3_goesBeyond_4 : decode cX3_goesBeyond 4 = .ok (.if_icmp .ge 38, 3) := by decide +kernel
theorem dX3_goesBeyond_7 : decode cX3_goesBeyond 7 = .ok (.iload_n 3, 1) := by decide +kernel
theorem dX3_goesBeyond_8 : decode cX3_goesBeyond 8 = .ok (.bipush 16, 2) := by decide +kernel
theorem dX3_goesBeyond_10 : decode cX3_goesBeyond 10 = .ok (.if_icmp .ge 32, 3) := by decide +kernel
theorem dX3_goesBeyond_13 : decode cX3_goesBeyond 13 = .ok (.aload_n 0, 1) := by decide +kernel
theorem dX3_goesBeyond_14 : decode cX3_goesBeyond 14 = .ok (.getfield 9, 3) := by decide +kernel
theorem dX3_goesBeyond_17 : decode cX3_goesBeyond 17 = .ok (.iload_n 3, 1) := by decide +kernel
theorem dX3_goesBeyond_18 : decode cX3_goesBeyond 18 = .ok (.iaload, 1) := by decide +kernel
theorem dX3_goesBeyond_19 : decode cX3_goesBeyond 19 = .ok (.iload_n 2, 1) := by decide +kernel
theorem dX3_goesBeyond_20 : decode cX3_goesBeyond 20 = .ok (.ineg, 1) := by decide +kernel
theorem dX3_goesBeyond_21 : decode cX3_goesBeyond 21 = .ok (.if_icmp .lt 13, 3) := by decide +kernel
theorem dX3_goesBeyond_24 : decode cX3_goesBeyond 24 = .ok (.aload_n 0, 1) := by decide +kernel
theorem dX3_goesBeyond_25 : decode cX3_goesBeyond 25 = .ok (.getfield 9, 3) := by decide +kernel
theorem dX3_goesBeyond_28 : decode cX3_goesBeyond 28 = .ok (.iload_n 3, 1) := by decide +kernel
theorem dX3_goesBeyond_29 : decode cX3_goesBeyond 29 = .ok (.iaload, 1) := by decide +kernel
theorem dX3_goesBeyond_30 : decode cX3_goesBeyond 30 = .ok (.iload_n 2, 1) := by decide +kernel
theorem dX3_goesBeyond_31 : decode cX3_goesBeyond 31 = .ok (.if_icmp .le 5, 3) := by decide +kernel
theorem dX3_goesBeyond_34 : decode cX3_goesBeyond 34 = .ok (.iconst 1, 1) := by decide +kernel
theorem dX3_goesBeyond_35 : decode cX3_goesBeyond 35 = .ok (.ireturn, 1) := by decide +kernel
theorem dX3_goesBeyond_36 : decode cX3_goesBeyond 36 = .ok (.iinc 3 1, 3) := by decide +kernel
theorem dX3_goesBeyond_39 : decode cX3_goesBeyond 39 = .ok (.goto (-37), 3) := by decide +kernel
theorem dX3_goesBeyond_42 : decode cX3_goesBeyond 42 = .ok (.iconst 0, 1) := by decide +kernel
theorem dX3_goesBeyond_43 : decode cX3_goesBeyond 43 = .ok (.ireturn, 1) := by decide +kernel
theorem dX3_isBlank_0 : decode cX3_isBlank 0 = .ok (.iconst 0, 1) := by decide +kernel
theorem dX3_isBlank_1 : decode cX3_isBlank 1 = .ok (.istore_n 2, 1) := by decide +kernel
theorem dX3_isBlank_2 : decode cX3_isBlank 2 = .ok (.iload_n 2, 1) := by decide +kernel
theorem dX3_isBlank_3 : decode cX3_isBlank 3 = .ok (.iload_n 1, 1) := by decide +kernel
theorem dX3_isBlank_4 : decode cX3_isBlank 4 = .ok (.if_icmp .ge 26, 3) := by decide +kernel
theorem dX3_isBlank_7 : decode cX3_isBlank 7 = .ok (.iload_n 2, 1) := by decide +kernel
theorem dX3_isBlank_8 : decode cX3_isBlank 8 = .ok (.bipush 16, 2) := by decide +kernel
theorem dX3_isBlank_10 : decode cX3_isBlank 10 = .ok (.if_icmp .ge 20, 3) := by decide +kernel
theorem dX3_isBlank_13 : decode cX3_isBlank 13 = .ok (.aload_n 0, 1) := by decide +kernel
theorem dX3_isBlank_14 : decode cX3_isBlank 14 = .ok (.getfield 9, 3) := by decide +kernel
theorem dX3_isBlank_17 : decode cX3_isBlank 17 = .ok (.iload_n 2, 1) := by decide +kernel
theorem dX3_isBlank_18 : decode cX3_isBlank 18 = .ok (.iaload, 1) := by decide +kernel
theorem dX3_isBlank_19 : decode cX3_isBlank 19 = .ok (.ifCond .eq 5, 3) := by decide +kernel
theorem dX3_isBlank_22 : decode cX3_isBlank 22 = .ok (.iconst 0, 1) := by decide +kernel
theorem dX3_isBlank_23 : decode cX3_isBlank 23 = .ok (.ireturn, 1) := by decide +kernel
theorem dX3_isBlank_24 : decode cX3_isBlank 24 = .ok (.iinc 2 1, 3) := by decide +kernel
theorem dX3_isBlank_27 : decode cX3_isBlank 27 = .ok (.goto (-25), 3) := by decide +kernel
theorem dX3_isBlank_30 : decode cX3_isBlank 30 = .ok (.iconst 1, 1) := by decide +kernel
theorem dX3_isBlank_31 : decode cX3_isBlank 31 = .ok (.ireturn, 1) := by decide +kernel
theorem dX3_addTo_0 : decode cX3_addTo 0 = .ok (.ldc2_w 23, 3) := by decide +kernel
theorem dX3_addTo_3 : decode cX3_addTo 3 = .ok (.lload_n 1, 1) := by decide +kernel
theorem dX3_addTo_4 : decode cX3_addTo 4 = .ok (.lmul, 1) := by decide +kernel
theorem dX3_addTo_5 : decode cX3_addTo 5 = .ok (.aload_n 0, 1) := by decide +kernel
theorem dX3_addTo_6 : decode cX3_addTo 6 = .ok (.getfield 15, 3) := by decide +kernel
theorem dX3_addTo_9 : decode cX3_addTo 9 = .ok (.i2l, 1) := by decide +kernel
theorem dX3_addTo_10 : decode cX3_addTo 10 = .ok (.ladd, 1) := by decide +kernel
theorem dX3_addTo_11 : decode cX3_addTo 11 = .ok (.lstore_n 3, 1) := by decide +kernel
theorem dX3_addTo_12 : decode cX3_addTo 12 = .ok (.iconst 0, 1) := by decide +kernel
theorem dX3_addTo_13 : decode cX3_addTo 13 = .ok (.istore 5, 2) := by decide +kernel
theorem dX3_addTo_15 : decode cX3_addTo 15 = .ok (.iload 5, 2) := by decide +kernel
theorem dX3_addTo_17 : decode cX3_addTo 17 = .ok (.aload_n 0, 1) := by decide +kernel
theorem dX3_addTo_18 : decode cX3_addTo 18 = .ok (.getfield 15, 3) := by decide +kernel
theorem dX3_addTo_21 : decode cX3_addTo 21 = .ok (.if_icmp .ge 31, 3) := by decide +kernel
theorem dX3_addTo_24 : decode cX3_addTo 24 = .ok (.iload 5, 2) := by decide +kernel
theorem dX3_addTo_26 : decode cX3_addTo 26 = .ok (.bipush 16, 2) := by decide +kernel
theorem dX3_addTo_28 : decode cX3_addTo 28 = .ok (.if_icmp .ge 24, 3) := by decide +kernel
theorem dX3_addTo_31 : decode cX3_addTo 31 = .ok (.ldc2_w 23, 3) := by decide +kernel
theorem dX3_addTo_34 : decode cX3_addTo 34 = .ok (.lload_n 3, 1) := by decide +kernel
theorem dX3_addTo_35 : decode cX3_addTo 35 = .ok (.lmul, 1) := by decide +kernel
theorem dX3_addTo_36 : decode cX3_addTo 36 = .ok (.aload_n 0, 1) := by decide +kernel
theorem dX3_addTo_37 : decode cX3_addTo 37 = .ok (.getfield 9, 3) := by decide +kernel
theorem dX3_addTo_40 : decode cX3_addTo 40 = .ok (.iload 5, 2) := by decide +kernel
theorem dX3_addTo_42 : decode cX3_addTo 42 = .ok (.iaload, 1) := by decide +kernel
theorem dX3_addTo_43 : decode cX3_addTo 43 = .ok (.i2l, 1) := by decide +kernel
theorem dX3_addTo_44 : decode cX3_addTo 44 = .ok (.ladd, 1) := by decide +kernel
theorem dX3_addTo_45 : decode cX3_addTo 45 = .ok (.lstore_n 3, 1) := by decide +kernel
theorem dX3_addTo_46 : decode cX3_addTo 46 = .ok (.iinc 5 1, 3) := by decide +kernel
theorem dX3_addTo_49 : decode cX3_addTo 49 = .ok (.goto (-34), 3) := by decide +kernel
theorem dX3_addTo_52 : decode cX3_addTo 52 = .ok (.lload_n 3, 1) := by decide +kernel
theorem dX3_addTo_53 : decode cX3_addTo 53 = .ok (.lreturn, 1) := by decide +kernel
theorem dX4_init_0 : decode cX4_init 0 = .ok (.aload_n 0, 1) := by decide +kernel
theorem dX4_init_1 : decode cX4_init 1 = .ok (.invokespecial 3, 3) := by decide +kernel
theorem dX4_init_4 : decode cX4_init 4 = .ok (.aload_n 0, 1) := by decide +kernel
theorem dX4_init_5 : decode cX4_init 5 = .ok (.bipush 16, 2) := by decide +kernel
theorem dX4_init_7 : decode cX4_init 7 = .ok (.newarray .long, 2) := by decide +kernel
theorem dX4_init_9 : decode cX4_init 9 = .ok (.putfield 9, 3) := by decide +kernel
theorem dX4_init_12 : decode cX4_init 12 = .ok (.aload_n 0, 1) := by decide +kernel
theorem dX4_init_13 : decode cX4_init 13 = .ok (.iconst 5, 1) := by decide +kernel
theorem dX4_init_14 : decode cX4_init 14 = .ok (.newarray .long, 2) := by decide +kernel
theorem dX4_init_16 : decode cX4_init 16 = .ok (.putfield 15, 3) := by decide +kernel
theorem dX4_init_19 : decode cX4_init 19 = .ok (.return_, 1) := by decide +kernel
theorem dX4_become_0 : decode cX4_become 0 = .ok (.iconst 0, 1) := by decide +kernel
theorem dX4_become_1 : decode cX4_become 1 = .ok (.istore_n 2, 1) := by decide +kernel
theorem dX4_become_2 : decode cX4_become 2 = .ok (.iload_n 2, 1) := by decide +kernel
theorem dX4_become_3 : decode cX4_become 3 = .ok (.aload_n 0, 1) := by decide +kernel
theorem dX4_become_4 : decode cX4_become 4 = .ok (.getfield 9, 3) := by decide +kernel
theorem dX4_become_7 : decode cX4_become 7 = .ok (.arraylength, 1) := by decide +kernel
theorem dX4_become_8 : decode cX4_become 8 = .ok (.if_icmp .ge 21, 3) := by decide +kernel
theorem dX4_become_11 : decode cX4_become 11 = .ok (.aload_n 0, 1) := by decide +kernel
theorem dX4_become_12 : decode cX4_become 12 = .ok (.getfield 9, 3) := by decide +kernel
theorem dX4_become_15 : decode cX4_become 15 = .ok (.iload_n 2, 1) := by decide +kernel
theorem dX4_become_16 : decode cX4_become 16 = .ok (.aload_n 1, 1) := by decide +kernel
theorem dX4_become_17 : decode cX4_become 17 = .ok (.getfield 9, 3) := by decide +kernel
theorem dX4_become_20 : decode cX4_become 20 = .ok (.iload_n 2, 1) := by decide +kernel
theorem dX4_become_21 : decode cX4_become 21 = .ok (.laload, 1) := by decide +kernel
theorem dX4_become_22 : decode cX4_become 22 = .ok (.lastore, 1) := by decide +kernel
theorem dX4_become_23 : decode cX4_become 23 = .ok (.iinc 2 1, 3) := by decide +kernel
theorem dX4_become_26 : decode cX4_become 26 = .ok (.goto (-24), 3) := by decide +kernel
theorem dX4_become_29 : decode cX4_become 29 = .ok (.return_, 1) := by decide +kernel
theorem dX4_readTen_0 : decode cX4_readTen 0 = .ok (.iconst 0, 1) := by decide +kernel
theorem dX4_readTen_1 : decode cX4_readTen 1 = .ok (.istore_n 2, 1) := by decide +kernel
theorem dX4_readTen_2 : decode cX4_readTen 2 = .ok (.iload_n 2, 1) := by decide +kernel
theorem dX4_readTen_3 : decode cX4_readTen 3 = .ok (.bipush 10, 2) := by decide +kernel
theorem dX4_readTen_5 : decode cX4_readTen 5 = .ok (.if_icmp .ge 59, 3) := by decide +kernel
theorem dX4_readTen_8 : decode cX4_readTen 8 = .ok (.iload_n 2, 1) := by decide +kernel
theorem dX4_readTen_9 : decode cX4_readTen 9 = .ok (.aload_n 1, 1) := by decide +kernel
theorem dX4_readTen_10 : decode cX4_readTen 10 = .ok (.arraylength, 1) := by decide +kernel
theorem dX4_readTen_11 : decode cX4_readTen 11 = .ok (.if_icmp .ge 53, 3) := by decide +kernel
theorem dX4_readTen_14 : decode cX4_readTen 14 = .ok (.aload_n 0, 1) := by decide +kernel
theorem dX4_readTen_15 : decode cX4_readTen 15 = .ok (.getfield 9, 3) := by decide +kernel
theorem dX4_readTen_18 : decode cX4_readTen 18 = .ok (.iconst 4, 1) := by decide +kernel
theorem dX4_readTen_19 : decode cX4_readTen 19 = .ok (.getstatic 18, 3) := by decide +kernel
theorem dX4_readTen_22 : decode cX4_readTen 22 = .ok (.iload_n 2, 1) := by decide +kernel
theorem dX4_readTen_23 : decode cX4_readTen 23 = .ok (.iaload, 1) := by decide +kernel
theorem dX4_readTen_24 : decode cX4_readTen 24 = .ok (.imul, 1) := by decide +kernel
theorem dX4_readTen_25 : decode cX4_readTen 25 = .ok (.getstatic 22, 3) := by decide +kernel
theorem dX4_readTen_28 : decode cX4_readTen 28 = .ok (.iload_n 2, 1) := by decide +kernel
theorem dX4_readTen_29 : decode cX4_readTen 29 = .ok (.iaload, 1) := by decide +kernel
theorem dX4_readTen_30 : decode cX4_readTen 30 = .ok (.iadd, 1) := by decide +kernel
theorem dX4_readTen_31 : decode cX4_readTen 31 = .ok (.aload_n 1, 1) := by decide +kernel
theorem dX4_readTen_32 : decode cX4_readTen 32 = .ok (.iload_n 2, 1) := by decide +kernel
theorem dX4_readTen_33 : decode cX4_readTen 33 = .ok (.iaload, 1) := by decide +kernel
theorem dX4_readTen_34 : decode cX4_readTen 34 = .ok (.i2l, 1) := by decide +kernel
theorem dX4_readTen_35 : decode cX4_readTen 35 = .ok (.lastore, 1) := by decide +kernel
theorem dX4_readTen_36 : decode cX4_readTen 36 = .ok (.aload_n 0, 1) := by decide +kernel
theorem dX4_readTen_37 : decode cX4_readTen 37 = .ok (.getfield 9, 3) := by decide +kernel
theorem dX4_readTen_40 : decode cX4_readTen 40 = .ok (.iconst 4, 1) := by decide +kernel
theorem dX4_readTen_41 : decode cX4_readTen 41 = .ok (.getstatic 22, 3) := by decide +kernel
theorem dX4_readTen_44 : decode cX4_readTen 44 = .ok (.iload_n 2, 1) := by decide +kernel
theorem dX4_readTen_45 : decode cX4_readTen 45 = .ok (.iaload, 1) := by decide +kernel
theorem dX4_readTen_46 : decode cX4_readTen 46 = .ok (.imul, 1) := by decide +kernel
theorem dX4_readTen_47 : decode cX4_readTen 47 = .ok (.getstatic 18, 3) := by decide +kernel
theorem dX4_readTen_50 : decode cX4_readTen 50 = .ok (.iload_n 2, 1) := by decide +kernel
theorem dX4_readTen_51 : decode cX4_readTen 51 = .ok (.iaload, 1) := by decide +kernel
theorem dX4_readTen_52 : decode cX4_readTen 52 = .ok (.iadd, 1) := by decide +kernel
theorem dX4_readTen_53 : decode cX4_readTen 53 = .ok (.aload_n 1, 1) := by decide +kernel
theorem dX4_readTen_54 : decode cX4_readTen 54 = .ok (.iload_n 2, 1) := by decide +kernel
theorem dX4_readTen_55 : decode cX4_readTen 55 = .ok (.iaload, 1) := by decide +kernel
theorem dX4_readTen_56 : decode cX4_readTen 56 = .ok (.i2l, 1) := by decide +kernel
theorem dX4_readTen_57 : decode cX4_readTen 57 = .ok (.lastore, 1) := by decide +kernel
theorem dX4_readTen_58 : decode cX4_readTen 58 = .ok (.iinc 2 1, 3) := by decide +kernel
theorem dX4_readTen_61 : decode cX4_readTen 61 = .ok (.goto (-59), 3) := by decide +kernel
theorem dX4_readTen_64 : decode cX4_readTen 64 = .ok (.return_, 1) := by decide +kernel
theorem dX4_ten_0 : decode cX4_ten 0 = .ok (.iload_n 1, 1) := by decide +kernel
theorem dX4_ten_1 : decode cX4_ten 1 = .ok (.ifCond .lt 9, 3) := by decide +kernel
theorem dX4_ten_4 : decode cX4_ten 4 = .ok (.iload_n 1, 1) := by decide +kernel
theorem dX4_ten_5 : decode cX4_ten 5 = .ok (.bipush 10, 2) := by decide +kernel
theorem dX4_ten_7 : decode cX4_ten 7 = .ok (.if_icmp .lt 7, 3) := by decide +kernel
theorem dX4_ten_10 : decode cX4_ten 10 = .ok (.lconst 0, 1) := by decide +kernel
theorem dX4_ten_11 : decode cX4_ten 11 = .ok (.goto 21, 3) := by decide +kernel
theorem dX4_ten_14 : decode cX4_ten 14 = .ok (.aload_n 0, 1) := by decide +kernel
theorem dX4_ten_15 : decode cX4_ten 15 = .ok (.getfield 9, 3) := by decide +kernel
theorem dX4_ten_18 : decode cX4_ten 18 = .ok (.iconst 4, 1) := by decide +kernel
theorem dX4_ten_19 : decode cX4_ten 19 = .ok (.getstatic 18, 3) := by decide +kernel
theorem dX4_ten_22 : decode cX4_ten 22 = .ok (.iload_n 1, 1) := by decide +kernel
theorem dX4_ten_23 : decode cX4_ten 23 = .ok (.iaload, 1) := by decide +kernel
theorem dX4_ten_24 : decode cX4_ten 24 = .ok (.imul, 1) := by decide +kernel
theorem dX4_ten_25 : decode cX4_ten 25 = .ok (.getstatic 22, 3) := by decide +kernel
theorem dX4_ten_28 : decode cX4_ten 28 = .ok (.iload_n 1, 1) := by decide +kernel
theorem dX4_ten_29 : decode cX4_ten 29 = .ok (.iaload, 1) := by decide +kernel
theorem dX4_ten_30 : decode cX4_ten 30 = .ok (.iadd, 1) := by decide +kernel
theorem dX4_ten_31 : decode cX4_ten 31 = .ok (.laload, 1) := by decide +kernel
theorem dX4_ten_32 : decode cX4_ten 32 = .ok (.lreturn, 1) := by decide +kernel
theorem dX4_sumOf_0 : decode cX4_sumOf 0 = .ok (.iconst 0, 1) := by decide +kernel
theorem dX4_sumOf_1 : decode cX4_sumOf 1 = .ok (.istore 7, 2) := by decide +kernel
theorem dX4_sumOf_3 : decode cX4_sumOf 3 = .ok (.iload 7, 2) := by decide +kernel
theorem dX4_sumOf_5 : decode cX4_sumOf 5 = .ok (.aload_n 0, 1) := by decide +kernel
theorem dX4_sumOf_6 : decode cX4_sumOf 6 = .ok (.getfield 9, 3) := by decide +kernel
theorem dX4_sumOf_9 : decode cX4_sumOf 9 = .ok (.arraylength, 1) := by decide +kernel
theorem dX4_sumOf_10 : decode cX4_sumOf 10 = .ok (.if_icmp .ge 37, 3) := by decide +kernel
theorem dX4_sumOf_13 : decode cX4_sumOf 13 = .ok (.aload_n 0, 1) := by decide +kernel
theorem dX4_sumOf_14 : decode cX4_sumOf 14 = .ok (.getfield 9, 3) := by decide +kernel
theorem dX4_sumOf_17 : decode cX4_sumOf 17 = .ok (.iload 7, 2) := by decide +kernel
theorem dX4_sumOf_19 : decode cX4_sumOf 19 = .ok (.aload_n 1, 1) := by decide +kernel
theorem dX4_sumOf_20 : decode cX4_sumOf 20 = .ok (.getfield 9, 3) := by decide +kernel
theorem dX4_sumOf_23 : decode cX4_sumOf 23 = .ok (.iload 7, 2) := by decide +kernel
theorem dX4_sumOf_25 : decode cX4_sumOf 25 = .ok (.laload, 1) := by decide +kernel
theorem dX4_sumOf_26 : decode cX4_sumOf 26 = .ok (.lload_n 2, 1) := by decide +kernel
theorem dX4_sumOf_27 : decode cX4_sumOf 27 = .ok (.lmul, 1) := by decide +kernel
theorem dX4_sumOf_28 : decode cX4_sumOf 28 = .ok (.aload 4, 2) := by decide +kernel
theorem dX4_sumOf_30 : decode cX4_sumOf 30 = .ok (.getfield 9, 3) := by decide +kernel
theorem dX4_sumOf_33 : decode cX4_sumOf 33 = .ok (.iload 7, 2) := by decide +kernel
theorem dX4_sumOf_35 : decode cX4_sumOf 35 = .ok (.laload, 1) := by decide +kernel
theorem dX4_sumOf_36 : decode cX4_sumOf 36 = .ok (.lload 5, 2) := by decide +kernel
theorem dX4_sumOf_38 : decode cX4_sumOf 38 = .ok (.lmul, 1) := by decide +kernel
theorem dX4_sumOf_39 : decode cX4_sumOf 39 = .ok (.ladd, 1) := by decide +kernel
theorem dX4_sumOf_40 : decode cX4_sumOf 40 = .ok (.lastore, 1) := by decide +kernel
theorem dX4_sumOf_41 : decode cX4_sumOf 41 = .ok (.iinc 7 1, 3) := by decide +kernel
theorem dX4_sumOf_44 : decode cX4_sumOf 44 = .ok (.goto (-41), 3) := by decide +kernel
theorem dX4_sumOf_47 : decode cX4_sumOf 47 = .ok (.return_, 1) := by decide +kernel
theorem dX4_goesBeyond_0 : decode cX4_goesBeyond 0 = .ok (.iconst 0, 1) := by decide +kernel
theorem dX4_goesBeyond_1 : decode cX4_goesBeyond 1 = .ok (.istore_n 2, 1) := by decide +kernel
theorem dX4_goesBeyond_2 : decode cX4_goesBeyond 2 = .ok (.iload_n 2, 1) := by decide +kernel
theorem dX4_goesBeyond_3 : decode cX4_goesBeyond 3 = .ok (.aload_n 0, 1) := by decide +kernel
theorem dX4_goesBeyond_4 : decode cX4_goesBeyond 4 = .ok (.getfield 9, 3) := by decide +kernel
theorem dX4_goesBeyond_7 : decode cX4_goesBeyond 7 = .ok (.arraylength, 1) := by decide +kernel
theorem dX4_goesBeyond_8 : decode cX4_goesBeyond 8 = .ok (.if_icmp .ge 36, 3) := by decide +kernel
theorem dX4_goesBeyond_11 : decode cX4_goesBeyond 11 = .ok (.aload_n 0, 1) := by decide +kernel
theorem dX4_goesBeyond_12 : decode cX4_goesBeyond 12 = .ok (.getfield 9, 3) := by decide +kernel
theorem dX4_goesBeyond_15 : decode cX4_goesBeyond 15 = .ok (.iload_n 2, 1) := by decide +kernel
theorem dX4_goesBeyond_16 : decode cX4_goesBeyond 16 = .ok (.laload, 1) := by decide +kernel
theorem dX4_goesBeyond_17 : decode cX4_goesBeyond 17 = .ok (.iload_n 1, 1) := by decide +kernel
theorem dX4_goesBeyond_18 : decode cX4_goesBeyond 18 = .ok (.ineg, 1) := by decide +kernel
theorem dX4_goesBeyond_19 : decode cX4_goesBeyond 19 = .ok (.i2l, 1) := by decide +kernel
theorem dX4_goesBeyond_20 : decode cX4_goesBeyond 20 = .ok (.lcmp, 1) := by decide +kernel
theorem dX4_goesBeyond_21 : decode cX4_goesBeyond 21 = .ok (.ifCond .lt 15, 3) := by decide +kernel
theorem dX4_goesBeyond_24 : decode cX4_goesBeyond 24 = .ok (.aload_n 0, 1) := by decide +kernel
theorem dX4_goesBeyond_25 : decode cX4_goesBeyond 25 = .ok (.getfield 9, 3) := by decide +kernel
theorem dX4_goesBeyond_28 : decode cX4_goesBeyond 28 = .ok (.iload_n 2, 1) := by decide +kernel
theorem dX4_goesBeyond_29 : decode cX4_goesBeyond 29 = .ok (.laload, 1) := by decide +kernel
theorem dX4_goesBeyond_30 : decode cX4_goesBeyond 30 = .ok (.iload_n 1, 1) := by decide +kernel
theorem dX4_goesBeyond_31 : decode cX4_goesBeyond 31 = .ok (.i2l, 1) := by decide +kernel
theorem dX4_goesBeyond_32 : decode cX4_goesBeyond 32 = .ok (.lcmp, 1) := by decide +kernel
theorem dX4_goesBeyond_33 : decode cX4_goesBeyond 33 = .ok (.ifCond .le 5, 3) := by decide +kernel
theorem dX4_goesBeyond_36 : decode cX4_goesBeyond 36 = .ok (.iconst 1, 1) := by decide +kernel
theorem dX4_goesBeyond_37 : decode cX4_goesBeyond 37 = .ok (.ireturn, 1) := by decide +kernel
theorem dX4_goesBeyond_38 : decode cX4_goesBeyond 38 = .ok (.iinc 2 1, 3) := by decide +kernel
theorem dX4_goesBeyond_41 : decode cX4_goesBeyond 41 = .ok (.goto (-39), 3) := by decide +kernel
theorem dX4_goesBeyond_44 : decode cX4_goesBeyond 44 = .ok (.iconst 0, 1) := by decide +kernel
theorem dX4_goesBeyond_45 : decode cX4_goesBeyond 45 = .ok (.ireturn, 1) := by decide +kernel
theorem dX4_shearBy_0 : decode cX4_shearBy 0 = .ok (.iload_n 1, 1) := by decide +kernel
theorem dX4_shearBy_1 : decode cX4_shearBy 1 = .ok (.invokestatic 25, 3) := by decide +kernel
theorem dX4_shearBy_4 : decode cX4_shearBy 4 = .ok (.ifCond .ne 10, 3) := by decide +kernel
theorem dX4_shearBy_7 : decode cX4_shearBy 7 = .ok (.iload_n 2, 1) := by decide +kernel
theorem dX4_shearBy_8 : decode cX4_shearBy 8 = .ok (.invokestatic 25, 3) := by decide +kernel
theorem dX4_shearBy_11 : decode cX4_shearBy 11 = .ok (.ifCond .eq 4, 3) := by decide +kernel
theorem dX4_shearBy_14 : decode cX4_shearBy 14 = .ok (.return_, 1) := by decide +kernel
theorem dX4_shearBy_15 : decode cX4_shearBy 15 = .ok (.iconst 0, 1) := by decide +kernel
theorem dX4_shearBy_16 : decode cX4_shearBy 16 = .ok (.istore 4, 2) := by decide +kernel
theorem dX4_shearBy_18 : decode cX4_shearBy 18 = .ok (.iload 4, 2) := by decide +kernel
theorem dX4_shearBy_20 : decode cX4_shearBy 20 = .ok (.iconst 4, 1) := by decide +kernel
theorem dX4_shearBy_21 : decode cX4_shearBy 21 = .ok (.if_icmp .ge 37, 3) := by decide +kernel
theorem dX4_shearBy_24 : decode cX4_shearBy 24 = .ok (.aload_n 0, 1) := by decide +kernel
theorem dX4_shearBy_25 : decode cX4_shearBy 25 = .ok (.getfield 9, 3) := by decide +kernel
theorem dX4_shearBy_28 : decode cX4_shearBy 28 = .ok (.iconst 4, 1) := by decide +kernel
theorem dX4_shearBy_29 : decode cX4_shearBy 29 = .ok (.iload 4, 2) := by decide +kernel
theorem dX4_shearBy_31 : decode cX4_shearBy 31 = .ok (.imul, 1) := by decide +kernel
theorem dX4_shearBy_32 : decode cX4_shearBy 32 = .ok (.iload_n 2, 1) := by decide +kernel
theorem dX4_shearBy_33 : decode cX4_shearBy 33 = .ok (.iadd, 1) := by decide +kernel
theorem dX4_shearBy_34 : decode cX4_shearBy 34 = .ok (.dup2, 1) := by decide +kernel
theorem dX4_shearBy_35 : decode cX4_shearBy 35 = .ok (.laload, 1) := by decide +kernel
theorem dX4_shearBy_36 : decode cX4_shearBy 36 = .ok (.iload_n 3, 1) := by decide +kernel
theorem dX4_shearBy_37 : decode cX4_shearBy 37 = .ok (.i2l, 1) := by decide +kernel
theorem dX4_shearBy_38 : decode cX4_shearBy 38 = .ok (.aload_n 0, 1) := by decide +kernel
theorem dX4_shearBy_39 : decode cX4_shearBy 39 = .ok (.getfield 9, 3) := by decide +kernel
theorem dX4_shearBy_42 : decode cX4_shearBy 42 = .ok (.iconst 4, 1) := by decide +kernel
theorem dX4_shearBy_43 : decode cX4_shearBy 43 = .ok (.iload 4, 2) := by decide +kernel
theorem dX4_shearBy_45 : decode cX4_shearBy 45 = .ok (.imul, 1) := by decide +kernel
theorem dX4_shearBy_46 : decode cX4_shearBy 46 = .ok (.iload_n 1, 1) := by decide +kernel
theorem dX4_shearBy_47 : decode cX4_shearBy 47 = .ok (.iadd, 1) := by decide +kernel
theorem dX4_shearBy_48 : decode cX4_shearBy 48 = .ok (.laload, 1) := by decide +kernel
theorem dX4_shearBy_49 : decode cX4_shearBy 49 = .ok (.lmul, 1) := by decide +kernel
theorem dX4_shearBy_50 : decode cX4_shearBy 50 = .ok (.ladd, 1) := by decide +kernel
theorem dX4_shearBy_51 : decode cX4_shearBy 51 = .ok (.lastore, 1) := by decide +kernel
theorem dX4_shearBy_52 : decode cX4_shearBy 52 = .ok (.iinc 4 1, 3) := by decide +kernel
theorem dX4_shearBy_55 : decode cX4_shearBy 55 = .ok (.goto (-37), 3) := by decide +kernel
theorem dX4_shearBy_58 : decode cX4_shearBy 58 = .ok (.iconst 0, 1) := by decide +kernel
theorem dX4_shearBy_59 : decode cX4_shearBy 59 = .ok (.istore 4, 2) := by decide +kernel
theorem dX4_shearBy_61 : decode cX4_shearBy 61 = .ok (.iload 4, 2) := by decide +kernel
theorem dX4_shearBy_63 : decode cX4_shearBy 63 = .ok (.iconst 4, 1) := by decide +kernel
theorem dX4_shearBy_64 : decode cX4_shearBy 64 = .ok (.if_icmp .ge 37, 3) := by decide +kernel
theorem dX4_shearBy_67 : decode cX4_shearBy 67 = .ok (.aload_n 0, 1) := by decide +kernel
theorem dX4_shearBy_68 : decode cX4_shearBy 68 = .ok (.getfield 9, 3) := by decide +kernel
theorem dX4_shearBy_71 : decode cX4_shearBy 71 = .ok (.iconst 4, 1) := by decide +kernel
theorem dX4_shearBy_72 : decode cX4_shearBy 72 = .ok (.iload_n 2, 1) := by decide +kernel
theorem dX4_shearBy_73 : decode cX4_shearBy 73 = .ok (.imul, 1) := by decide +kernel
theorem dX4_shearBy_74 : decode cX4_shearBy 74 = .ok (.iload 4, 2) := by decide +kernel
theorem dX4_shearBy_76 : decode cX4_shearBy 76 = .ok (.iadd, 1) := by decide +kernel
theorem dX4_shearBy_77 : decode cX4_shearBy 77 = .ok (.dup2, 1) := by decide +kernel
theorem dX4_shearBy_78 : decode cX4_shearBy 78 = .ok (.laload, 1) := by decide +kernel
theorem dX4_shearBy_79 : decode cX4_shearBy 79 = .ok (.iload_n 3, 1) := by decide +kernel
theorem dX4_shearBy_80 : decode cX4_shearBy 80 = .ok (.i2l, 1) := by decide +kernel
theorem dX4_shearBy_81 : decode cX4_shearBy 81 = .ok (.aload_n 0, 1) := by decide +kernel
theorem dX4_shearBy_82 : decode cX4_shearBy 82 = .ok (.getfield 9, 3) := by decide +kernel
theorem dX4_shearBy_85 : decode cX4_shearBy 85 = .ok (.iconst 4, 1) := by decide +kernel
theorem dX4_shearBy_86 : decode cX4_shearBy 86 = .ok (.iload_n 1, 1) := by decide +kernel
theorem dX4_shearBy_87 : decode cX4_shearBy 87 = .ok (.imul, 1) := by decide +kernel
theorem dX4_shearBy_88 : decode cX4_shearBy 88 = .ok (.iload 4, 2) := by decide +kernel
theorem dX4_shearBy_90 : decode cX4_shearBy 90 = .ok (.iadd, 1) := by decide +kernel
theorem dX4_shearBy_91 : decode cX4_shearBy 91 = .ok (.laload, 1) := by decide +kernel
theorem dX4_shearBy_92 : decode cX4_shearBy 92 = .ok (.lmul, 1) := by decide +kernel
theorem dX4_shearBy_93 : decode cX4_shearBy 93 = .ok (.ladd, 1) := by decide +kernel
theorem dX4_shearBy_94 : decode cX4_shearBy 94 = .ok (.lastore, 1) := by decide +kernel
theorem dX4_shearBy_95 : decode cX4_shearBy 95 = .ok (.iinc 4 1, 3) := by decide +kernel
theorem dX4_shearBy_98 : decode cX4_shearBy 98 = .ok (.goto (-37), 3) := by decide +kernel
theorem dX4_shearBy_101 : decode cX4_shearBy 101 = .ok (.return_, 1) := by decide +kernel
theorem dX4_moveBy_0 : decode cX4_moveBy 0 = .ok (.iconst 0, 1) := by decide +kernel
theorem dX4_moveBy_1 : decode cX4_moveBy 1 = .ok (.istore_n 3, 1) := by decide +kernel
theorem dX4_moveBy_2 : decode cX4_moveBy 2 = .ok (.iload_n 3, 1) := by decide +kernel
theorem dX4_moveBy_3 : decode cX4_moveBy 3 = .ok (.iconst 3, 1) := by decide +kernel
theorem dX4_moveBy_4 : decode cX4_moveBy 4 = .ok (.if_icmp .ge 27, 3) := by decide +kernel
theorem dX4_moveBy_7 : decode cX4_moveBy 7 = .ok (.iload_n 3, 1) := by decide +kernel
theorem dX4_moveBy_8 : decode cX4_moveBy 8 = .ok (.aload_n 1, 1) := by decide +kernel
theorem dX4_moveBy_9 : decode cX4_moveBy 9 = .ok (.arraylength, 1) := by decide +kernel
theorem dX4_moveBy_10 : decode cX4_moveBy 10 = .ok (.if_icmp .ge 21, 3) := by decide +kernel
theorem dX4_moveBy_13 : decode cX4_moveBy 13 = .ok (.aload_n 0, 1) := by decide +kernel
theorem dX4_moveBy_14 : decode cX4_moveBy 14 = .ok (.iload_n 3, 1) := by decide +kernel
theorem dX4_moveBy_15 : decode cX4_moveBy 15 = .ok (.iconst 3, 1) := by decide +kernel
theorem dX4_moveBy_16 : decode cX4_moveBy 16 = .ok (.iload_n 2, 1) := by decide +kernel
theorem dX4_moveBy_17 : decode cX4_moveBy 17 = .ok (.ineg, 1) := by decide +kernel
theorem dX4_moveBy_18 : decode cX4_moveBy 18 = .ok (.aload_n 1, 1) := by decide +kernel
theorem dX4_moveBy_19 : decode cX4_moveBy 19 = .ok (.iload_n 3, 1) := by decide +kernel
theorem dX4_moveBy_20 : decode cX4_moveBy 20 = .ok (.iaload, 1) := by decide +kernel
theorem dX4_moveBy_21 : decode cX4_moveBy 21 = .ok (.imul, 1) := by decide +kernel
theorem dX4_moveBy_22 : decode cX4_moveBy 22 = .ok (.invokevirtual 29, 3) := by decide +kernel
theorem dX4_moveBy_25 : decode cX4_moveBy 25 = .ok (.iinc 3 1, 3) := by decide +kernel
theorem dX4_moveBy_28 : decode cX4_moveBy 28 = .ok (.goto (-26), 3) := by decide +kernel
theorem dX4_moveBy_31 : decode cX4_moveBy 31 = .ok (.return_, 1) := by decide +kernel
theorem dX4_swapLetters_0 : decode cX4_swapLetters 0 = .ok (.iload_n 1, 1) := by decide +kernel
theorem dX4_swapLetters_1 : decode cX4_swapLetters 1 = .ok (.invokestatic 25, 3) := by decide +kernel
theorem dX4_swapLetters_4 : decode cX4_swapLetters 4 = .ok (.ifCond .ne 10, 3) := by decide +kernel
theorem dX4_swapLetters_7 : decode cX4_swapLetters 7 = .ok (.iload_n 2, 1) := by decide +kernel
theorem dX4_swapLetters_8 : decode cX4_swapLetters 8 = .ok (.invokestatic 25, 3) := by decide +kernel
theorem dX4_swapLetters_11 : decode cX4_swapLetters 11 = .ok (.ifCond .eq 4, 3) := by decide +kernel
theorem dX4_swapLetters_14 : decode cX4_swapLetters 14 = .ok (.return_, 1) := by decide +kernel
theorem dX4_swapLetters_15 : decode cX4_swapLetters 15 = .ok (.iconst 0, 1) := by decide +kernel
theorem dX4_swapLetters_16 : decode cX4_swapLetters 16 = .ok (.istore_n 3, 1) := by decide +kernel
theorem dX4_swapLetters_17 : decode cX4_swapLetters 17 = .ok (.iload_n 3, 1) := by decide +kernel
theorem dX4_swapLetters_18 : decode cX4_swapLetters 18 = .ok (.iconst 4, 1) := by decide +kernel
theorem dX4_swapLetters_19 : decode cX4_swapLetters 19 = .ok (.if_icmp .ge 23, 3) := by decide +kernel
theorem dX4_swapLetters_22 : decode cX4_swapLetters 22 = .ok (.aload_n 0, 1) := by decide +kernel
theorem dX4_swapLetters_23 : decode cX4_swapLetters 23 = .ok (.iconst 4, 1) := by decide +kernel
theorem dX4_swapLetters_24 : decode cX4_swapLetters 24 = .ok (.iload_n 3, 1) := by decide +kernel
theorem dX4_swapLetters_25 : decode cX4_swapLetters 25 = .ok (.imul, 1) := by decide +kernel
theorem dX4_swapLetters_26 : decode cX4_swapLetters 26 = .ok (.iload_n 1, 1) := by decide +kernel
theorem dX4_swapLetters_27 : decode cX4_swapLetters 27 = .ok (.iadd, 1) := by decide +kernel
theorem dX4_swapLetters_28 : decode cX4_swapLetters 28 = .ok (.iconst 4, 1) := by decide +kernel
theorem dX4_swapLetters_29 : decode cX4_swapLetters 29 = .ok (.iload_n 3, 1) := by decide +kernel
theorem dX4_swapLetters_30 : decode cX4_swapLetters 30 = .ok (.imul, 1) := by decide +kernel
theorem dX4_swapLetters_31 : decode cX4_swapLetters 31 = .ok (.iload_n 2, 1) := by decide +kernel
theorem dX4_swapLetters_32 : decode cX4_swapLetters 32 = .ok (.iadd, 1) := by decide +kernel
theorem dX4_swapLetters_33 : decode cX4_swapLetters 33 = .ok (.invokevirtual 33, 3) := by decide +kernel
theorem dX4_swapLetters_36 : decode cX4_swapLetters 36 = .ok (.iinc 3 1, 3) := by decide +kernel
theorem dX4_swapLetters_39 : decode cX4_swapLetters 39 = .ok (.goto (-22), 3) := by decide +kernel
theorem dX4_swapLetters_42 : decode cX4_swapLetters 42 = .ok (.iconst 0, 1) := by decide +kernel
theorem dX4_swapLetters_43 : decode cX4_swapLetters 43 = .ok (.istore_n 3, 1) := by decide +kernel
theorem dX4_swapLetters_44 : decode cX4_swapLetters 44 = .ok (.iload_n 3, 1) := by decide +kernel
theorem dX4_swapLetters_45 : decode cX4_swapLetters 45 = .ok (.iconst 4, 1) := by decide +kernel
theorem dX4_swapLetters_46 : decode cX4_swapLetters 46 = .ok (.if_icmp .ge 23, 3) := by decide +kernel
theorem dX4_swapLetters_49 : decode cX4_swapLetters 49 = .ok (.aload_n 0, 1) := by decide +kernel
theorem dX4_swapLetters_50 : decode cX4_swapLetters 50 = .ok (.iconst 4, 1) := by decide +kernel
theorem dX4_swapLetters_51 : decode cX4_swapLetters 51 = .ok (.iload_n 1, 1) := by decide +kernel
theorem dX4_swapLetters_52 : decode cX4_swapLetters 52 = .ok (.imul, 1) := by decide +kernel
theorem dX4_swapLetters_53 : decode cX4_swapLetters 53 = .ok (.iload_n 3, 1) := by decide +kernel
theorem dX4_swapLetters_54 : decode cX4_swapLetters 54 = .ok (.iadd, 1) := by decide +kernel
theorem dX4_swapLetters_55 : decode cX4_swapLetters 55 = .ok (.iconst 4, 1) := by decide +kernel
theorem dX4_swapLetters_56 : decode cX4_swapLetters 56 = .ok (.iload_n 2, 1) := by decide +kernel
theorem dX4_swapLetters_57 : decode cX4_swapLetters 57 = .ok (.imul, 1) := by decide +kernel
theorem dX4_swapLetters_58 : decode cX4_swapLetters 58 = .ok (.iload_n 3, 1) := by decide +kernel
theorem dX4_swapLetters_59 : decode cX4_swapLetters 59 = .ok (.iadd, 1) := by decide +kernel
theorem dX4_swapLetters_60 : decode cX4_swapLetters 60 = .ok (.invokevirtual 33, 3) := by decide +kernel
theorem dX4_swapLetters_63 : decode cX4_swapLetters 63 = .ok (.iinc 3 1, 3) := by decide +kernel
theorem dX4_swapLetters_66 : decode cX4_swapLetters 66 = .ok (.goto (-22), 3) := by decide +kernel
theorem dX4_swapLetters_69 : decode cX4_swapLetters 69 = .ok (.return_, 1) := by decide +kernel
theorem dX4_exchange_0 : decode cX4_exchange 0 = .ok (.iload_n 1, 1) := by decide +kernel
theorem dX4_exchange_1 : decode cX4_exchange 1 = .ok (.ifCond .lt 25, 3) := by decide +kernel
theorem dX4_exchange_4 : decode cX4_exchange 4 = .ok (.iload_n 2, 1) := by decide +kernel
theorem dX4_exchange_5 : decode cX4_exchange 5 = .ok (.ifCond .lt 21, 3) := by decide +kernel
theorem dX4_exchange_8 : decode cX4_exchange 8 = .ok (.iload_n 1, 1) := by decide +kernel
theorem dX4_exchange_9 : decode cX4_exchange 9 = .ok (.aload_n 0, 1) := by decide +kernel
theorem dX4_exchange_10 : decode cX4_exchange 10 = .ok (.getfield 9, 3) := by decide +kernel
theorem dX4_exchange_13 : decode cX4_exchange 13 = .ok (.arraylength, 1) := by decide +kernel
theorem dX4_exchange_14 : decode cX4_exchange 14 = .ok (.if_icmp .ge 12, 3) := by decide +kernel
theorem dX4_exchange_17 : decode cX4_exchange 17 = .ok (.iload_n 2, 1) := by decide +kernel
theorem dX4_exchange_18 : decode cX4_exchange 18 = .ok (.aload_n 0, 1) := by decide +kernel
theorem dX4_exchange_19 : decode cX4_exchange 19 = .ok (.getfield 9, 3) := by decide +kernel
theorem dX4_exchange_22 : decode cX4_exchange 22 = .ok (.arraylength, 1) := by decide +kernel
theorem dX4_exchange_23 : decode cX4_exchange 23 = .ok (.if_icmp .lt 4, 3) := by decide +kernel
theorem dX4_exchange_26 : decode cX4_exchange 26 = .ok (.return_, 1) := by decide +kernel
theorem dX4_exchange_27 : decode cX4_exchange 27 = .ok (.aload_n 0, 1) := by decide +kernel
theorem dX4_exchange_28 : decode cX4_exchange 28 = .ok (.getfield 9, 3) := by decide +kernel
theorem dX4_exchange_31 : decode cX4_exchange 31 = .ok (.iload_n 1, 1) := by decide +kernel
theorem dX4_exchange_32 : decode cX4_exchange 32 = .ok (.laload, 1) := by decide +kernel
theorem dX4_exchange_33 : decode cX4_exchange 33 = .ok (.lstore_n 3, 1) := by decide +kernel
theorem dX4_exchange_34 : decode cX4_exchange 34 = .ok (.aload_n 0, 1) := by decide +kernel
theorem dX4_exchange_35 : decode cX4_exchange 35 = .ok (.getfield 9, 3) := by decide +kernel
theorem dX4_exchange_38 : decode cX4_exchange 38 = .ok (.iload_n 1, 1) := by decide +kernel
theorem dX4_exchange_39 : decode cX4_exchange 39 = .ok (.aload_n 0, 1) := by decide +kernel
theorem dX4_exchange_40 : decode cX4_exchange 40 = .ok (.getfield 9, 3) := by decide +kernel
theorem dX4_exchange_43 : decode cX4_exchange 43 = .ok (.iload_n 2, 1) := by decide +kernel
theorem dX4_exchange_44 : decode cX4_exchange 44 = .ok (.laload, 1) := by decide +kernel
theorem dX4_exchange_45 : decode cX4_exchange 45 = .ok (.lastore, 1) := by decide +kernel
theorem dX4_exchange_46 : decode cX4_exchange 46 = .ok (.aload_n 0, 1) := by decide +kernel
theorem dX4_exchange_47 : decode cX4_exchange 47 = .ok (.getfield 9, 3) := by decide +kernel
theorem dX4_exchange_50 : decode cX4_exchange 50 = .ok (.iload_n 2, 1) := by decide +kernel
theorem dX4_exchange_51 : decode cX4_exchange 51 = .ok (.lload_n 3, 1) := by decide +kernel
theorem dX4_exchange_52 : decode cX4_exchange 52 = .ok (.lastore, 1) := by decide +kernel
theorem dX4_exchange_53 : decode cX4_exchange 53 = .ok (.return_, 1) := by decide +kernel
theorem dX4_poleNumber_0 : decode cX4_poleNumber 0 = .ok (.iload_n 1, 1) := by decide +kernel
theorem dX4_poleNumber_1 : decode cX4_poleNumber 1 = .ok (.invokestatic 25, 3) := by decide +kernel
theorem dX4_poleNumber_4 : decode cX4_poleNumber 4 = .ok (.ifCond .ne 9, 3) := by decide +kernel
theorem dX4_poleNumber_7 : decode cX4_poleNumber 7 = .ok (.aload_n 2, 1) := by decide +kernel
theorem dX4_poleNumber_8 : decode cX4_poleNumber 8 = .ok (.arraylength, 1) := by decide +kernel
theorem dX4_poleNumber_9 : decode cX4_poleNumber 9 = .ok (.iconst 4, 1) := by decide +kernel
theorem dX4_poleNumber_10 : decode cX4_poleNumber 10 = .ok (.if_icmp .ge 5, 3) := by decide +kernel
theorem dX4_poleNumber_13 : decode cX4_poleNumber 13 = .ok (.lconst 0, 1) := by decide +kernel
theorem dX4_poleNumber_14 : decode cX4_poleNumber 14 = .ok (.lreturn, 1) := by decide +kernel
theorem dX4_poleNumber_15 : decode cX4_poleNumber 15 = .ok (.lconst 0, 1) := by decide +kernel
theorem dX4_poleNumber_16 : decode cX4_poleNumber 16 = .ok (.lstore_n 3, 1) := by decide +kernel
theorem dX4_poleNumber_17 : decode cX4_poleNumber 17 = .ok (.iconst 0, 1) := by decide +kernel
theorem dX4_poleNumber_18 : decode cX4_poleNumber 18 = .ok (.istore 5, 2) := by decide +kernel
theorem dX4_poleNumber_20 : decode cX4_poleNumber 20 = .ok (.iload 5, 2) := by decide +kernel
theorem dX4_poleNumber_22 : decode cX4_poleNumber 22 = .ok (.iconst 4, 1) := by decide +kernel
theorem dX4_poleNumber_23 : decode cX4_poleNumber 23 = .ok (.if_icmp .ge 28, 3) := by decide +kernel
theorem dX4_poleNumber_26 : decode cX4_poleNumber 26 = .ok (.lload_n 3, 1) := by decide +kernel
theorem dX4_poleNumber_27 : decode cX4_poleNumber 27 = .ok (.aload_n 0, 1) := by decide +kernel
theorem dX4_poleNumber_28 : decode cX4_poleNumber 28 = .ok (.getfield 9, 3) := by decide +kernel
theorem dX4_poleNumber_31 : decode cX4_poleNumber 31 = .ok (.iconst 4, 1) := by decide +kernel
theorem dX4_poleNumber_32 : decode cX4_poleNumber 32 = .ok (.iload_n 1, 1) := by decide +kernel
theorem dX4_poleNumber_33 : decode cX4_poleNumber 33 = .ok (.imul, 1) := by decide +kernel
theorem dX4_poleNumber_34 : decode cX4_poleNumber 34 = .ok (.iload 5, 2) := by decide +kernel
theorem dX4_poleNumber_36 : decode cX4_poleNumber 36 = .ok (.iadd, 1) := by decide +kernel
theorem dX4_poleNumber_37 : decode cX4_poleNumber 37 = .ok (.laload, 1) := by decide +kernel
theorem dX4_poleNumber_38 : decode cX4_poleNumber 38 = .ok (.aload_n 2, 1) := by decide +kernel
theorem dX4_poleNumber_39 : decode cX4_poleNumber 39 = .ok (.iload 5, 2) := by decide +kernel
theorem dX4_poleNumber_41 : decode cX4_poleNumber 41 = .ok (.laload, 1) := by decide +kernel
theorem dX4_poleNumber_42 : decode cX4_poleNumber 42 = .ok (.lmul, 1) := by decide +kernel
theorem dX4_poleNumber_43 : decode cX4_poleNumber 43 = .ok (.ladd, 1) := by decide +kernel
theorem dX4_poleNumber_44 : decode cX4_poleNumber 44 = .ok (.lstore_n 3, 1) := by decide +kernel
theorem dX4_poleNumber_45 : decode cX4_poleNumber 45 = .ok (.iinc 5 1, 3) := by decide +kernel
theorem dX4_poleNumber_48 : decode cX4_poleNumber 48 = .ok (.goto (-28), 3) := by decide +kernel
theorem dX4_poleNumber_51 : decode cX4_poleNumber 51 = .ok (.lload_n 3, 1) := by decide +kernel
theorem dX4_poleNumber_52 : decode cX4_poleNumber 52 = .ok (.lreturn, 1) := by decide +kernel
theorem dX4_isPoleless_0 : decode cX4_isPoleless 0 = .ok (.iconst 0, 1) := by decide +kernel
theorem dX4_isPoleless_1 : decode cX4_isPoleless 1 = .ok (.istore_n 2, 1) := by decide +kernel
theorem dX4_isPoleless_2 : decode cX4_isPoleless 2 = .ok (.iload_n 2, 1) := by decide +kernel
theorem dX4_isPoleless_3 : decode cX4_isPoleless 3 = .ok (.iconst 4, 1) := by decide +kernel
theorem dX4_isPoleless_4 : decode cX4_isPoleless 4 = .ok (.if_icmp .ge 22, 3) := by decide +kernel
theorem dX4_isPoleless_7 : decode cX4_isPoleless 7 = .ok (.aload_n 0, 1) := by decide +kernel
theorem dX4_isPoleless_8 : decode cX4_isPoleless 8 = .ok (.iload_n 2, 1) := by decide +kernel
theorem dX4_isPoleless_9 : decode cX4_isPoleless 9 = .ok (.aload_n 1, 1) := by decide +kernel
theorem dX4_isPoleless_10 : decode cX4_isPoleless 10 = .ok (.invokevirtual 37, 3) := by decide +kernel
theorem dX4_isPoleless_13 : decode cX4_isPoleless 13 = .ok (.lconst 0, 1) := by decide +kernel
theorem dX4_isPoleless_14 : decode cX4_isPoleless 14 = .ok (.lcmp, 1) := by decide +kernel
theorem dX4_isPoleless_15 : decode cX4_isPoleless 15 = .ok (.ifCond .eq 5, 3) := by decide +kernel
theorem dX4_isPoleless_18 : decode cX4_isPoleless 18 = .ok (.iconst 0, 1) := by decide +kernel
theorem dX4_isPoleless_19 : decode cX4_isPoleless 19 = .ok (.ireturn, 1) := by decide +kernel
theorem dX4_isPoleless_20 : decode cX4_isPoleless 20 = .ok (.iinc 2 1, 3) := by decide +kernel
theorem dX4_isPoleless_23 : decode cX4_isPoleless 23 = .ok (.goto (-21), 3) := by decide +kernel
theorem dX4_isPoleless_26 : decode cX4_isPoleless 26 = .ok (.iconst 1, 1) := by decide +kernel
theorem dX4_isPoleless_27 : decode cX4_isPoleless 27 = .ok (.ireturn, 1) := by decide +kernel
theorem dX4_product_0 : decode cX4_product 0 = .ok (.lconst 0, 1) := by decide +kernel
theorem dX4_product_1 : decode cX4_product 1 = .ok (.lstore_n 3, 1) := by decide +kernel
theorem dX4_product_2 : decode cX4_product 2 = .ok (.iconst 0, 1) := by decide +kernel
theorem dX4_product_3 : decode cX4_product 3 = .ok (.istore 5, 2) := by decide +kernel
theorem dX4_product_5 : decode cX4_product 5 = .ok (.iload 5, 2) := by decide +kernel
theorem dX4_product_7 : decode cX4_product 7 = .ok (.iconst 4, 1) := by decide +kernel
theorem dX4_product_8 : decode cX4_product 8 = .ok (.if_icmp .ge 31, 3) := by decide +kernel
theorem dX4_product_11 : decode cX4_product 11 = .ok (.iload 5, 2) := by decide +kernel
theorem dX4_product_13 : decode cX4_product 13 = .ok (.aload_n 1, 1) := by decide +kernel
theorem dX4_product_14 : decode cX4_product 14 = .ok (.arraylength, 1) := by decide +kernel
theorem dX4_product_15 : decode cX4_product 15 = .ok (.if_icmp .ge 24, 3) := by decide +kernel
theorem dX4_product_18 : decode cX4_product 18 = .ok (.lload_n 3, 1) := by decide +kernel
theorem dX4_product_19 : decode cX4_product 19 = .ok (.aload_n 1, 1) := by decide +kernel
theorem dX4_product_20 : decode cX4_product 20 = .ok (.iload 5, 2) := by decide +kernel
theorem dX4_product_22 : decode cX4_product 22 = .ok (.laload, 1) := by decide +kernel
theorem dX4_product_23 : decode cX4_product 23 = .ok (.aload_n 0, 1) := by decide +kernel
theorem dX4_product_24 : decode cX4_product 24 = .ok (.iload 5, 2) := by decide +kernel
theorem dX4_product_26 : decode cX4_product 26 = .ok (.aload_n 2, 1) := by decide +kernel
theorem dX4_product_27 : decode cX4_product 27 = .ok (.invokevirtual 37, 3) := by decide +kernel
theorem dX4_product_30 : decode cX4_product 30 = .ok (.lmul, 1) := by decide +kernel
theorem dX4_product_31 : decode cX4_product 31 = .ok (.ladd, 1) := by decide +kernel
theorem dX4_product_32 : decode cX4_product 32 = .ok (.lstore_n 3, 1) := by decide +kernel
theorem dX4_product_33 : decode cX4_product 33 = .ok (.iinc 5 1, 3) := by decide +kernel
theorem dX4_product_36 : decode cX4_product 36 = .ok (.goto (-31), 3) := by decide +kernel
theorem dX4_product_39 : decode cX4_product 39 = .ok (.lload_n 3, 1) := by decide +kernel
theorem dX4_product_40 : decode cX4_product 40 = .ok (.lreturn, 1) := by decide +kernel
theorem dX4_readLesser_0 : decode cX4_readLesser 0 = .ok (.aload_n 0, 1) := by decide +kernel
theorem dX4_readLesser_1 : decode cX4_readLesser 1 = .ok (.aload_n 1, 1) := by decide +kernel
theorem dX4_readLesser_2 : decode cX4_readLesser 2 = .ok (.invokevirtual 41, 3) := by decide +kernel
theorem dX4_readLesser_5 : decode cX4_readLesser 5 = .ok (.iconst 0, 1) := by decide +kernel
theorem dX4_readLesser_6 : decode cX4_readLesser 6 = .ok (.istore_n 2, 1) := by decide +kernel
theorem dX4_readLesser_7 : decode cX4_readLesser 7 = .ok (.iload_n 2, 1) := by decide +kernel
theorem dX4_readLesser_8 : decode cX4_readLesser 8 = .ok (.iconst 4, 1) := by decide +kernel
theorem dX4_readLesser_9 : decode cX4_readLesser 9 = .ok (.if_icmp .ge 30, 3) := by decide +kernel
theorem dX4_readLesser_12 : decode cX4_readLesser 12 = .ok (.aload_n 0, 1) := by decide +kernel
theorem dX4_readLesser_13 : decode cX4_readLesser 13 = .ok (.getfield 9, 3) := by decide +kernel
theorem dX4_readLesser_16 : decode cX4_readLesser 16 = .ok (.iconst 4, 1) := by decide +kernel
theorem dX4_readLesser_17 : decode cX4_readLesser 17 = .ok (.iload_n 2, 1) := by decide +kernel
theorem dX4_readLesser_18 : decode cX4_readLesser 18 = .ok (.imul, 1) := by decide +kernel
theorem dX4_readLesser_19 : decode cX4_readLesser 19 = .ok (.iconst 3, 1) := by decide +kernel
theorem dX4_readLesser_20 : decode cX4_readLesser 20 = .ok (.iadd, 1) := by decide +kernel
theorem dX4_readLesser_21 : decode cX4_readLesser 21 = .ok (.lconst 0, 1) := by decide +kernel
theorem dX4_readLesser_22 : decode cX4_readLesser 22 = .ok (.lastore, 1) := by decide +kernel
theorem dX4_readLesser_23 : decode cX4_readLesser 23 = .ok (.aload_n 0, 1) := by decide +kernel
theorem dX4_readLesser_24 : decode cX4_readLesser 24 = .ok (.getfield 9, 3) := by decide +kernel
theorem dX4_readLesser_27 : decode cX4_readLesser 27 = .ok (.bipush 12, 2) := by decide +kernel
theorem dX4_readLesser_29 : decode cX4_readLesser 29 = .ok (.iload_n 2, 1) := by decide +kernel
theorem dX4_readLesser_30 : decode cX4_readLesser 30 = .ok (.iadd, 1) := by decide +kernel
theorem dX4_readLesser_31 : decode cX4_readLesser 31 = .ok (.lconst 0, 1) := by decide +kernel
theorem dX4_readLesser_32 : decode cX4_readLesser 32 = .ok (.lastore, 1) := by decide +kernel
theorem dX4_readLesser_33 : decode cX4_readLesser 33 = .ok (.iinc 2 1, 3) := by decide +kernel
theorem dX4_readLesser_36 : decode cX4_readLesser 36 = .ok (.goto (-29), 3) := by decide +kernel
theorem dX4_readLesser_39 : decode cX4_readLesser 39 = .ok (.return_, 1) := by decide +kernel
theorem dX4_cutBy_0 : decode cX4_cutBy 0 = .ok (.iconst 0, 1) := by decide +kernel
theorem dX4_cutBy_1 : decode cX4_cutBy 1 = .ok (.istore_n 3, 1) := by decide +kernel
theorem dX4_cutBy_2 : decode cX4_cutBy 2 = .ok (.iload_n 3, 1) := by decide +kernel
theorem dX4_cutBy_3 : decode cX4_cutBy 3 = .ok (.iconst 3, 1) := by decide +kernel
theorem dX4_cutBy_4 : decode cX4_cutBy 4 = .ok (.if_icmp .ge 17, 3) := by decide +kernel
theorem dX4_cutBy_7 : decode cX4_cutBy 7 = .ok (.aload_n 2, 1) := by decide +kernel
theorem dX4_cutBy_8 : decode cX4_cutBy 8 = .ok (.iload_n 3, 1) := by decide +kernel
theorem dX4_cutBy_9 : decode cX4_cutBy 9 = .ok (.laload, 1) := by decide +kernel
theorem dX4_cutBy_10 : decode cX4_cutBy 10 = .ok (.lconst 0, 1) := by decide +kernel
theorem dX4_cutBy_11 : decode cX4_cutBy 11 = .ok (.lcmp, 1) := by decide +kernel
theorem dX4_cutBy_12 : decode cX4_cutBy 12 = .ok (.ifCond .ne 9, 3) := by decide +kernel
theorem dX4_cutBy_15 : decode cX4_cutBy 15 = .ok (.iinc 3 1, 3) := by decide +kernel
theorem dX4_cutBy_18 : decode cX4_cutBy 18 = .ok (.goto (-16), 3) := by decide +kernel
theorem dX4_cutBy_21 : decode cX4_cutBy 21 = .ok (.aload_n 2, 1) := by decide +kernel
theorem dX4_cutBy_22 : decode cX4_cutBy 22 = .ok (.iload_n 3, 1) := by decide +kernel
theorem dX4_cutBy_23 : decode cX4_cutBy 23 = .ok (.laload, 1) := by decide +kernel
theorem dX4_cutBy_24 : decode cX4_cutBy 24 = .ok (.lstore 4, 2) := by decide +kernel
theorem dX4_cutBy_26 : decode cX4_cutBy 26 = .ok (.iconst 0, 1) := by decide +kernel
theorem dX4_cutBy_27 : decode cX4_cutBy 27 = .ok (.istore 6, 2) := by decide +kernel
theorem dX4_cutBy_29 : decode cX4_cutBy 29 = .ok (.iload 6, 2) := by decide +kernel
theorem dX4_cutBy_31 : decode cX4_cutBy 31 = .ok (.iconst 4, 1) := by decide +kernel
theorem dX4_cutBy_32 : decode cX4_cutBy 32 = .ok (.if_icmp .ge 123, 3) := by decide +kernel
theorem dX4_cutBy_35 : decode cX4_cutBy 35 = .ok (.iconst 0, 1) := by decide +kernel
theorem dX4_cutBy_36 : decode cX4_cutBy 36 = .ok (.istore 7, 2) := by decide +kernel
theorem dX4_cutBy_38 : decode cX4_cutBy 38 = .ok (.iload 7, 2) := by decide +kernel
theorem dX4_cutBy_40 : decode cX4_cutBy 40 = .ok (.iconst 4, 1) := by decide +kernel
theorem dX4_cutBy_41 : decode cX4_cutBy 41 = .ok (.if_icmp .ge 108, 3) := by decide +kernel
theorem dX4_cutBy_44 : decode cX4_cutBy 44 = .ok (.lload 4, 2) := by decide +kernel
theorem dX4_cutBy_46 : decode cX4_cutBy 46 = .ok (.lload 4, 2) := by decide +kernel
theorem dX4_cutBy_48 : decode cX4_cutBy 48 = .ok (.lmul, 1) := by decide +kernel
theorem dX4_cutBy_49 : decode cX4_cutBy 49 = .ok (.aload_n 1, 1) := by decide +kernel
theorem dX4_cutBy_50 : decode cX4_cutBy 50 = .ok (.getfield 9, 3) := by decide +kernel
theorem dX4_cutBy_53 : decode cX4_cutBy 53 = .ok (.iconst 4, 1) := by decide +kernel
theorem dX4_cutBy_54 : decode cX4_cutBy 54 = .ok (.iload 6, 2) := by decide +kernel
theorem dX4_cutBy_56 : decode cX4_cutBy 56 = .ok (.imul, 1) := by decide +kernel
theorem dX4_cutBy_57 : decode cX4_cutBy 57 = .ok (.iload 7, 2) := by decide +kernel
theorem dX4_cutBy_59 : decode cX4_cutBy 59 = .ok (.iadd, 1) := by decide +kernel
theorem dX4_cutBy_60 : decode cX4_cutBy 60 = .ok (.laload, 1) := by decide +kernel
theorem dX4_cutBy_61 : decode cX4_cutBy 61 = .ok (.lmul, 1) := by decide +kernel
theorem dX4_cutBy_62 : decode cX4_cutBy 62 = .ok (.lstore 8, 2) := by decide +kernel
theorem dX4_cutBy_64 : decode cX4_cutBy 64 = .ok (.lload 4, 2) := by decide +kernel
theorem dX4_cutBy_66 : decode cX4_cutBy 66 = .ok (.aload_n 2, 1) := by decide +kernel
theorem dX4_cutBy_67 : decode cX4_cutBy 67 = .ok (.iload 7, 2) := by decide +kernel
theorem dX4_cutBy_69 : decode cX4_cutBy 69 = .ok (.laload, 1) := by decide +kernel
theorem dX4_cutBy_70 : decode cX4_cutBy 70 = .ok (.lmul, 1) := by decide +kernel
theorem dX4_cutBy_71 : decode cX4_cutBy 71 = .ok (.aload_n 1, 1) := by decide +kernel
theorem dX4_cutBy_72 : decode cX4_cutBy 72 = .ok (.getfield 9, 3) := by decide +kernel
theorem dX4_cutBy_75 : decode cX4_cutBy 75 = .ok (.iconst 4, 1) := by decide +kernel
theorem dX4_cutBy_76 : decode cX4_cutBy 76 = .ok (.iload 6, 2) := by decide +kernel
theorem dX4_cutBy_78 : decode cX4_cutBy 78 = .ok (.imul, 1) := by decide +kernel
theorem dX4_cutBy_79 : decode cX4_cutBy 79 = .ok (.iload_n 3, 1) := by decide +kernel
theorem dX4_cutBy_80 : decode cX4_cutBy 80 = .ok (.iadd, 1) := by decide +kernel
theorem dX4_cutBy_81 : decode cX4_cutBy 81 = .ok (.laload, 1) := by decide +kernel
theorem dX4_cutBy_82 : decode cX4_cutBy 82 = .ok (.lmul, 1) := by decide +kernel
theorem dX4_cutBy_83 : decode cX4_cutBy 83 = .ok (.lload 4, 2) := by decide +kernel
theorem dX4_cutBy_85 : decode cX4_cutBy 85 = .ok (.aload_n 2, 1) := by decide +kernel
theorem dX4_cutBy_86 : decode cX4_cutBy 86 = .ok (.iload 6, 2) := by decide +kernel
theorem dX4_cutBy_88 : decode cX4_cutBy 88 = .ok (.laload, 1) := by decide +kernel
theorem dX4_cutBy_89 : decode cX4_cutBy 89 = .ok (.lmul, 1) := by decide +kernel
theorem dX4_cutBy_90 : decode cX4_cutBy 90 = .ok (.aload_n 1, 1) := by decide +kernel
theorem dX4_cutBy_91 : decode cX4_cutBy 91 = .ok (.getfield 9, 3) := by decide +kernel
theorem dX4_cutBy_94 : decode cX4_cutBy 94 = .ok (.iconst 4, 1) := by decide +kernel
theorem dX4_cutBy_95 : decode cX4_cutBy 95 = .ok (.iload_n 3, 1) := by decide +kernel
theorem dX4_cutBy_96 : decode cX4_cutBy 96 = .ok (.imul, 1) := by decide +kernel
theorem dX4_cutBy_97 : decode cX4_cutBy 97 = .ok (.iload 7, 2) := by decide +kernel
theorem dX4_cutBy_99 : decode cX4_cutBy 99 = .ok (.iadd, 1) := by decide +kernel
theorem dX4_cutBy_100 : decode cX4_cutBy 100 = .ok (.laload, 1) := by decide +kernel
theorem dX4_cutBy_101 : decode cX4_cutBy 101 = .ok (.lmul, 1) := by decide +kernel
theorem dX4_cutBy_102 : decode cX4_cutBy 102 = .ok (.ladd, 1) := by decide +kernel
theorem dX4_cutBy_103 : decode cX4_cutBy 103 = .ok (.lstore 10, 2) := by decide +kernel
theorem dX4_cutBy_105 : decode cX4_cutBy 105 = .ok (.aload_n 0, 1) := by decide +kernel
theorem dX4_cutBy_106 : decode cX4_cutBy 106 = .ok (.getfield 9, 3) := by decide +kernel
theorem dX4_cutBy_109 : decode cX4_cutBy 109 = .ok (.iconst 4, 1) := by decide +kernel
theorem dX4_cutBy_110 : decode cX4_cutBy 110 = .ok (.iload 6, 2) := by decide +kernel
theorem dX4_cutBy_112 : decode cX4_cutBy 112 = .ok (.imul, 1) := by decide +kernel
theorem dX4_cutBy_113 : decode cX4_cutBy 113 = .ok (.iload 7, 2) := by decide +kernel
theorem dX4_cutBy_115 : decode cX4_cutBy 115 = .ok (.iadd, 1) := by decide +kernel
theorem dX4_cutBy_116 : decode cX4_cutBy 116 = .ok (.lload 8, 2) := by decide +kernel
theorem dX4_cutBy_118 : decode cX4_cutBy 118 = .ok (.lload 10, 2) := by decide +kernel
theorem dX4_cutBy_120 : decode cX4_cutBy 120 = .ok (.lsub, 1) := by decide +kernel
theorem dX4_cutBy_121 : decode cX4_cutBy 121 = .ok (.aload_n 2, 1) := by decide +kernel
theorem dX4_cutBy_122 : decode cX4_cutBy 122 = .ok (.iload 6, 2) := by decide +kernel
theorem dX4_cutBy_124 : decode cX4_cutBy 124 = .ok (.laload, 1) := by decide +kernel
theorem dX4_cutBy_125 : decode cX4_cutBy 125 = .ok (.aload_n 2, 1) := by decide +kernel
theorem dX4_cutBy_126 : decode cX4_cutBy 126 = .ok (.iload 7, 2) := by decide +kernel
theorem dX4_cutBy_128 : decode cX4_cutBy 128 = .ok (.laload, 1) := by decide +kernel
theorem dX4_cutBy_129 : decode cX4_cutBy 129 = .ok (.lmul, 1) := by decide +kernel
theorem dX4_cutBy_130 : decode cX4_cutBy 130 = .ok (.aload_n 1, 1) := by decide +kernel
theorem dX4_cutBy_131 : decode cX4_cutBy 131 = .ok (.getfield 9, 3) := by decide +kernel
theorem dX4_cutBy_134 : decode cX4_cutBy 134 = .ok (.iconst 4, 1) := by decide +kernel
theorem dX4_cutBy_135 : decode cX4_cutBy 135 = .ok (.iload_n 3, 1) := by decide +kernel
theorem dX4_cutBy_136 : decode cX4_cutBy 136 = .ok (.imul, 1) := by decide +kernel
theorem dX4_cutBy_137 : decode cX4_cutBy 137 = .ok (.iload_n 3, 1) := by decide +kernel
theorem dX4_cutBy_138 : decode cX4_cutBy 138 = .ok (.iadd, 1) := by decide +kernel
theorem dX4_cutBy_139 : decode cX4_cutBy 139 = .ok (.laload, 1) := by decide +kernel
theorem dX4_cutBy_140 : decode cX4_cutBy 140 = .ok (.lmul, 1) := by decide +kernel
theorem dX4_cutBy_141 : decode cX4_cutBy 141 = .ok (.ladd, 1) := by decide +kernel
theorem dX4_cutBy_142 : decode cX4_cutBy 142 = .ok (.lastore, 1) := by decide +kernel
theorem dX4_cutBy_143 : decode cX4_cutBy 143 = .ok (.iinc 7 1, 3) := by decide +kernel
theorem dX4_cutBy_146 : decode cX4_cutBy 146 = .ok (.goto (-108), 3) := by decide +kernel
theorem dX4_cutBy_149 : decode cX4_cutBy 149 = .ok (.iinc 6 1, 3) := by decide +kernel
theorem dX4_cutBy_152 : decode cX4_cutBy 152 = .ok (.goto (-123), 3) := by decide +kernel
theorem dX4_cutBy_155 : decode cX4_cutBy 155 = .ok (.return_, 1) := by decide +kernel
theorem dX4_putFarColumnAt_0 : decode cX4_putFarColumnAt 0 = .ok (.iload_n 1, 1) := by decide +kernel
theorem dX4_putFarColumnAt_1 : decode cX4_putFarColumnAt 1 = .ok (.ifCond .lt 8, 3) := by decide +kernel
theorem dX4_putFarColumnAt_4 : decode cX4_putFarColumnAt 4 = .ok (.iload_n 1, 1) := by decide +kernel
theorem dX4_putFarColumnAt_5 : decode cX4_putFarColumnAt 5 = .ok (.iconst 2, 1) := by decide +kernel
theorem dX4_putFarColumnAt_6 : decode cX4_putFarColumnAt 6 = .ok (.if_icmp .le 4, 3) := by decide +kernel
theorem dX4_putFarColumnAt_9 : decode cX4_putFarColumnAt 9 = .ok (.return_, 1) := by decide +kernel
theorem dX4_putFarColumnAt_10 : decode cX4_putFarColumnAt 10 = .ok (.iconst 0, 1) := by decide +kernel
theorem dX4_putFarColumnAt_11 : decode cX4_putFarColumnAt 11 = .ok (.istore_n 2, 1) := by decide +kernel
theorem dX4_putFarColumnAt_12 : decode cX4_putFarColumnAt 12 = .ok (.iload_n 2, 1) := by decide +kernel
theorem dX4_putFarColumnAt_13 : decode cX4_putFarColumnAt 13 = .ok (.iconst 3, 1) := by decide +kernel
theorem dX4_putFarColumnAt_14 : decode cX4_putFarColumnAt 14 = .ok (.if_icmp .ge 30, 3) := by decide +kernel
theorem dX4_putFarColumnAt_17 : decode cX4_putFarColumnAt 17 = .ok (.aload_n 0, 1) := by decide +kernel
theorem dX4_putFarColumnAt_18 : decode cX4_putFarColumnAt 18 = .ok (.getfield 9, 3) := by decide +kernel
theorem dX4_putFarColumnAt_21 : decode cX4_putFarColumnAt 21 = .ok (.iconst 4, 1) := by decide +kernel
theorem dX4_putFarColumnAt_22 : decode cX4_putFarColumnAt 22 = .ok (.iload_n 2, 1) := by decide +kernel
theorem dX4_putFarColumnAt_23 : decode cX4_putFarColumnAt 23 = .ok (.imul, 1) := by decide +kernel
theorem dX4_putFarColumnAt_24 : decode cX4_putFarColumnAt 24 = .ok (.iload_n 1, 1) := by decide +kernel
theorem dX4_putFarColumnAt_25 : decode cX4_putFarColumnAt 25 = .ok (.iadd, 1) := by decide +kernel
theorem dX4_putFarColumnAt_26 : decode cX4_putFarColumnAt 26 = .ok (.aload_n 0, 1) := by decide +kernel
theorem dX4_putFarColumnAt_27 : decode cX4_putFarColumnAt 27 = .ok (.getfield 9, 3) := by decide +kernel
theorem dX4_putFarColumnAt_30 : decode cX4_putFarColumnAt 30 = .ok (.iconst 4, 1) := by decide +kernel
theorem dX4_putFarColumnAt_31 : decode cX4_putFarColumnAt 31 = .ok (.iload_n 2, 1) := by decide +kernel
theorem dX4_putFarColumnAt_32 : decode cX4_putFarColumnAt 32 = .ok (.imul, 1) := by decide +kernel
theorem dX4_putFarColumnAt_33 : decode cX4_putFarColumnAt 33 = .ok (.iconst 3, 1) := by decide +kernel
theorem dX4_putFarColumnAt_34 : decode cX4_putFarColumnAt 34 = .ok (.iadd, 1) := by decide +kernel
theorem dX4_putFarColumnAt_35 : decode cX4_putFarColumnAt 35 = .ok (.laload, 1) := by decide +kernel
theorem dX4_putFarColumnAt_36 : decode cX4_putFarColumnAt 36 = .ok (.lneg, 1) := by decide +kernel
theorem dX4_putFarColumnAt_37 : decode cX4_putFarColumnAt 37 = .ok (.lastore, 1) := by decide +kernel
theorem dX4_putFarColumnAt_38 : decode cX4_putFarColumnAt 38 = .ok (.iinc 2 1, 3) := by decide +kernel
theorem dX4_putFarColumnAt_41 : decode cX4_putFarColumnAt 41 = .ok (.goto (-29), 3) := by decide +kernel
theorem dX4_putFarColumnAt_44 : decode cX4_putFarColumnAt 44 = .ok (.return_, 1) := by decide +kernel
theorem dX4_minor2_0 : decode cX4_minor2 0 = .ok (.aload_n 0, 1) := by decide +kernel
theorem dX4_minor2_1 : decode cX4_minor2 1 = .ok (.getfield 9, 3) := by decide +kernel
theorem dX4_minor2_4 : decode cX4_minor2 4 = .ok (.iconst 5, 1) := by decide +kernel
theorem dX4_minor2_5 : decode cX4_minor2 5 = .ok (.iload_n 1, 1) := by decide +kernel
theorem dX4_minor2_6 : decode cX4_minor2 6 = .ok (.imul, 1) := by decide +kernel
theorem dX4_minor2_7 : decode cX4_minor2 7 = .ok (.laload, 1) := by decide +kernel
theorem dX4_minor2_8 : decode cX4_minor2 8 = .ok (.aload_n 0, 1) := by decide +kernel
theorem dX4_minor2_9 : decode cX4_minor2 9 = .ok (.getfield 9, 3) := by decide +kernel
theorem dX4_minor2_12 : decode cX4_minor2 12 = .ok (.iconst 5, 1) := by decide +kernel
theorem dX4_minor2_13 : decode cX4_minor2 13 = .ok (.iload_n 2, 1) := by decide +kernel
theorem dX4_minor2_14 : decode cX4_minor2 14 = .ok (.imul, 1) := by decide +kernel
theorem dX4_minor2_15 : decode cX4_minor2 15 = .ok (.laload, 1) := by decide +kernel
theorem dX4_minor2_16 : decode cX4_minor2 16 = .ok (.lmul, 1) := by decide +kernel
theorem dX4_minor2_17 : decode cX4_minor2 17 = .ok (.aload_n 0, 1) := by decide +kernel
theorem dX4_minor2_18 : decode cX4_minor2 18 = .ok (.getfield 9, 3) := by decide +kernel
theorem dX4_minor2_21 : decode cX4_minor2 21 = .ok (.iconst 4, 1) := by decide +kernel
theorem dX4_minor2_22 : decode cX4_minor2 22 = .ok (.iload_n 1, 1) := by decide +kernel
theorem dX4_minor2_23 : decode cX4_minor2 23 = .ok (.imul, 1) := by decide +kernel
theorem dX4_minor2_24 : decode cX4_minor2 24 = .ok (.iload_n 2, 1) := by decide +kernel
theorem dX4_minor2_25 : decode cX4_minor2 25 = .ok (.iadd, 1) := by decide +kernel
theorem dX4_minor2_26 : decode cX4_minor2 26 = .ok (.laload, 1) := by decide +kernel
theorem dX4_minor2_27 : decode cX4_minor2 27 = .ok (.aload_n 0, 1) := by decide +kernel
theorem dX4_minor2_28 : decode cX4_minor2 28 = .ok (.getfield 9, 3) := by decide +kernel
theorem dX4_minor2_31 : decode cX4_minor2 31 = .ok (.iconst 4, 1) := by decide +kernel
theorem dX4_minor2_32 : decode cX4_minor2 32 = .ok (.iload_n 2, 1) := by decide +kernel
theorem dX4_minor2_33 : decode cX4_minor2 33 = .ok (.imul, 1) := by decide +kernel
theorem dX4_minor2_34 : decode cX4_minor2 34 = .ok (.iload_n 1, 1) := by decide +kernel
theorem dX4_minor2_35 : decode cX4_minor2 35 = .ok (.iadd, 1) := by decide +kernel
theorem dX4_minor2_36 : decode cX4_minor2 36 = .ok (.laload, 1) := by decide +kernel
theorem dX4_minor2_37 : decode cX4_minor2 37 = .ok (.lmul, 1) := by decide +kernel
theorem dX4_minor2_38 : decode cX4_minor2 38 = .ok (.lsub, 1) := by decide +kernel
theorem dX4_minor2_39 : decode cX4_minor2 39 = .ok (.lreturn, 1) := by decide +kernel
theorem dX4_minor3_0 : decode cX4_minor3 0 = .ok (.iconst 4, 1) := by decide +kernel
theorem dX4_minor3_1 : decode cX4_minor3 1 = .ok (.iload_n 1, 1) := by decide +kernel
theorem dX4_minor3_2 : decode cX4_minor3 2 = .ok (.imul, 1) := by decide +kernel
theorem dX4_minor3_3 : decode cX4_minor3 3 = .ok (.istore 4, 2) := by decide +kernel
theorem dX4_minor3_5 : decode cX4_minor3 5 = .ok (.iconst 4, 1) := by decide +kernel
theorem dX4_minor3_6 : decode cX4_minor3 6 = .ok (.iload_n 2, 1) := by decide +kernel
theorem dX4_minor3_7 : decode cX4_minor3 7 = .ok (.imul, 1) := by decide +kernel
theorem dX4_minor3_8 : decode cX4_minor3 8 = .ok (.istore 5, 2) := by decide +kernel
theorem dX4_minor3_10 : decode cX4_minor3 10 = .ok (.iconst 4, 1) := by decide +kernel
theorem dX4_minor3_11 : decode cX4_minor3 11 = .ok (.iload_n 3, 1) := by decide +kernel
theorem dX4_minor3_12 : decode cX4_minor3 12 = .ok (.imul, 1) := by decide +kernel
theorem dX4_minor3_13 : decode cX4_minor3 13 = .ok (.istore 6, 2) := by decide +kernel
theorem dX4_minor3_15 : decode cX4_minor3 15 = .ok (.aload_n 0, 1) := by decide +kernel
theorem dX4_minor3_16 : decode cX4_minor3 16 = .ok (.getfield 9, 3) := by decide +kernel
theorem dX4_minor3_19 : decode cX4_minor3 19 = .ok (.iload 4, 2) := by decide +kernel
theorem dX4_minor3_21 : decode cX4_minor3 21 = .ok (.iload_n 1, 1) := by decide +kernel
theorem dX4_minor3_22 : decode cX4_minor3 22 = .ok (.iadd, 1) := by decide +kernel
theorem dX4_minor3_23 : decode cX4_minor3 23 = .ok (.laload, 1) := by decide +kernel
theorem dX4_minor3_24 : decode cX4_minor3 24 = .ok (.aload_n 0, 1) := by decide +kernel
theorem dX4_minor3_25 : decode cX4_minor3 25 = .ok (.getfield 9, 3) := by decide +kernel
theorem dX4_minor3_28 : decode cX4_minor3 28 = .ok (.iload 5, 2) := by decide +kernel
theorem dX4_minor3_30 : decode cX4_minor3 30 = .ok (.iload_n 2, 1) := by decide +kernel
theorem dX4_minor3_31 : decode cX4_minor3 31 = .ok (.iadd, 1) := by decide +kernel
theorem dX4_minor3_32 : decode cX4_minor3 32 = .ok (.laload, 1) := by decide +kernel
theorem dX4_minor3_33 : decode cX4_minor3 33 = .ok (.aload_n 0, 1) := by decide +kernel
theorem dX4_minor3_34 : decode cX4_minor3 34 = .ok (.getfield 9, 3) := by decide +kernel
theorem dX4_minor3_37 : decode cX4_minor3 37 = .ok (.iload 6, 2) := by decide +kernel
theorem dX4_minor3_39 : decode cX4_minor3 39 = .ok (.iload_n 3, 1) := by decide +kernel
theorem dX4_minor3_40 : decode cX4_minor3 40 = .ok (.iadd, 1) := by decide +kernel
theorem dX4_minor3_41 : decode cX4_minor3 41 = .ok (.laload, 1) := by decide +kernel
theorem dX4_minor3_42 : decode cX4_minor3 42 = .ok (.lmul, 1) := by decide +kernel
theorem dX4_minor3_43 : decode cX4_minor3 43 = .ok (.aload_n 0, 1) := by decide +kernel
theorem dX4_minor3_44 : decode cX4_minor3 44 = .ok (.getfield 9, 3) := by decide +kernel
theorem dX4_minor3_47 : decode cX4_minor3 47 = .ok (.iload 5, 2) := by decide +kernel
theorem dX4_minor3_49 : decode cX4_minor3 49 = .ok (.iload_n 3, 1) := by decide +kernel
theorem dX4_minor3_50 : decode cX4_minor3 50 = .ok (.iadd, 1) := by decide +kernel
theorem dX4_minor3_51 : decode cX4_minor3 51 = .ok (.laload, 1) := by decide +kernel
theorem dX4_minor3_52 : decode cX4_minor3 52 = .ok (.aload_n 0, 1) := by decide +kernel
theorem dX4_minor3_53 : decode cX4_minor3 53 = .ok (.getfield 9, 3) := by decide +kernel
theorem dX4_minor3_56 : decode cX4_minor3 56 = .ok (.iload 6, 2) := by decide +kernel
theorem dX4_minor3_58 : decode cX4_minor3 58 = .ok (.iload_n 2, 1) := by decide +kernel
theorem dX4_minor3_59 : decode cX4_minor3 59 = .ok (.iadd, 1) := by decide +kernel
theorem dX4_minor3_60 : decode cX4_minor3 60 = .ok (.laload, 1) := by decide +kernel
theorem dX4_minor3_61 : decode cX4_minor3 61 = .ok (.lmul, 1) := by decide +kernel
theorem dX4_minor3_62 : decode cX4_minor3 62 = .ok (.lsub, 1) := by decide +kernel
theorem dX4_minor3_63 : decode cX4_minor3 63 = .ok (.lmul, 1) := by decide +kernel
theorem dX4_minor3_64 : decode cX4_minor3 64 = .ok (.aload_n 0, 1) := by decide +kernel
theorem dX4_minor3_65 : decode cX4_minor3 65 = .ok (.getfield 9, 3) := by decide +kernel
theorem dX4_minor3_68 : decode cX4_minor3 68 = .ok (.iload 4, 2) := by decide +kernel
theorem dX4_minor3_70 : decode cX4_minor3 70 = .ok (.iload_n 2, 1) := by decide +kernel
theorem dX4_minor3_71 : decode cX4_minor3 71 = .ok (.iadd, 1) := by decide +kernel
theorem dX4_minor3_72 : decode cX4_minor3 72 = .ok (.laload, 1) := by decide +kernel
theorem dX4_minor3_73 : decode cX4_minor3 73 = .ok (.aload_n 0, 1) := by decide +kernel
theorem dX4_minor3_74 : decode cX4_minor3 74 = .ok (.getfield 9, 3) := by decide +kernel
theorem dX4_minor3_77 : decode cX4_minor3 77 = .ok (.iload 5, 2) := by decide +kernel
theorem dX4_minor3_79 : decode cX4_minor3 79 = .ok (.iload_n 1, 1) := by decide +kernel
theorem dX4_minor3_80 : decode cX4_minor3 80 = .ok (.iadd, 1) := by decide +kernel
theorem dX4_minor3_81 : decode cX4_minor3 81 = .ok (.laload, 1) := by decide +kernel
theorem dX4_minor3_82 : decode cX4_minor3 82 = .ok (.aload_n 0, 1) := by decide +kernel
theorem dX4_minor3_83 : decode cX4_minor3 83 = .ok (.getfield 9, 3) := by decide +kernel
theorem dX4_minor3_86 : decode cX4_minor3 86 = .ok (.iload 6, 2) := by decide +kernel
theorem dX4_minor3_88 : decode cX4_minor3 88 = .ok (.iload_n 3, 1) := by decide +kernel
theorem dX4_minor3_89 : decode cX4_minor3 89 = .ok (.iadd, 1) := by decide +kernel
theorem dX4_minor3_90 : decode cX4_minor3 90 = .ok (.laload, 1) := by decide +kernel
theorem dX4_minor3_91 : decode cX4_minor3 91 = .ok (.lmul, 1) := by decide +kernel
theorem dX4_minor3_92 : decode cX4_minor3 92 = .ok (.aload_n 0, 1) := by decide +kernel
theorem dX4_minor3_93 : decode cX4_minor3 93 = .ok (.getfield 9, 3) := by decide +kernel
theorem dX4_minor3_96 : decode cX4_minor3 96 = .ok (.iload 5, 2) := by decide +kernel
theorem dX4_minor3_98 : decode cX4_minor3 98 = .ok (.iload_n 3, 1) := by decide +kernel
theorem dX4_minor3_99 : decode cX4_minor3 99 = .ok (.iadd, 1) := by decide +kernel
theorem dX4_minor3_100 : decode cX4_minor3 100 = .ok (.laload, 1) := by decide +kernel
theorem dX4_minor3_101 : decode cX4_minor3 101 = .ok (.aload_n 0, 1) := by decide +kernel
theorem dX4_minor3_102 : decode cX4_minor3 102 = .ok (.getfield 9, 3) := by decide +kernel
theorem dX4_minor3_105 : decode cX4_minor3 105 = .ok (.iload 6, 2) := by decide +kernel
theorem dX4_minor3_107 : decode cX4_minor3 107 = .ok (.iload_n 1, 1) := by decide +kernel
theorem dX4_minor3_108 : decode cX4_minor3 108 = .ok (.iadd, 1) := by decide +kernel
theorem dX4_minor3_109 : decode cX4_minor3 109 = .ok (.laload, 1) := by decide +kernel
theorem dX4_minor3_110 : decode cX4_minor3 110 = .ok (.lmul, 1) := by decide +kernel
theorem dX4_minor3_111 : decode cX4_minor3 111 = .ok (.lsub, 1) := by decide +kernel
theorem dX4_minor3_112 : decode cX4_minor3 112 = .ok (.lmul, 1) := by decide +kernel
theorem dX4_minor3_113 : decode cX4_minor3 113 = .ok (.lsub, 1) := by decide +kernel
theorem dX4_minor3_114 : decode cX4_minor3 114 = .ok (.aload_n 0, 1) := by decide +kernel
theorem dX4_minor3_115 : decode cX4_minor3 115 = .ok (.getfield 9, 3) := by decide +kernel
theorem dX4_minor3_118 : decode cX4_minor3 118 = .ok (.iload 4, 2) := by decide +kernel
theorem dX4_minor3_120 : decode cX4_minor3 120 = .ok (.iload_n 3, 1) := by decide +kernel
theorem dX4_minor3_121 : decode cX4_minor3 121 = .ok (.iadd, 1) := by decide +kernel
theorem dX4_minor3_122 : decode cX4_minor3 122 = .ok (.laload, 1) := by decide +kernel
theorem dX4_minor3_123 : decode cX4_minor3 123 = .ok (.aload_n 0, 1) := by decide +kernel
theorem dX4_minor3_124 : decode cX4_minor3 124 = .ok (.getfield 9, 3) := by decide +kernel
theorem dX4_minor3_127 : decode cX4_minor3 127 = .ok (.iload 5, 2) := by decide +kernel
theorem dX4_minor3_129 : decode cX4_minor3 129 = .ok (.iload_n 1, 1) := by decide +kernel
theorem dX4_minor3_130 : decode cX4_minor3 130 = .ok (.iadd, 1) := by decide +kernel
theorem dX4_minor3_131 : decode cX4_minor3 131 = .ok (.laload, 1) := by decide +kernel
theorem dX4_minor3_132 : decode cX4_minor3 132 = .ok (.aload_n 0, 1) := by decide +kernel
theorem dX4_minor3_133 : decode cX4_minor3 133 = .ok (.getfield 9, 3) := by decide +kernel
theorem dX4_minor3_136 : decode cX4_minor3 136 = .ok (.iload 6, 2) := by decide +kernel
theorem dX4_minor3_138 : decode cX4_minor3 138 = .ok (.iload_n 2, 1) := by decide +kernel
theorem dX4_minor3_139 : decode cX4_minor3 139 = .ok (.iadd, 1) := by decide +kernel
theorem dX4_minor3_140 : decode cX4_minor3 140 = .ok (.laload, 1) := by decide +kernel
theorem dX4_minor3_141 : decode cX4_minor3 141 = .ok (.lmul, 1) := by decide +kernel
theorem dX4_minor3_142 : decode cX4_minor3 142 = .ok (.aload_n 0, 1) := by decide +kernel
theorem dX4_minor3_143 : decode cX4_minor3 143 = .ok (.getfield 9, 3) := by decide +kernel
theorem dX4_minor3_146 : decode cX4_minor3 146 = .ok (.iload 5, 2) := by decide +kernel
theorem dX4_minor3_148 : decode cX4_minor3 148 = .ok (.iload_n 2, 1) := by decide +kernel
theorem dX4_minor3_149 : decode cX4_minor3 149 = .ok (.iadd, 1) := by decide +kernel
theorem dX4_minor3_150 : decode cX4_minor3 150 = .ok (.laload, 1) := by decide +kernel
theorem dX4_minor3_151 : decode cX4_minor3 151 = .ok (.aload_n 0, 1) := by decide +kernel
theorem dX4_minor3_152 : decode cX4_minor3 152 = .ok (.getfield 9, 3) := by decide +kernel
theorem dX4_minor3_155 : decode cX4_minor3 155 = .ok (.iload 6, 2) := by decide +kernel
theorem dX4_minor3_157 : decode cX4_minor3 157 = .ok (.iload_n 1, 1) := by decide +kernel
theorem dX4_minor3_158 : decode cX4_minor3 158 = .ok (.iadd, 1) := by decide +kernel
theorem dX4_minor3_159 : decode cX4_minor3 159 = .ok (.laload, 1) := by decide +kernel
theorem dX4_minor3_160 : decode cX4_minor3 160 = .ok (.lmul, 1) := by decide +kernel
theorem dX4_minor3_161 : decode cX4_minor3 161 = .ok (.lsub, 1) := by decide +kernel
theorem dX4_minor3_162 : decode cX4_minor3 162 = .ok (.lmul, 1) := by decide +kernel
theorem dX4_minor3_163 : decode cX4_minor3 163 = .ok (.ladd, 1) := by decide +kernel
theorem dX4_minor3_164 : decode cX4_minor3 164 = .ok (.lreturn, 1) := by decide +kernel
theorem dX4_worth_0 : decode cX4_worth 0 = .ok (.aload_n 0, 1) := by decide +kernel
theorem dX4_worth_1 : decode cX4_worth 1 = .ok (.iconst 0, 1) := by decide +kernel
theorem dX4_worth_2 : decode cX4_worth 2 = .ok (.iconst 0, 1) := by decide +kernel
theorem dX4_worth_3 : decode cX4_worth 3 = .ok (.iconst 1, 1) := by decide +kernel
theorem dX4_worth_4 : decode cX4_worth 4 = .ok (.invokevirtual 45, 3) := by decide +kernel
theorem dX4_worth_7 : decode cX4_worth 7 = .ok (.aload_n 0, 1) := by decide +kernel
theorem dX4_worth_8 : decode cX4_worth 8 = .ok (.bipush 8, 2) := by decide +kernel
theorem dX4_worth_10 : decode cX4_worth 10 = .ok (.iconst 2, 1) := by decide +kernel
theorem dX4_worth_11 : decode cX4_worth 11 = .ok (.iconst 3, 1) := by decide +kernel
theorem dX4_worth_12 : decode cX4_worth 12 = .ok (.invokevirtual 45, 3) := by decide +kernel
theorem dX4_worth_15 : decode cX4_worth 15 = .ok (.lmul, 1) := by decide +kernel
theorem dX4_worth_16 : decode cX4_worth 16 = .ok (.aload_n 0, 1) := by decide +kernel
theorem dX4_worth_17 : decode cX4_worth 17 = .ok (.iconst 0, 1) := by decide +kernel
theorem dX4_worth_18 : decode cX4_worth 18 = .ok (.iconst 0, 1) := by decide +kernel
theorem dX4_worth_19 : decode cX4_worth 19 = .ok (.iconst 2, 1) := by decide +kernel
theorem dX4_worth_20 : decode cX4_worth 20 = .ok (.invokevirtual 45, 3) := by decide +kernel
theorem dX4_worth_23 : decode cX4_worth 23 = .ok (.aload_n 0, 1) := by decide +kernel
theorem dX4_worth_24 : decode cX4_worth 24 = .ok (.bipush 8, 2) := by decide +kernel
theorem dX4_worth_26 : decode cX4_worth 26 = .ok (.iconst 1, 1) := by decide +kernel
theorem dX4_worth_27 : decode cX4_worth 27 = .ok (.iconst 3, 1) := by decide +kernel
theorem dX4_worth_28 : decode cX4_worth 28 = .ok (.invokevirtual 45, 3) := by decide +kernel
theorem dX4_worth_31 : decode cX4_worth 31 = .ok (.lmul, 1) := by decide +kernel
theorem dX4_worth_32 : decode cX4_worth 32 = .ok (.lsub, 1) := by decide +kernel
theorem dX4_worth_33 : decode cX4_worth 33 = .ok (.aload_n 0, 1) := by decide +kernel
theorem dX4_worth_34 : decode cX4_worth 34 = .ok (.iconst 0, 1) := by decide +kernel
theorem dX4_worth_35 : decode cX4_worth 35 = .ok (.iconst 0, 1) := by decide +kernel
theorem dX4_worth_36 : decode cX4_worth 36 = .ok (.iconst 3, 1) := by decide +kernel
theorem dX4_worth_37 : decode cX4_worth 37 = .ok (.invokevirtual 45, 3) := by decide +kernel
theorem dX4_worth_40 : decode cX4_worth 40 = .ok (.aload_n 0, 1) := by decide +kernel
theorem dX4_worth_41 : decode cX4_worth 41 = .ok (.bipush 8, 2) := by decide +kernel
theorem dX4_worth_43 : decode cX4_worth 43 = .ok (.iconst 1, 1) := by decide +kernel
theorem dX4_worth_44 : decode cX4_worth 44 = .ok (.iconst 2, 1) := by decide +kernel
theorem dX4_worth_45 : decode cX4_worth 45 = .ok (.invokevirtual 45, 3) := by decide +kernel
theorem dX4_worth_48 : decode cX4_worth 48 = .ok (.lmul, 1) := by decide +kernel
theorem dX4_worth_49 : decode cX4_worth 49 = .ok (.ladd, 1) := by decide +kernel
theorem dX4_worth_50 : decode cX4_worth 50 = .ok (.aload_n 0, 1) := by decide +kernel
theorem dX4_worth_51 : decode cX4_worth 51 = .ok (.iconst 0, 1) := by decide +kernel
theorem dX4_worth_52 : decode cX4_worth 52 = .ok (.iconst 1, 1) := by decide +kernel
theorem dX4_worth_53 : decode cX4_worth 53 = .ok (.iconst 2, 1) := by decide +kernel
theorem dX4_worth_54 : decode cX4_worth 54 = .ok (.invokevirtual 45, 3) := by decide +kernel
theorem dX4_worth_57 : decode cX4_worth 57 = .ok (.aload_n 0, 1) := by decide +kernel
theorem dX4_worth_58 : decode cX4_worth 58 = .ok (.bipush 8, 2) := by decide +kernel
theorem dX4_worth_60 : decode cX4_worth 60 = .ok (.iconst 0, 1) := by decide +kernel
theorem dX4_worth_61 : decode cX4_worth 61 = .ok (.iconst 3, 1) := by decide +kernel
theorem dX4_worth_62 : decode cX4_worth 62 = .ok (.invokevirtual 45, 3) := by decide +kernel
theorem dX4_worth_65 : decode cX4_worth 65 = .ok (.lmul, 1) := by decide +kernel
theorem dX4_worth_66 : decode cX4_worth 66 = .ok (.ladd, 1) := by decide +kernel
theorem dX4_worth_67 : decode cX4_worth 67 = .ok (.aload_n 0, 1) := by decide +kernel
theorem dX4_worth_68 : decode cX4_worth 68 = .ok (.iconst 0, 1) := by decide +kernel
theorem dX4_worth_69 : decode cX4_worth 69 = .ok (.iconst 1, 1) := by decide +kernel
theorem dX4_worth_70 : decode cX4_worth 70 = .ok (.iconst 3, 1) := by decide +kernel
theorem dX4_worth_71 : decode cX4_worth 71 = .ok (.invokevirtual 45, 3) := by decide +kernel
theorem dX4_worth_74 : decode cX4_worth 74 = .ok (.aload_n 0, 1) := by decide +kernel
theorem dX4_worth_75 : decode cX4_worth 75 = .ok (.bipush 8, 2) := by decide +kernel
theorem dX4_worth_77 : decode cX4_worth 77 = .ok (.iconst 0, 1) := by decide +kernel
theorem dX4_worth_78 : decode cX4_worth 78 = .ok (.iconst 2, 1) := by decide +kernel
theorem dX4_worth_79 : decode cX4_worth 79 = .ok (.invokevirtual 45, 3) := by decide +kernel
theorem dX4_worth_82 : decode cX4_worth 82 = .ok (.lmul, 1) := by decide +kernel
theorem dX4_worth_83 : decode cX4_worth 83 = .ok (.lsub, 1) := by decide +kernel
theorem dX4_worth_84 : decode cX4_worth 84 = .ok (.aload_n 0, 1) := by decide +kernel
theorem dX4_worth_85 : decode cX4_worth 85 = .ok (.iconst 0, 1) := by decide +kernel
theorem dX4_worth_86 : decode cX4_worth 86 = .ok (.iconst 2, 1) := by decide +kernel
theorem dX4_worth_87 : decode cX4_worth 87 = .ok (.iconst 3, 1) := by decide +kernel
theorem dX4_worth_88 : decode cX4_worth 88 = .ok (.invokevirtual 45, 3) := by decide +kernel
theorem dX4_worth_91 : decode cX4_worth 91 = .ok (.aload_n 0, 1) := by decide +kernel
theorem dX4_worth_92 : decode cX4_worth 92 = .ok (.bipush 8, 2) := by decide +kernel
theorem dX4_worth_94 : decode cX4_worth 94 = .ok (.iconst 0, 1) := by decide +kernel
theorem dX4_worth_95 : decode cX4_worth 95 = .ok (.iconst 1, 1) := by decide +kernel
theorem dX4_worth_96 : decode cX4_worth 96 = .ok (.invokevirtual 45, 3) := by decide +kernel
theorem dX4_worth_99 : decode cX4_worth 99 = .ok (.lmul, 1) := by decide +kernel
theorem dX4_worth_100 : decode cX4_worth 100 = .ok (.ladd, 1) := by decide +kernel
theorem dX4_worth_101 : decode cX4_worth 101 = .ok (.lreturn, 1) := by decide +kernel
theorem dX4_pairOf_0 : decode cX4_pairOf 0 = .ok (.aload_n 0, 1) := by decide +kernel
theorem dX4_pairOf_1 : decode cX4_pairOf 1 = .ok (.getfield 9, 3) := by decide +kernel
theorem dX4_pairOf_4 : decode cX4_pairOf 4 = .ok (.iload_n 1, 1) := by decide +kernel
theorem dX4_pairOf_5 : decode cX4_pairOf 5 = .ok (.iload_n 2, 1) := by decide +kernel
theorem dX4_pairOf_6 : decode cX4_pairOf 6 = .ok (.iadd, 1) := by decide +kernel
theorem dX4_pairOf_7 : decode cX4_pairOf 7 = .ok (.laload, 1) := by decide +kernel
theorem dX4_pairOf_8 : decode cX4_pairOf 8 = .ok (.aload_n 0, 1) := by decide +kernel
theorem dX4_pairOf_9 : decode cX4_pairOf 9 = .ok (.getfield 9, 3) := by decide +kernel
theorem dX4_pairOf_12 : decode cX4_pairOf 12 = .ok (.iload_n 1, 1) := by decide +kernel
theorem dX4_pairOf_13 : decode cX4_pairOf 13 = .ok (.iconst 4, 1) := by decide +kernel
theorem dX4_pairOf_14 : decode cX4_pairOf 14 = .ok (.iadd, 1) := by decide +kernel
theorem dX4_pairOf_15 : decode cX4_pairOf 15 = .ok (.iload_n 3, 1) := by decide +kernel
theorem dX4_pairOf_16 : decode cX4_pairOf 16 = .ok (.iadd, 1) := by decide +kernel
theorem dX4_pairOf_17 : decode cX4_pairOf 17 = .ok (.laload, 1) := by decide +kernel
theorem dX4_pairOf_18 : decode cX4_pairOf 18 = .ok (.lmul, 1) := by decide +kernel
theorem dX4_pairOf_19 : decode cX4_pairOf 19 = .ok (.aload_n 0, 1) := by decide +kernel
theorem dX4_pairOf_20 : decode cX4_pairOf 20 = .ok (.getfield 9, 3) := by decide +kernel
theorem dX4_pairOf_23 : decode cX4_pairOf 23 = .ok (.iload_n 1, 1) := by decide +kernel
theorem dX4_pairOf_24 : decode cX4_pairOf 24 = .ok (.iload_n 3, 1) := by decide +kernel
theorem dX4_pairOf_25 : decode cX4_pairOf 25 = .ok (.iadd, 1) := by decide +kernel
theorem dX4_pairOf_26 : decode cX4_pairOf 26 = .ok (.laload, 1) := by decide +kernel
theorem dX4_pairOf_27 : decode cX4_pairOf 27 = .ok (.aload_n 0, 1) := by decide +kernel
theorem dX4_pairOf_28 : decode cX4_pairOf 28 = .ok (.getfield 9, 3) := by decide +kernel
theorem dX4_pairOf_31 : decode cX4_pairOf 31 = .ok (.iload_n 1, 1) := by decide +kernel
theorem dX4_pairOf_32 : decode cX4_pairOf 32 = .ok (.iconst 4, 1) := by decide +kernel
theorem dX4_pairOf_33 : decode cX4_pairOf 33 = .ok (.iadd, 1) := by decide +kernel
theorem dX4_pairOf_34 : decode cX4_pairOf 34 = .ok (.iload_n 2, 1) := by decide +kernel
theorem dX4_pairOf_35 : decode cX4_pairOf 35 = .ok (.iadd, 1) := by decide +kernel
theorem dX4_pairOf_36 : decode cX4_pairOf 36 = .ok (.laload, 1) := by decide +kernel
theorem dX4_pairOf_37 : decode cX4_pairOf 37 = .ok (.lmul, 1) := by decide +kernel
theorem dX4_pairOf_38 : decode cX4_pairOf 38 = .ok (.lsub, 1) := by decide +kernel
theorem dX4_pairOf_39 : decode cX4_pairOf 39 = .ok (.lreturn, 1) := by decide +kernel
theorem dX4_readSigns_0 : decode cX4_readSigns 0 = .ok (.aload_n 0, 1) := by decide +kernel
theorem dX4_readSigns_1 : decode cX4_readSigns 1 = .ok (.getfield 15, 3) := by decide +kernel
theorem dX4_readSigns_4 : decode cX4_readSigns 4 = .ok (.iconst 0, 1) := by decide +kernel
theorem dX4_readSigns_5 : decode cX4_readSigns 5 = .ok (.lconst 1, 1) := by decide +kernel
theorem dX4_readSigns_6 : decode cX4_readSigns 6 = .ok (.lastore, 1) := by decide +kernel
theorem dX4_readSigns_7 : decode cX4_readSigns 7 = .ok (.aload_n 0, 1) := by decide +kernel
theorem dX4_readSigns_8 : decode cX4_readSigns 8 = .ok (.getfield 15, 3) := by decide +kernel
theorem dX4_readSigns_11 : decode cX4_readSigns 11 = .ok (.iconst 1, 1) := by decide +kernel
theorem dX4_readSigns_12 : decode cX4_readSigns 12 = .ok (.aload_n 0, 1) := by decide +kernel
theorem dX4_readSigns_13 : decode cX4_readSigns 13 = .ok (.getfield 9, 3) := by decide +kernel
theorem dX4_readSigns_16 : decode cX4_readSigns 16 = .ok (.iconst 0, 1) := by decide +kernel
theorem dX4_readSigns_17 : decode cX4_readSigns 17 = .ok (.laload, 1) := by decide +kernel
theorem dX4_readSigns_18 : decode cX4_readSigns 18 = .ok (.aload_n 0, 1) := by decide +kernel
theorem dX4_readSigns_19 : decode cX4_readSigns 19 = .ok (.getfield 9, 3) := by decide +kernel
theorem dX4_readSigns_22 : decode cX4_readSigns 22 = .ok (.iconst 5, 1) := by decide +kernel
theorem dX4_readSigns_23 : decode cX4_readSigns 23 = .ok (.laload, 1) := by decide +kernel
theorem dX4_readSigns_24 : decode cX4_readSigns 24 = .ok (.ladd, 1) := by decide +kernel
theorem dX4_readSigns_25 : decode cX4_readSigns 25 = .ok (.aload_n 0, 1) := by decide +kernel
theorem dX4_readSigns_26 : decode cX4_readSigns 26 = .ok (.getfield 9, 3) := by decide +kernel
theorem dX4_readSigns_29 : decode cX4_readSigns 29 = .ok (.bipush 10, 2) := by decide +kernel
theorem dX4_readSigns_31 : decode cX4_readSigns 31 = .ok (.laload, 1) := by decide +kernel
theorem dX4_readSigns_32 : decode cX4_readSigns 32 = .ok (.ladd, 1) := by decide +kernel
theorem dX4_readSigns_33 : decode cX4_readSigns 33 = .ok (.aload_n 0, 1) := by decide +kernel
theorem dX4_readSigns_34 : decode cX4_readSigns 34 = .ok (.getfield 9, 3) := by decide +kernel
theorem dX4_readSigns_37 : decode cX4_readSigns 37 = .ok (.bipush 15, 2) := by decide +kernel
theorem dX4_readSigns_39 : decode cX4_readSigns 39 = .ok (.laload, 1) := by decide +kernel
theorem dX4_readSigns_40 : decode cX4_readSigns 40 = .ok (.ladd, 1) := by decide +kernel
theorem dX4_readSigns_41 : decode cX4_readSigns 41 = .ok (.lneg, 1) := by decide +kernel
theorem dX4_readSigns_42 : decode cX4_readSigns 42 = .ok (.lastore, 1) := by decide +kernel
theorem dX4_readSigns_43 : decode cX4_readSigns 43 = .ok (.aload_n 0, 1) := by decide +kernel
theorem dX4_readSigns_44 : decode cX4_readSigns 44 = .ok (.getfield 15, 3) := by decide +kernel
theorem dX4_readSigns_47 : decode cX4_readSigns 47 = .ok (.iconst 2, 1) := by decide +kernel
theorem dX4_readSigns_48 : decode cX4_readSigns 48 = .ok (.aload_n 0, 1) := by decide +kernel
theorem dX4_readSigns_49 : decode cX4_readSigns 49 = .ok (.iconst 0, 1) := by decide +kernel
theorem dX4_readSigns_50 : decode cX4_readSigns 50 = .ok (.iconst 1, 1) := by decide +kernel
theorem dX4_readSigns_51 : decode cX4_readSigns 51 = .ok (.invokevirtual 49, 3) := by decide +kernel
theorem dX4_readSigns_54 : decode cX4_readSigns 54 = .ok (.aload_n 0, 1) := by decide +kernel
theorem dX4_readSigns_55 : decode cX4_readSigns 55 = .ok (.iconst 0, 1) := by decide +kernel
theorem dX4_readSigns_56 : decode cX4_readSigns 56 = .ok (.iconst 2, 1) := by decide +kernel
theorem dX4_readSigns_57 : decode cX4_readSigns 57 = .ok (.invokevirtual 49, 3) := by decide +kernel
theorem dX4_readSigns_60 : decode cX4_readSigns 60 = .ok (.ladd, 1) := by decide +kernel
theorem dX4_readSigns_61 : decode cX4_readSigns 61 = .ok (.aload_n 0, 1) := by decide +kernel
theorem dX4_readSigns_62 : decode cX4_readSigns 62 = .ok (.iconst 0, 1) := by decide +kernel
theorem dX4_readSigns_63 : decode cX4_readSigns 63 = .ok (.iconst 3, 1) := by decide +kernel
theorem dX4_readSigns_64 : decode cX4_readSigns 64 = .ok (.invokevirtual 49, 3) := by decide +kernel
theorem dX4_readSigns_67 : decode cX4_readSigns 67 = .ok (.ladd, 1) := by decide +kernel
theorem dX4_readSigns_68 : decode cX4_readSigns 68 = .ok (.aload_n 0, 1) := by decide +kernel
theorem dX4_readSigns_69 : decode cX4_readSigns 69 = .ok (.iconst 1, 1) := by decide +kernel
theorem dX4_readSigns_70 : decode cX4_readSigns 70 = .ok (.iconst 2, 1) := by decide +kernel
theorem dX4_readSigns_71 : decode cX4_readSigns 71 = .ok (.invokevirtual 49, 3) := by decide +kernel
theorem dX4_readSigns_74 : decode cX4_readSigns 74 = .ok (.ladd, 1) := by decide +kernel
theorem dX4_readSigns_75 : decode cX4_readSigns 75 = .ok (.aload_n 0, 1) := by decide +kernel
theorem dX4_readSigns_76 : decode cX4_readSigns 76 = .ok (.iconst 1, 1) := by decide +kernel
theorem dX4_readSigns_77 : decode cX4_readSigns 77 = .ok (.iconst 3, 1) := by decide +kernel
theorem dX4_readSigns_78 : decode cX4_readSigns 78 = .ok (.invokevirtual 49, 3) := by decide +kernel
theorem dX4_readSigns_81 : decode cX4_readSigns 81 = .ok (.ladd, 1) := by decide +kernel
theorem dX4_readSigns_82 : decode cX4_readSigns 82 = .ok (.aload_n 0, 1) := by decide +kernel
theorem dX4_readSigns_83 : decode cX4_readSigns 83 = .ok (.iconst 2, 1) := by decide +kernel
theorem dX4_readSigns_84 : decode cX4_readSigns 84 = .ok (.iconst 3, 1) := by decide +kernel
theorem dX4_readSigns_85 : decode cX4_readSigns 85 = .ok (.invokevirtual 49, 3) := by decide +kernel
theorem dX4_readSigns_88 : decode cX4_readSigns 88 = .ok (.ladd, 1) := by decide +kernel
theorem dX4_readSigns_89 : decode cX4_readSigns 89 = .ok (.lastore, 1) := by decide +kernel
theorem dX4_readSigns_90 : decode cX4_readSigns 90 = .ok (.aload_n 0, 1) := by decide +kernel
theorem dX4_readSigns_91 : decode cX4_readSigns 91 = .ok (.getfield 15, 3) := by decide +kernel
theorem dX4_readSigns_94 : decode cX4_readSigns 94 = .ok (.iconst 3, 1) := by decide +kernel
theorem dX4_readSigns_95 : decode cX4_readSigns 95 = .ok (.aload_n 0, 1) := by decide +kernel
theorem dX4_readSigns_96 : decode cX4_readSigns 96 = .ok (.iconst 0, 1) := by decide +kernel
theorem dX4_readSigns_97 : decode cX4_readSigns 97 = .ok (.iconst 1, 1) := by decide +kernel
theorem dX4_readSigns_98 : decode cX4_readSigns 98 = .ok (.iconst 2, 1) := by decide +kernel
theorem dX4_readSigns_99 : decode cX4_readSigns 99 = .ok (.invokevirtual 53, 3) := by decide +kernel
theorem dX4_readSigns_102 : decode cX4_readSigns 102 = .ok (.aload_n 0, 1) := by decide +kernel
theorem dX4_readSigns_103 : decode cX4_readSigns 103 = .ok (.iconst 0, 1) := by decide +kernel
theorem dX4_readSigns_104 : decode cX4_readSigns 104 = .ok (.iconst 1, 1) := by decide +kernel
theorem dX4_readSigns_105 : decode cX4_readSigns 105 = .ok (.iconst 3, 1) := by decide +kernel
theorem dX4_readSigns_106 : decode cX4_readSigns 106 = .ok (.invokevirtual 53, 3) := by decide +kernel
theorem dX4_readSigns_109 : decode cX4_readSigns 109 = .ok (.ladd, 1) := by decide +kernel
theorem dX4_readSigns_110 : decode cX4_readSigns 110 = .ok (.aload_n 0, 1) := by decide +kernel
theorem dX4_readSigns_111 : decode cX4_readSigns 111 = .ok (.iconst 0, 1) := by decide +kernel
theorem dX4_readSigns_112 : decode cX4_readSigns 112 = .ok (.iconst 2, 1) := by decide +kernel
theorem dX4_readSigns_113 : decode cX4_readSigns 113 = .ok (.iconst 3, 1) := by decide +kernel
theorem dX4_readSigns_114 : decode cX4_readSigns 114 = .ok (.invokevirtual 53, 3) := by decide +kernel
theorem dX4_readSigns_117 : decode cX4_readSigns 117 = .ok (.ladd, 1) := by decide +kernel
theorem dX4_readSigns_118 : decode cX4_readSigns 118 = .ok (.aload_n 0, 1) := by decide +kernel
theorem dX4_readSigns_119 : decode cX4_readSigns 119 = .ok (.iconst 1, 1) := by decide +kernel
theorem dX4_readSigns_120 : decode cX4_readSigns 120 = .ok (.iconst 2, 1) := by decide +kernel
theorem dX4_readSigns_121 : decode cX4_readSigns 121 = .ok (.iconst 3, 1) := by decide +kernel
theorem dX4_readSigns_122 : decode cX4_readSigns 122 = .ok (.invokevirtual 53, 3) := by decide +kernel
theorem dX4_readSigns_125 : decode cX4_readSigns 125 = .ok (.ladd, 1) := by decide +kernel
theorem dX4_readSigns_126 : decode cX4_readSigns 126 = .ok (.lneg, 1) := by decide +kernel
theorem dX4_readSigns_127 : decode cX4_readSigns 127 = .ok (.lastore, 1) := by decide +kernel
theorem dX4_readSigns_128 : decode cX4_readSigns 128 = .ok (.aload_n 0, 1) := by decide +kernel
theorem dX4_readSigns_129 : decode cX4_readSigns 129 = .ok (.getfield 15, 3) := by decide +kernel
theorem dX4_readSigns_132 : decode cX4_readSigns 132 = .ok (.iconst 4, 1) := by decide +kernel
theorem dX4_readSigns_133 : decode cX4_readSigns 133 = .ok (.aload_n 0, 1) := by decide +kernel
theorem dX4_readSigns_134 : decode cX4_readSigns 134 = .ok (.invokevirtual 56, 3) := by decide +kernel
theorem dX4_readSigns_137 : decode cX4_readSigns 137 = .ok (.lastore, 1) := by decide +kernel
theorem dX4_readSigns_138 : decode cX4_readSigns 138 = .ok (.iconst 4, 1) := by decide +kernel
theorem dX4_readSigns_139 : decode cX4_readSigns 139 = .ok (.istore_n 1, 1) := by decide +kernel
theorem dX4_readSigns_140 : decode cX4_readSigns 140 = .ok (.iload_n 1, 1) := by decide +kernel
theorem dX4_readSigns_141 : decode cX4_readSigns 141 = .ok (.ifCond .le 20, 3) := by decide +kernel
theorem dX4_readSigns_144 : decode cX4_readSigns 144 = .ok (.aload_n 0, 1) := by decide +kernel
theorem dX4_readSigns_145 : decode cX4_readSigns 145 = .ok (.getfield 15, 3) := by decide +kernel
theorem dX4_readSigns_148 : decode cX4_readSigns 148 = .ok (.iload_n 1, 1) := by decide +kernel
theorem dX4_readSigns_149 : decode cX4_readSigns 149 = .ok (.laload, 1) := by decide +kernel
theorem dX4_readSigns_150 : decode cX4_readSigns 150 = .ok (.lconst 0, 1) := by decide +kernel
theorem dX4_readSigns_151 : decode cX4_readSigns 151 = .ok (.lcmp, 1) := by decide +kernel
theorem dX4_readSigns_152 : decode cX4_readSigns 152 = .ok (.ifCond .ne 9, 3) := by decide +kernel
theorem dX4_readSigns_155 : decode cX4_readSigns 155 = .ok (.iinc 1 (-1), 3) := by decide +kernel
theorem dX4_readSigns_158 : decode cX4_readSigns 158 = .ok (.goto (-18), 3) := by decide +kernel
theorem dX4_readSigns_161 : decode cX4_readSigns 161 = .ok (.aload_n 0, 1) := by decide +kernel
theorem dX4_readSigns_162 : decode cX4_readSigns 162 = .ok (.aload_n 0, 1) := by decide +kernel
theorem dX4_readSigns_163 : decode cX4_readSigns 163 = .ok (.getfield 15, 3) := by decide +kernel
theorem dX4_readSigns_166 : decode cX4_readSigns 166 = .ok (.invokestatic 60, 3) := by decide +kernel
theorem dX4_readSigns_169 : decode cX4_readSigns 169 = .ok (.putfield 64, 3) := by decide +kernel
theorem dX4_readSigns_172 : decode cX4_readSigns 172 = .ok (.aload_n 0, 1) := by decide +kernel
theorem dX4_readSigns_173 : decode cX4_readSigns 173 = .ok (.iload_n 1, 1) := by decide +kernel
theorem dX4_readSigns_174 : decode cX4_readSigns 174 = .ok (.aload_n 0, 1) := by decide +kernel
theorem dX4_readSigns_175 : decode cX4_readSigns 175 = .ok (.getfield 64, 3) := by decide +kernel
theorem dX4_readSigns_178 : decode cX4_readSigns 178 = .ok (.isub, 1) := by decide +kernel
theorem dX4_readSigns_179 : decode cX4_readSigns 179 = .ok (.putfield 68, 3) := by decide +kernel
theorem dX4_readSigns_182 : decode cX4_readSigns 182 = .ok (.return_, 1) := by decide +kernel
theorem dX4_tellAlong_0 : decode cX4_tellAlong 0 = .ok (.aload_n 0, 1) := by decide +kernel
theorem dX4_tellAlong_1 : decode cX4_tellAlong 1 = .ok (.aload_n 0, 1) := by decide +kernel
theorem dX4_tellAlong_2 : decode cX4_tellAlong 2 = .ok (.getfield 9, 3) := by decide +kernel
theorem dX4_tellAlong_5 : decode cX4_tellAlong 5 = .ok (.iconst 0, 1) := by decide +kernel
theorem dX4_tellAlong_6 : decode cX4_tellAlong 6 = .ok (.laload, 1) := by decide +kernel
theorem dX4_tellAlong_7 : decode cX4_tellAlong 7 = .ok (.lload_n 1, 1) := by decide +kernel
theorem dX4_tellAlong_8 : decode cX4_tellAlong 8 = .ok (.lmul, 1) := by decide +kernel
theorem dX4_tellAlong_9 : decode cX4_tellAlong 9 = .ok (.lload_n 1, 1) := by decide +kernel
theorem dX4_tellAlong_10 : decode cX4_tellAlong 10 = .ok (.lmul, 1) := by decide +kernel
theorem dX4_tellAlong_11 : decode cX4_tellAlong 11 = .ok (.aload_n 0, 1) := by decide +kernel
theorem dX4_tellAlong_12 : decode cX4_tellAlong 12 = .ok (.getfield 9, 3) := by decide +kernel
theorem dX4_tellAlong_15 : decode cX4_tellAlong 15 = .ok (.iconst 5, 1) := by decide +kernel
theorem dX4_tellAlong_16 : decode cX4_tellAlong 16 = .ok (.laload, 1) := by decide +kernel
theorem dX4_tellAlong_17 : decode cX4_tellAlong 17 = .ok (.lload_n 3, 1) := by decide +kernel
theorem dX4_tellAlong_18 : decode cX4_tellAlong 18 = .ok (.lmul, 1) := by decide +kernel
theorem dX4_tellAlong_19 : decode cX4_tellAlong 19 = .ok (.lload_n 3, 1) := by decide +kernel
theorem dX4_tellAlong_20 : decode cX4_tellAlong 20 = .ok (.lmul, 1) := by decide +kernel
theorem dX4_tellAlong_21 : decode cX4_tellAlong 21 = .ok (.ladd, 1) := by decide +kernel
theorem dX4_tellAlong_22 : decode cX4_tellAlong 22 = .ok (.aload_n 0, 1) := by decide +kernel
theorem dX4_tellAlong_23 : decode cX4_tellAlong 23 = .ok (.getfield 9, 3) := by decide +kernel
theorem dX4_tellAlong_26 : decode cX4_tellAlong 26 = .ok (.bipush 15, 2) := by decide +kernel
theorem dX4_tellAlong_28 : decode cX4_tellAlong 28 = .ok (.laload, 1) := by decide +kernel
theorem dX4_tellAlong_29 : decode cX4_tellAlong 29 = .ok (.ladd, 1) := by decide +kernel
theorem dX4_tellAlong_30 : decode cX4_tellAlong 30 = .ok (.ldc2_w 71, 3) := by decide +kernel
theorem dX4_tellAlong_33 : decode cX4_tellAlong 33 = .ok (.aload_n 0, 1) := by decide +kernel
theorem dX4_tellAlong_34 : decode cX4_tellAlong 34 = .ok (.getfield 9, 3) := by decide +kernel
theorem dX4_tellAlong_37 : decode cX4_tellAlong 37 = .ok (.iconst 1, 1) := by decide +kernel
theorem dX4_tellAlong_38 : decode cX4_tellAlong 38 = .ok (.laload, 1) := by decide +kernel
theorem dX4_tellAlong_39 : decode cX4_tellAlong 39 = .ok (.lload_n 1, 1) := by decide +kernel
theorem dX4_tellAlong_40 : decode cX4_tellAlong 40 = .ok (.lmul, 1) := by decide +kernel
theorem dX4_tellAlong_41 : decode cX4_tellAlong 41 = .ok (.lload_n 3, 1) := by decide +kernel
theorem dX4_tellAlong_42 : decode cX4_tellAlong 42 = .ok (.lmul, 1) := by decide +kernel
theorem dX4_tellAlong_43 : decode cX4_tellAlong 43 = .ok (.aload_n 0, 1) := by decide +kernel
theorem dX4_tellAlong_44 : decode cX4_tellAlong 44 = .ok (.getfield 9, 3) := by decide +kernel
theorem dX4_tellAlong_47 : decode cX4_tellAlong 47 = .ok (.iconst 3, 1) := by decide +kernel
theorem dX4_tellAlong_48 : decode cX4_tellAlong 48 = .ok (.laload, 1) := by decide +kernel
theorem dX4_tellAlong_49 : decode cX4_tellAlong 49 = .ok (.lload_n 1, 1) := by decide +kernel
theorem dX4_tellAlong_50 : decode cX4_tellAlong 50 = .ok (.lmul, 1) := by decide +kernel
theorem dX4_tellAlong_51 : decode cX4_tellAlong 51 = .ok (.ladd, 1) := by decide +kernel
theorem dX4_tellAlong_52 : decode cX4_tellAlong 52 = .ok (.aload_n 0, 1) := by decide +kernel
theorem dX4_tellAlong_53 : decode cX4_tellAlong 53 = .ok (.getfield 9, 3) := by decide +kernel
theorem dX4_tellAlong_56 : decode cX4_tellAlong 56 = .ok (.bipush 7, 2) := by decide +kernel
theorem dX4_tellAlong_58 : decode cX4_tellAlong 58 = .ok (.laload, 1) := by decide +kernel
theorem dX4_tellAlong_59 : decode cX4_tellAlong 59 = .ok (.lload_n 3, 1) := by decide +kernel
theorem dX4_tellAlong_60 : decode cX4_tellAlong 60 = .ok (.lmul, 1) := by decide +kernel
theorem dX4_tellAlong_61 : decode cX4_tellAlong 61 = .ok (.ladd, 1) := by decide +kernel
theorem dX4_tellAlong_62 : decode cX4_tellAlong 62 = .ok (.lmul, 1) := by decide +kernel
theorem dX4_tellAlong_63 : decode cX4_tellAlong 63 = .ok (.ladd, 1) := by decide +kernel
theorem dX4_tellAlong_64 : decode cX4_tellAlong 64 = .ok (.putfield 73, 3) := by decide +kernel
theorem dX4_tellAlong_67 : decode cX4_tellAlong 67 = .ok (.aload_n 0, 1) := by decide +kernel
theorem dX4_tellAlong_68 : decode cX4_tellAlong 68 = .ok (.ldc2_w 71, 3) := by decide +kernel
theorem dX4_tellAlong_71 : decode cX4_tellAlong 71 = .ok (.aload_n 0, 1) := by decide +kernel
theorem dX4_tellAlong_72 : decode cX4_tellAlong 72 = .ok (.getfield 9, 3) := by decide +kernel
theorem dX4_tellAlong_75 : decode cX4_tellAlong 75 = .ok (.iconst 2, 1) := by decide +kernel
theorem dX4_tellAlong_76 : decode cX4_tellAlong 76 = .ok (.laload, 1) := by decide +kernel
theorem dX4_tellAlong_77 : decode cX4_tellAlong 77 = .ok (.lload_n 1, 1) := by decide +kernel
theorem dX4_tellAlong_78 : decode cX4_tellAlong 78 = .ok (.lmul, 1) := by decide +kernel
theorem dX4_tellAlong_79 : decode cX4_tellAlong 79 = .ok (.aload_n 0, 1) := by decide +kernel
theorem dX4_tellAlong_80 : decode cX4_tellAlong 80 = .ok (.getfield 9, 3) := by decide +kernel
theorem dX4_tellAlong_83 : decode cX4_tellAlong 83 = .ok (.bipush 6, 2) := by decide +kernel
theorem dX4_tellAlong_85 : decode cX4_tellAlong 85 = .ok (.laload, 1) := by decide +kernel
theorem dX4_tellAlong_86 : decode cX4_tellAlong 86 = .ok (.lload_n 3, 1) := by decide +kernel
theorem dX4_tellAlong_87 : decode cX4_tellAlong 87 = .ok (.lmul, 1) := by decide +kernel
theorem dX4_tellAlong_88 : decode cX4_tellAlong 88 = .ok (.ladd, 1) := by decide +kernel
theorem dX4_tellAlong_89 : decode cX4_tellAlong 89 = .ok (.aload_n 0, 1) := by decide +kernel
theorem dX4_tellAlong_90 : decode cX4_tellAlong 90 = .ok (.getfield 9, 3) := by decide +kernel
theorem dX4_tellAlong_93 : decode cX4_tellAlong 93 = .ok (.bipush 11, 2) := by decide +kernel
theorem dX4_tellAlong_95 : decode cX4_tellAlong 95 = .ok (.laload, 1) := by decide +kernel
theorem dX4_tellAlong_96 : decode cX4_tellAlong 96 = .ok (.ladd, 1) := by decide +kernel
theorem dX4_tellAlong_97 : decode cX4_tellAlong 97 = .ok (.lmul, 1) := by decide +kernel
theorem dX4_tellAlong_98 : decode cX4_tellAlong 98 = .ok (.putfield 77, 3) := by decide +kernel
theorem dX4_tellAlong_101 : decode cX4_tellAlong 101 = .ok (.return_, 1) := by decide +kernel
theorem dX4_isOnAt_0 : decode cX4_isOnAt 0 = .ok (.aload_n 0, 1) := by decide +kernel
theorem dX4_isOnAt_1 : decode cX4_isOnAt 1 = .ok (.getfield 73, 3) := by decide +kernel
theorem dX4_isOnAt_4 : decode cX4_isOnAt 4 = .ok (.lload_n 1, 1) := by decide +kernel
theorem dX4_isOnAt_5 : decode cX4_isOnAt 5 = .ok (.aload_n 0, 1) := by decide +kernel
theorem dX4_isOnAt_6 : decode cX4_isOnAt 6 = .ok (.getfield 77, 3) := by decide +kernel
theorem dX4_isOnAt_9 : decode cX4_isOnAt 9 = .ok (.aload_n 0, 1) := by decide +kernel
theorem dX4_isOnAt_10 : decode cX4_isOnAt 10 = .ok (.getfield 9, 3) := by decide +kernel
theorem dX4_isOnAt_13 : decode cX4_isOnAt 13 = .ok (.bipush 10, 2) := by decide +kernel
theorem dX4_isOnAt_15 : decode cX4_isOnAt 15 = .ok (.laload, 1) := by decide +kernel
theorem dX4_isOnAt_16 : decode cX4_isOnAt 16 = .ok (.lload_n 1, 1) := by decide +kernel
theorem dX4_isOnAt_17 : decode cX4_isOnAt 17 = .ok (.lmul, 1) := by decide +kernel
theorem dX4_isOnAt_18 : decode cX4_isOnAt 18 = .ok (.ladd, 1) := by decide +kernel
theorem dX4_isOnAt_19 : decode cX4_isOnAt 19 = .ok (.lmul, 1) := by decide +kernel
theorem dX4_isOnAt_20 : decode cX4_isOnAt 20 = .ok (.ladd, 1) := by decide +kernel
theorem dX4_isOnAt_21 : decode cX4_isOnAt 21 = .ok (.lconst 0, 1) := by decide +kernel
theorem dX4_isOnAt_22 : decode cX4_isOnAt 22 = .ok (.lcmp, 1) := by decide +kernel
theorem dX4_isOnAt_23 : decode cX4_isOnAt 23 = .ok (.ifCond .ne 7, 3) := by decide +kernel
theorem dX4_isOnAt_26 : decode cX4_isOnAt 26 = .ok (.iconst 1, 1) := by decide +kernel
theorem dX4_isOnAt_27 : decode cX4_isOnAt 27 = .ok (.goto 4, 3) := by decide +kernel
theorem dX4_isOnAt_30 : decode cX4_isOnAt 30 = .ok (.iconst 0, 1) := by decide +kernel
theorem dX4_isOnAt_31 : decode cX4_isOnAt 31 = .ok (.ireturn, 1) := by decide +kernel
theorem dX5_init_0 : decode cX5_init 0 = .ok (.aload_n 0, 1) := by decide +kernel
theorem dX5_init_1 : decode cX5_init 1 = .ok (.invokespecial 3, 3) := by decide +kernel
theorem dX5_init_4 : decode cX5_init 4 = .ok (.aload_n 0, 1) := by decide +kernel
theorem dX5_init_5 : decode cX5_init 5 = .ok (.sipush 257, 3) := by decide +kernel
theorem dX5_init_8 : decode cX5_init 8 = .ok (.newarray .int, 2) := by decide +kernel
theorem dX5_init_10 : decode cX5_init 10 = .ok (.putfield 9, 3) := by decide +kernel
theorem dX5_init_13 : decode cX5_init 13 = .ok (.aload_n 0, 1) := by decide +kernel
theorem dX5_init_14 : decode cX5_init 14 = .ok (.sipush 257, 3) := by decide +kernel
theorem dX5_init_17 : decode cX5_init 17 = .ok (.newarray .int, 2) := by decide +kernel
theorem dX5_init_19 : decode cX5_init 19 = .ok (.putfield 15, 3) := by decide +kernel
theorem dX5_init_22 : decode cX5_init 22 = .ok (.aload_n 0, 1) := by decide +kernel
theorem dX5_init_23 : decode cX5_init 23 = .ok (.new 18, 3) := by decide +kernel
theorem dX5_init_26 : decode cX5_init 26 = .ok (.dup, 1) := by decide +kernel
theorem dX5_init_27 : decode cX5_init 27 = .ok (.invokespecial 20, 3) := by decide +kernel
theorem dX5_init_30 : decode cX5_init 30 = .ok (.putfield 21, 3) := by decide +kernel
theorem dX5_init_33 : decode cX5_init 33 = .ok (.aload_n 0, 1) := by decide +kernel
theorem dX5_init_34 : decode cX5_init 34 = .ok (.getfield 15, 3) := by decide +kernel
theorem dX5_init_37 : decode cX5_init 37 = .ok (.iconst 0, 1) := by decide +kernel
theorem dX5_init_38 : decode cX5_init 38 = .ok (.iconst 1, 1) := by decide +kernel
theorem dX5_init_39 : decode cX5_init 39 = .ok (.iastore, 1) := by decide +kernel
theorem dX5_init_40 : decode cX5_init 40 = .ok (.aload_n 0, 1) := by decide +kernel
theorem dX5_init_41 : decode cX5_init 41 = .ok (.getfield 9, 3) := by decide +kernel
theorem dX5_init_44 : decode cX5_init 44 = .ok (.sipush 256, 3) := by decide +kernel
theorem dX5_init_47 : decode cX5_init 47 = .ok (.iconst 1, 1) := by decide +kernel
theorem dX5_init_48 : decode cX5_init 48 = .ok (.iastore, 1) := by decide +kernel
theorem dX5_init_49 : decode cX5_init 49 = .ok (.sipush 256, 3) := by decide +kernel
theorem dX5_init_52 : decode cX5_init 52 = .ok (.istore_n 1, 1) := by decide +kernel
theorem dX5_init_53 : decode cX5_init 53 = .ok (.iload_n 1, 1) := by decide +kernel
theorem dX5_init_54 : decode cX5_init 54 = .ok (.iconst 1, 1) := by decide +kernel
theorem dX5_init_55 : decode cX5_init 55 = .ok (.if_icmp .le 76, 3) := by decide +kernel
theorem dX5_init_58 : decode cX5_init 58 = .ok (.iload_n 1, 1) := by decide +kernel
theorem dX5_init_59 : decode cX5_init 59 = .ok (.iconst 2, 1) := by decide +kernel
theorem dX5_init_60 : decode cX5_init 60 = .ok (.idiv, 1) := by decide +kernel
theorem dX5_init_61 : decode cX5_init 61 = .ok (.istore_n 2, 1) := by decide +kernel
theorem dX5_init_62 : decode cX5_init 62 = .ok (.iload_n 2, 1) := by decide +kernel
theorem dX5_init_63 : decode cX5_init 63 = .ok (.istore_n 3, 1) := by decide +kernel
theorem dX5_init_64 : decode cX5_init 64 = .ok (.iload_n 3, 1) := by decide +kernel
theorem dX5_init_65 : decode cX5_init 65 = .ok (.sipush 256, 3) := by decide +kernel
theorem dX5_init_68 : decode cX5_init 68 = .ok (.if_icmp .ge 56, 3) := by decide +kernel
theorem dX5_init_71 : decode cX5_init 71 = .ok (.aload_n 0, 1) := by decide +kernel
theorem dX5_init_72 : decode cX5_init 72 = .ok (.getfield 9, 3) := by decide +kernel
theorem dX5_init_75 : decode cX5_init 75 = .ok (.iload_n 3, 1) := by decide +kernel
theorem dX5_init_76 : decode cX5_init 76 = .ok (.aload_n 0, 1) := by decide +kernel
theorem dX5_init_77 : decode cX5_init 77 = .ok (.getfield 9, 3) := by decide +kernel
theorem dX5_init_80 : decode cX5_init 80 = .ok (.iload_n 3, 1) := by decide +kernel
theorem dX5_init_81 : decode cX5_init 81 = .ok (.iload_n 2, 1) := by decide +kernel
theorem dX5_init_82 : decode cX5_init 82 = .ok (.isub, 1) := by decide +kernel
theorem dX5_init_83 : decode cX5_init 83 = .ok (.iaload, 1) := by decide +kernel
theorem dX5_init_84 : decode cX5_init 84 = .ok (.aload_n 0, 1) := by decide +kernel
theorem dX5_init_85 : decode cX5_init 85 = .ok (.getfield 9, 3) := by decide +kernel
theorem dX5_init_88 : decode cX5_init 88 = .ok (.iload_n 3, 1) := by decide +kernel
theorem dX5_init_89 : decode cX5_init 89 = .ok (.iload_n 2, 1) := by decide +kernel
theorem dX5_init_90 : decode cX5_init 90 = .ok (.iadd, 1) := by decide +kernel
theorem dX5_init_91 : decode cX5_init 91 = .ok (.iaload, 1) := by decide +kernel
theorem dX5_init_92 : decode cX5_init 92 = .ok (.iadd, 1) := by decide +kernel
theorem dX5_init_93 : decode cX5_init 93 = .ok (.iastore, 1) := by decide +kernel
theorem dX5_init_94 : decode cX5_init 94 = .ok (.aload_n 0, 1) := by decide +kernel
theorem dX5_init_95 : decode cX5_init 95 = .ok (.getfield 15, 3) := by decide +kernel
theorem dX5_init_98 : decode cX5_init 98 = .ok (.iload_n 3, 1) := by decide +kernel
theorem dX5_init_99 : decode cX5_init 99 = .ok (.aload_n 0, 1) := by decide +kernel
theorem dX5_init_100 : decode cX5_init 100 = .ok (.getfield 15, 3) := by decide +kernel
theorem dX5_init_103 : decode cX5_init 103 = .ok (.iload_n 3, 1) := by decide +kernel
theorem dX5_init_104 : decode cX5_init 104 = .ok (.iload_n 2, 1) := by decide +kernel
theorem dX5_init_105 : decode cX5_init 105 = .ok (.isub, 1) := by decide +kernel
theorem dX5_init_106 : decode cX5_init 106 = .ok (.iaload, 1) := by decide +kernel
theorem dX5_init_107 : decode cX5_init 107 = .ok (.aload_n 0, 1) := by decide +kernel
theorem dX5_init_108 : decode cX5_init 108 = .ok (.getfield 15, 3) := by decide +kernel
theorem dX5_init_111 : decode cX5_init 111 = .ok (.iload_n 3, 1) := by decide +kernel
theorem dX5_init_112 : decode cX5_init 112 = .ok (.iload_n 2, 1) := by decide +kernel
theorem dX5_init_113 : decode cX5_init 113 = .ok (.iadd, 1) := by decide +kernel
theorem dX5_init_114 : decode cX5_init 114 = .ok (.iaload, 1) := by decide +kernel
theorem dX5_init_115 : decode cX5_init 115 = .ok (.iadd, 1) := by decide +kernel
theorem dX5_init_116 : decode cX5_init 116 = .ok (.iastore, 1) := by decide +kernel
theorem dX5_init_117 : decode cX5_init 117 = .ok (.iload_n 3, 1) := by decide +kernel
theorem dX5_init_118 : decode cX5_init 118 = .ok (.iload_n 1, 1) := by decide +kernel
theorem dX5_init_119 : decode cX5_init 119 = .ok (.iadd, 1) := by decide +kernel
theorem dX5_init_120 : decode cX5_init 120 = .ok (.istore_n 3, 1) := by decide +kernel
theorem dX5_init_121 : decode cX5_init 121 = .ok (.goto (-57), 3) := by decide +kernel
theorem dX5_init_124 : decode cX5_init 124 = .ok (.iload_n 1, 1) := by decide +kernel
theorem dX5_init_125 : decode cX5_init 125 = .ok (.iconst 2, 1) := by decide +kernel
theorem dX5_init_126 : decode cX5_init 126 = .ok (.idiv, 1) := by decide +kernel
theorem dX5_init_127 : decode cX5_init 127 = .ok (.istore_n 1, 1) := by decide +kernel
theorem dX5_init_128 : decode cX5_init 128 = .ok (.goto (-75), 3) := by decide +kernel
theorem dX5_init_131 : decode cX5_init 131 = .ok (.return_, 1) := by decide +kernel
theorem dX5_walk_0 : decode cX5_walk 0 = .ok (.aload_n 0, 1) := by decide +kernel
theorem dX5_walk_1 : decode cX5_walk 1 = .ok (.iconst 0, 1) := by decide +kernel
theorem dX5_walk_2 : decode cX5_walk 2 = .ok (.putfield 25, 3) := by decide +kernel
theorem dX5_walk_5 : decode cX5_walk 5 = .ok (.aload_n 0, 1) := by decide +kernel
theorem dX5_walk_6 : decode cX5_walk 6 = .ok (.iconst 0, 1) := by decide +kernel
theorem dX5_walk_7 : decode cX5_walk 7 = .ok (.putfield 29, 3) := by decide +kernel
theorem dX5_walk_10 : decode cX5_walk 10 = .ok (.iconst 0, 1) := by decide +kernel
theorem dX5_walk_11 : decode cX5_walk 11 = .ok (.istore 5, 2) := by decide +kernel
theorem dX5_walk_13 : decode cX5_walk 13 = .ok (.iconst (-1), 1) := by decide +kernel
theorem dX5_walk_14 : decode cX5_walk 14 = .ok (.istore 6, 2) := by decide +kernel
theorem dX5_walk_16 : decode cX5_walk 16 = .ok (.iconst 0, 1) := by decide +kernel
theorem dX5_walk_17 : decode cX5_walk 17 = .ok (.istore 7, 2) := by decide +kernel
theorem dX5_walk_19 : decode cX5_walk 19 = .ok (.iconst 1, 1) := by decide +kernel
theorem dX5_walk_20 : decode cX5_walk 20 = .ok (.iload 4, 2) := by decide +kernel
theorem dX5_walk_22 : decode cX5_walk 22 = .ok (.ishl, 1) := by decide +kernel
theorem dX5_walk_23 : decode cX5_walk 23 = .ok (.iconst 1, 1) := by decide +kernel
theorem dX5_walk_24 : decode cX5_walk 24 = .ok (.isub, 1) := by decide +kernel
theorem dX5_walk_25 : decode cX5_walk 25 = .ok (.istore 8, 2) := by decide +kernel
theorem dX5_walk_27 : decode cX5_walk 27 = .ok (.sipush 256, 3) := by decide +kernel
theorem dX5_walk_30 : decode cX5_walk 30 = .ok (.iload 4, 2) := by decide +kernel
theorem dX5_walk_32 : decode cX5_walk 32 = .ok (.ishr, 1) := by decide +kernel
theorem dX5_walk_33 : decode cX5_walk 33 = .ok (.istore 9, 2) := by decide +kernel
theorem dX5_walk_35 : decode cX5_walk 35 = .ok (.iload 8, 2) := by decide +kernel
theorem dX5_walk_37 : decode cX5_walk 37 = .ok (.ineg, 1) := by decide +kernel
theorem dX5_walk_38 : decode cX5_walk 38 = .ok (.istore 10, 2) := by decide +kernel
theorem dX5_walk_40 : decode cX5_walk 40 = .ok (.iload 10, 2) := by decide +kernel
theorem dX5_walk_42 : decode cX5_walk 42 = .ok (.iload 8, 2) := by decide +kernel
theorem dX5_walk_44 : decode cX5_walk 44 = .ok (.if_icmp .gt 179, 3) := by decide +kernel
theorem dX5_walk_47 : decode cX5_walk 47 = .ok (.iload 10, 2) := by decide +kernel
theorem dX5_walk_49 : decode cX5_walk 49 = .ok (.invokestatic 32, 3) := by decide +kernel
theorem dX5_walk_52 : decode cX5_walk 52 = .ok (.iload 9, 2) := by decide +kernel
theorem dX5_walk_54 : decode cX5_walk 54 = .ok (.imul, 1) := by decide +kernel
theorem dX5_walk_55 : decode cX5_walk 55 = .ok (.sipush 256, 3) := by decide +kernel
theorem dX5_walk_58 : decode cX5_walk 58 = .ok (.invokestatic 38, 3) := by decide +kernel
theorem dX5_walk_61 : decode cX5_walk 61 = .ok (.istore 11, 2) := by decide +kernel
theorem dX5_walk_63 : decode cX5_walk 63 = .ok (.iload 10, 2) := by decide +kernel
theorem dX5_walk_65 : decode cX5_walk 65 = .ok (.ifCond .ge 15, 3) := by decide +kernel
theorem dX5_walk_68 : decode cX5_walk 68 = .ok (.aload_n 0, 1) := by decide +kernel
theorem dX5_walk_69 : decode cX5_walk 69 = .ok (.getfield 9, 3) := by decide +kernel
theorem dX5_walk_72 : decode cX5_walk 72 = .ok (.iload 11, 2) := by decide +kernel
theorem dX5_walk_74 : decode cX5_walk 74 = .ok (.iaload, 1) := by decide +kernel
theorem dX5_walk_75 : decode cX5_walk 75 = .ok (.ineg, 1) := by decide +kernel
theorem dX5_walk_76 : decode cX5_walk 76 = .ok (.i2l, 1) := by decide +kernel
theorem dX5_walk_77 : decode cX5_walk 77 = .ok (.goto 11, 3) := by decide +kernel
theorem dX5_walk_80 : decode cX5_walk 80 = .ok (.aload_n 0, 1) := by decide +kernel
theorem dX5_walk_81 : decode cX5_walk 81 = .ok (.getfield 9, 3) := by decide +kernel
theorem dX5_walk_84 : decode cX5_walk 84 = .ok (.iload 11, 2) := by decide +kernel
theorem dX5_walk_86 : decode cX5_walk 86 = .ok (.iaload, 1) := by decide +kernel
theorem dX5_walk_87 : decode cX5_walk 87 = .ok (.i2l, 1) := by decide +kernel
theorem dX5_walk_88 : decode cX5_walk 88 = .ok (.lstore 12, 2) := by decide +kernel
theorem dX5_walk_90 : decode cX5_walk 90 = .ok (.aload_n 0, 1) := by decide +kernel
theorem dX5_walk_91 : decode cX5_walk 91 = .ok (.getfield 15, 3) := by decide +kernel
theorem dX5_walk_94 : decode cX5_walk 94 = .ok (.iload 11, 2) := by decide +kernel
theorem dX5_walk_96 : decode cX5_walk 96 = .ok (.iaload, 1) := by decide +kernel
theorem dX5_walk_97 : decode cX5_walk 97 = .ok (.i2l, 1) := by decide +kernel
theorem dX5_walk_98 : decode cX5_walk 98 = .ok (.lstore 14, 2) := by decide +kernel
theorem dX5_walk_100 : decode cX5_walk 100 = .ok (.aload_n 1, 1) := by decide +kernel
theorem dX5_walk_101 : decode cX5_walk 101 = .ok (.lload 12, 2) := by decide +kernel
theorem dX5_walk_103 : decode cX5_walk 103 = .ok (.lload 14, 2) := by decide +kernel
theorem dX5_walk_105 : decode cX5_walk 105 = .ok (.invokevirtual 42, 3) := by decide +kernel
theorem dX5_walk_108 : decode cX5_walk 108 = .ok (.invokestatic 48, 3) := by decide +kernel
theorem dX5_walk_111 : decode cX5_walk 111 = .ok (.istore 16, 2) := by decide +kernel
theorem dX5_walk_113 : decode cX5_walk 113 = .ok (.iload 16, 2) := by decide +kernel
theorem dX5_walk_115 : decode cX5_walk 115 = .ok (.ifCond .ne 6, 3) := by decide +kernel
theorem dX5_walk_118 : decode cX5_walk 118 = .ok (.goto 99, 3) := by decide +kernel
theorem dX5_walk_121 : decode cX5_walk 121 = .ok (.iload 7, 2) := by decide +kernel
theorem dX5_walk_123 : decode cX5_walk 123 = .ok (.ifCond .eq 20, 3) := by decide +kernel
theorem dX5_walk_126 : decode cX5_walk 126 = .ok (.iload 16, 2) := by decide +kernel
theorem dX5_walk_128 : decode cX5_walk 128 = .ok (.iload 7, 2) := by decide +kernel
theorem dX5_walk_130 : decode cX5_walk 130 = .ok (.if_icmp .eq 13, 3) := by decide +kernel
theorem dX5_walk_133 : decode cX5_walk 133 = .ok (.aload_n 0, 1) := by decide +kernel
theorem dX5_walk_134 : decode cX5_walk 134 = .ok (.dup, 1) := by decide +kernel
theorem dX5_walk_135 : decode cX5_walk 135 = .ok (.getfield 29, 3) := by decide +kernel
theorem dX5_walk_138 : decode cX5_walk 138 = .ok (.iconst 1, 1) := by decide +kernel
theorem dX5_walk_139 : decode cX5_walk 139 = .ok (.iadd, 1) := by decide +kernel
theorem dX5_walk_140 : decode cX5_walk 140 = .ok (.putfield 29, 3) := by decide +kernel
theorem dX5_walk_143 : decode cX5_walk 143 = .ok (.iload 16, 2) := by decide +kernel
theorem dX5_walk_145 : decode cX5_walk 145 = .ok (.istore 7, 2) := by decide +kernel
theorem dX5_walk_147 : decode cX5_walk 147 = .ok (.aload_n 0, 1) := by decide +kernel
theorem dX5_walk_148 : decode cX5_walk 148 = .ok (.getfield 21, 3) := by decide +kernel
theorem dX5_walk_151 : decode cX5_walk 151 = .ok (.aload_n 2, 1) := by decide +kernel
theorem dX5_walk_152 : decode cX5_walk 152 = .ok (.lload 12, 2) := by decide +kernel
theorem dX5_walk_154 : decode cX5_walk 154 = .ok (.aload_n 3, 1) := by decide +kernel
theorem dX5_walk_155 : decode cX5_walk 155 = .ok (.lload 14, 2) := by decide +kernel
theorem dX5_walk_157 : decode cX5_walk 157 = .ok (.invokevirtual 52, 3) := by decide +kernel
theorem dX5_walk_160 : decode cX5_walk 160 = .ok (.aload_n 0, 1) := by decide +kernel
theorem dX5_walk_161 : decode cX5_walk 161 = .ok (.getfield 21, 3) := by decide +kernel
theorem dX5_walk_164 : decode cX5_walk 164 = .ok (.invokevirtual 56, 3) := by decide +kernel
theorem dX5_walk_167 : decode cX5_walk 167 = .ok (.aload_n 0, 1) := by decide +kernel
theorem dX5_walk_168 : decode cX5_walk 168 = .ok (.getfield 21, 3) := by decide +kernel
theorem dX5_walk_171 : decode cX5_walk 171 = .ok (.getfield 59, 3) := by decide +kernel
theorem dX5_walk_174 : decode cX5_walk 174 = .ok (.iload 6, 2) := by decide +kernel
theorem dX5_walk_176 : decode cX5_walk 176 = .ok (.if_icmp .eq 32, 3) := by decide +kernel
theorem dX5_walk_179 : decode cX5_walk 179 = .ok (.iload 5, 2) := by decide +kernel
theorem dX5_walk_181 : decode cX5_walk 181 = .ok (.bipush 9, 2) := by decide +kernel
theorem dX5_walk_183 : decode cX5_walk 183 = .ok (.if_icmp .ge 25, 3) := by decide +kernel
theorem dX5_walk_186 : decode cX5_walk 186 = .ok (.aload_n 0, 1) := by decide +kernel
theorem dX5_walk_187 : decode cX5_walk 187 = .ok (.bipush 10, 2) := by decide +kernel
theorem dX5_walk_189 : decode cX5_walk 189 = .ok (.aload_n 0, 1) := by decide +kernel
theorem dX5_walk_190 : decode cX5_walk 190 = .ok (.getfield 25, 3) := by decide +kernel
theorem dX5_walk_193 : decode cX5_walk 193 = .ok (.imul, 1) := by decide +kernel
theorem dX5_walk_194 : decode cX5_walk 194 = .ok (.aload_n 0, 1) := by decide +kernel
theorem dX5_walk_195 : decode cX5_walk 195 = .ok (.getfield 21, 3) := by decide +kernel
theorem dX5_walk_198 : decode cX5_walk 198 = .ok (.getfield 59, 3) := by decide +kernel
theorem dX5_walk_201 : decode cX5_walk 201 = .ok (.iadd, 1) := by decide +kernel
theorem dX5_walk_202 : decode cX5_walk 202 = .ok (.putfield 25, 3) := by decide +kernel
theorem dX5_walk_205 : decode cX5_walk 205 = .ok (.iinc 5 1, 3) := by decide +kernel
theorem dX5_walk_208 : decode cX5_walk 208 = .ok (.aload_n 0, 1) := by decide +kernel
theorem dX5_walk_209 : decode cX5_walk 209 = .ok (.getfield 21, 3) := by decide +kernel
theorem dX5_walk_212 : decode cX5_walk 212 = .ok (.getfield 59, 3) := by decide +kernel
theorem dX5_walk_215 : decode cX5_walk 215 = .ok (.istore 6, 2) := by decide +kernel
theorem dX5_walk_217 : decode cX5_walk 217 = .ok (.iinc 10 1, 3) := by decide +kernel
theorem dX5_walk_220 : decode cX5_walk 220 = .ok (.goto (-180), 3) := by decide +kernel
theorem dX5_walk_223 : decode cX5_walk 223 = .ok (.return_, 1) := by decide +kernel
theorem dX6_init_0 : decode cX6_init 0 = .ok (.aload_n 0, 1) := by decide +kernel
theorem dX6_init_1 : decode cX6_init 1 = .ok (.invokespecial 3, 3) := by decide +kernel
theorem dX6_init_4 : decode cX6_init 4 = .ok (.aload_n 0, 1) := by decide +kernel
theorem dX6_init_5 : decode cX6_init 5 = .ok (.bipush 6, 2) := by decide +kernel
theorem dX6_init_7 : decode cX6_init 7 = .ok (.newarray .long, 2) := by decide +kernel
theorem dX6_init_9 : decode cX6_init 9 = .ok (.putfield 9, 3) := by decide +kernel
theorem dX6_init_12 : decode cX6_init 12 = .ok (.aload_n 0, 1) := by decide +kernel
theorem dX6_init_13 : decode cX6_init 13 = .ok (.bipush 6, 2) := by decide +kernel
theorem dX6_init_15 : decode cX6_init 15 = .ok (.newarray .long, 2) := by decide +kernel
theorem dX6_init_17 : decode cX6_init 17 = .ok (.putfield 13, 3) := by decide +kernel
theorem dX6_init_20 : decode cX6_init 20 = .ok (.return_, 1) := by decide +kernel
theorem dX6_begin_0 : decode cX6_begin 0 = .ok (.iconst 0, 1) := by decide +kernel
theorem dX6_begin_1 : decode cX6_begin 1 = .ok (.istore_n 3, 1) := by decide +kernel
theorem dX6_begin_2 : decode cX6_begin 2 = .ok (.iload_n 3, 1) := by decide +kernel
theorem dX6_begin_3 : decode cX6_begin 3 = .ok (.bipush 6, 2) := by decide +kernel
theorem dX6_begin_5 : decode cX6_begin 5 = .ok (.if_icmp .ge 16, 3) := by decide +kernel
theorem dX6_begin_8 : decode cX6_begin 8 = .ok (.aload_n 0, 1) := by decide +kernel
theorem dX6_begin_9 : decode cX6_begin 9 = .ok (.getfield 9, 3) := by decide +kernel
theorem dX6_begin_12 : decode cX6_begin 12 = .ok (.iload_n 3, 1) := by decide +kernel
theorem dX6_begin_13 : decode cX6_begin 13 = .ok (.lconst 0, 1) := by decide +kernel
theorem dX6_begin_14 : decode cX6_begin 14 = .ok (.lastore, 1) := by decide +kernel
theorem dX6_begin_15 : decode cX6_begin 15 = .ok (.iinc 3 1, 3) := by decide +kernel
theorem dX6_begin_18 : decode cX6_begin 18 = .ok (.goto (-16), 3) := by decide +kernel
theorem dX6_begin_21 : decode cX6_begin 21 = .ok (.aload_n 0, 1) := by decide +kernel
theorem dX6_begin_22 : decode cX6_begin 22 = .ok (.getfield 9, 3) := by decide +kernel
theorem dX6_begin_25 : decode cX6_begin 25 = .ok (.iconst 0, 1) := by decide +kernel
theorem dX6_begin_26 : decode cX6_begin 26 = .ok (.lload_n 1, 1) := by decide +kernel
theorem dX6_begin_27 : decode cX6_begin 27 = .ok (.ldc2_w 16, 3) := by decide +kernel
theorem dX6_begin_30 : decode cX6_begin 30 = .ok (.land, 1) := by decide +kernel
theorem dX6_begin_31 : decode cX6_begin 31 = .ok (.lastore, 1) := by decide +kernel
theorem dX6_begin_32 : decode cX6_begin 32 = .ok (.aload_n 0, 1) := by decide +kernel
theorem dX6_begin_33 : decode cX6_begin 33 = .ok (.getfield 9, 3) := by decide +kernel
theorem dX6_begin_36 : decode cX6_begin 36 = .ok (.iconst 1, 1) := by decide +kernel
theorem dX6_begin_37 : decode cX6_begin 37 = .ok (.lload_n 1, 1) := by decide +kernel
theorem dX6_begin_38 : decode cX6_begin 38 = .ok (.bipush 30, 2) := by decide +kernel
theorem dX6_begin_40 : decode cX6_begin 40 = .ok (.lushr, 1) := by decide +kernel
theorem dX6_begin_41 : decode cX6_begin 41 = .ok (.ldc2_w 16, 3) := by decide +kernel
theorem dX6_begin_44 : decode cX6_begin 44 = .ok (.land, 1) := by decide +kernel
theorem dX6_begin_45 : decode cX6_begin 45 = .ok (.lastore, 1) := by decide +kernel
theorem dX6_begin_46 : decode cX6_begin 46 = .ok (.aload_n 0, 1) := by decide +kernel
theorem dX6_begin_47 : decode cX6_begin 47 = .ok (.getfield 9, 3) := by decide +kernel
theorem dX6_begin_50 : decode cX6_begin 50 = .ok (.iconst 2, 1) := by decide +kernel
theorem dX6_begin_51 : decode cX6_begin 51 = .ok (.lload_n 1, 1) := by decide +kernel
theorem dX6_begin_52 : decode cX6_begin 52 = .ok (.bipush 60, 2) := by decide +kernel
theorem dX6_begin_54 : decode cX6_begin 54 = .ok (.lushr, 1) := by decide +kernel
theorem dX6_begin_55 : decode cX6_begin 55 = .ok (.lastore, 1) := by decide +kernel
theorem dX6_begin_56 : decode cX6_begin 56 = .ok (.return_, 1) := by decide +kernel
theorem dX6_multiply_0 : decode cX6_multiply 0 = .ok (.iconst 0, 1) := by decide +kernel
theorem dX6_multiply_1 : decode cX6_multiply 1 = .ok (.istore_n 3, 1) := by decide +kernel
theorem dX6_multiply_2 : decode cX6_multiply 2 = .ok (.iload_n 3, 1) := by decide +kernel
theorem dX6_multiply_3 : decode cX6_multiply 3 = .ok (.bipush 6, 2) := by decide +kernel
theorem dX6_multiply_5 : decode cX6_multiply 5 = .ok (.if_icmp .ge 16, 3) := by decide +kernel
theorem dX6_multiply_8 : decode cX6_multiply 8 = .ok (.aload_n 0, 1) := by decide +kernel
theorem dX6_multiply_9 : decode cX6_multiply 9 = .ok (.getfield 13, 3) := by decide +kernel
theorem dX6_multiply_12 : decode cX6_multiply 12 = .ok (.iload_n 3, 1) := by decide +kernel
theorem dX6_multiply_13 : decode cX6_multiply 13 = .ok (.lconst 0, 1) := by decide +kernel
theorem dX6_multiply_14 : decode cX6_multiply 14 = .ok (.lastore, 1) := by decide +kernel
theorem dX6_multiply_15 : decode cX6_multiply 15 = .ok (.iinc 3 1, 3) := by decide +kernel
theorem dX6_multiply_18 : decode cX6_multiply 18 = .ok (.goto (-16), 3) := by decide +kernel
theorem dX6_multiply_21 : decode cX6_multiply 21 = .ok (.iconst 0, 1) := by decide +kernel
theorem dX6_multiply_22 : decode cX6_multiply 22 = .ok (.istore_n 3, 1) := by decide +kernel
theorem dX6_multiply_23 : decode cX6_multiply 23 = .ok (.iload_n 3, 1) := by decide +kernel
theorem dX6_multiply_24 : decode cX6_multiply 24 = .ok (.iconst 3, 1) := by decide +kernel
theorem dX6_multiply_25 : decode cX6_multiply 25 = .ok (.if_icmp .ge 89, 3) := by decide +kernel
theorem dX6_multiply_28 : decode cX6_multiply 28 = .ok (.lload_n 1, 1) := by decide +kernel
theorem dX6_multiply_29 : decode cX6_multiply 29 = .ok (.iload_n 3, 1) := by decide +kernel
theorem dX6_multiply_30 : decode cX6_multiply 30 = .ok (.bipush 30, 2) := by decide +kernel
theorem dX6_multiply_32 : decode cX6_multiply 32 = .ok (.imul, 1) := by decide +kernel
theorem dX6_multiply_33 : decode cX6_multiply 33 = .ok (.lushr, 1) := by decide +kernel
theorem dX6_multiply_34 : decode cX6_multiply 34 = .ok (.ldc2_w 16, 3) := by decide +kernel
theorem dX6_multiply_37 : decode cX6_multiply 37 = .ok (.land, 1) := by decide +kernel
theorem dX6_multiply_38 : decode cX6_multiply 38 = .ok (.lstore 4, 2) := by decide +kernel
theorem dX6_multiply_40 : decode cX6_multiply 40 = .ok (.lconst 0, 1) := by decide +kernel
theorem dX6_multiply_41 : decode cX6_multiply 41 = .ok (.lstore 6, 2) := by decide +kernel
theorem dX6_multiply_43 : decode cX6_multiply 43 = .ok (.iconst 0, 1) := by decide +kernel
theorem dX6_multiply_44 : decode cX6_multiply 44 = .ok (.istore 8, 2) := by decide +kernel
theorem dX6_multiply_46 : decode cX6_multiply 46 = .ok (.iload 8, 2) := by decide +kernel
theorem dX6_multiply_48 : decode cX6_multiply 48 = .ok (.iload_n 3, 1) := by decide +kernel
theorem dX6_multiply_49 : decode cX6_multiply 49 = .ok (.iadd, 1) := by decide +kernel
theorem dX6_multiply_50 : decode cX6_multiply 50 = .ok (.bipush 6, 2) := by decide +kernel
theorem dX6_multiply_52 : decode cX6_multiply 52 = .ok (.if_icmp .ge 56, 3) := by decide +kernel
theorem dX6_multiply_55 : decode cX6_multiply 55 = .ok (.aload_n 0, 1) := by decide +kernel
theorem dX6_multiply_56 : decode cX6_multiply 56 = .ok (.getfield 13, 3) := by decide +kernel
theorem dX6_multiply_59 : decode cX6_multiply 59 = .ok (.iload 8, 2) := by decide +kernel
theorem dX6_multiply_61 : decode cX6_multiply 61 = .ok (.iload_n 3, 1) := by decide +kernel
theorem dX6_multiply_62 : decode cX6_multiply 62 = .ok (.iadd, 1) := by decide +kernel
theorem dX6_multiply_63 : decode cX6_multiply 63 = .ok (.laload, 1) := by decide +kernel
theorem dX6_multiply_64 : decode cX6_multiply 64 = .ok (.aload_n 0, 1) := by decide +kernel
theorem dX6_multiply_65 : decode cX6_multiply 65 = .ok (.getfield 9, 3) := by decide +kernel
theorem dX6_multiply_68 : decode cX6_multiply 68 = .ok (.iload 8, 2) := by decide +kernel
theorem dX6_multiply_70 : decode cX6_multiply 70 = .ok (.laload, 1) := by decide +kernel
theorem dX6_multiply_71 : decode cX6_multiply 71 = .ok (.lload 4, 2) := by decide +kernel
theorem dX6_multiply_73 : decode cX6_multiply 73 = .ok (.lmul, 1) := by decide +kernel
theorem dX6_multiply_74 : decode cX6_multiply 74 = .ok (.ladd, 1) := by decide +kernel
theorem dX6_multiply_75 : decode cX6_multiply 75 = .ok (.lload 6, 2) := by decide +kernel
theorem dX6_multiply_77 : decode cX6_multiply 77 = .ok (.ladd, 1) := by decide +kernel
theorem dX6_multiply_78 : decode cX6_multiply 78 = .ok (.lstore 9, 2) := by decide +kernel
theorem dX6_multiply_80 : decode cX6_multiply 80 = .ok (.aload_n 0, 1) := by decide +kernel
theorem dX6_multiply_81 : decode cX6_multiply 81 = .ok (.getfield 13, 3) := by decide +kernel
theorem dX6_multiply_84 : decode cX6_multiply 84 = .ok (.iload 8, 2) := by decide +kernel
theorem dX6_multiply_86 : decode cX6_multiply 86 = .ok (.iload_n 3, 1) := by decide +kernel
theorem dX6_multiply_87 : decode cX6_multiply 87 = .ok (.iadd, 1) := by decide +kernel
theorem dX6_multiply_88 : decode cX6_multiply 88 = .ok (.lload 9, 2) := by decide +kernel
theorem dX6_multiply_90 : decode cX6_multiply 90 = .ok (.ldc2_w 16, 3) := by decide +kernel
theorem dX6_multiply_93 : decode cX6_multiply 93 = .ok (.land, 1) := by decide +kernel
theorem dX6_multiply_94 : decode cX6_multiply 94 = .ok (.lastore, 1) := by decide +kernel
theorem dX6_multiply_95 : decode cX6_multiply 95 = .ok (.lload 9, 2) := by decide +kernel
theorem dX6_multiply_97 : decode cX6_multiply 97 = .ok (.bipush 30, 2) := by decide +kernel
theorem dX6_multiply_99 : decode cX6_multiply 99 = .ok (.lushr, 1) := by decide +kernel
theorem dX6_multiply_100 : decode cX6_multiply 100 = .ok (.lstore 6, 2) := by decide +kernel
theorem dX6_multiply_102 : decode cX6_multiply 102 = .ok (.iinc 8 1, 3) := by decide +kernel
theorem dX6_multiply_105 : decode cX6_multiply 105 = .ok (.goto (-59), 3) := by decide +kernel
theorem dX6_multiply_108 : decode cX6_multiply 108 = .ok (.iinc 3 1, 3) := by decide +kernel
theorem dX6_multiply_111 : decode cX6_multiply 111 = .ok (.goto (-88), 3) := by decide +kernel
theorem dX6_multiply_114 : decode cX6_multiply 114 = .ok (.iconst 0, 1) := by decide +kernel
theorem dX6_multiply_115 : decode cX6_multiply 115 = .ok (.istore_n 3, 1) := by decide +kernel
theorem dX6_multiply_116 : decode cX6_multiply 116 = .ok (.iload_n 3, 1) := by decide +kernel
theorem dX6_multiply_117 : decode cX6_multiply 117 = .ok (.bipush 6, 2) := by decide +kernel
theorem dX6_multiply_119 : decode cX6_multiply 119 = .ok (.if_icmp .ge 21, 3) := by decide +kernel
theorem dX6_multiply_122 : decode cX6_multiply 122 = .ok (.aload_n 0, 1) := by decide +kernel
theorem dX6_multiply_123 : decode cX6_multiply 123 = .ok (.getfield 9, 3) := by decide +kernel
theorem dX6_multiply_126 : decode cX6_multiply 126 = .ok (.iload_n 3, 1) := by decide +kernel
theorem dX6_multiply_127 : decode cX6_multiply 127 = .ok (.aload_n 0, 1) := by decide +kernel
theorem dX6_multiply_128 : decode cX6_multiply 128 = .ok (.getfield 13, 3) := by decide +kernel
theorem dX6_multiply_131 : decode cX6_multiply 131 = .ok (.iload_n 3, 1) := by decide +kernel
theorem dX6_multiply_132 : decode cX6_multiply 132 = .ok (.laload, 1) := by decide +kernel
theorem dX6_multiply_133 : decode cX6_multiply 133 = .ok (.lastore, 1) := by decide +kernel
theorem dX6_multiply_134 : decode cX6_multiply 134 = .ok (.iinc 3 1, 3) := by decide +kernel
theorem dX6_multiply_137 : decode cX6_multiply 137 = .ok (.goto (-21), 3) := by decide +kernel
theorem dX6_multiply_140 : decode cX6_multiply 140 = .ok (.return_, 1) := by decide +kernel
theorem dX6_against_0 : decode cX6_against 0 = .ok (.iconst 5, 1) := by decide +kernel
theorem dX6_against_1 : decode cX6_against 1 = .ok (.istore_n 2, 1) := by decide +kernel
theorem dX6_against_2 : decode cX6_against 2 = .ok (.iload_n 2, 1) := by decide +kernel
theorem dX6_against_3 : decode cX6_against 3 = .ok (.ifCond .lt 47, 3) := by decide +kernel
theorem dX6_against_6 : decode cX6_against 6 = .ok (.aload_n 0, 1) := by decide +kernel
theorem dX6_against_7 : decode cX6_against 7 = .ok (.getfield 9, 3) := by decide +kernel
theorem dX6_against_10 : decode cX6_against 10 = .ok (.iload_n 2, 1) := by decide +kernel
theorem dX6_against_11 : decode cX6_against 11 = .ok (.laload, 1) := by decide +kernel
theorem dX6_against_12 : decode cX6_against 12 = .ok (.aload_n 1, 1) := by decide +kernel
theorem dX6_against_13 : decode cX6_against 13 = .ok (.getfield 9, 3) := by decide +kernel
theorem dX6_against_16 : decode cX6_against 16 = .ok (.iload_n 2, 1) := by decide +kernel
theorem dX6_against_17 : decode cX6_against 17 = .ok (.laload, 1) := by decide +kernel
theorem dX6_against_18 : decode cX6_against 18 = .ok (.lcmp, 1) := by decide +kernel
theorem dX6_against_19 : decode cX6_against 19 = .ok (.ifCond .eq 25, 3) := by decide +kernel
theorem dX6_against_22 : decode cX6_against 22 = .ok (.aload_n 0, 1) := by decide +kernel
theorem dX6_against_23 : decode cX6_against 23 = .ok (.getfield 9, 3) := by decide +kernel
theorem dX6_against_26 : decode cX6_against 26 = .ok (.iload_n 2, 1) := by decide +kernel
theorem dX6_against_27 : decode cX6_against 27 = .ok (.laload, 1) := by decide +kernel
theorem dX6_against_28 : decode cX6_against 28 = .ok (.aload_n 1, 1) := by decide +kernel
theorem dX6_against_29 : decode cX6_against 29 = .ok (.getfield 9, 3) := by decide +kernel
theorem dX6_against_32 : decode cX6_against 32 = .ok (.iload_n 2, 1) := by decide +kernel
theorem dX6_against_33 : decode cX6_against 33 = .ok (.laload, 1) := by decide +kernel
theorem dX6_against_34 : decode cX6_against 34 = .ok (.lcmp, 1) := by decide +kernel
theorem dX6_against_35 : decode cX6_against 35 = .ok (.ifCond .le 7, 3) := by decide +kernel
theorem dX6_against_38 : decode cX6_against 38 = .ok (.iconst 1, 1) := by decide +kernel
theorem dX6_against_39 : decode cX6_against 39 = .ok (.goto 4, 3) := by decide +kernel
theorem dX6_against_42 : decode cX6_against 42 = .ok (.iconst (-1), 1) := by decide +kernel
theorem dX6_against_43 : decode cX6_against 43 = .ok (.ireturn, 1) := by decide +kernel
theorem dX6_against_44 : decode cX6_against 44 = .ok (.iinc 2 (-1), 3) := by decide +kernel
theorem dX6_against_47 : decode cX6_against 47 = .ok (.goto (-45), 3) := by decide +kernel
theorem dX6_against_50 : decode cX6_against 50 = .ok (.iconst 0, 1) := by decide +kernel
theorem dX6_against_51 : decode cX6_against 51 = .ok (.ireturn, 1) := by decide +kernel
theorem dX7_init_0 : decode cX7_init 0 = .ok (.aload_n 0, 1) := by decide +kernel
theorem dX7_init_1 : decode cX7_init 1 = .ok (.invokespecial 1, 3) := by decide +kernel
theorem dX7_init_4 : decode cX7_init 4 = .ok (.aload_n 0, 1) := by decide +kernel
theorem dX7_init_5 : decode cX7_init 5 = .ok (.bipush 8, 2) := by decide +kernel
theorem dX7_init_7 : decode cX7_init 7 = .ok (.anewarray 9, 3) := by decide +kernel
theorem dX7_init_10 : decode cX7_init 10 = .ok (.putfield 11, 3) := by decide +kernel
theorem dX7_init_13 : decode cX7_init 13 = .ok (.aload_n 0, 1) := by decide +kernel
theorem dX7_init_14 : decode cX7_init 14 = .ok (.bipush 12, 2) := by decide +kernel
theorem dX7_init_16 : decode cX7_init 16 = .ok (.anewarray 15, 3) := by decide +kernel
theorem dX7_init_19 : decode cX7_init 19 = .ok (.putfield 17, 3) := by decide +kernel
theorem dX7_init_22 : decode cX7_init 22 = .ok (.aload_n 0, 1) := by decide +kernel
theorem dX7_init_23 : decode cX7_init 23 = .ok (.new 21, 3) := by decide +kernel
theorem dX7_init_26 : decode cX7_init 26 = .ok (.dup, 1) := by decide +kernel
theorem dX7_init_27 : decode cX7_init 27 = .ok (.invokespecial 23, 3) := by decide +kernel
theorem dX7_init_30 : decode cX7_init 30 = .ok (.putfield 24, 3) := by decide +kernel
theorem dX7_init_33 : decode cX7_init 33 = .ok (.aload_n 0, 1) := by decide +kernel
theorem dX7_init_34 : decode cX7_init 34 = .ok (.new 21, 3) := by decide +kernel
theorem dX7_init_37 : decode cX7_init 37 = .ok (.dup, 1) := by decide +kernel
theorem dX7_init_38 : decode cX7_init 38 = .ok (.invokespecial 23, 3) := by decide +kernel
theorem dX7_init_41 : decode cX7_init 41 = .ok (.putfield 28, 3) := by decide +kernel
theorem dX7_init_44 : decode cX7_init 44 = .ok (.aload_n 0, 1) := by decide +kernel
theorem dX7_init_45 : decode cX7_init 45 = .ok (.new 31, 3) := by decide +kernel
theorem dX7_init_48 : decode cX7_init 48 = .ok (.dup, 1) := by decide +kernel
theorem dX7_init_49 : decode cX7_init 49 = .ok (.invokespecial 33, 3) := by decide +kernel
theorem dX7_init_52 : decode cX7_init 52 = .ok (.putfield 34, 3) := by decide +kernel
theorem dX7_init_55 : decode cX7_init 55 = .ok (.aload_n 0, 1) := by decide +kernel
theorem dX7_init_56 : decode cX7_init 56 = .ok (.new 38, 3) := by decide +kernel
theorem dX7_init_59 : decode cX7_init 59 = .ok (.dup, 1) := by decide +kernel
theorem dX7_init_60 : decode cX7_init 60 = .ok (.invokespecial 40, 3) := by decide +kernel
theorem dX7_init_63 : decode cX7_init 63 = .ok (.putfield 41, 3) := by decide +kernel
theorem dX7_init_66 : decode cX7_init 66 = .ok (.aload_n 0, 1) := by decide +kernel
theorem dX7_init_67 : decode cX7_init 67 = .ok (.new 45, 3) := by decide +kernel
theorem dX7_init_70 : decode cX7_init 70 = .ok (.dup, 1) := by decide +kernel
theorem dX7_init_71 : decode cX7_init 71 = .ok (.invokespecial 47, 3) := by decide +kernel
theorem dX7_init_74 : decode cX7_init 74 = .ok (.putfield 48, 3) := by decide +kernel
theorem dX7_init_77 : decode cX7_init 77 = .ok (.aload_n 0, 1) := by decide +kernel
theorem dX7_init_78 : decode cX7_init 78 = .ok (.iconst 4, 1) := by decide +kernel
theorem dX7_init_79 : decode cX7_init 79 = .ok (.newarray .long, 2) := by decide +kernel
theorem dX7_init_81 : decode cX7_init 81 = .ok (.putfield 52, 3) := by decide +kernel
theorem dX7_init_84 : decode cX7_init 84 = .ok (.aload_n 0, 1) := by decide +kernel
theorem dX7_init_85 : decode cX7_init 85 = .ok (.iconst 4, 1) := by decide +kernel
theorem dX7_init_86 : decode cX7_init 86 = .ok (.newarray .long, 2) := by decide +kernel
theorem dX7_init_88 : decode cX7_init 88 = .ok (.putfield 56, 3) := by decide +kernel
theorem dX7_init_91 : decode cX7_init 91 = .ok (.aload_n 0, 1) := by decide +kernel
theorem dX7_init_92 : decode cX7_init 92 = .ok (.iconst 3, 1) := by decide +kernel
theorem dX7_init_93 : decode cX7_init 93 = .ok (.newarray .int, 2) := by decide +kernel
theorem dX7_init_95 : decode cX7_init 95 = .ok (.putfield 59, 3) := by decide +kernel
theorem dX7_init_98 : decode cX7_init 98 = .ok (.aload_n 0, 1) := by decide +kernel
theorem dX7_init_99 : decode cX7_init 99 = .ok (.iconst 5, 1) := by decide +kernel
theorem dX7_init_100 : decode cX7_init 100 = .ok (.newarray .int, 2) := by decide +kernel
theorem dX7_init_102 : decode cX7_init 102 = .ok (.putfield 63, 3) := by decide +kernel
theorem dX7_init_105 : decode cX7_init 105 = .ok (.aload_n 0, 1) := by decide +kernel
theorem dX7_init_106 : decode cX7_init 106 = .ok (.lconst 1, 1) := by decide +kernel
theorem dX7_init_107 : decode cX7_init 107 = .ok (.putfield 66, 3) := by decide +kernel
theorem dX7_init_110 : decode cX7_init 110 = .ok (.aload_n 0, 1) := by decide +kernel
theorem dX7_init_111 : decode cX7_init 111 = .ok (.bipush 6, 2) := by decide +kernel
theorem dX7_init_113 : decode cX7_init 113 = .ok (.newarray .int, 2) := by decide +kernel
theorem dX7_init_115 : decode cX7_init 115 = .ok (.putfield 70, 3) := by decide +kernel
theorem dX7_init_118 : decode cX7_init 118 = .ok (.iconst 0, 1) := by decide +kernel
theorem dX7_init_119 : decode cX7_init 119 = .ok (.istore_n 1, 1) := by decide +kernel
theorem dX7_init_120 : decode cX7_init 120 = .ok (.iload_n 1, 1) := by decide +kernel
theorem dX7_init_121 : decode cX7_init 121 = .ok (.bipush 8, 2) := by decide +kernel
theorem dX7_init_123 : decode cX7_init 123 = .ok (.if_icmp .ge 22, 3) := by decide +kernel
theorem dX7_init_126 : decode cX7_init 126 = .ok (.aload_n 0, 1) := by decide +kernel
theorem dX7_init_127 : decode cX7_init 127 = .ok (.getfield 11, 3) := by decide +kernel
theorem dX7_init_130 : decode cX7_init 130 = .ok (.iload_n 1, 1) := by decide +kernel
theorem dX7_init_131 : decode cX7_init 131 = .ok (.new 9, 3) := by decide +kernel
theorem dX7_init_134 : decode cX7_init 134 = .ok (.dup, 1) := by decide +kernel
theorem dX7_init_135 : decode cX7_init 135 = .ok (.invokespecial 73, 3) := by decide +kernel
theorem dX7_init_138 : decode cX7_init 138 = .ok (.aastore, 1) := by decide +kernel
theorem dX7_init_139 : decode cX7_init 139 = .ok (.iinc 1 1, 3) := by decide +kernel
theorem dX7_init_142 : decode cX7_init 142 = .ok (.goto (-22), 3) := by decide +kernel
theorem dX7_init_145 : decode cX7_init 145 = .ok (.iconst 0, 1) := by decide +kernel
theorem dX7_init_146 : decode cX7_init 146 = .ok (.istore_n 1, 1) := by decide +kernel
theorem dX7_init_147 : decode cX7_init 147 = .ok (.iload_n 1, 1) := by decide +kernel
theorem dX7_init_148 : decode cX7_init 148 = .ok (.bipush 12, 2) := by decide +kernel
theorem dX7_init_150 : decode cX7_init 150 = .ok (.if_icmp .ge 22, 3) := by decide +kernel
theorem dX7_init_153 : decode cX7_init 153 = .ok (.aload_n 0, 1) := by decide +kernel
theorem dX7_init_154 : decode cX7_init 154 = .ok (.getfield 17, 3) := by decide +kernel
theorem dX7_init_157 : decode cX7_init 157 = .ok (.iload_n 1, 1) := by decide +kernel
theorem dX7_init_158 : decode cX7_init 158 = .ok (.new 15, 3) := by decide +kernel
theorem dX7_init_161 : decode cX7_init 161 = .ok (.dup, 1) := by decide +kernel
theorem dX7_init_162 : decode cX7_init 162 = .ok (.invokespecial 74, 3) := by decide +kernel
theorem dX7_init_165 : decode cX7_init 165 = .ok (.aastore, 1) := by decide +kernel
theorem dX7_init_166 : decode cX7_init 166 = .ok (.iinc 1 1, 3) := by decide +kernel
theorem dX7_init_169 : decode cX7_init 169 = .ok (.goto (-22), 3) := by decide +kernel
theorem dX7_init_172 : decode cX7_init 172 = .ok (.return_, 1) := by decide +kernel
theorem dX7_sheet_0 : decode cX7_sheet 0 = .ok (.iload_n 1, 1) := by decide +kernel
theorem dX7_sheet_1 : decode cX7_sheet 1 = .ok (.invokestatic 75, 3) := by decide +kernel
theorem dX7_sheet_4 : decode cX7_sheet 4 = .ok (.ifCond .ne 9, 3) := by decide +kernel
theorem dX7_sheet_7 : decode cX7_sheet 7 = .ok (.iload_n 2, 1) := by decide +kernel
theorem dX7_sheet_8 : decode cX7_sheet 8 = .ok (.bipush 16, 2) := by decide +kernel
theorem dX7_sheet_10 : decode cX7_sheet 10 = .ok (.if_icmp .le 5, 3) := by decide +kernel
theorem dX7_sheet_13 : decode cX7_sheet 13 = .ok (.iconst (-1), 1) := by decide +kernel
theorem dX7_sheet_14 : decode cX7_sheet 14 = .ok (.ireturn, 1) := by decide +kernel
theorem dX7_sheet_15 : decode cX7_sheet 15 = .ok (.iload_n 2, 1) := by decide +kernel
theorem dX7_sheet_16 : decode cX7_sheet 16 = .ok (.ifCond .ge 9, 3) := by decide +kernel
theorem dX7_sheet_19 : decode cX7_sheet 19 = .ok (.aload_n 0, 1) := by decide +kernel
theorem dX7_sheet_20 : decode cX7_sheet 20 = .ok (.iconst 5, 1) := by decide +kernel
theorem dX7_sheet_21 : decode cX7_sheet 21 = .ok (.invokevirtual 79, 3) := by decide +kernel
theorem dX7_sheet_24 : decode cX7_sheet 24 = .ok (.ireturn, 1) := by decide +kernel
theorem dX7_sheet_25 : decode cX7_sheet 25 = .ok (.aload_n 0, 1) := by decide +kernel
theorem dX7_sheet_26 : decode cX7_sheet 26 = .ok (.getfield 11, 3) := by decide +kernel
theorem dX7_sheet_29 : decode cX7_sheet 29 = .ok (.iload_n 1, 1) := by decide +kernel
theorem dX7_sheet_30 : decode cX7_sheet 30 = .ok (.aaload, 1) := by decide +kernel
theorem dX7_sheet_31 : decode cX7_sheet 31 = .ok (.iload_n 2, 1) := by decide +kernel
theorem dX7_sheet_32 : decode cX7_sheet 32 = .ok (.invokevirtual 83, 3) := by decide +kernel
theorem dX7_sheet_35 : decode cX7_sheet 35 = .ok (.iload_n 2, 1) := by decide +kernel
theorem dX7_sheet_36 : decode cX7_sheet 36 = .ok (.ireturn, 1) := by decide +kernel
theorem dX7_lay_0 : decode cX7_lay 0 = .ok (.iload_n 1, 1) := by decide +kernel
theorem dX7_lay_1 : decode cX7_lay 1 = .ok (.invokestatic 75, 3) := by decide +kernel
theorem dX7_lay_4 : decode cX7_lay 4 = .ok (.ifCond .eq 5, 3) := by decide +kernel
