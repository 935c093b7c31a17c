theorem d_M_clear_8 : decode b_M_clear 8 = .ok (.sipush 1024, 3) := by decide +kernel
theorem d_M_clear_11 : decode b_M_clear 11 = .ok (.if_icmp .ge 16, 3) := by decide +kernel
theorem d_M_clear_14 : decode b_M_clear 14 = .ok (.aload_n 0, 1) := by decide +kernel
theorem d_M_clear_15 : decode b_M_clear 15 = .ok (.getfield 7, 3) := by decide +kernel
theorem d_M_clear_18 : decode b_M_clear 18 = .ok (.iload_n 1, 1) := by decide +kernel
theorem d_M_clear_19 : decode b_M_clear 19 = .ok (.iconst 0, 1) := by decide +kernel
theorem d_M_clear_20 : decode b_M_clear 20 = .ok (.iastore, 1) := by decide +kernel
theorem d_M_clear_21 : decode b_M_clear 21 = .ok (.iinc 1 1, 3) := by decide +kernel
theorem d_M_clear_24 : decode b_M_clear 24 = .ok (.goto (-17), 3) := by decide +kernel
theorem d_M_clear_27 : decode b_M_clear 27 = .ok (.aload_n 0, 1) := by decide +kernel
theorem d_M_clear_28 : decode b_M_clear 28 = .ok (.iconst 0, 1) := by decide +kernel
theorem d_M_clear_29 : decode b_M_clear 29 = .ok (.putfield 123, 3) := by decide +kernel
theorem d_M_clear_32 : decode b_M_clear 32 = .ok (.aload_n 0, 1) := by decide +kernel
theorem d_M_clear_33 : decode b_M_clear 33 = .ok (.iconst 0, 1) := by decide +kernel
theorem d_M_clear_34 : decode b_M_clear 34 = .ok (.putfield 126, 3) := by decide +kernel
theorem d_M_clear_37 : decode b_M_clear 37 = .ok (.aload_n 0, 1) := by decide +kernel
theorem d_M_clear_38 : decode b_M_clear 38 = .ok (.iconst 0, 1) := by decide +kernel
theorem d_M_clear_39 : decode b_M_clear 39 = .ok (.putfield 163, 3) := by decide +kernel
theorem d_M_clear_42 : decode b_M_clear 42 = .ok (.aload_n 0, 1) := by decide +kernel
theorem d_M_clear_43 : decode b_M_clear 43 = .ok (.iconst 0, 1) := by decide +kernel
theorem d_M_clear_44 : decode b_M_clear 44 = .ok (.putfield 108, 3) := by decide +kernel
theorem d_M_clear_47 : decode b_M_clear 47 = .ok (.aload_n 0, 1) := by decide +kernel
theorem d_M_clear_48 : decode b_M_clear 48 = .ok (.iconst 0, 1) := by decide +kernel
theorem d_M_clear_49 : decode b_M_clear 49 = .ok (.putfield 185, 3) := by decide +kernel
theorem d_M_clear_52 : decode b_M_clear 52 = .ok (.return_, 1) := by decide +kernel
theorem d_M_read_0 : decode b_M_read 0 = .ok (.aload_n 0, 1) := by decide +kernel
theorem d_M_read_1 : decode b_M_read 1 = .ok (.iconst 0, 1) := by decide +kernel
theorem d_M_read_2 : decode b_M_read 2 = .ok (.putfield 50, 3) := by decide +kernel
theorem d_M_read_5 : decode b_M_read 5 = .ok (.aload_n 0, 1) := by decide +kernel
theorem d_M_read_6 : decode b_M_read 6 = .ok (.iconst 0, 1) := by decide +kernel
theorem d_M_read_7 : decode b_M_read 7 = .ok (.putfield 169, 3) := by decide +kernel
theorem d_M_read_10 : decode b_M_read 10 = .ok (.aload_n 0, 1) := by decide +kernel
theorem d_M_read_11 : decode b_M_read 11 = .ok (.iconst (-1), 1) := by decide +kernel
theorem d_M_read_12 : decode b_M_read 12 = .ok (.putfield 166, 3) := by decide +kernel
theorem d_M_read_15 : decode b_M_read 15 = .ok (.aload_n 0, 1) := by decide +kernel
theorem d_M_read_16 : decode b_M_read 16 = .ok (.iconst 0, 1) := by decide +kernel
theorem d_M_read_17 : decode b_M_read 17 = .ok (.putfield 120, 3) := by decide +kernel
theorem d_M_read_20 : decode b_M_read 20 = .ok (.aload_n 0, 1) := by decide +kernel
theorem d_M_read_21 : decode b_M_read 21 = .ok (.iconst 0, 1) := by decide +kernel
theorem d_M_read_22 : decode b_M_read 22 = .ok (.putfield 114, 3) := by decide +kernel
theorem d_M_read_25 : decode b_M_read 25 = .ok (.aload_n 0, 1) := by decide +kernel
theorem d_M_read_26 : decode b_M_read 26 = .ok (.iconst 3, 1) := by decide +kernel
theorem d_M_read_27 : decode b_M_read 27 = .ok (.invokevirtual 175, 3) := by decide +kernel
theorem d_M_read_30 : decode b_M_read 30 = .ok (.istore_n 1, 1) := by decide +kernel
theorem d_M_read_31 : decode b_M_read 31 = .ok (.iconst 1, 1) := by decide +kernel
theorem d_M_read_32 : decode b_M_read 32 = .ok (.iload_n 1, 1) := by decide +kernel
theorem d_M_read_33 : decode b_M_read 33 = .ok (.ishl, 1) := by decide +kernel
theorem d_M_read_34 : decode b_M_read 34 = .ok (.istore_n 2, 1) := by decide +kernel
theorem d_M_read_35 : decode b_M_read 35 = .ok (.aload_n 0, 1) := by decide +kernel
theorem d_M_read_36 : decode b_M_read 36 = .ok (.aload_n 0, 1) := by decide +kernel
theorem d_M_read_37 : decode b_M_read 37 = .ok (.getfield 166, 3) := by decide +kernel
theorem d_M_read_40 : decode b_M_read 40 = .ok (.ifCond .ge 29, 3) := by decide +kernel
theorem d_M_read_43 : decode b_M_read 43 = .ok (.iload_n 1, 1) := by decide +kernel
theorem d_M_read_44 : decode b_M_read 44 = .ok (.i2l, 1) := by decide +kernel
theorem d_M_read_45 : decode b_M_read 45 = .ok (.lconst 1, 1) := by decide +kernel
theorem d_M_read_46 : decode b_M_read 46 = .ok (.ldc2_w 178, 3) := by decide +kernel
theorem d_M_read_49 : decode b_M_read 49 = .ok (.invokestatic 55, 3) := by decide +kernel
theorem d_M_read_52 : decode b_M_read 52 = .ok (.ifCond .eq 13, 3) := by decide +kernel
theorem d_M_read_55 : decode b_M_read 55 = .ok (.iconst 2, 1) := by decide +kernel
theorem d_M_read_56 : decode b_M_read 56 = .ok (.iload_n 2, 1) := by decide +kernel
theorem d_M_read_57 : decode b_M_read 57 = .ok (.imul, 1) := by decide +kernel
theorem d_M_read_58 : decode b_M_read 58 = .ok (.aload_n 0, 1) := by decide +kernel
theorem d_M_read_59 : decode b_M_read 59 = .ok (.getfield 46, 3) := by decide +kernel
theorem d_M_read_62 : decode b_M_read 62 = .ok (.if_icmp .le 7, 3) := by decide +kernel
theorem d_M_read_65 : decode b_M_read 65 = .ok (.iconst 0, 1) := by decide +kernel
theorem d_M_read_66 : decode b_M_read 66 = .ok (.goto 7, 3) := by decide +kernel
theorem d_M_read_69 : decode b_M_read 69 = .ok (.aload_n 0, 1) := by decide +kernel
theorem d_M_read_70 : decode b_M_read 70 = .ok (.getfield 166, 3) := by decide +kernel
theorem d_M_read_73 : decode b_M_read 73 = .ok (.putfield 166, 3) := by decide +kernel
theorem d_M_read_76 : decode b_M_read 76 = .ok (.aload_n 0, 1) := by decide +kernel
theorem d_M_read_77 : decode b_M_read 77 = .ok (.iconst 0, 1) := by decide +kernel
theorem d_M_read_78 : decode b_M_read 78 = .ok (.iconst 0, 1) := by decide +kernel
theorem d_M_read_79 : decode b_M_read 79 = .ok (.aload_n 0, 1) := by decide +kernel
theorem d_M_read_80 : decode b_M_read 80 = .ok (.getfield 46, 3) := by decide +kernel
theorem d_M_read_83 : decode b_M_read 83 = .ok (.invokevirtual 141, 3) := by decide +kernel
theorem d_M_read_86 : decode b_M_read 86 = .ok (.aload_n 0, 1) := by decide +kernel
theorem d_M_read_87 : decode b_M_read 87 = .ok (.getfield 114, 3) := by decide +kernel
theorem d_M_read_90 : decode b_M_read 90 = .ok (.ifCond .le 101, 3) := by decide +kernel
theorem d_M_read_93 : decode b_M_read 93 = .ok (.aload_n 0, 1) := by decide +kernel
theorem d_M_read_94 : decode b_M_read 94 = .ok (.getfield 166, 3) := by decide +kernel
theorem d_M_read_97 : decode b_M_read 97 = .ok (.ifCond .ge 94, 3) := by decide +kernel
theorem d_M_read_100 : decode b_M_read 100 = .ok (.aload_n 0, 1) := by decide +kernel
theorem d_M_read_101 : decode b_M_read 101 = .ok (.dup, 1) := by decide +kernel
theorem d_M_read_102 : decode b_M_read 102 = .ok (.getfield 114, 3) := by decide +kernel
theorem d_M_read_105 : decode b_M_read 105 = .ok (.iconst 1, 1) := by decide +kernel
theorem d_M_read_106 : decode b_M_read 106 = .ok (.isub, 1) := by decide +kernel
theorem d_M_read_107 : decode b_M_read 107 = .ok (.putfield 114, 3) := by decide +kernel
theorem d_M_read_110 : decode b_M_read 110 = .ok (.aload_n 0, 1) := by decide +kernel
theorem d_M_read_111 : decode b_M_read 111 = .ok (.getfield 25, 3) := by decide +kernel
theorem d_M_read_114 : decode b_M_read 114 = .ok (.iconst 3, 1) := by decide +kernel
theorem d_M_read_115 : decode b_M_read 115 = .ok (.aload_n 0, 1) := by decide +kernel
theorem d_M_read_116 : decode b_M_read 116 = .ok (.getfield 114, 3) := by decide +kernel
theorem d_M_read_119 : decode b_M_read 119 = .ok (.imul, 1) := by decide +kernel
theorem d_M_read_120 : decode b_M_read 120 = .ok (.iaload, 1) := by decide +kernel
theorem d_M_read_121 : decode b_M_read 121 = .ok (.istore_n 3, 1) := by decide +kernel
theorem d_M_read_122 : decode b_M_read 122 = .ok (.aload_n 0, 1) := by decide +kernel
theorem d_M_read_123 : decode b_M_read 123 = .ok (.getfield 25, 3) := by decide +kernel
theorem d_M_read_126 : decode b_M_read 126 = .ok (.iconst 3, 1) := by decide +kernel
theorem d_M_read_127 : decode b_M_read 127 = .ok (.aload_n 0, 1) := by decide +kernel
theorem d_M_read_128 : decode b_M_read 128 = .ok (.getfield 114, 3) := by decide +kernel
theorem d_M_read_131 : decode b_M_read 131 = .ok (.imul, 1) := by decide +kernel
theorem d_M_read_132 : decode b_M_read 132 = .ok (.iconst 1, 1) := by decide +kernel
theorem d_M_read_133 : decode b_M_read 133 = .ok (.iadd, 1) := by decide +kernel
theorem d_M_read_134 : decode b_M_read 134 = .ok (.iaload, 1) := by decide +kernel
theorem d_M_read_135 : decode b_M_read 135 = .ok (.istore 4, 2) := by decide +kernel
theorem d_M_read_137 : decode b_M_read 137 = .ok (.aload_n 0, 1) := by decide +kernel
theorem d_M_read_138 : decode b_M_read 138 = .ok (.getfield 25, 3) := by decide +kernel
theorem d_M_read_141 : decode b_M_read 141 = .ok (.iconst 3, 1) := by decide +kernel
theorem d_M_read_142 : decode b_M_read 142 = .ok (.aload_n 0, 1) := by decide +kernel
theorem d_M_read_143 : decode b_M_read 143 = .ok (.getfield 114, 3) := by decide +kernel
theorem d_M_read_146 : decode b_M_read 146 = .ok (.imul, 1) := by decide +kernel
theorem d_M_read_147 : decode b_M_read 147 = .ok (.iconst 2, 1) := by decide +kernel
theorem d_M_read_148 : decode b_M_read 148 = .ok (.iadd, 1) := by decide +kernel
theorem d_M_read_149 : decode b_M_read 149 = .ok (.iaload, 1) := by decide +kernel
theorem d_M_read_150 : decode b_M_read 150 = .ok (.istore 5, 2) := by decide +kernel
theorem d_M_read_152 : decode b_M_read 152 = .ok (.iload 5, 2) := by decide +kernel
theorem d_M_read_154 : decode b_M_read 154 = .ok (.iload_n 2, 1) := by decide +kernel
theorem d_M_read_155 : decode b_M_read 155 = .ok (.if_icmp .le 24, 3) := by decide +kernel
theorem d_M_read_158 : decode b_M_read 158 = .ok (.aload_n 0, 1) := by decide +kernel
theorem d_M_read_159 : decode b_M_read 159 = .ok (.iconst 1, 1) := by decide +kernel
theorem d_M_read_160 : decode b_M_read 160 = .ok (.invokevirtual 175, 3) := by decide +kernel
theorem d_M_read_163 : decode b_M_read 163 = .ok (.iconst 1, 1) := by decide +kernel
theorem d_M_read_164 : decode b_M_read 164 = .ok (.if_icmp .ne 15, 3) := by decide +kernel
theorem d_M_read_167 : decode b_M_read 167 = .ok (.aload_n 0, 1) := by decide +kernel
theorem d_M_read_168 : decode b_M_read 168 = .ok (.iload_n 3, 1) := by decide +kernel
theorem d_M_read_169 : decode b_M_read 169 = .ok (.iload 4, 2) := by decide +kernel
theorem d_M_read_171 : decode b_M_read 171 = .ok (.iload 5, 2) := by decide +kernel
theorem d_M_read_173 : decode b_M_read 173 = .ok (.invokevirtual 141, 3) := by decide +kernel
theorem d_M_read_176 : decode b_M_read 176 = .ok (.goto 12, 3) := by decide +kernel
theorem d_M_read_179 : decode b_M_read 179 = .ok (.aload_n 0, 1) := by decide +kernel
theorem d_M_read_180 : decode b_M_read 180 = .ok (.iload_n 3, 1) := by decide +kernel
theorem d_M_read_181 : decode b_M_read 181 = .ok (.iload 4, 2) := by decide +kernel
theorem d_M_read_183 : decode b_M_read 183 = .ok (.iload 5, 2) := by decide +kernel
theorem d_M_read_185 : decode b_M_read 185 = .ok (.invokevirtual 180, 3) := by decide +kernel
theorem d_M_read_188 : decode b_M_read 188 = .ok (.goto (-102), 3) := by decide +kernel
theorem d_M_read_191 : decode b_M_read 191 = .ok (.bipush 8, 2) := by decide +kernel
theorem d_M_read_193 : decode b_M_read 193 = .ok (.aload_n 0, 1) := by decide +kernel
theorem d_M_read_194 : decode b_M_read 194 = .ok (.getfield 163, 3) := by decide +kernel
theorem d_M_read_197 : decode b_M_read 197 = .ok (.imul, 1) := by decide +kernel
theorem d_M_read_198 : decode b_M_read 198 = .ok (.aload_n 0, 1) := by decide +kernel
theorem d_M_read_199 : decode b_M_read 199 = .ok (.getfield 169, 3) := by decide +kernel
theorem d_M_read_202 : decode b_M_read 202 = .ok (.isub, 1) := by decide +kernel
theorem d_M_read_203 : decode b_M_read 203 = .ok (.bipush 7, 2) := by decide +kernel
theorem d_M_read_205 : decode b_M_read 205 = .ok (.if_icmp .le 7, 3) := by decide +kernel
theorem d_M_read_208 : decode b_M_read 208 = .ok (.iconst 1, 1) := by decide +kernel
theorem d_M_read_209 : decode b_M_read 209 = .ok (.goto 4, 3) := by decide +kernel
theorem d_M_read_212 : decode b_M_read 212 = .ok (.iconst 0, 1) := by decide +kernel
theorem d_M_read_213 : decode b_M_read 213 = .ok (.istore_n 3, 1) := by decide +kernel
theorem d_M_read_214 : decode b_M_read 214 = .ok (.aload_n 0, 1) := by decide +kernel
theorem d_M_read_215 : decode b_M_read 215 = .ok (.getfield 169, 3) := by decide +kernel
theorem d_M_read_218 : decode b_M_read 218 = .ok (.istore 4, 2) := by decide +kernel
theorem d_M_read_220 : decode b_M_read 220 = .ok (.iload 4, 2) := by decide +kernel
theorem d_M_read_222 : decode b_M_read 222 = .ok (.bipush 8, 2) := by decide +kernel
theorem d_M_read_224 : decode b_M_read 224 = .ok (.aload_n 0, 1) := by decide +kernel
theorem d_M_read_225 : decode b_M_read 225 = .ok (.getfield 163, 3) := by decide +kernel
theorem d_M_read_228 : decode b_M_read 228 = .ok (.imul, 1) := by decide +kernel
theorem d_M_read_229 : decode b_M_read 229 = .ok (.if_icmp .ge 36, 3) := by decide +kernel
theorem d_M_read_232 : decode b_M_read 232 = .ok (.aload_n 0, 1) := by decide +kernel
theorem d_M_read_233 : decode b_M_read 233 = .ok (.getfield 166, 3) := by decide +kernel
theorem d_M_read_236 : decode b_M_read 236 = .ok (.ifCond .ge 29, 3) := by decide +kernel
theorem d_M_read_239 : decode b_M_read 239 = .ok (.iload_n 3, 1) := by decide +kernel
theorem d_M_read_240 : decode b_M_read 240 = .ok (.ifCond .ne 13, 3) := by decide +kernel
theorem d_M_read_243 : decode b_M_read 243 = .ok (.aload_n 0, 1) := by decide +kernel
theorem d_M_read_244 : decode b_M_read 244 = .ok (.iload 4, 2) := by decide +kernel
theorem d_M_read_246 : decode b_M_read 246 = .ok (.invokevirtual 172, 3) := by decide +kernel
theorem d_M_read_249 : decode b_M_read 249 = .ok (.iconst 1, 1) := by decide +kernel
theorem d_M_read_250 : decode b_M_read 250 = .ok (.if_icmp .ne 7, 3) := by decide +kernel
theorem d_M_read_253 : decode b_M_read 253 = .ok (.iconst 1, 1) := by decide +kernel
theorem d_M_read_254 : decode b_M_read 254 = .ok (.goto 4, 3) := by decide +kernel
theorem d_M_read_257 : decode b_M_read 257 = .ok (.iconst 0, 1) := by decide +kernel
theorem d_M_read_258 : decode b_M_read 258 = .ok (.istore_n 3, 1) := by decide +kernel
theorem d_M_read_259 : decode b_M_read 259 = .ok (.iinc 4 1, 3) := by decide +kernel
theorem d_M_read_262 : decode b_M_read 262 = .ok (.goto (-42), 3) := by decide +kernel
theorem d_M_read_265 : decode b_M_read 265 = .ok (.aload_n 0, 1) := by decide +kernel
theorem d_M_read_266 : decode b_M_read 266 = .ok (.aload_n 0, 1) := by decide +kernel
theorem d_M_read_267 : decode b_M_read 267 = .ok (.getfield 166, 3) := by decide +kernel
theorem d_M_read_270 : decode b_M_read 270 = .ok (.ifCond .ge 11, 3) := by decide +kernel
theorem d_M_read_273 : decode b_M_read 273 = .ok (.iload_n 3, 1) := by decide +kernel
theorem d_M_read_274 : decode b_M_read 274 = .ok (.ifCond .eq 7, 3) := by decide +kernel
theorem d_M_read_277 : decode b_M_read 277 = .ok (.iconst 4, 1) := by decide +kernel
theorem d_M_read_278 : decode b_M_read 278 = .ok (.goto 7, 3) := by decide +kernel
theorem d_M_read_281 : decode b_M_read 281 = .ok (.aload_n 0, 1) := by decide +kernel
theorem d_M_read_282 : decode b_M_read 282 = .ok (.getfield 166, 3) := by decide +kernel
theorem d_M_read_285 : decode b_M_read 285 = .ok (.putfield 166, 3) := by decide +kernel
theorem d_M_read_288 : decode b_M_read 288 = .ok (.aload_n 0, 1) := by decide +kernel
theorem d_M_read_289 : decode b_M_read 289 = .ok (.iconst 0, 1) := by decide +kernel
theorem d_M_read_290 : decode b_M_read 290 = .ok (.putfield 163, 3) := by decide +kernel
theorem d_M_read_293 : decode b_M_read 293 = .ok (.aload_n 0, 1) := by decide +kernel
theorem d_M_read_294 : decode b_M_read 294 = .ok (.getfield 166, 3) := by decide +kernel
theorem d_M_read_297 : decode b_M_read 297 = .ok (.ifCond .lt 10, 3) := by decide +kernel
theorem d_M_read_300 : decode b_M_read 300 = .ok (.iconst (-1), 1) := by decide +kernel
theorem d_M_read_301 : decode b_M_read 301 = .ok (.aload_n 0, 1) := by decide +kernel
theorem d_M_read_302 : decode b_M_read 302 = .ok (.getfield 166, 3) := by decide +kernel
theorem d_M_read_305 : decode b_M_read 305 = .ok (.isub, 1) := by decide +kernel
theorem d_M_read_306 : decode b_M_read 306 = .ok (.ireturn, 1) := by decide +kernel
theorem d_M_read_307 : decode b_M_read 307 = .ok (.aload_n 0, 1) := by decide +kernel
theorem d_M_read_308 : decode b_M_read 308 = .ok (.invokevirtual 154, 3) := by decide +kernel
theorem d_M_read_311 : decode b_M_read 311 = .ok (.aload_n 0, 1) := by decide +kernel
theorem d_M_read_312 : decode b_M_read 312 = .ok (.getfield 123, 3) := by decide +kernel
theorem d_M_read_315 : decode b_M_read 315 = .ok (.ireturn, 1) := by decide +kernel
theorem d_M_take_0 : decode b_M_take 0 = .ok (.iconst 0, 1) := by decide +kernel
theorem d_M_take_1 : decode b_M_take 1 = .ok (.istore_n 2, 1) := by decide +kernel
theorem d_M_take_2 : decode b_M_take 2 = .ok (.iconst 0, 1) := by decide +kernel
theorem d_M_take_3 : decode b_M_take 3 = .ok (.istore_n 3, 1) := by decide +kernel
theorem d_M_take_4 : decode b_M_take 4 = .ok (.iload_n 3, 1) := by decide +kernel
theorem d_M_take_5 : decode b_M_take 5 = .ok (.iload_n 1, 1) := by decide +kernel
theorem d_M_take_6 : decode b_M_take 6 = .ok (.if_icmp .ge 60, 3) := by decide +kernel
theorem d_M_take_9 : decode b_M_take 9 = .ok (.aload_n 0, 1) := by decide +kernel
theorem d_M_take_10 : decode b_M_take 10 = .ok (.getfield 166, 3) := by decide +kernel
theorem d_M_take_13 : decode b_M_take 13 = .ok (.ifCond .ge 53, 3) := by decide +kernel
theorem d_M_take_16 : decode b_M_take 16 = .ok (.aload_n 0, 1) := by decide +kernel
theorem d_M_take_17 : decode b_M_take 17 = .ok (.getfield 169, 3) := by decide +kernel
theorem d_M_take_20 : decode b_M_take 20 = .ok (.bipush 8, 2) := by decide +kernel
theorem d_M_take_22 : decode b_M_take 22 = .ok (.aload_n 0, 1) := by decide +kernel
theorem d_M_take_23 : decode b_M_take 23 = .ok (.getfield 163, 3) := by decide +kernel
theorem d_M_take_26 : decode b_M_take 26 = .ok (.imul, 1) := by decide +kernel
theorem d_M_take_27 : decode b_M_take 27 = .ok (.if_icmp .ne 10, 3) := by decide +kernel
theorem d_M_take_30 : decode b_M_take 30 = .ok (.aload_n 0, 1) := by decide +kernel
theorem d_M_take_31 : decode b_M_take 31 = .ok (.iconst 3, 1) := by decide +kernel
theorem d_M_take_32 : decode b_M_take 32 = .ok (.putfield 166, 3) := by decide +kernel
theorem d_M_take_35 : decode b_M_take 35 = .ok (.iconst 0, 1) := by decide +kernel
theorem d_M_take_36 : decode b_M_take 36 = .ok (.ireturn, 1) := by decide +kernel
theorem d_M_take_37 : decode b_M_take 37 = .ok (.iconst 2, 1) := by decide +kernel
theorem d_M_take_38 : decode b_M_take 38 = .ok (.iload_n 2, 1) := by decide +kernel
theorem d_M_take_39 : decode b_M_take 39 = .ok (.imul, 1) := by decide +kernel
theorem d_M_take_40 : decode b_M_take 40 = .ok (.aload_n 0, 1) := by decide +kernel
theorem d_M_take_41 : decode b_M_take 41 = .ok (.aload_n 0, 1) := by decide +kernel
theorem d_M_take_42 : decode b_M_take 42 = .ok (.getfield 169, 3) := by decide +kernel
theorem d_M_take_45 : decode b_M_take 45 = .ok (.invokevirtual 172, 3) := by decide +kernel
theorem d_M_take_48 : decode b_M_take 48 = .ok (.iadd, 1) := by decide +kernel
theorem d_M_take_49 : decode b_M_take 49 = .ok (.istore_n 2, 1) := by decide +kernel
theorem d_M_take_50 : decode b_M_take 50 = .ok (.aload_n 0, 1) := by decide +kernel
theorem d_M_take_51 : decode b_M_take 51 = .ok (.dup, 1) := by decide +kernel
theorem d_M_take_52 : decode b_M_take 52 = .ok (.getfield 169, 3) := by decide +kernel
theorem d_M_take_55 : decode b_M_take 55 = .ok (.iconst 1, 1) := by decide +kernel
theorem d_M_take_56 : decode b_M_take 56 = .ok (.iadd, 1) := by decide +kernel
theorem d_M_take_57 : decode b_M_take 57 = .ok (.putfield 169, 3) := by decide +kernel
theorem d_M_take_60 : decode b_M_take 60 = .ok (.iinc 3 1, 3) := by decide +kernel
theorem d_M_take_63 : decode b_M_take 63 = .ok (.goto (-59), 3) := by decide +kernel
theorem d_M_take_66 : decode b_M_take 66 = .ok (.iload_n 2, 1) := by decide +kernel
theorem d_M_take_67 : decode b_M_take 67 = .ok (.ireturn, 1) := by decide +kernel
theorem d_M_bitAt_0 : decode b_M_bitAt 0 = .ok (.aload_n 0, 1) := by decide +kernel
theorem d_M_bitAt_1 : decode b_M_bitAt 1 = .ok (.getfield 22, 3) := by decide +kernel
theorem d_M_bitAt_4 : decode b_M_bitAt 4 = .ok (.iload_n 1, 1) := by decide +kernel
theorem d_M_bitAt_5 : decode b_M_bitAt 5 = .ok (.bipush 8, 2) := by decide +kernel
theorem d_M_bitAt_7 : decode b_M_bitAt 7 = .ok (.idiv, 1) := by decide +kernel
theorem d_M_bitAt_8 : decode b_M_bitAt 8 = .ok (.iaload, 1) := by decide +kernel
theorem d_M_bitAt_9 : decode b_M_bitAt 9 = .ok (.bipush 7, 2) := by decide +kernel
theorem d_M_bitAt_11 : decode b_M_bitAt 11 = .ok (.iload_n 1, 1) := by decide +kernel
theorem d_M_bitAt_12 : decode b_M_bitAt 12 = .ok (.bipush 8, 2) := by decide +kernel
