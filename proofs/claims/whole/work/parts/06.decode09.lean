theorem d_M_decodeBlock_188 : decode b_M_decodeBlock 188 = .ok (.aload_n 0, 1) := by decide +kernel
theorem d_M_decodeBlock_189 : decode b_M_decodeBlock 189 = .ok (.getfield 28, 3) := by decide +kernel
theorem d_M_decodeBlock_192 : decode b_M_decodeBlock 192 = .ok (.iload 13, 2) := by decide +kernel
theorem d_M_decodeBlock_194 : decode b_M_decodeBlock 194 = .ok (.iload 12, 2) := by decide +kernel
theorem d_M_decodeBlock_196 : decode b_M_decodeBlock 196 = .ok (.i2l, 1) := by decide +kernel
theorem d_M_decodeBlock_197 : decode b_M_decodeBlock 197 = .ok (.iconst 0, 1) := by decide +kernel
theorem d_M_decodeBlock_198 : decode b_M_decodeBlock 198 = .ok (.sipush 255, 3) := by decide +kernel
theorem d_M_decodeBlock_201 : decode b_M_decodeBlock 201 = .ok (.invokestatic 65, 3) := by decide +kernel
theorem d_M_decodeBlock_204 : decode b_M_decodeBlock 204 = .ok (.iastore, 1) := by decide +kernel
theorem d_M_decodeBlock_205 : decode b_M_decodeBlock 205 = .ok (.aload_n 0, 1) := by decide +kernel
theorem d_M_decodeBlock_206 : decode b_M_decodeBlock 206 = .ok (.getfield 28, 3) := by decide +kernel
theorem d_M_decodeBlock_209 : decode b_M_decodeBlock 209 = .ok (.iload 13, 2) := by decide +kernel
theorem d_M_decodeBlock_211 : decode b_M_decodeBlock 211 = .ok (.iaload, 1) := by decide +kernel
theorem d_M_decodeBlock_212 : decode b_M_decodeBlock 212 = .ok (.aload_n 0, 1) := by decide +kernel
theorem d_M_decodeBlock_213 : decode b_M_decodeBlock 213 = .ok (.getfield 31, 3) := by decide +kernel
theorem d_M_decodeBlock_216 : decode b_M_decodeBlock 216 = .ok (.iload 13, 2) := by decide +kernel
theorem d_M_decodeBlock_218 : decode b_M_decodeBlock 218 = .ok (.iaload, 1) := by decide +kernel
theorem d_M_decodeBlock_219 : decode b_M_decodeBlock 219 = .ok (.isub, 1) := by decide +kernel
theorem d_M_decodeBlock_220 : decode b_M_decodeBlock 220 = .ok (.istore 14, 2) := by decide +kernel
theorem d_M_decodeBlock_222 : decode b_M_decodeBlock 222 = .ok (.iload 14, 2) := by decide +kernel
theorem d_M_decodeBlock_224 : decode b_M_decodeBlock 224 = .ok (.ifCond .ge 9, 3) := by decide +kernel
theorem d_M_decodeBlock_227 : decode b_M_decodeBlock 227 = .ok (.iload 14, 2) := by decide +kernel
theorem d_M_decodeBlock_229 : decode b_M_decodeBlock 229 = .ok (.ineg, 1) := by decide +kernel
theorem d_M_decodeBlock_230 : decode b_M_decodeBlock 230 = .ok (.goto 5, 3) := by decide +kernel
theorem d_M_decodeBlock_233 : decode b_M_decodeBlock 233 = .ok (.iload 14, 2) := by decide +kernel
theorem d_M_decodeBlock_235 : decode b_M_decodeBlock 235 = .ok (.istore 14, 2) := by decide +kernel
theorem d_M_decodeBlock_237 : decode b_M_decodeBlock 237 = .ok (.iload 14, 2) := by decide +kernel
theorem d_M_decodeBlock_239 : decode b_M_decodeBlock 239 = .ok (.iload 10, 2) := by decide +kernel
theorem d_M_decodeBlock_241 : decode b_M_decodeBlock 241 = .ok (.if_icmp .le 8, 3) := by decide +kernel
theorem d_M_decodeBlock_244 : decode b_M_decodeBlock 244 = .ok (.iload 14, 2) := by decide +kernel
theorem d_M_decodeBlock_246 : decode b_M_decodeBlock 246 = .ok (.goto 5, 3) := by decide +kernel
theorem d_M_decodeBlock_249 : decode b_M_decodeBlock 249 = .ok (.iload 10, 2) := by decide +kernel
theorem d_M_decodeBlock_251 : decode b_M_decodeBlock 251 = .ok (.istore 10, 2) := by decide +kernel
theorem d_M_decodeBlock_253 : decode b_M_decodeBlock 253 = .ok (.iinc 11 1, 3) := by decide +kernel
theorem d_M_decodeBlock_256 : decode b_M_decodeBlock 256 = .ok (.goto (-179), 3) := by decide +kernel
theorem d_M_decodeBlock_259 : decode b_M_decodeBlock 259 = .ok (.iload 10, 2) := by decide +kernel
theorem d_M_decodeBlock_261 : decode b_M_decodeBlock 261 = .ok (.ireturn, 1) := by decide +kernel
theorem d_M_mapped_0 : decode b_M_mapped 0 = .ok (.iload_n 0, 1) := by decide +kernel
theorem d_M_mapped_1 : decode b_M_mapped 1 = .ok (.iload_n 1, 1) := by decide +kernel
theorem d_M_mapped_2 : decode b_M_mapped 2 = .ok (.imul, 1) := by decide +kernel
theorem d_M_mapped_3 : decode b_M_mapped 3 = .ok (.istore_n 2, 1) := by decide +kernel
theorem d_M_mapped_4 : decode b_M_mapped 4 = .ok (.iload_n 2, 1) := by decide +kernel
theorem d_M_mapped_5 : decode b_M_mapped 5 = .ok (.ifCond .ge 14, 3) := by decide +kernel
theorem d_M_mapped_8 : decode b_M_mapped 8 = .ok (.bipush 7, 2) := by decide +kernel
theorem d_M_mapped_10 : decode b_M_mapped 10 = .ok (.iload_n 2, 1) := by decide +kernel
theorem d_M_mapped_11 : decode b_M_mapped 11 = .ok (.isub, 1) := by decide +kernel
theorem d_M_mapped_12 : decode b_M_mapped 12 = .ok (.bipush 8, 2) := by decide +kernel
theorem d_M_mapped_14 : decode b_M_mapped 14 = .ok (.idiv, 1) := by decide +kernel
theorem d_M_mapped_15 : decode b_M_mapped 15 = .ok (.ineg, 1) := by decide +kernel
theorem d_M_mapped_16 : decode b_M_mapped 16 = .ok (.goto 7, 3) := by decide +kernel
theorem d_M_mapped_19 : decode b_M_mapped 19 = .ok (.iload_n 2, 1) := by decide +kernel
theorem d_M_mapped_20 : decode b_M_mapped 20 = .ok (.bipush 8, 2) := by decide +kernel
theorem d_M_mapped_22 : decode b_M_mapped 22 = .ok (.idiv, 1) := by decide +kernel
theorem d_M_mapped_23 : decode b_M_mapped 23 = .ok (.ireturn, 1) := by decide +kernel
theorem d_M_encode_0 : decode b_M_encode 0 = .ok (.aload_n 0, 1) := by decide +kernel
theorem d_M_encode_1 : decode b_M_encode 1 = .ok (.iload_n 1, 1) := by decide +kernel
theorem d_M_encode_2 : decode b_M_encode 2 = .ok (.invokestatic 129, 3) := by decide +kernel
theorem d_M_encode_5 : decode b_M_encode 5 = .ok (.ifCond .eq 21, 3) := by decide +kernel
theorem d_M_encode_8 : decode b_M_encode 8 = .ok (.iconst 2, 1) := by decide +kernel
theorem d_M_encode_9 : decode b_M_encode 9 = .ok (.iload_n 1, 1) := by decide +kernel
theorem d_M_encode_10 : decode b_M_encode 10 = .ok (.imul, 1) := by decide +kernel
theorem d_M_encode_11 : decode b_M_encode 11 = .ok (.aload_n 0, 1) := by decide +kernel
theorem d_M_encode_12 : decode b_M_encode 12 = .ok (.getfield 46, 3) := by decide +kernel
theorem d_M_encode_15 : decode b_M_encode 15 = .ok (.if_icmp .gt 11, 3) := by decide +kernel
theorem d_M_encode_18 : decode b_M_encode 18 = .ok (.iload_n 2, 1) := by decide +kernel
theorem d_M_encode_19 : decode b_M_encode 19 = .ok (.ifCond .lt 7, 3) := by decide +kernel
theorem d_M_encode_22 : decode b_M_encode 22 = .ok (.iconst 0, 1) := by decide +kernel
theorem d_M_encode_23 : decode b_M_encode 23 = .ok (.goto 4, 3) := by decide +kernel
theorem d_M_encode_26 : decode b_M_encode 26 = .ok (.iconst 1, 1) := by decide +kernel
theorem d_M_encode_27 : decode b_M_encode 27 = .ok (.putfield 50, 3) := by decide +kernel
theorem d_M_encode_30 : decode b_M_encode 30 = .ok (.aload_n 0, 1) := by decide +kernel
theorem d_M_encode_31 : decode b_M_encode 31 = .ok (.getfield 50, 3) := by decide +kernel
theorem d_M_encode_34 : decode b_M_encode 34 = .ok (.ifCond .le 5, 3) := by decide +kernel
theorem d_M_encode_37 : decode b_M_encode 37 = .ok (.iconst 0, 1) := by decide +kernel
theorem d_M_encode_38 : decode b_M_encode 38 = .ok (.ireturn, 1) := by decide +kernel
theorem d_M_encode_39 : decode b_M_encode 39 = .ok (.aload_n 0, 1) := by decide +kernel
theorem d_M_encode_40 : decode b_M_encode 40 = .ok (.getfield 7, 3) := by decide +kernel
theorem d_M_encode_43 : decode b_M_encode 43 = .ok (.aload_n 0, 1) := by decide +kernel
theorem d_M_encode_44 : decode b_M_encode 44 = .ok (.getfield 46, 3) := by decide +kernel
theorem d_M_encode_47 : decode b_M_encode 47 = .ok (.aload_n 0, 1) := by decide +kernel
theorem d_M_encode_48 : decode b_M_encode 48 = .ok (.getfield 13, 3) := by decide +kernel
theorem d_M_encode_51 : decode b_M_encode 51 = .ok (.invokestatic 133, 3) := by decide +kernel
theorem d_M_encode_54 : decode b_M_encode 54 = .ok (.aload_n 0, 1) := by decide +kernel
theorem d_M_encode_55 : decode b_M_encode 55 = .ok (.iconst 0, 1) := by decide +kernel
theorem d_M_encode_56 : decode b_M_encode 56 = .ok (.putfield 108, 3) := by decide +kernel
theorem d_M_encode_59 : decode b_M_encode 59 = .ok (.aload_n 0, 1) := by decide +kernel
theorem d_M_encode_60 : decode b_M_encode 60 = .ok (.iconst 0, 1) := by decide +kernel
theorem d_M_encode_61 : decode b_M_encode 61 = .ok (.putfield 126, 3) := by decide +kernel
theorem d_M_encode_64 : decode b_M_encode 64 = .ok (.aload_n 0, 1) := by decide +kernel
theorem d_M_encode_65 : decode b_M_encode 65 = .ok (.iconst 0, 1) := by decide +kernel
theorem d_M_encode_66 : decode b_M_encode 66 = .ok (.putfield 120, 3) := by decide +kernel
theorem d_M_encode_69 : decode b_M_encode 69 = .ok (.aload_n 0, 1) := by decide +kernel
theorem d_M_encode_70 : decode b_M_encode 70 = .ok (.iconst 0, 1) := by decide +kernel
theorem d_M_encode_71 : decode b_M_encode 71 = .ok (.putfield 114, 3) := by decide +kernel
theorem d_M_encode_74 : decode b_M_encode 74 = .ok (.aload_n 0, 1) := by decide +kernel
theorem d_M_encode_75 : decode b_M_encode 75 = .ok (.iload_n 1, 1) := by decide +kernel
theorem d_M_encode_76 : decode b_M_encode 76 = .ok (.iconst 2, 1) := by decide +kernel
theorem d_M_encode_77 : decode b_M_encode 77 = .ok (.if_icmp .ne 7, 3) := by decide +kernel
theorem d_M_encode_80 : decode b_M_encode 80 = .ok (.iconst 1, 1) := by decide +kernel
theorem d_M_encode_81 : decode b_M_encode 81 = .ok (.goto 23, 3) := by decide +kernel
theorem d_M_encode_84 : decode b_M_encode 84 = .ok (.iload_n 1, 1) := by decide +kernel
theorem d_M_encode_85 : decode b_M_encode 85 = .ok (.iconst 4, 1) := by decide +kernel
theorem d_M_encode_86 : decode b_M_encode 86 = .ok (.if_icmp .ne 7, 3) := by decide +kernel
theorem d_M_encode_89 : decode b_M_encode 89 = .ok (.iconst 2, 1) := by decide +kernel
theorem d_M_encode_90 : decode b_M_encode 90 = .ok (.goto 14, 3) := by decide +kernel
theorem d_M_encode_93 : decode b_M_encode 93 = .ok (.iload_n 1, 1) := by decide +kernel
theorem d_M_encode_94 : decode b_M_encode 94 = .ok (.bipush 8, 2) := by decide +kernel
theorem d_M_encode_96 : decode b_M_encode 96 = .ok (.if_icmp .ne 7, 3) := by decide +kernel
theorem d_M_encode_99 : decode b_M_encode 99 = .ok (.iconst 3, 1) := by decide +kernel
theorem d_M_encode_100 : decode b_M_encode 100 = .ok (.goto 4, 3) := by decide +kernel
theorem d_M_encode_103 : decode b_M_encode 103 = .ok (.iconst 4, 1) := by decide +kernel
theorem d_M_encode_104 : decode b_M_encode 104 = .ok (.iconst 3, 1) := by decide +kernel
theorem d_M_encode_105 : decode b_M_encode 105 = .ok (.invokevirtual 137, 3) := by decide +kernel
theorem d_M_encode_108 : decode b_M_encode 108 = .ok (.aload_n 0, 1) := by decide +kernel
theorem d_M_encode_109 : decode b_M_encode 109 = .ok (.iconst 0, 1) := by decide +kernel
theorem d_M_encode_110 : decode b_M_encode 110 = .ok (.iconst 0, 1) := by decide +kernel
theorem d_M_encode_111 : decode b_M_encode 111 = .ok (.aload_n 0, 1) := by decide +kernel
theorem d_M_encode_112 : decode b_M_encode 112 = .ok (.getfield 46, 3) := by decide +kernel
theorem d_M_encode_115 : decode b_M_encode 115 = .ok (.invokevirtual 141, 3) := by decide +kernel
theorem d_M_encode_118 : decode b_M_encode 118 = .ok (.aload_n 0, 1) := by decide +kernel
theorem d_M_encode_119 : decode b_M_encode 119 = .ok (.getfield 114, 3) := by decide +kernel
theorem d_M_encode_122 : decode b_M_encode 122 = .ok (.ifCond .le 199, 3) := by decide +kernel
theorem d_M_encode_125 : decode b_M_encode 125 = .ok (.aload_n 0, 1) := by decide +kernel
theorem d_M_encode_126 : decode b_M_encode 126 = .ok (.dup, 1) := by decide +kernel
theorem d_M_encode_127 : decode b_M_encode 127 = .ok (.getfield 114, 3) := by decide +kernel
theorem d_M_encode_130 : decode b_M_encode 130 = .ok (.iconst 1, 1) := by decide +kernel
theorem d_M_encode_131 : decode b_M_encode 131 = .ok (.isub, 1) := by decide +kernel
theorem d_M_encode_132 : decode b_M_encode 132 = .ok (.putfield 114, 3) := by decide +kernel
theorem d_M_encode_135 : decode b_M_encode 135 = .ok (.aload_n 0, 1) := by decide +kernel
theorem d_M_encode_136 : decode b_M_encode 136 = .ok (.getfield 25, 3) := by decide +kernel
theorem d_M_encode_139 : decode b_M_encode 139 = .ok (.iconst 3, 1) := by decide +kernel
theorem d_M_encode_140 : decode b_M_encode 140 = .ok (.aload_n 0, 1) := by decide +kernel
theorem d_M_encode_141 : decode b_M_encode 141 = .ok (.getfield 114, 3) := by decide +kernel
theorem d_M_encode_144 : decode b_M_encode 144 = .ok (.imul, 1) := by decide +kernel
theorem d_M_encode_145 : decode b_M_encode 145 = .ok (.iaload, 1) := by decide +kernel
theorem d_M_encode_146 : decode b_M_encode 146 = .ok (.istore_n 3, 1) := by decide +kernel
theorem d_M_encode_147 : decode b_M_encode 147 = .ok (.aload_n 0, 1) := by decide +kernel
theorem d_M_encode_148 : decode b_M_encode 148 = .ok (.getfield 25, 3) := by decide +kernel
theorem d_M_encode_151 : decode b_M_encode 151 = .ok (.iconst 3, 1) := by decide +kernel
theorem d_M_encode_152 : decode b_M_encode 152 = .ok (.aload_n 0, 1) := by decide +kernel
theorem d_M_encode_153 : decode b_M_encode 153 = .ok (.getfield 114, 3) := by decide +kernel
theorem d_M_encode_156 : decode b_M_encode 156 = .ok (.imul, 1) := by decide +kernel
theorem d_M_encode_157 : decode b_M_encode 157 = .ok (.iconst 1, 1) := by decide +kernel
theorem d_M_encode_158 : decode b_M_encode 158 = .ok (.iadd, 1) := by decide +kernel
theorem d_M_encode_159 : decode b_M_encode 159 = .ok (.iaload, 1) := by decide +kernel
theorem d_M_encode_160 : decode b_M_encode 160 = .ok (.istore 4, 2) := by decide +kernel
theorem d_M_encode_162 : decode b_M_encode 162 = .ok (.aload_n 0, 1) := by decide +kernel
theorem d_M_encode_163 : decode b_M_encode 163 = .ok (.getfield 25, 3) := by decide +kernel
theorem d_M_encode_166 : decode b_M_encode 166 = .ok (.iconst 3, 1) := by decide +kernel
theorem d_M_encode_167 : decode b_M_encode 167 = .ok (.aload_n 0, 1) := by decide +kernel
theorem d_M_encode_168 : decode b_M_encode 168 = .ok (.getfield 114, 3) := by decide +kernel
theorem d_M_encode_171 : decode b_M_encode 171 = .ok (.imul, 1) := by decide +kernel
theorem d_M_encode_172 : decode b_M_encode 172 = .ok (.iconst 2, 1) := by decide +kernel
theorem d_M_encode_173 : decode b_M_encode 173 = .ok (.iadd, 1) := by decide +kernel
theorem d_M_encode_174 : decode b_M_encode 174 = .ok (.iaload, 1) := by decide +kernel
theorem d_M_encode_175 : decode b_M_encode 175 = .ok (.istore 5, 2) := by decide +kernel
theorem d_M_encode_177 : decode b_M_encode 177 = .ok (.aload_n 0, 1) := by decide +kernel
theorem d_M_encode_178 : decode b_M_encode 178 = .ok (.iload_n 3, 1) := by decide +kernel
theorem d_M_encode_179 : decode b_M_encode 179 = .ok (.iload 4, 2) := by decide +kernel
theorem d_M_encode_181 : decode b_M_encode 181 = .ok (.iload 5, 2) := by decide +kernel
theorem d_M_encode_183 : decode b_M_encode 183 = .ok (.invokevirtual 144, 3) := by decide +kernel
theorem d_M_encode_186 : decode b_M_encode 186 = .ok (.iload 5, 2) := by decide +kernel
theorem d_M_encode_188 : decode b_M_encode 188 = .ok (.iload_n 1, 1) := by decide +kernel
theorem d_M_encode_189 : decode b_M_encode 189 = .ok (.if_icmp .le 17, 3) := by decide +kernel
theorem d_M_encode_192 : decode b_M_encode 192 = .ok (.aload_n 0, 1) := by decide +kernel
theorem d_M_encode_193 : decode b_M_encode 193 = .ok (.getfield 91, 3) := by decide +kernel
theorem d_M_encode_196 : decode b_M_encode 196 = .ok (.iload_n 2, 1) := by decide +kernel
theorem d_M_encode_197 : decode b_M_encode 197 = .ok (.i2l, 1) := by decide +kernel
theorem d_M_encode_198 : decode b_M_encode 198 = .ok (.lcmp, 1) := by decide +kernel
theorem d_M_encode_199 : decode b_M_encode 199 = .ok (.ifCond .le 7, 3) := by decide +kernel
theorem d_M_encode_202 : decode b_M_encode 202 = .ok (.iconst 1, 1) := by decide +kernel
theorem d_M_encode_203 : decode b_M_encode 203 = .ok (.goto 4, 3) := by decide +kernel
theorem d_M_encode_206 : decode b_M_encode 206 = .ok (.iconst 0, 1) := by decide +kernel
theorem d_M_encode_207 : decode b_M_encode 207 = .ok (.istore 6, 2) := by decide +kernel
theorem d_M_encode_209 : decode b_M_encode 209 = .ok (.iload 5, 2) := by decide +kernel
theorem d_M_encode_211 : decode b_M_encode 211 = .ok (.iload_n 1, 1) := by decide +kernel
theorem d_M_encode_212 : decode b_M_encode 212 = .ok (.if_icmp .le 18, 3) := by decide +kernel
theorem d_M_encode_215 : decode b_M_encode 215 = .ok (.aload_n 0, 1) := by decide +kernel
theorem d_M_encode_216 : decode b_M_encode 216 = .ok (.iload 6, 2) := by decide +kernel
theorem d_M_encode_218 : decode b_M_encode 218 = .ok (.ifCond .eq 7, 3) := by decide +kernel
theorem d_M_encode_221 : decode b_M_encode 221 = .ok (.iconst 1, 1) := by decide +kernel
theorem d_M_encode_222 : decode b_M_encode 222 = .ok (.goto 4, 3) := by decide +kernel
theorem d_M_encode_225 : decode b_M_encode 225 = .ok (.iconst 0, 1) := by decide +kernel
theorem d_M_encode_226 : decode b_M_encode 226 = .ok (.iconst 1, 1) := by decide +kernel
theorem d_M_encode_227 : decode b_M_encode 227 = .ok (.invokevirtual 137, 3) := by decide +kernel
theorem d_M_encode_230 : decode b_M_encode 230 = .ok (.iload 6, 2) := by decide +kernel
theorem d_M_encode_232 : decode b_M_encode 232 = .ok (.ifCond .eq 15, 3) := by decide +kernel
theorem d_M_encode_235 : decode b_M_encode 235 = .ok (.aload_n 0, 1) := by decide +kernel
theorem d_M_encode_236 : decode b_M_encode 236 = .ok (.iload_n 3, 1) := by decide +kernel
theorem d_M_encode_237 : decode b_M_encode 237 = .ok (.iload 4, 2) := by decide +kernel
theorem d_M_encode_239 : decode b_M_encode 239 = .ok (.iload 5, 2) := by decide +kernel
theorem d_M_encode_241 : decode b_M_encode 241 = .ok (.invokevirtual 141, 3) := by decide +kernel
theorem d_M_encode_244 : decode b_M_encode 244 = .ok (.goto 74, 3) := by decide +kernel
theorem d_M_encode_247 : decode b_M_encode 247 = .ok (.aload_n 0, 1) := by decide +kernel
theorem d_M_encode_248 : decode b_M_encode 248 = .ok (.iload_n 3, 1) := by decide +kernel
theorem d_M_encode_249 : decode b_M_encode 249 = .ok (.iload 4, 2) := by decide +kernel
theorem d_M_encode_251 : decode b_M_encode 251 = .ok (.iload 5, 2) := by decide +kernel
theorem d_M_encode_253 : decode b_M_encode 253 = .ok (.aload_n 0, 1) := by decide +kernel
theorem d_M_encode_254 : decode b_M_encode 254 = .ok (.getfield 91, 3) := by decide +kernel
theorem d_M_encode_257 : decode b_M_encode 257 = .ok (.l2i, 1) := by decide +kernel
theorem d_M_encode_258 : decode b_M_encode 258 = .ok (.invokevirtual 147, 3) := by decide +kernel
theorem d_M_encode_261 : decode b_M_encode 261 = .ok (.aload_n 0, 1) := by decide +kernel
theorem d_M_encode_262 : decode b_M_encode 262 = .ok (.aload_n 0, 1) := by decide +kernel
theorem d_M_encode_263 : decode b_M_encode 263 = .ok (.getfield 43, 3) := by decide +kernel
theorem d_M_encode_266 : decode b_M_encode 266 = .ok (.iconst 0, 1) := by decide +kernel
theorem d_M_encode_267 : decode b_M_encode 267 = .ok (.iaload, 1) := by decide +kernel
theorem d_M_encode_268 : decode b_M_encode 268 = .ok (.aload_n 0, 1) := by decide +kernel
theorem d_M_encode_269 : decode b_M_encode 269 = .ok (.iload 5, 2) := by decide +kernel
theorem d_M_encode_271 : decode b_M_encode 271 = .ok (.invokevirtual 151, 3) := by decide +kernel
theorem d_M_encode_274 : decode b_M_encode 274 = .ok (.invokevirtual 137, 3) := by decide +kernel
theorem d_M_encode_277 : decode b_M_encode 277 = .ok (.aload_n 0, 1) := by decide +kernel
theorem d_M_encode_278 : decode b_M_encode 278 = .ok (.aload_n 0, 1) := by decide +kernel
theorem d_M_encode_279 : decode b_M_encode 279 = .ok (.getfield 43, 3) := by decide +kernel
theorem d_M_encode_282 : decode b_M_encode 282 = .ok (.iconst 1, 1) := by decide +kernel
theorem d_M_encode_283 : decode b_M_encode 283 = .ok (.iaload, 1) := by decide +kernel
theorem d_M_encode_284 : decode b_M_encode 284 = .ok (.iconst 3, 1) := by decide +kernel
theorem d_M_encode_285 : decode b_M_encode 285 = .ok (.invokevirtual 137, 3) := by decide +kernel
theorem d_M_encode_288 : decode b_M_encode 288 = .ok (.aload_n 0, 1) := by decide +kernel
theorem d_M_encode_289 : decode b_M_encode 289 = .ok (.aload_n 0, 1) := by decide +kernel
theorem d_M_encode_290 : decode b_M_encode 290 = .ok (.getfield 43, 3) := by decide +kernel
theorem d_M_encode_293 : decode b_M_encode 293 = .ok (.iconst 2, 1) := by decide +kernel
theorem d_M_encode_294 : decode b_M_encode 294 = .ok (.iaload, 1) := by decide +kernel
theorem d_M_encode_295 : decode b_M_encode 295 = .ok (.bipush 7, 2) := by decide +kernel
theorem d_M_encode_297 : decode b_M_encode 297 = .ok (.iadd, 1) := by decide +kernel
theorem d_M_encode_298 : decode b_M_encode 298 = .ok (.iconst 4, 1) := by decide +kernel
theorem d_M_encode_299 : decode b_M_encode 299 = .ok (.invokevirtual 137, 3) := by decide +kernel
theorem d_M_encode_302 : decode b_M_encode 302 = .ok (.aload_n 0, 1) := by decide +kernel
theorem d_M_encode_303 : decode b_M_encode 303 = .ok (.aload_n 0, 1) := by decide +kernel
theorem d_M_encode_304 : decode b_M_encode 304 = .ok (.getfield 43, 3) := by decide +kernel
theorem d_M_encode_307 : decode b_M_encode 307 = .ok (.iconst 3, 1) := by decide +kernel
theorem d_M_encode_308 : decode b_M_encode 308 = .ok (.iaload, 1) := by decide +kernel
theorem d_M_encode_309 : decode b_M_encode 309 = .ok (.sipush 256, 3) := by decide +kernel
theorem d_M_encode_312 : decode b_M_encode 312 = .ok (.iadd, 1) := by decide +kernel
theorem d_M_encode_313 : decode b_M_encode 313 = .ok (.bipush 10, 2) := by decide +kernel
theorem d_M_encode_315 : decode b_M_encode 315 = .ok (.invokevirtual 137, 3) := by decide +kernel
theorem d_M_encode_318 : decode b_M_encode 318 = .ok (.goto (-200), 3) := by decide +kernel
theorem d_M_encode_321 : decode b_M_encode 321 = .ok (.aload_n 0, 1) := by decide +kernel
theorem d_M_encode_322 : decode b_M_encode 322 = .ok (.invokevirtual 154, 3) := by decide +kernel
theorem d_M_encode_325 : decode b_M_encode 325 = .ok (.aload_n 0, 1) := by decide +kernel
theorem d_M_encode_326 : decode b_M_encode 326 = .ok (.getfield 123, 3) := by decide +kernel
theorem d_M_encode_329 : decode b_M_encode 329 = .ok (.ireturn, 1) := by decide +kernel
theorem d_M_tell_0 : decode b_M_tell 0 = .ok (.iconst 1, 1) := by decide +kernel
theorem d_M_tell_1 : decode b_M_tell 1 = .ok (.istore_n 3, 1) := by decide +kernel
theorem d_M_tell_2 : decode b_M_tell 2 = .ok (.iconst 1, 1) := by decide +kernel
theorem d_M_tell_3 : decode b_M_tell 3 = .ok (.istore 4, 2) := by decide +kernel
theorem d_M_tell_5 : decode b_M_tell 5 = .ok (.iload 4, 2) := by decide +kernel
theorem d_M_tell_7 : decode b_M_tell 7 = .ok (.iload_n 2, 1) := by decide +kernel
theorem d_M_tell_8 : decode b_M_tell 8 = .ok (.if_icmp .ge 13, 3) := by decide +kernel
theorem d_M_tell_11 : decode b_M_tell 11 = .ok (.iconst 2, 1) := by decide +kernel
theorem d_M_tell_12 : decode b_M_tell 12 = .ok (.iload_n 3, 1) := by decide +kernel
