theorem d_M_tryOne_175 : decode b_M_tryOne 175 = .ok (.lload 19, 2) := by decide +kernel
theorem d_M_tryOne_177 : decode b_M_tryOne 177 = .ok (.iload 18, 2) := by decide +kernel
theorem d_M_tryOne_179 : decode b_M_tryOne 179 = .ok (.aload_n 0, 1) := by decide +kernel
theorem d_M_tryOne_180 : decode b_M_tryOne 180 = .ok (.getfield 37, 3) := by decide +kernel
theorem d_M_tryOne_183 : decode b_M_tryOne 183 = .ok (.iload 21, 2) := by decide +kernel
theorem d_M_tryOne_185 : decode b_M_tryOne 185 = .ok (.iaload, 1) := by decide +kernel
theorem d_M_tryOne_186 : decode b_M_tryOne 186 = .ok (.invokestatic 87, 3) := by decide +kernel
theorem d_M_tryOne_189 : decode b_M_tryOne 189 = .ok (.i2l, 1) := by decide +kernel
theorem d_M_tryOne_190 : decode b_M_tryOne 190 = .ok (.lsub, 1) := by decide +kernel
theorem d_M_tryOne_191 : decode b_M_tryOne 191 = .ok (.lstore 19, 2) := by decide +kernel
theorem d_M_tryOne_193 : decode b_M_tryOne 193 = .ok (.iinc 21 1, 3) := by decide +kernel
theorem d_M_tryOne_196 : decode b_M_tryOne 196 = .ok (.goto (-29), 3) := by decide +kernel
theorem d_M_tryOne_199 : decode b_M_tryOne 199 = .ok (.lload 19, 2) := by decide +kernel
theorem d_M_tryOne_201 : decode b_M_tryOne 201 = .ok (.lload 4, 2) := by decide +kernel
theorem d_M_tryOne_203 : decode b_M_tryOne 203 = .ok (.invokestatic 83, 3) := by decide +kernel
theorem d_M_tryOne_206 : decode b_M_tryOne 206 = .ok (.l2i, 1) := by decide +kernel
theorem d_M_tryOne_207 : decode b_M_tryOne 207 = .ok (.istore 21, 2) := by decide +kernel
theorem d_M_tryOne_209 : decode b_M_tryOne 209 = .ok (.lconst 0, 1) := by decide +kernel
theorem d_M_tryOne_210 : decode b_M_tryOne 210 = .ok (.lstore 22, 2) := by decide +kernel
theorem d_M_tryOne_212 : decode b_M_tryOne 212 = .ok (.iconst 0, 1) := by decide +kernel
theorem d_M_tryOne_213 : decode b_M_tryOne 213 = .ok (.istore 24, 2) := by decide +kernel
theorem d_M_tryOne_215 : decode b_M_tryOne 215 = .ok (.iload 24, 2) := by decide +kernel
theorem d_M_tryOne_217 : decode b_M_tryOne 217 = .ok (.iload_n 1, 1) := by decide +kernel
theorem d_M_tryOne_218 : decode b_M_tryOne 218 = .ok (.iload_n 1, 1) := by decide +kernel
theorem d_M_tryOne_219 : decode b_M_tryOne 219 = .ok (.imul, 1) := by decide +kernel
theorem d_M_tryOne_220 : decode b_M_tryOne 220 = .ok (.if_icmp .ge 45, 3) := by decide +kernel
theorem d_M_tryOne_223 : decode b_M_tryOne 223 = .ok (.aload_n 0, 1) := by decide +kernel
theorem d_M_tryOne_224 : decode b_M_tryOne 224 = .ok (.getfield 40, 3) := by decide +kernel
theorem d_M_tryOne_227 : decode b_M_tryOne 227 = .ok (.iload 24, 2) := by decide +kernel
theorem d_M_tryOne_229 : decode b_M_tryOne 229 = .ok (.iaload, 1) := by decide +kernel
theorem d_M_tryOne_230 : decode b_M_tryOne 230 = .ok (.iload 18, 2) := by decide +kernel
theorem d_M_tryOne_232 : decode b_M_tryOne 232 = .ok (.aload_n 0, 1) := by decide +kernel
theorem d_M_tryOne_233 : decode b_M_tryOne 233 = .ok (.getfield 37, 3) := by decide +kernel
theorem d_M_tryOne_236 : decode b_M_tryOne 236 = .ok (.iload 24, 2) := by decide +kernel
theorem d_M_tryOne_238 : decode b_M_tryOne 238 = .ok (.iaload, 1) := by decide +kernel
theorem d_M_tryOne_239 : decode b_M_tryOne 239 = .ok (.invokestatic 87, 3) := by decide +kernel
theorem d_M_tryOne_242 : decode b_M_tryOne 242 = .ok (.isub, 1) := by decide +kernel
theorem d_M_tryOne_243 : decode b_M_tryOne 243 = .ok (.iload 21, 2) := by decide +kernel
theorem d_M_tryOne_245 : decode b_M_tryOne 245 = .ok (.isub, 1) := by decide +kernel
theorem d_M_tryOne_246 : decode b_M_tryOne 246 = .ok (.i2l, 1) := by decide +kernel
theorem d_M_tryOne_247 : decode b_M_tryOne 247 = .ok (.lstore 25, 2) := by decide +kernel
theorem d_M_tryOne_249 : decode b_M_tryOne 249 = .ok (.lload 22, 2) := by decide +kernel
theorem d_M_tryOne_251 : decode b_M_tryOne 251 = .ok (.lload 25, 2) := by decide +kernel
theorem d_M_tryOne_253 : decode b_M_tryOne 253 = .ok (.lload 25, 2) := by decide +kernel
theorem d_M_tryOne_255 : decode b_M_tryOne 255 = .ok (.lmul, 1) := by decide +kernel
theorem d_M_tryOne_256 : decode b_M_tryOne 256 = .ok (.ladd, 1) := by decide +kernel
theorem d_M_tryOne_257 : decode b_M_tryOne 257 = .ok (.lstore 22, 2) := by decide +kernel
theorem d_M_tryOne_259 : decode b_M_tryOne 259 = .ok (.iinc 24 1, 3) := by decide +kernel
theorem d_M_tryOne_262 : decode b_M_tryOne 262 = .ok (.goto (-47), 3) := by decide +kernel
theorem d_M_tryOne_265 : decode b_M_tryOne 265 = .ok (.aload_n 0, 1) := by decide +kernel
theorem d_M_tryOne_266 : decode b_M_tryOne 266 = .ok (.getfield 91, 3) := by decide +kernel
theorem d_M_tryOne_269 : decode b_M_tryOne 269 = .ok (.lconst 0, 1) := by decide +kernel
theorem d_M_tryOne_270 : decode b_M_tryOne 270 = .ok (.lcmp, 1) := by decide +kernel
theorem d_M_tryOne_271 : decode b_M_tryOne 271 = .ok (.ifCond .lt 13, 3) := by decide +kernel
theorem d_M_tryOne_274 : decode b_M_tryOne 274 = .ok (.lload 22, 2) := by decide +kernel
theorem d_M_tryOne_276 : decode b_M_tryOne 276 = .ok (.aload_n 0, 1) := by decide +kernel
theorem d_M_tryOne_277 : decode b_M_tryOne 277 = .ok (.getfield 91, 3) := by decide +kernel
theorem d_M_tryOne_280 : decode b_M_tryOne 280 = .ok (.lcmp, 1) := by decide +kernel
theorem d_M_tryOne_281 : decode b_M_tryOne 281 = .ok (.ifCond .ge 39, 3) := by decide +kernel
theorem d_M_tryOne_284 : decode b_M_tryOne 284 = .ok (.aload_n 0, 1) := by decide +kernel
theorem d_M_tryOne_285 : decode b_M_tryOne 285 = .ok (.lload 22, 2) := by decide +kernel
theorem d_M_tryOne_287 : decode b_M_tryOne 287 = .ok (.putfield 91, 3) := by decide +kernel
theorem d_M_tryOne_290 : decode b_M_tryOne 290 = .ok (.aload_n 0, 1) := by decide +kernel
theorem d_M_tryOne_291 : decode b_M_tryOne 291 = .ok (.getfield 43, 3) := by decide +kernel
theorem d_M_tryOne_294 : decode b_M_tryOne 294 = .ok (.iconst 0, 1) := by decide +kernel
theorem d_M_tryOne_295 : decode b_M_tryOne 295 = .ok (.iload_n 2, 1) := by decide +kernel
theorem d_M_tryOne_296 : decode b_M_tryOne 296 = .ok (.iastore, 1) := by decide +kernel
theorem d_M_tryOne_297 : decode b_M_tryOne 297 = .ok (.aload_n 0, 1) := by decide +kernel
theorem d_M_tryOne_298 : decode b_M_tryOne 298 = .ok (.getfield 43, 3) := by decide +kernel
theorem d_M_tryOne_301 : decode b_M_tryOne 301 = .ok (.iconst 1, 1) := by decide +kernel
theorem d_M_tryOne_302 : decode b_M_tryOne 302 = .ok (.iload_n 3, 1) := by decide +kernel
theorem d_M_tryOne_303 : decode b_M_tryOne 303 = .ok (.iastore, 1) := by decide +kernel
theorem d_M_tryOne_304 : decode b_M_tryOne 304 = .ok (.aload_n 0, 1) := by decide +kernel
theorem d_M_tryOne_305 : decode b_M_tryOne 305 = .ok (.getfield 43, 3) := by decide +kernel
theorem d_M_tryOne_308 : decode b_M_tryOne 308 = .ok (.iconst 2, 1) := by decide +kernel
theorem d_M_tryOne_309 : decode b_M_tryOne 309 = .ok (.iload 18, 2) := by decide +kernel
theorem d_M_tryOne_311 : decode b_M_tryOne 311 = .ok (.iastore, 1) := by decide +kernel
theorem d_M_tryOne_312 : decode b_M_tryOne 312 = .ok (.aload_n 0, 1) := by decide +kernel
theorem d_M_tryOne_313 : decode b_M_tryOne 313 = .ok (.getfield 43, 3) := by decide +kernel
theorem d_M_tryOne_316 : decode b_M_tryOne 316 = .ok (.iconst 3, 1) := by decide +kernel
theorem d_M_tryOne_317 : decode b_M_tryOne 317 = .ok (.iload 21, 2) := by decide +kernel
theorem d_M_tryOne_319 : decode b_M_tryOne 319 = .ok (.iastore, 1) := by decide +kernel
theorem d_M_tryOne_320 : decode b_M_tryOne 320 = .ok (.return_, 1) := by decide +kernel
theorem d_M_nearest_0 : decode b_M_nearest 0 = .ok (.ldc2_w 53, 3) := by decide +kernel
theorem d_M_nearest_3 : decode b_M_nearest 3 = .ok (.lload_n 0, 1) := by decide +kernel
theorem d_M_nearest_4 : decode b_M_nearest 4 = .ok (.lmul, 1) := by decide +kernel
theorem d_M_nearest_5 : decode b_M_nearest 5 = .ok (.lload_n 2, 1) := by decide +kernel
theorem d_M_nearest_6 : decode b_M_nearest 6 = .ok (.ladd, 1) := by decide +kernel
theorem d_M_nearest_7 : decode b_M_nearest 7 = .ok (.lstore 4, 2) := by decide +kernel
theorem d_M_nearest_9 : decode b_M_nearest 9 = .ok (.lload 4, 2) := by decide +kernel
theorem d_M_nearest_11 : decode b_M_nearest 11 = .ok (.ldc2_w 53, 3) := by decide +kernel
theorem d_M_nearest_14 : decode b_M_nearest 14 = .ok (.lload_n 2, 1) := by decide +kernel
theorem d_M_nearest_15 : decode b_M_nearest 15 = .ok (.lmul, 1) := by decide +kernel
theorem d_M_nearest_16 : decode b_M_nearest 16 = .ok (.ldiv, 1) := by decide +kernel
theorem d_M_nearest_17 : decode b_M_nearest 17 = .ok (.lstore 6, 2) := by decide +kernel
theorem d_M_nearest_19 : decode b_M_nearest 19 = .ok (.lload 4, 2) := by decide +kernel
theorem d_M_nearest_21 : decode b_M_nearest 21 = .ok (.lconst 0, 1) := by decide +kernel
theorem d_M_nearest_22 : decode b_M_nearest 22 = .ok (.lcmp, 1) := by decide +kernel
theorem d_M_nearest_23 : decode b_M_nearest 23 = .ok (.ifCond .ge 24, 3) := by decide +kernel
theorem d_M_nearest_26 : decode b_M_nearest 26 = .ok (.lload 6, 2) := by decide +kernel
theorem d_M_nearest_28 : decode b_M_nearest 28 = .ok (.ldc2_w 53, 3) := by decide +kernel
theorem d_M_nearest_31 : decode b_M_nearest 31 = .ok (.lmul, 1) := by decide +kernel
theorem d_M_nearest_32 : decode b_M_nearest 32 = .ok (.lload_n 2, 1) := by decide +kernel
theorem d_M_nearest_33 : decode b_M_nearest 33 = .ok (.lmul, 1) := by decide +kernel
theorem d_M_nearest_34 : decode b_M_nearest 34 = .ok (.lload 4, 2) := by decide +kernel
theorem d_M_nearest_36 : decode b_M_nearest 36 = .ok (.lcmp, 1) := by decide +kernel
theorem d_M_nearest_37 : decode b_M_nearest 37 = .ok (.ifCond .eq 10, 3) := by decide +kernel
theorem d_M_nearest_40 : decode b_M_nearest 40 = .ok (.lload 6, 2) := by decide +kernel
theorem d_M_nearest_42 : decode b_M_nearest 42 = .ok (.lconst 1, 1) := by decide +kernel
theorem d_M_nearest_43 : decode b_M_nearest 43 = .ok (.lsub, 1) := by decide +kernel
theorem d_M_nearest_44 : decode b_M_nearest 44 = .ok (.goto 5, 3) := by decide +kernel
theorem d_M_nearest_47 : decode b_M_nearest 47 = .ok (.lload 6, 2) := by decide +kernel
theorem d_M_nearest_49 : decode b_M_nearest 49 = .ok (.lreturn, 1) := by decide +kernel
