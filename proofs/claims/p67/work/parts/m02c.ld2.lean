theorem dL_act_239 : decode cL_act 239 = .ok (.bipush 60, 2) := by decide +kernel
theorem dL_act_241 : decode cL_act 241 = .ok (.irem, 1) := by decide +kernel
theorem dL_act_242 : decode cL_act 242 = .ok (.iadd, 1) := by decide +kernel
theorem dL_act_243 : decode cL_act 243 = .ok (.invokestatic 187, 3) := by decide +kernel
theorem dL_act_246 : decode cL_act 246 = .ok (.pop, 1) := by decide +kernel
theorem dL_act_247 : decode cL_act 247 = .ok (.goto 65, 3) := by decide +kernel
theorem dL_act_250 : decode cL_act 250 = .ok (.aload_n 0, 1) := by decide +kernel
theorem dL_act_251 : decode cL_act 251 = .ok (.iload 5, 2) := by decide +kernel
theorem dL_act_253 : decode cL_act 253 = .ok (.iload 6, 2) := by decide +kernel
theorem dL_act_255 : decode cL_act 255 = .ok (.sipush 3001, 3) := by decide +kernel
theorem dL_act_258 : decode cL_act 258 = .ok (.irem, 1) := by decide +kernel
theorem dL_act_259 : decode cL_act 259 = .ok (.iconst 1, 1) := by decide +kernel
theorem dL_act_260 : decode cL_act 260 = .ok (.iload 6, 2) := by decide +kernel
theorem dL_act_262 : decode cL_act 262 = .ok (.sipush 4096, 3) := by decide +kernel
theorem dL_act_265 : decode cL_act 265 = .ok (.idiv, 1) := by decide +kernel
theorem dL_act_266 : decode cL_act 266 = .ok (.bipush 120, 2) := by decide +kernel
theorem dL_act_268 : decode cL_act 268 = .ok (.irem, 1) := by decide +kernel
theorem dL_act_269 : decode cL_act 269 = .ok (.iadd, 1) := by decide +kernel
theorem dL_act_270 : decode cL_act 270 = .ok (.invokestatic 189, 3) := by decide +kernel
theorem dL_act_273 : decode cL_act 273 = .ok (.pop, 1) := by decide +kernel
theorem dL_act_274 : decode cL_act 274 = .ok (.goto 38, 3) := by decide +kernel
theorem dL_act_277 : decode cL_act 277 = .ok (.aload_n 0, 1) := by decide +kernel
theorem dL_act_278 : decode cL_act 278 = .ok (.iload 6, 2) := by decide +kernel
theorem dL_act_280 : decode cL_act 280 = .ok (.invokestatic 167, 3) := by decide +kernel
theorem dL_act_283 : decode cL_act 283 = .ok (.invokestatic 191, 3) := by decide +kernel
theorem dL_act_286 : decode cL_act 286 = .ok (.pop, 1) := by decide +kernel
theorem dL_act_287 : decode cL_act 287 = .ok (.goto 25, 3) := by decide +kernel
theorem dL_act_290 : decode cL_act 290 = .ok (.iconst 0, 1) := by decide +kernel
theorem dL_act_291 : decode cL_act 291 = .ok (.istore 7, 2) := by decide +kernel
theorem dL_act_293 : decode cL_act 293 = .ok (.iload 7, 2) := by decide +kernel
theorem dL_act_295 : decode cL_act 295 = .ok (.iconst 3, 1) := by decide +kernel
theorem dL_act_296 : decode cL_act 296 = .ok (.if_icmp .ge 16, 3) := by decide +kernel
theorem dL_act_299 : decode cL_act 299 = .ok (.aload_n 0, 1) := by decide +kernel
theorem dL_act_300 : decode cL_act 300 = .ok (.iload 5, 2) := by decide +kernel
theorem dL_act_302 : decode cL_act 302 = .ok (.invokestatic 173, 3) := by decide +kernel
theorem dL_act_305 : decode cL_act 305 = .ok (.pop, 1) := by decide +kernel
theorem dL_act_306 : decode cL_act 306 = .ok (.iinc 7 1, 3) := by decide +kernel
theorem dL_act_309 : decode cL_act 309 = .ok (.goto (-16), 3) := by decide +kernel
theorem dL_act_312 : decode cL_act 312 = .ok (.return_, 1) := by decide +kernel
theorem dL_isSound_0 : decode cL_isSound 0 = .ok (.aload_n 0, 1) := by decide +kernel
theorem dL_isSound_1 : decode cL_isSound 1 = .ok (.invokevirtual 193, 3) := by decide +kernel
theorem dL_isSound_4 : decode cL_isSound 4 = .ok (.ifCond .eq 5, 3) := by decide +kernel
theorem dL_isSound_7 : decode cL_isSound 7 = .ok (.iconst 0, 1) := by decide +kernel
theorem dL_isSound_8 : decode cL_isSound 8 = .ok (.ireturn, 1) := by decide +kernel
theorem dL_isSound_9 : decode cL_isSound 9 = .ok (.iconst 0, 1) := by decide +kernel
theorem dL_isSound_10 : decode cL_isSound 10 = .ok (.istore_n 1, 1) := by decide +kernel
theorem dL_isSound_11 : decode cL_isSound 11 = .ok (.iconst 0, 1) := by decide +kernel
theorem dL_isSound_12 : decode cL_isSound 12 = .ok (.istore_n 2, 1) := by decide +kernel
theorem dL_isSound_13 : decode cL_isSound 13 = .ok (.iconst 0, 1) := by decide +kernel
theorem dL_isSound_14 : decode cL_isSound 14 = .ok (.istore_n 3, 1) := by decide +kernel
theorem dL_isSound_15 : decode cL_isSound 15 = .ok (.iconst 0, 1) := by decide +kernel
theorem dL_isSound_16 : decode cL_isSound 16 = .ok (.istore 4, 2) := by decide +kernel
theorem dL_isSound_18 : decode cL_isSound 18 = .ok (.iconst 0, 1) := by decide +kernel
theorem dL_isSound_19 : decode cL_isSound 19 = .ok (.istore 5, 2) := by decide +kernel
theorem dL_isSound_21 : decode cL_isSound 21 = .ok (.iload 5, 2) := by decide +kernel
theorem dL_isSound_23 : decode cL_isSound 23 = .ok (.aload_n 0, 1) := by decide +kernel
theorem dL_isSound_24 : decode cL_isSound 24 = .ok (.invokevirtual 156, 3) := by decide +kernel
theorem dL_isSound_27 : decode cL_isSound 27 = .ok (.if_icmp .ge 378, 3) := by decide +kernel
theorem dL_isSound_30 : decode cL_isSound 30 = .ok (.aload_n 0, 1) := by decide +kernel
theorem dL_isSound_31 : decode cL_isSound 31 = .ok (.iload 5, 2) := by decide +kernel
theorem dL_isSound_33 : decode cL_isSound 33 = .ok (.invokestatic 196, 3) := by decide +kernel
theorem dL_isSound_36 : decode cL_isSound 36 = .ok (.istore 6, 2) := by decide +kernel
theorem dL_isSound_38 : decode cL_isSound 38 = .ok (.aload_n 0, 1) := by decide +kernel
theorem dL_isSound_39 : decode cL_isSound 39 = .ok (.iload 5, 2) := by decide +kernel
theorem dL_isSound_41 : decode cL_isSound 41 = .ok (.invokestatic 198, 3) := by decide +kernel
theorem dL_isSound_44 : decode cL_isSound 44 = .ok (.istore 7, 2) := by decide +kernel
theorem dL_isSound_46 : decode cL_isSound 46 = .ok (.iload 7, 2) := by decide +kernel
theorem dL_isSound_48 : decode cL_isSound 48 = .ok (.iload 6, 2) := by decide +kernel
theorem dL_isSound_50 : decode cL_isSound 50 = .ok (.ifCond .le 7, 3) := by decide +kernel
theorem dL_isSound_53 : decode cL_isSound 53 = .ok (.iconst 1, 1) := by decide +kernel
theorem dL_isSound_54 : decode cL_isSound 54 = .ok (.goto 4, 3) := by decide +kernel
theorem dL_isSound_57 : decode cL_isSound 57 = .ok (.iconst 0, 1) := by decide +kernel
theorem dL_isSound_58 : decode cL_isSound 58 = .ok (.if_icmp .ne 33, 3) := by decide +kernel
theorem dL_isSound_61 : decode cL_isSound 61 = .ok (.iload 6, 2) := by decide +kernel
theorem dL_isSound_63 : decode cL_isSound 63 = .ok (.ifCond .lt 28, 3) := by decide +kernel
theorem dL_isSound_66 : decode cL_isSound 66 = .ok (.aload_n 0, 1) := by decide +kernel
theorem dL_isSound_67 : decode cL_isSound 67 = .ok (.iload 5, 2) := by decide +kernel
theorem dL_isSound_69 : decode cL_isSound 69 = .ok (.invokestatic 201, 3) := by decide +kernel
theorem dL_isSound_72 : decode cL_isSound 72 = .ok (.aload_n 0, 1) := by decide +kernel
theorem dL_isSound_73 : decode cL_isSound 73 = .ok (.iload 5, 2) := by decide +kernel
theorem dL_isSound_75 : decode cL_isSound 75 = .ok (.invokestatic 203, 3) := by decide +kernel
theorem dL_isSound_78 : decode cL_isSound 78 = .ok (.iadd, 1) := by decide +kernel
theorem dL_isSound_79 : decode cL_isSound 79 = .ok (.aload_n 0, 1) := by decide +kernel
theorem dL_isSound_80 : decode cL_isSound 80 = .ok (.iload 5, 2) := by decide +kernel
theorem dL_isSound_82 : decode cL_isSound 82 = .ok (.invokestatic 205, 3) := by decide +kernel
theorem dL_isSound_85 : decode cL_isSound 85 = .ok (.isub, 1) := by decide +kernel
theorem dL_isSound_86 : decode cL_isSound 86 = .ok (.iload 6, 2) := by decide +kernel
theorem dL_isSound_88 : decode cL_isSound 88 = .ok (.if_icmp .eq 5, 3) := by decide +kernel
theorem dL_isSound_91 : decode cL_isSound 91 = .ok (.iconst 0, 1) := by decide +kernel
theorem dL_isSound_92 : decode cL_isSound 92 = .ok (.ireturn, 1) := by decide +kernel
theorem dL_isSound_93 : decode cL_isSound 93 = .ok (.aload_n 0, 1) := by decide +kernel
theorem dL_isSound_94 : decode cL_isSound 94 = .ok (.iload 5, 2) := by decide +kernel
theorem dL_isSound_96 : decode cL_isSound 96 = .ok (.invokestatic 207, 3) := by decide +kernel
theorem dL_isSound_99 : decode cL_isSound 99 = .ok (.ifCond .lt 43, 3) := by decide +kernel
theorem dL_isSound_102 : decode cL_isSound 102 = .ok (.aload_n 0, 1) := by decide +kernel
theorem dL_isSound_103 : decode cL_isSound 103 = .ok (.iload 5, 2) := by decide +kernel
theorem dL_isSound_105 : decode cL_isSound 105 = .ok (.invokestatic 207, 3) := by decide +kernel
theorem dL_isSound_108 : decode cL_isSound 108 = .ok (.ldc 209, 2) := by decide +kernel
theorem dL_isSound_110 : decode cL_isSound 110 = .ok (.if_icmp .gt 32, 3) := by decide +kernel
theorem dL_isSound_113 : decode cL_isSound 113 = .ok (.aload_n 0, 1) := by decide +kernel
theorem dL_isSound_114 : decode cL_isSound 114 = .ok (.iload 5, 2) := by decide +kernel
theorem dL_isSound_116 : decode cL_isSound 116 = .ok (.invokestatic 210, 3) := by decide +kernel
theorem dL_isSound_119 : decode cL_isSound 119 = .ok (.ifCond .lt 23, 3) := by decide +kernel
theorem dL_isSound_122 : decode cL_isSound 122 = .ok (.aload_n 0, 1) := by decide +kernel
theorem dL_isSound_123 : decode cL_isSound 123 = .ok (.iload 5, 2) := by decide +kernel
theorem dL_isSound_125 : decode cL_isSound 125 = .ok (.invokestatic 210, 3) := by decide +kernel
theorem dL_isSound_128 : decode cL_isSound 128 = .ok (.bipush 6, 2) := by decide +kernel
theorem dL_isSound_130 : decode cL_isSound 130 = .ok (.if_icmp .gt 12, 3) := by decide +kernel
theorem dL_isSound_133 : decode cL_isSound 133 = .ok (.aload_n 0, 1) := by decide +kernel
theorem dL_isSound_134 : decode cL_isSound 134 = .ok (.iload 5, 2) := by decide +kernel
theorem dL_isSound_136 : decode cL_isSound 136 = .ok (.invokestatic 212, 3) := by decide +kernel
theorem dL_isSound_139 : decode cL_isSound 139 = .ok (.ifCond .ge 5, 3) := by decide +kernel
theorem dL_isSound_142 : decode cL_isSound 142 = .ok (.iconst 0, 1) := by decide +kernel
theorem dL_isSound_143 : decode cL_isSound 143 = .ok (.ireturn, 1) := by decide +kernel
theorem dL_isSound_144 : decode cL_isSound 144 = .ok (.iload 7, 2) := by decide +kernel
theorem dL_isSound_146 : decode cL_isSound 146 = .ok (.ifCond .ne 68, 3) := by decide +kernel
theorem dL_isSound_149 : decode cL_isSound 149 = .ok (.aload_n 0, 1) := by decide +kernel
theorem dL_isSound_150 : decode cL_isSound 150 = .ok (.iload 5, 2) := by decide +kernel
theorem dL_isSound_152 : decode cL_isSound 152 = .ok (.invokestatic 214, 3) := by decide +kernel
theorem dL_isSound_155 : decode cL_isSound 155 = .ok (.ifCond .ne 57, 3) := by decide +kernel
theorem dL_isSound_158 : decode cL_isSound 158 = .ok (.aload_n 0, 1) := by decide +kernel
theorem dL_isSound_159 : decode cL_isSound 159 = .ok (.iload 5, 2) := by decide +kernel
theorem dL_isSound_161 : decode cL_isSound 161 = .ok (.invokestatic 216, 3) := by decide +kernel
theorem dL_isSound_164 : decode cL_isSound 164 = .ok (.ifCond .ne 48, 3) := by decide +kernel
theorem dL_isSound_167 : decode cL_isSound 167 = .ok (.aload_n 0, 1) := by decide +kernel
theorem dL_isSound_168 : decode cL_isSound 168 = .ok (.iload 5, 2) := by decide +kernel
theorem dL_isSound_170 : decode cL_isSound 170 = .ok (.invokestatic 207, 3) := by decide +kernel
theorem dL_isSound_173 : decode cL_isSound 173 = .ok (.ifCond .ne 39, 3) := by decide +kernel
theorem dL_isSound_176 : decode cL_isSound 176 = .ok (.aload_n 0, 1) := by decide +kernel
theorem dL_isSound_177 : decode cL_isSound 177 = .ok (.iload 5, 2) := by decide +kernel
theorem dL_isSound_179 : decode cL_isSound 179 = .ok (.invokestatic 218, 3) := by decide +kernel
theorem dL_isSound_182 : decode cL_isSound 182 = .ok (.ifCond .ne 30, 3) := by decide +kernel
theorem dL_isSound_185 : decode cL_isSound 185 = .ok (.aload_n 0, 1) := by decide +kernel
theorem dL_isSound_186 : decode cL_isSound 186 = .ok (.iload 5, 2) := by decide +kernel
theorem dL_isSound_188 : decode cL_isSound 188 = .ok (.invokestatic 220, 3) := by decide +kernel
theorem dL_isSound_191 : decode cL_isSound 191 = .ok (.ifCond .ne 21, 3) := by decide +kernel
theorem dL_isSound_194 : decode cL_isSound 194 = .ok (.aload_n 0, 1) := by decide +kernel
theorem dL_isSound_195 : decode cL_isSound 195 = .ok (.iload 5, 2) := by decide +kernel
theorem dL_isSound_197 : decode cL_isSound 197 = .ok (.invokestatic 222, 3) := by decide +kernel
theorem dL_isSound_200 : decode cL_isSound 200 = .ok (.ifCond .ne 12, 3) := by decide +kernel
theorem dL_isSound_203 : decode cL_isSound 203 = .ok (.aload_n 0, 1) := by decide +kernel
theorem dL_isSound_204 : decode cL_isSound 204 = .ok (.iload 5, 2) := by decide +kernel
theorem dL_isSound_206 : decode cL_isSound 206 = .ok (.invokestatic 224, 3) := by decide +kernel
theorem dL_isSound_209 : decode cL_isSound 209 = .ok (.ifCond .eq 5, 3) := by decide +kernel
theorem dL_isSound_212 : decode cL_isSound 212 = .ok (.iconst 0, 1) := by decide +kernel
theorem dL_isSound_213 : decode cL_isSound 213 = .ok (.ireturn, 1) := by decide +kernel
theorem dL_isSound_214 : decode cL_isSound 214 = .ok (.iload 7, 2) := by decide +kernel
theorem dL_isSound_216 : decode cL_isSound 216 = .ok (.ifCond .eq 158, 3) := by decide +kernel
theorem dL_isSound_219 : decode cL_isSound 219 = .ok (.iinc 1 1, 3) := by decide +kernel
theorem dL_isSound_222 : decode cL_isSound 222 = .ok (.aload_n 0, 1) := by decide +kernel
theorem dL_isSound_223 : decode cL_isSound 223 = .ok (.iload 5, 2) := by decide +kernel
theorem dL_isSound_225 : decode cL_isSound 225 = .ok (.invokestatic 214, 3) := by decide +kernel
theorem dL_isSound_228 : decode cL_isSound 228 = .ok (.iconst 1, 1) := by decide +kernel
theorem dL_isSound_229 : decode cL_isSound 229 = .ok (.if_icmp .lt 49, 3) := by decide +kernel
theorem dL_isSound_232 : decode cL_isSound 232 = .ok (.aload_n 0, 1) := by decide +kernel
theorem dL_isSound_233 : decode cL_isSound 233 = .ok (.iload 5, 2) := by decide +kernel
theorem dL_isSound_235 : decode cL_isSound 235 = .ok (.invokestatic 214, 3) := by decide +kernel
theorem dL_isSound_238 : decode cL_isSound 238 = .ok (.bipush 120, 2) := by decide +kernel
theorem dL_isSound_240 : decode cL_isSound 240 = .ok (.if_icmp .gt 38, 3) := by decide +kernel
theorem dL_isSound_243 : decode cL_isSound 243 = .ok (.aload_n 0, 1) := by decide +kernel
theorem dL_isSound_244 : decode cL_isSound 244 = .ok (.iload 5, 2) := by decide +kernel
theorem dL_isSound_246 : decode cL_isSound 246 = .ok (.invokestatic 216, 3) := by decide +kernel
theorem dL_isSound_249 : decode cL_isSound 249 = .ok (.iconst 1, 1) := by decide +kernel
theorem dL_isSound_250 : decode cL_isSound 250 = .ok (.if_icmp .lt 28, 3) := by decide +kernel
theorem dL_isSound_253 : decode cL_isSound 253 = .ok (.aload_n 0, 1) := by decide +kernel
theorem dL_isSound_254 : decode cL_isSound 254 = .ok (.iload 5, 2) := by decide +kernel
theorem dL_isSound_256 : decode cL_isSound 256 = .ok (.invokestatic 224, 3) := by decide +kernel
theorem dL_isSound_259 : decode cL_isSound 259 = .ok (.aload_n 0, 1) := by decide +kernel
theorem dL_isSound_260 : decode cL_isSound 260 = .ok (.iload 5, 2) := by decide +kernel
theorem dL_isSound_262 : decode cL_isSound 262 = .ok (.invokestatic 216, 3) := by decide +kernel
theorem dL_isSound_265 : decode cL_isSound 265 = .ok (.if_icmp .gt 13, 3) := by decide +kernel
theorem dL_isSound_268 : decode cL_isSound 268 = .ok (.aload_n 0, 1) := by decide +kernel
theorem dL_isSound_269 : decode cL_isSound 269 = .ok (.iload 5, 2) := by decide +kernel
theorem dL_isSound_271 : decode cL_isSound 271 = .ok (.invokestatic 224, 3) := by decide +kernel
theorem dL_isSound_274 : decode cL_isSound 274 = .ok (.iconst 1, 1) := by decide +kernel
theorem dL_isSound_275 : decode cL_isSound 275 = .ok (.if_icmp .ge 5, 3) := by decide +kernel
theorem dL_isSound_278 : decode cL_isSound 278 = .ok (.iconst 0, 1) := by decide +kernel
theorem dL_isSound_279 : decode cL_isSound 279 = .ok (.ireturn, 1) := by decide +kernel
theorem dL_isSound_280 : decode cL_isSound 280 = .ok (.iload 6, 2) := by decide +kernel
theorem dL_isSound_282 : decode cL_isSound 282 = .ok (.i2l, 1) := by decide +kernel
theorem dL_isSound_283 : decode cL_isSound 283 = .ok (.aload_n 0, 1) := by decide +kernel
theorem dL_isSound_284 : decode cL_isSound 284 = .ok (.iload 5, 2) := by decide +kernel
theorem dL_isSound_286 : decode cL_isSound 286 = .ok (.invokestatic 226, 3) := by decide +kernel
theorem dL_isSound_289 : decode cL_isSound 289 = .ok (.i2l, 1) := by decide +kernel
theorem dL_isSound_290 : decode cL_isSound 290 = .ok (.lmul, 1) := by decide +kernel
theorem dL_isSound_291 : decode cL_isSound 291 = .ok (.aload_n 0, 1) := by decide +kernel
theorem dL_isSound_292 : decode cL_isSound 292 = .ok (.iload 5, 2) := by decide +kernel
theorem dL_isSound_294 : decode cL_isSound 294 = .ok (.invokestatic 207, 3) := by decide +kernel
theorem dL_isSound_297 : decode cL_isSound 297 = .ok (.i2l, 1) := by decide +kernel
theorem dL_isSound_298 : decode cL_isSound 298 = .ok (.ladd, 1) := by decide +kernel
theorem dL_isSound_299 : decode cL_isSound 299 = .ok (.lstore 8, 2) := by decide +kernel
theorem dL_isSound_301 : decode cL_isSound 301 = .ok (.aload_n 0, 1) := by decide +kernel
theorem dL_isSound_302 : decode cL_isSound 302 = .ok (.iload 5, 2) := by decide +kernel
theorem dL_isSound_304 : decode cL_isSound 304 = .ok (.invokestatic 220, 3) := by decide +kernel
theorem dL_isSound_307 : decode cL_isSound 307 = .ok (.i2l, 1) := by decide +kernel
theorem dL_isSound_308 : decode cL_isSound 308 = .ok (.lload 8, 2) := by decide +kernel
theorem dL_isSound_310 : decode cL_isSound 310 = .ok (.ldc2_w 228, 3) := by decide +kernel
theorem dL_isSound_313 : decode cL_isSound 313 = .ok (.ldiv, 1) := by decide +kernel
theorem dL_isSound_314 : decode cL_isSound 314 = .ok (.lcmp, 1) := by decide +kernel
theorem dL_isSound_315 : decode cL_isSound 315 = .ok (.ifCond .eq 5, 3) := by decide +kernel
theorem dL_isSound_318 : decode cL_isSound 318 = .ok (.iconst 0, 1) := by decide +kernel
theorem dL_isSound_319 : decode cL_isSound 319 = .ok (.ireturn, 1) := by decide +kernel
theorem dL_isSound_320 : decode cL_isSound 320 = .ok (.iload 6, 2) := by decide +kernel
theorem dL_isSound_322 : decode cL_isSound 322 = .ok (.aload_n 0, 1) := by decide +kernel
theorem dL_isSound_323 : decode cL_isSound 323 = .ok (.iload 5, 2) := by decide +kernel
theorem dL_isSound_325 : decode cL_isSound 325 = .ok (.invokestatic 220, 3) := by decide +kernel
theorem dL_isSound_328 : decode cL_isSound 328 = .ok (.iadd, 1) := by decide +kernel
theorem dL_isSound_329 : decode cL_isSound 329 = .ok (.istore 10, 2) := by decide +kernel
theorem dL_isSound_331 : decode cL_isSound 331 = .ok (.aload_n 0, 1) := by decide +kernel
theorem dL_isSound_332 : decode cL_isSound 332 = .ok (.iload 5, 2) := by decide +kernel
theorem dL_isSound_334 : decode cL_isSound 334 = .ok (.invokestatic 218, 3) := by decide +kernel
theorem dL_isSound_337 : decode cL_isSound 337 = .ok (.iload 10, 2) := by decide +kernel
theorem dL_isSound_339 : decode cL_isSound 339 = .ok (.aload_n 0, 1) := by decide +kernel
theorem dL_isSound_340 : decode cL_isSound 340 = .ok (.iload 5, 2) := by decide +kernel
theorem dL_isSound_342 : decode cL_isSound 342 = .ok (.invokestatic 216, 3) := by decide +kernel
theorem dL_isSound_345 : decode cL_isSound 345 = .ok (.if_icmp .le 13, 3) := by decide +kernel
theorem dL_isSound_348 : decode cL_isSound 348 = .ok (.aload_n 0, 1) := by decide +kernel
theorem dL_isSound_349 : decode cL_isSound 349 = .ok (.iload 5, 2) := by decide +kernel
theorem dL_isSound_351 : decode cL_isSound 351 = .ok (.invokestatic 214, 3) := by decide +kernel
theorem dL_isSound_354 : decode cL_isSound 354 = .ok (.iconst 1, 1) := by decide +kernel
theorem dL_isSound_355 : decode cL_isSound 355 = .ok (.if_icmp .ne 8, 3) := by decide +kernel
theorem dL_isSound_358 : decode cL_isSound 358 = .ok (.iload 10, 2) := by decide +kernel
theorem dL_isSound_360 : decode cL_isSound 360 = .ok (.goto 9, 3) := by decide +kernel
theorem dL_isSound_363 : decode cL_isSound 363 = .ok (.aload_n 0, 1) := by decide +kernel
theorem dL_isSound_364 : decode cL_isSound 364 = .ok (.iload 5, 2) := by decide +kernel
theorem dL_isSound_366 : decode cL_isSound 366 = .ok (.invokestatic 216, 3) := by decide +kernel
theorem dL_isSound_369 : decode cL_isSound 369 = .ok (.if_icmp .eq 5, 3) := by decide +kernel
theorem dL_isSound_372 : decode cL_isSound 372 = .ok (.iconst 0, 1) := by decide +kernel
theorem dL_isSound_373 : decode cL_isSound 373 = .ok (.ireturn, 1) := by decide +kernel
theorem dL_isSound_374 : decode cL_isSound 374 = .ok (.iload_n 2, 1) := by decide +kernel
theorem dL_isSound_375 : decode cL_isSound 375 = .ok (.iload 6, 2) := by decide +kernel
theorem dL_isSound_377 : decode cL_isSound 377 = .ok (.iadd, 1) := by decide +kernel
theorem dL_isSound_378 : decode cL_isSound 378 = .ok (.istore_n 2, 1) := by decide +kernel
theorem dL_isSound_379 : decode cL_isSound 379 = .ok (.iload_n 3, 1) := by decide +kernel
theorem dL_isSound_380 : decode cL_isSound 380 = .ok (.aload_n 0, 1) := by decide +kernel
theorem dL_isSound_381 : decode cL_isSound 381 = .ok (.iload 5, 2) := by decide +kernel
theorem dL_isSound_383 : decode cL_isSound 383 = .ok (.invokestatic 218, 3) := by decide +kernel
theorem dL_isSound_386 : decode cL_isSound 386 = .ok (.iadd, 1) := by decide +kernel
theorem dL_isSound_387 : decode cL_isSound 387 = .ok (.istore_n 3, 1) := by decide +kernel
theorem dL_isSound_388 : decode cL_isSound 388 = .ok (.iload 4, 2) := by decide +kernel
theorem dL_isSound_390 : decode cL_isSound 390 = .ok (.aload_n 0, 1) := by decide +kernel
theorem dL_isSound_391 : decode cL_isSound 391 = .ok (.iload 5, 2) := by decide +kernel
theorem dL_isSound_393 : decode cL_isSound 393 = .ok (.invokestatic 222, 3) := by decide +kernel
theorem dL_isSound_396 : decode cL_isSound 396 = .ok (.iadd, 1) := by decide +kernel
theorem dL_isSound_397 : decode cL_isSound 397 = .ok (.istore 4, 2) := by decide +kernel
theorem dL_isSound_399 : decode cL_isSound 399 = .ok (.iinc 5 1, 3) := by decide +kernel
theorem dL_isSound_402 : decode cL_isSound 402 = .ok (.goto (-381), 3) := by decide +kernel
theorem dL_isSound_405 : decode cL_isSound 405 = .ok (.aload_n 0, 1) := by decide +kernel
theorem dL_isSound_406 : decode cL_isSound 406 = .ok (.invokevirtual 230, 3) := by decide +kernel
theorem dL_isSound_409 : decode cL_isSound 409 = .ok (.iload_n 1, 1) := by decide +kernel
theorem dL_isSound_410 : decode cL_isSound 410 = .ok (.if_icmp .ne 32, 3) := by decide +kernel
theorem dL_isSound_413 : decode cL_isSound 413 = .ok (.aload_n 0, 1) := by decide +kernel
theorem dL_isSound_414 : decode cL_isSound 414 = .ok (.invokevirtual 233, 3) := by decide +kernel
theorem dL_isSound_417 : decode cL_isSound 417 = .ok (.iload_n 2, 1) := by decide +kernel
theorem dL_isSound_418 : decode cL_isSound 418 = .ok (.if_icmp .ne 24, 3) := by decide +kernel
theorem dL_isSound_421 : decode cL_isSound 421 = .ok (.aload_n 0, 1) := by decide +kernel
theorem dL_isSound_422 : decode cL_isSound 422 = .ok (.invokevirtual 236, 3) := by decide +kernel
theorem dL_isSound_425 : decode cL_isSound 425 = .ok (.iload_n 3, 1) := by decide +kernel
theorem dL_isSound_426 : decode cL_isSound 426 = .ok (.if_icmp .ne 16, 3) := by decide +kernel
theorem dL_isSound_429 : decode cL_isSound 429 = .ok (.aload_n 0, 1) := by decide +kernel
theorem dL_isSound_430 : decode cL_isSound 430 = .ok (.invokevirtual 239, 3) := by decide +kernel
theorem dL_isSound_433 : decode cL_isSound 433 = .ok (.iload 4, 2) := by decide +kernel
theorem dL_isSound_435 : decode cL_isSound 435 = .ok (.if_icmp .ne 7, 3) := by decide +kernel
theorem dL_isSound_438 : decode cL_isSound 438 = .ok (.iconst 1, 1) := by decide +kernel
theorem dL_isSound_439 : decode cL_isSound 439 = .ok (.goto 4, 3) := by decide +kernel
theorem dL_isSound_442 : decode cL_isSound 442 = .ok (.iconst 0, 1) := by decide +kernel
theorem dL_isSound_443 : decode cL_isSound 443 = .ok (.ireturn, 1) := by decide +kernel
theorem dL_isPaid_0 : decode cL_isPaid 0 = .ok (.aload_n 0, 1) := by decide +kernel
theorem dL_isPaid_1 : decode cL_isPaid 1 = .ok (.iload_n 1, 1) := by decide +kernel
theorem dL_isPaid_2 : decode cL_isPaid 2 = .ok (.invokestatic 196, 3) := by decide +kernel
theorem dL_isPaid_5 : decode cL_isPaid 5 = .ok (.i2l, 1) := by decide +kernel
theorem dL_isPaid_6 : decode cL_isPaid 6 = .ok (.lstore_n 2, 1) := by decide +kernel
theorem dL_isPaid_7 : decode cL_isPaid 7 = .ok (.aload_n 0, 1) := by decide +kernel
theorem dL_isPaid_8 : decode cL_isPaid 8 = .ok (.iload_n 1, 1) := by decide +kernel
theorem dL_isPaid_9 : decode cL_isPaid 9 = .ok (.invokestatic 207, 3) := by decide +kernel
theorem dL_isPaid_12 : decode cL_isPaid 12 = .ok (.i2l, 1) := by decide +kernel
theorem dL_isPaid_13 : decode cL_isPaid 13 = .ok (.lstore 4, 2) := by decide +kernel
theorem dL_isPaid_15 : decode cL_isPaid 15 = .ok (.lload 4, 2) := by decide +kernel
theorem dL_isPaid_17 : decode cL_isPaid 17 = .ok (.lstore 6, 2) := by decide +kernel
theorem dL_isPaid_19 : decode cL_isPaid 19 = .ok (.lconst 0, 1) := by decide +kernel
theorem dL_isPaid_20 : decode cL_isPaid 20 = .ok (.lstore 8, 2) := by decide +kernel
theorem dL_isPaid_22 : decode cL_isPaid 22 = .ok (.iconst 0, 1) := by decide +kernel
theorem dL_isPaid_23 : decode cL_isPaid 23 = .ok (.istore 10, 2) := by decide +kernel
theorem dL_isPaid_25 : decode cL_isPaid 25 = .ok (.aload_n 0, 1) := by decide +kernel
theorem dL_isPaid_26 : decode cL_isPaid 26 = .ok (.iload_n 1, 1) := by decide +kernel
theorem dL_isPaid_27 : decode cL_isPaid 27 = .ok (.invokestatic 214, 3) := by decide +kernel
theorem dL_isPaid_30 : decode cL_isPaid 30 = .ok (.istore 11, 2) := by decide +kernel
theorem dL_isPaid_32 : decode cL_isPaid 32 = .ok (.aload_n 0, 1) := by decide +kernel
theorem dL_isPaid_33 : decode cL_isPaid 33 = .ok (.iload_n 1, 1) := by decide +kernel
theorem dL_isPaid_34 : decode cL_isPaid 34 = .ok (.invokestatic 226, 3) := by decide +kernel
theorem dL_isPaid_37 : decode cL_isPaid 37 = .ok (.istore 12, 2) := by decide +kernel
theorem dL_isPaid_39 : decode cL_isPaid 39 = .ok (.lload_n 2, 1) := by decide +kernel
theorem dL_isPaid_40 : decode cL_isPaid 40 = .ok (.lconst 0, 1) := by decide +kernel
theorem dL_isPaid_41 : decode cL_isPaid 41 = .ok (.lcmp, 1) := by decide +kernel
theorem dL_isPaid_42 : decode cL_isPaid 42 = .ok (.ifCond .le 162, 3) := by decide +kernel
theorem dL_isPaid_45 : decode cL_isPaid 45 = .ok (.iload 10, 2) := by decide +kernel
theorem dL_isPaid_47 : decode cL_isPaid 47 = .ok (.iload 11, 2) := by decide +kernel
theorem dL_isPaid_49 : decode cL_isPaid 49 = .ok (.if_icmp .ge 155, 3) := by decide +kernel
theorem dL_isPaid_52 : decode cL_isPaid 52 = .ok (.lload_n 2, 1) := by decide +kernel
theorem dL_isPaid_53 : decode cL_isPaid 53 = .ok (.iload 12, 2) := by decide +kernel
theorem dL_isPaid_55 : decode cL_isPaid 55 = .ok (.i2l, 1) := by decide +kernel
theorem dL_isPaid_56 : decode cL_isPaid 56 = .ok (.lmul, 1) := by decide +kernel
theorem dL_isPaid_57 : decode cL_isPaid 57 = .ok (.lload 4, 2) := by decide +kernel
theorem dL_isPaid_59 : decode cL_isPaid 59 = .ok (.ladd, 1) := by decide +kernel
theorem dL_isPaid_60 : decode cL_isPaid 60 = .ok (.lstore 13, 2) := by decide +kernel
theorem dL_isPaid_62 : decode cL_isPaid 62 = .ok (.lload 6, 2) := by decide +kernel
theorem dL_isPaid_64 : decode cL_isPaid 64 = .ok (.lload_n 2, 1) := by decide +kernel
theorem dL_isPaid_65 : decode cL_isPaid 65 = .ok (.iload 12, 2) := by decide +kernel
theorem dL_isPaid_67 : decode cL_isPaid 67 = .ok (.i2l, 1) := by decide +kernel
theorem dL_isPaid_68 : decode cL_isPaid 68 = .ok (.lmul, 1) := by decide +kernel
theorem dL_isPaid_69 : decode cL_isPaid 69 = .ok (.ladd, 1) := by decide +kernel
theorem dL_isPaid_70 : decode cL_isPaid 70 = .ok (.lstore 6, 2) := by decide +kernel
theorem dL_isPaid_72 : decode cL_isPaid 72 = .ok (.lload 13, 2) := by decide +kernel
theorem dL_isPaid_74 : decode cL_isPaid 74 = .ok (.ldc2_w 228, 3) := by decide +kernel
theorem dL_isPaid_77 : decode cL_isPaid 77 = .ok (.ldiv, 1) := by decide +kernel
theorem dL_isPaid_78 : decode cL_isPaid 78 = .ok (.lstore 15, 2) := by decide +kernel
theorem dL_isPaid_80 : decode cL_isPaid 80 = .ok (.lload 13, 2) := by decide +kernel
theorem dL_isPaid_82 : decode cL_isPaid 82 = .ok (.ldc2_w 228, 3) := by decide +kernel
theorem dL_isPaid_85 : decode cL_isPaid 85 = .ok (.lrem, 1) := by decide +kernel
theorem dL_isPaid_86 : decode cL_isPaid 86 = .ok (.lstore 4, 2) := by decide +kernel
theorem dL_isPaid_88 : decode cL_isPaid 88 = .ok (.lload 8, 2) := by decide +kernel
theorem dL_isPaid_90 : decode cL_isPaid 90 = .ok (.lload 15, 2) := by decide +kernel
theorem dL_isPaid_92 : decode cL_isPaid 92 = .ok (.ladd, 1) := by decide +kernel
theorem dL_isPaid_93 : decode cL_isPaid 93 = .ok (.lstore 8, 2) := by decide +kernel
theorem dL_isPaid_95 : decode cL_isPaid 95 = .ok (.lload_n 2, 1) := by decide +kernel
theorem dL_isPaid_96 : decode cL_isPaid 96 = .ok (.lload 15, 2) := by decide +kernel
theorem dL_isPaid_98 : decode cL_isPaid 98 = .ok (.ladd, 1) := by decide +kernel
theorem dL_isPaid_99 : decode cL_isPaid 99 = .ok (.lstore 17, 2) := by decide +kernel
theorem dL_isPaid_101 : decode cL_isPaid 101 = .ok (.lload 17, 2) := by decide +kernel
theorem dL_isPaid_103 : decode cL_isPaid 103 = .ok (.aload_n 0, 1) := by decide +kernel
theorem dL_isPaid_104 : decode cL_isPaid 104 = .ok (.iload_n 1, 1) := by decide +kernel
theorem dL_isPaid_105 : decode cL_isPaid 105 = .ok (.invokestatic 216, 3) := by decide +kernel
theorem dL_isPaid_108 : decode cL_isPaid 108 = .ok (.i2l, 1) := by decide +kernel
theorem dL_isPaid_109 : decode cL_isPaid 109 = .ok (.lcmp, 1) := by decide +kernel
theorem dL_isPaid_110 : decode cL_isPaid 110 = .ok (.ifCond .le 12, 3) := by decide +kernel
theorem dL_isPaid_113 : decode cL_isPaid 113 = .ok (.iload 10, 2) := by decide +kernel
theorem dL_isPaid_115 : decode cL_isPaid 115 = .ok (.iconst 1, 1) := by decide +kernel
theorem dL_isPaid_116 : decode cL_isPaid 116 = .ok (.iadd, 1) := by decide +kernel
theorem dL_isPaid_117 : decode cL_isPaid 117 = .ok (.iload 11, 2) := by decide +kernel
theorem dL_isPaid_119 : decode cL_isPaid 119 = .ok (.if_icmp .ne 8, 3) := by decide +kernel
theorem dL_isPaid_122 : decode cL_isPaid 122 = .ok (.lload 17, 2) := by decide +kernel
theorem dL_isPaid_124 : decode cL_isPaid 124 = .ok (.goto 9, 3) := by decide +kernel
theorem dL_isPaid_127 : decode cL_isPaid 127 = .ok (.aload_n 0, 1) := by decide +kernel
theorem dL_isPaid_128 : decode cL_isPaid 128 = .ok (.iload_n 1, 1) := by decide +kernel
theorem dL_isPaid_129 : decode cL_isPaid 129 = .ok (.invokestatic 216, 3) := by decide +kernel
theorem dL_isPaid_132 : decode cL_isPaid 132 = .ok (.i2l, 1) := by decide +kernel
theorem dL_isPaid_133 : decode cL_isPaid 133 = .ok (.lstore 19, 2) := by decide +kernel
theorem dL_isPaid_135 : decode cL_isPaid 135 = .ok (.iinc 10 1, 3) := by decide +kernel
theorem dL_isPaid_138 : decode cL_isPaid 138 = .ok (.aload_n 0, 1) := by decide +kernel
theorem dL_isPaid_139 : decode cL_isPaid 139 = .ok (.iload_n 1, 1) := by decide +kernel
theorem dL_isPaid_140 : decode cL_isPaid 140 = .ok (.iload 10, 2) := by decide +kernel
theorem dL_isPaid_142 : decode cL_isPaid 142 = .ok (.invokestatic 242, 3) := by decide +kernel
theorem dL_isPaid_145 : decode cL_isPaid 145 = .ok (.i2l, 1) := by decide +kernel
theorem dL_isPaid_146 : decode cL_isPaid 146 = .ok (.lload 19, 2) := by decide +kernel
theorem dL_isPaid_148 : decode cL_isPaid 148 = .ok (.lcmp, 1) := by decide +kernel
theorem dL_isPaid_149 : decode cL_isPaid 149 = .ok (.ifCond .ne 29, 3) := by decide +kernel
theorem dL_isPaid_152 : decode cL_isPaid 152 = .ok (.aload_n 0, 1) := by decide +kernel
theorem dL_isPaid_153 : decode cL_isPaid 153 = .ok (.iload_n 1, 1) := by decide +kernel
theorem dL_isPaid_154 : decode cL_isPaid 154 = .ok (.iload 10, 2) := by decide +kernel
theorem dL_isPaid_156 : decode cL_isPaid 156 = .ok (.invokestatic 244, 3) := by decide +kernel
theorem dL_isPaid_159 : decode cL_isPaid 159 = .ok (.i2l, 1) := by decide +kernel
theorem dL_isPaid_160 : decode cL_isPaid 160 = .ok (.lload 15, 2) := by decide +kernel
theorem dL_isPaid_162 : decode cL_isPaid 162 = .ok (.lcmp, 1) := by decide +kernel
theorem dL_isPaid_163 : decode cL_isPaid 163 = .ok (.ifCond .ne 15, 3) := by decide +kernel
theorem dL_isPaid_166 : decode cL_isPaid 166 = .ok (.lload 19, 2) := by decide +kernel
theorem dL_isPaid_168 : decode cL_isPaid 168 = .ok (.aload_n 0, 1) := by decide +kernel
theorem dL_isPaid_169 : decode cL_isPaid 169 = .ok (.iload_n 1, 1) := by decide +kernel
theorem dL_isPaid_170 : decode cL_isPaid 170 = .ok (.invokestatic 216, 3) := by decide +kernel
theorem dL_isPaid_173 : decode cL_isPaid 173 = .ok (.i2l, 1) := by decide +kernel
theorem dL_isPaid_174 : decode cL_isPaid 174 = .ok (.lcmp, 1) := by decide +kernel
theorem dL_isPaid_175 : decode cL_isPaid 175 = .ok (.ifCond .le 5, 3) := by decide +kernel
theorem dL_isPaid_178 : decode cL_isPaid 178 = .ok (.iconst 0, 1) := by decide +kernel
theorem dL_isPaid_179 : decode cL_isPaid 179 = .ok (.ireturn, 1) := by decide +kernel
theorem dL_isPaid_180 : decode cL_isPaid 180 = .ok (.lload 17, 2) := by decide +kernel
theorem dL_isPaid_182 : decode cL_isPaid 182 = .ok (.lload 19, 2) := by decide +kernel
theorem dL_isPaid_184 : decode cL_isPaid 184 = .ok (.lsub, 1) := by decide +kernel
theorem dL_isPaid_185 : decode cL_isPaid 185 = .ok (.lstore_n 2, 1) := by decide +kernel
theorem dL_isPaid_186 : decode cL_isPaid 186 = .ok (.aload_n 0, 1) := by decide +kernel
theorem dL_isPaid_187 : decode cL_isPaid 187 = .ok (.iload_n 1, 1) := by decide +kernel
theorem dL_isPaid_188 : decode cL_isPaid 188 = .ok (.iload 10, 2) := by decide +kernel
theorem dL_isPaid_190 : decode cL_isPaid 190 = .ok (.invokestatic 246, 3) := by decide +kernel
theorem dL_isPaid_193 : decode cL_isPaid 193 = .ok (.i2l, 1) := by decide +kernel
theorem dL_isPaid_194 : decode cL_isPaid 194 = .ok (.lload_n 2, 1) := by decide +kernel
theorem dL_isPaid_195 : decode cL_isPaid 195 = .ok (.lcmp, 1) := by decide +kernel
theorem dL_isPaid_196 : decode cL_isPaid 196 = .ok (.ifCond .eq 5, 3) := by decide +kernel
theorem dL_isPaid_199 : decode cL_isPaid 199 = .ok (.iconst 0, 1) := by decide +kernel
theorem dL_isPaid_200 : decode cL_isPaid 200 = .ok (.ireturn, 1) := by decide +kernel
theorem dL_isPaid_201 : decode cL_isPaid 201 = .ok (.goto (-162), 3) := by decide +kernel
theorem dL_isPaid_204 : decode cL_isPaid 204 = .ok (.lload_n 2, 1) := by decide +kernel
theorem dL_isPaid_205 : decode cL_isPaid 205 = .ok (.lconst 0, 1) := by decide +kernel
theorem dL_isPaid_206 : decode cL_isPaid 206 = .ok (.lcmp, 1) := by decide +kernel
theorem dL_isPaid_207 : decode cL_isPaid 207 = .ok (.ifCond .ne 27, 3) := by decide +kernel
theorem dL_isPaid_210 : decode cL_isPaid 210 = .ok (.lload 8, 2) := by decide +kernel
theorem dL_isPaid_212 : decode cL_isPaid 212 = .ok (.lload 6, 2) := by decide +kernel
theorem dL_isPaid_214 : decode cL_isPaid 214 = .ok (.ldc2_w 228, 3) := by decide +kernel
theorem dL_isPaid_217 : decode cL_isPaid 217 = .ok (.ldiv, 1) := by decide +kernel
theorem dL_isPaid_218 : decode cL_isPaid 218 = .ok (.lcmp, 1) := by decide +kernel
theorem dL_isPaid_219 : decode cL_isPaid 219 = .ok (.ifCond .ne 15, 3) := by decide +kernel
theorem dL_isPaid_222 : decode cL_isPaid 222 = .ok (.aload_n 0, 1) := by decide +kernel
theorem dL_isPaid_223 : decode cL_isPaid 223 = .ok (.iload_n 1, 1) := by decide +kernel
theorem dL_isPaid_224 : decode cL_isPaid 224 = .ok (.invokestatic 222, 3) := by decide +kernel
theorem dL_isPaid_227 : decode cL_isPaid 227 = .ok (.i2l, 1) := by decide +kernel
theorem dL_isPaid_228 : decode cL_isPaid 228 = .ok (.lload 8, 2) := by decide +kernel
theorem dL_isPaid_230 : decode cL_isPaid 230 = .ok (.lcmp, 1) := by decide +kernel
theorem dL_isPaid_231 : decode cL_isPaid 231 = .ok (.ifCond .eq 5, 3) := by decide +kernel
theorem dL_isPaid_234 : decode cL_isPaid 234 = .ok (.iconst 0, 1) := by decide +kernel
theorem dL_isPaid_235 : decode cL_isPaid 235 = .ok (.ireturn, 1) := by decide +kernel
theorem dL_isPaid_236 : decode cL_isPaid 236 = .ok (.iload 10, 2) := by decide +kernel
theorem dL_isPaid_238 : decode cL_isPaid 238 = .ok (.bipush 120, 2) := by decide +kernel
theorem dL_isPaid_240 : decode cL_isPaid 240 = .ok (.if_icmp .eq 29, 3) := by decide +kernel
theorem dL_isPaid_243 : decode cL_isPaid 243 = .ok (.aload_n 0, 1) := by decide +kernel
theorem dL_isPaid_244 : decode cL_isPaid 244 = .ok (.iload_n 1, 1) := by decide +kernel
theorem dL_isPaid_245 : decode cL_isPaid 245 = .ok (.iload 10, 2) := by decide +kernel
theorem dL_isPaid_247 : decode cL_isPaid 247 = .ok (.iconst 1, 1) := by decide +kernel
theorem dL_isPaid_248 : decode cL_isPaid 248 = .ok (.iadd, 1) := by decide +kernel
theorem dL_isPaid_249 : decode cL_isPaid 249 = .ok (.invokestatic 242, 3) := by decide +kernel
theorem dL_isPaid_252 : decode cL_isPaid 252 = .ok (.iconst (-1), 1) := by decide +kernel
theorem dL_isPaid_253 : decode cL_isPaid 253 = .ok (.if_icmp .ne 20, 3) := by decide +kernel
theorem dL_isPaid_256 : decode cL_isPaid 256 = .ok (.aload_n 0, 1) := by decide +kernel
theorem dL_isPaid_257 : decode cL_isPaid 257 = .ok (.iload_n 1, 1) := by decide +kernel
theorem dL_isPaid_258 : decode cL_isPaid 258 = .ok (.iload 10, 2) := by decide +kernel
theorem dL_isPaid_260 : decode cL_isPaid 260 = .ok (.iconst 1, 1) := by decide +kernel
theorem dL_isPaid_261 : decode cL_isPaid 261 = .ok (.iadd, 1) := by decide +kernel
theorem dL_isPaid_262 : decode cL_isPaid 262 = .ok (.invokestatic 244, 3) := by decide +kernel
theorem dL_isPaid_265 : decode cL_isPaid 265 = .ok (.iconst (-1), 1) := by decide +kernel
theorem dL_isPaid_266 : decode cL_isPaid 266 = .ok (.if_icmp .ne 7, 3) := by decide +kernel
theorem dL_isPaid_269 : decode cL_isPaid 269 = .ok (.iconst 1, 1) := by decide +kernel
theorem dL_isPaid_270 : decode cL_isPaid 270 = .ok (.goto 4, 3) := by decide +kernel
theorem dL_isPaid_273 : decode cL_isPaid 273 = .ok (.iconst 0, 1) := by decide +kernel
theorem dL_isPaid_274 : decode cL_isPaid 274 = .ok (.ireturn, 1) := by decide +kernel
