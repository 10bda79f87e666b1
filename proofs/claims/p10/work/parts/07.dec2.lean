abbrev jc_Y_apply : ByteArray := prog_7_method_30_code
abbrev jy_Y_apply : MethodName := ⟨"MeasuredTensorsModel", "apply", "(IIIIII)I"⟩
theorem jd_Y_apply_0 : decode jc_Y_apply 0 = .ok (.aload_n 0, 1) := by decide +kernel
theorem jd_Y_apply_1 : decode jc_Y_apply 1 = .ok (.iload_n 2, 1) := by decide +kernel
theorem jd_Y_apply_2 : decode jc_Y_apply 2 = .ok (.invokevirtual 171, 3) := by decide +kernel
theorem jd_Y_apply_5 : decode jc_Y_apply 5 = .ok (.aload_n 0, 1) := by decide +kernel
theorem jd_Y_apply_6 : decode jc_Y_apply 6 = .ok (.getfield 19, 3) := by decide +kernel
theorem jd_Y_apply_9 : decode jc_Y_apply 9 = .ok (.iload_n 2, 1) := by decide +kernel
theorem jd_Y_apply_10 : decode jc_Y_apply 10 = .ok (.iaload, 1) := by decide +kernel
theorem jd_Y_apply_11 : decode jc_Y_apply 11 = .ok (.istore 7, 2) := by decide +kernel
theorem jd_Y_apply_13 : decode jc_Y_apply 13 = .ok (.iload_n 1, 1) := by decide +kernel
theorem jd_Y_apply_14 : decode jc_Y_apply 14 = .ok (.tableswitch 541 2 18 #[82, 124, 541, 136, 136, 136, 172, 181, 181, 541, 230, 272, 318, 325, 382, 443, 534], 82) := by decide +kernel
theorem jd_Y_apply_96 : decode jc_Y_apply 96 = .ok (.aload_n 0, 1) := by decide +kernel
theorem jd_Y_apply_97 : decode jc_Y_apply 97 = .ok (.iload_n 1, 1) := by decide +kernel
theorem jd_Y_apply_98 : decode jc_Y_apply 98 = .ok (.iload_n 2, 1) := by decide +kernel
theorem jd_Y_apply_99 : decode jc_Y_apply 99 = .ok (.iconst (-1), 1) := by decide +kernel
theorem jd_Y_apply_100 : decode jc_Y_apply 100 = .ok (.iconst 2, 1) := by decide +kernel
theorem jd_Y_apply_101 : decode jc_Y_apply 101 = .ok (.aload_n 0, 1) := by decide +kernel
theorem jd_Y_apply_102 : decode jc_Y_apply 102 = .ok (.getfield 31, 3) := by decide +kernel
theorem jd_Y_apply_105 : decode jc_Y_apply 105 = .ok (.iload_n 2, 1) := by decide +kernel
theorem jd_Y_apply_106 : decode jc_Y_apply 106 = .ok (.iaload, 1) := by decide +kernel
theorem jd_Y_apply_107 : decode jc_Y_apply 107 = .ok (.imul, 1) := by decide +kernel
theorem jd_Y_apply_108 : decode jc_Y_apply 108 = .ok (.i2l, 1) := by decide +kernel
theorem jd_Y_apply_109 : decode jc_Y_apply 109 = .ok (.iconst 2, 1) := by decide +kernel
theorem jd_Y_apply_110 : decode jc_Y_apply 110 = .ok (.aload_n 0, 1) := by decide +kernel
theorem jd_Y_apply_111 : decode jc_Y_apply 111 = .ok (.getfield 34, 3) := by decide +kernel
theorem jd_Y_apply_114 : decode jc_Y_apply 114 = .ok (.iload_n 2, 1) := by decide +kernel
theorem jd_Y_apply_115 : decode jc_Y_apply 115 = .ok (.iaload, 1) := by decide +kernel
theorem jd_Y_apply_116 : decode jc_Y_apply 116 = .ok (.imul, 1) := by decide +kernel
theorem jd_Y_apply_117 : decode jc_Y_apply 117 = .ok (.i2l, 1) := by decide +kernel
theorem jd_Y_apply_118 : decode jc_Y_apply 118 = .ok (.aload_n 0, 1) := by decide +kernel
theorem jd_Y_apply_119 : decode jc_Y_apply 119 = .ok (.getfield 37, 3) := by decide +kernel
theorem jd_Y_apply_122 : decode jc_Y_apply 122 = .ok (.iload_n 2, 1) := by decide +kernel
theorem jd_Y_apply_123 : decode jc_Y_apply 123 = .ok (.laload, 1) := by decide +kernel
theorem jd_Y_apply_124 : decode jc_Y_apply 124 = .ok (.aload_n 0, 1) := by decide +kernel
theorem jd_Y_apply_125 : decode jc_Y_apply 125 = .ok (.getfield 37, 3) := by decide +kernel
theorem jd_Y_apply_128 : decode jc_Y_apply 128 = .ok (.iload_n 2, 1) := by decide +kernel
theorem jd_Y_apply_129 : decode jc_Y_apply 129 = .ok (.laload, 1) := by decide +kernel
theorem jd_Y_apply_130 : decode jc_Y_apply 130 = .ok (.invokestatic 99, 3) := by decide +kernel
theorem jd_Y_apply_133 : decode jc_Y_apply 133 = .ok (.iconst 1, 1) := by decide +kernel
theorem jd_Y_apply_134 : decode jc_Y_apply 134 = .ok (.invokevirtual 131, 3) := by decide +kernel
theorem jd_Y_apply_137 : decode jc_Y_apply 137 = .ok (.ireturn, 1) := by decide +kernel
theorem jd_Y_apply_138 : decode jc_Y_apply 138 = .ok (.aload_n 0, 1) := by decide +kernel
theorem jd_Y_apply_139 : decode jc_Y_apply 139 = .ok (.iload_n 1, 1) := by decide +kernel
theorem jd_Y_apply_140 : decode jc_Y_apply 140 = .ok (.iload_n 2, 1) := by decide +kernel
theorem jd_Y_apply_141 : decode jc_Y_apply 141 = .ok (.iconst (-1), 1) := by decide +kernel
theorem jd_Y_apply_142 : decode jc_Y_apply 142 = .ok (.lconst 1, 1) := by decide +kernel
theorem jd_Y_apply_143 : decode jc_Y_apply 143 = .ok (.lconst 0, 1) := by decide +kernel
theorem jd_Y_apply_144 : decode jc_Y_apply 144 = .ok (.lconst 1, 1) := by decide +kernel
theorem jd_Y_apply_145 : decode jc_Y_apply 145 = .ok (.iconst 1, 1) := by decide +kernel
theorem jd_Y_apply_146 : decode jc_Y_apply 146 = .ok (.invokevirtual 131, 3) := by decide +kernel
theorem jd_Y_apply_149 : decode jc_Y_apply 149 = .ok (.ireturn, 1) := by decide +kernel
theorem jd_Y_apply_150 : decode jc_Y_apply 150 = .ok (.iload 4, 2) := by decide +kernel
theorem jd_Y_apply_152 : decode jc_Y_apply 152 = .ok (.iconst 1, 1) := by decide +kernel
theorem jd_Y_apply_153 : decode jc_Y_apply 153 = .ok (.if_icmp .ne 15, 3) := by decide +kernel
theorem jd_Y_apply_156 : decode jc_Y_apply 156 = .ok (.iload 5, 2) := by decide +kernel
theorem jd_Y_apply_158 : decode jc_Y_apply 158 = .ok (.iload 7, 2) := by decide +kernel
theorem jd_Y_apply_160 : decode jc_Y_apply 160 = .ok (.if_icmp .lt 8, 3) := by decide +kernel
theorem jd_Y_apply_163 : decode jc_Y_apply 163 = .ok (.bipush (-5), 2) := by decide +kernel
theorem jd_Y_apply_165 : decode jc_Y_apply 165 = .ok (.goto 20, 3) := by decide +kernel
theorem jd_Y_apply_168 : decode jc_Y_apply 168 = .ok (.aload_n 0, 1) := by decide +kernel
theorem jd_Y_apply_169 : decode jc_Y_apply 169 = .ok (.iload_n 1, 1) := by decide +kernel
theorem jd_Y_apply_170 : decode jc_Y_apply 170 = .ok (.iload_n 2, 1) := by decide +kernel
theorem jd_Y_apply_171 : decode jc_Y_apply 171 = .ok (.iload 4, 2) := by decide +kernel
theorem jd_Y_apply_173 : decode jc_Y_apply 173 = .ok (.ifCond .ne 7, 3) := by decide +kernel
theorem jd_Y_apply_176 : decode jc_Y_apply 176 = .ok (.iconst (-1), 1) := by decide +kernel
theorem jd_Y_apply_177 : decode jc_Y_apply 177 = .ok (.goto 5, 3) := by decide +kernel
theorem jd_Y_apply_180 : decode jc_Y_apply 180 = .ok (.iload 5, 2) := by decide +kernel
theorem jd_Y_apply_182 : decode jc_Y_apply 182 = .ok (.invokevirtual 196, 3) := by decide +kernel
theorem jd_Y_apply_185 : decode jc_Y_apply 185 = .ok (.ireturn, 1) := by decide +kernel
theorem jd_Y_apply_186 : decode jc_Y_apply 186 = .ok (.aload_n 0, 1) := by decide +kernel
theorem jd_Y_apply_187 : decode jc_Y_apply 187 = .ok (.iload_n 2, 1) := by decide +kernel
theorem jd_Y_apply_188 : decode jc_Y_apply 188 = .ok (.iload_n 3, 1) := by decide +kernel
theorem jd_Y_apply_189 : decode jc_Y_apply 189 = .ok (.iload 5, 2) := by decide +kernel
theorem jd_Y_apply_191 : decode jc_Y_apply 191 = .ok (.invokevirtual 200, 3) := by decide +kernel
theorem jd_Y_apply_194 : decode jc_Y_apply 194 = .ok (.ireturn, 1) := by decide +kernel
theorem jd_Y_apply_195 : decode jc_Y_apply 195 = .ok (.iload 7, 2) := by decide +kernel
theorem jd_Y_apply_197 : decode jc_Y_apply 197 = .ok (.iconst 3, 1) := by decide +kernel
theorem jd_Y_apply_198 : decode jc_Y_apply 198 = .ok (.if_icmp .ne 32, 3) := by decide +kernel
theorem jd_Y_apply_201 : decode jc_Y_apply 201 = .ok (.iload 5, 2) := by decide +kernel
theorem jd_Y_apply_203 : decode jc_Y_apply 203 = .ok (.ifCond .eq 27, 3) := by decide +kernel
theorem jd_Y_apply_206 : decode jc_Y_apply 206 = .ok (.aload_n 0, 1) := by decide +kernel
theorem jd_Y_apply_207 : decode jc_Y_apply 207 = .ok (.iload_n 2, 1) := by decide +kernel
theorem jd_Y_apply_208 : decode jc_Y_apply 208 = .ok (.iconst 1, 1) := by decide +kernel
theorem jd_Y_apply_209 : decode jc_Y_apply 209 = .ok (.invokevirtual 105, 3) := by decide +kernel
theorem jd_Y_apply_212 : decode jc_Y_apply 212 = .ok (.iload 5, 2) := by decide +kernel
theorem jd_Y_apply_214 : decode jc_Y_apply 214 = .ok (.irem, 1) := by decide +kernel
theorem jd_Y_apply_215 : decode jc_Y_apply 215 = .ok (.ifCond .gt 15, 3) := by decide +kernel
theorem jd_Y_apply_218 : decode jc_Y_apply 218 = .ok (.aload_n 0, 1) := by decide +kernel
theorem jd_Y_apply_219 : decode jc_Y_apply 219 = .ok (.iload_n 2, 1) := by decide +kernel
theorem jd_Y_apply_220 : decode jc_Y_apply 220 = .ok (.iconst 2, 1) := by decide +kernel
theorem jd_Y_apply_221 : decode jc_Y_apply 221 = .ok (.invokevirtual 105, 3) := by decide +kernel
theorem jd_Y_apply_224 : decode jc_Y_apply 224 = .ok (.iload 5, 2) := by decide +kernel
theorem jd_Y_apply_226 : decode jc_Y_apply 226 = .ok (.irem, 1) := by decide +kernel
theorem jd_Y_apply_227 : decode jc_Y_apply 227 = .ok (.ifCond .le 8, 3) := by decide +kernel
theorem jd_Y_apply_230 : decode jc_Y_apply 230 = .ok (.bipush (-5), 2) := by decide +kernel
theorem jd_Y_apply_232 : decode jc_Y_apply 232 = .ok (.goto 11, 3) := by decide +kernel
theorem jd_Y_apply_235 : decode jc_Y_apply 235 = .ok (.aload_n 0, 1) := by decide +kernel
theorem jd_Y_apply_236 : decode jc_Y_apply 236 = .ok (.iload_n 1, 1) := by decide +kernel
theorem jd_Y_apply_237 : decode jc_Y_apply 237 = .ok (.iload_n 2, 1) := by decide +kernel
theorem jd_Y_apply_238 : decode jc_Y_apply 238 = .ok (.iload 5, 2) := by decide +kernel
theorem jd_Y_apply_240 : decode jc_Y_apply 240 = .ok (.invokevirtual 203, 3) := by decide +kernel
theorem jd_Y_apply_243 : decode jc_Y_apply 243 = .ok (.ireturn, 1) := by decide +kernel
theorem jd_Y_apply_244 : decode jc_Y_apply 244 = .ok (.aload_n 0, 1) := by decide +kernel
theorem jd_Y_apply_245 : decode jc_Y_apply 245 = .ok (.getfield 72, 3) := by decide +kernel
theorem jd_Y_apply_248 : decode jc_Y_apply 248 = .ok (.iconst 0, 1) := by decide +kernel
theorem jd_Y_apply_249 : decode jc_Y_apply 249 = .ok (.aload_n 0, 1) := by decide +kernel
theorem jd_Y_apply_250 : decode jc_Y_apply 250 = .ok (.iload_n 2, 1) := by decide +kernel
theorem jd_Y_apply_251 : decode jc_Y_apply 251 = .ok (.iconst 1, 1) := by decide +kernel
theorem jd_Y_apply_252 : decode jc_Y_apply 252 = .ok (.invokevirtual 105, 3) := by decide +kernel
theorem jd_Y_apply_255 : decode jc_Y_apply 255 = .ok (.iastore, 1) := by decide +kernel
theorem jd_Y_apply_256 : decode jc_Y_apply 256 = .ok (.aload_n 0, 1) := by decide +kernel
theorem jd_Y_apply_257 : decode jc_Y_apply 257 = .ok (.getfield 72, 3) := by decide +kernel
theorem jd_Y_apply_260 : decode jc_Y_apply 260 = .ok (.iconst 1, 1) := by decide +kernel
theorem jd_Y_apply_261 : decode jc_Y_apply 261 = .ok (.aload_n 0, 1) := by decide +kernel
theorem jd_Y_apply_262 : decode jc_Y_apply 262 = .ok (.iload_n 2, 1) := by decide +kernel
theorem jd_Y_apply_263 : decode jc_Y_apply 263 = .ok (.iconst 0, 1) := by decide +kernel
theorem jd_Y_apply_264 : decode jc_Y_apply 264 = .ok (.invokevirtual 105, 3) := by decide +kernel
theorem jd_Y_apply_267 : decode jc_Y_apply 267 = .ok (.iastore, 1) := by decide +kernel
theorem jd_Y_apply_268 : decode jc_Y_apply 268 = .ok (.iload 7, 2) := by decide +kernel
theorem jd_Y_apply_270 : decode jc_Y_apply 270 = .ok (.iconst 2, 1) := by decide +kernel
theorem jd_Y_apply_271 : decode jc_Y_apply 271 = .ok (.if_icmp .ne 12, 3) := by decide +kernel
theorem jd_Y_apply_274 : decode jc_Y_apply 274 = .ok (.aload_n 0, 1) := by decide +kernel
theorem jd_Y_apply_275 : decode jc_Y_apply 275 = .ok (.iload_n 1, 1) := by decide +kernel
theorem jd_Y_apply_276 : decode jc_Y_apply 276 = .ok (.iload_n 2, 1) := by decide +kernel
theorem jd_Y_apply_277 : decode jc_Y_apply 277 = .ok (.invokevirtual 183, 3) := by decide +kernel
theorem jd_Y_apply_280 : decode jc_Y_apply 280 = .ok (.goto 5, 3) := by decide +kernel
theorem jd_Y_apply_283 : decode jc_Y_apply 283 = .ok (.bipush (-5), 2) := by decide +kernel
theorem jd_Y_apply_285 : decode jc_Y_apply 285 = .ok (.ireturn, 1) := by decide +kernel
theorem jd_Y_apply_286 : decode jc_Y_apply 286 = .ok (.aload_n 0, 1) := by decide +kernel
theorem jd_Y_apply_287 : decode jc_Y_apply 287 = .ok (.getfield 72, 3) := by decide +kernel
theorem jd_Y_apply_290 : decode jc_Y_apply 290 = .ok (.iconst 0, 1) := by decide +kernel
theorem jd_Y_apply_291 : decode jc_Y_apply 291 = .ok (.iload 6, 2) := by decide +kernel
theorem jd_Y_apply_293 : decode jc_Y_apply 293 = .ok (.iload 5, 2) := by decide +kernel
theorem jd_Y_apply_295 : decode jc_Y_apply 295 = .ok (.isub, 1) := by decide +kernel
theorem jd_Y_apply_296 : decode jc_Y_apply 296 = .ok (.iastore, 1) := by decide +kernel
theorem jd_Y_apply_297 : decode jc_Y_apply 297 = .ok (.iload 7, 2) := by decide +kernel
theorem jd_Y_apply_299 : decode jc_Y_apply 299 = .ok (.ifCond .le 30, 3) := by decide +kernel
theorem jd_Y_apply_302 : decode jc_Y_apply 302 = .ok (.iload 5, 2) := by decide +kernel
theorem jd_Y_apply_304 : decode jc_Y_apply 304 = .ok (.iload 6, 2) := by decide +kernel
theorem jd_Y_apply_306 : decode jc_Y_apply 306 = .ok (.if_icmp .ge 23, 3) := by decide +kernel
theorem jd_Y_apply_309 : decode jc_Y_apply 309 = .ok (.iload 6, 2) := by decide +kernel
theorem jd_Y_apply_311 : decode jc_Y_apply 311 = .ok (.aload_n 0, 1) := by decide +kernel
theorem jd_Y_apply_312 : decode jc_Y_apply 312 = .ok (.iload_n 2, 1) := by decide +kernel
theorem jd_Y_apply_313 : decode jc_Y_apply 313 = .ok (.iconst 0, 1) := by decide +kernel
theorem jd_Y_apply_314 : decode jc_Y_apply 314 = .ok (.invokevirtual 105, 3) := by decide +kernel
theorem jd_Y_apply_317 : decode jc_Y_apply 317 = .ok (.if_icmp .gt 12, 3) := by decide +kernel
theorem jd_Y_apply_320 : decode jc_Y_apply 320 = .ok (.aload_n 0, 1) := by decide +kernel
theorem jd_Y_apply_321 : decode jc_Y_apply 321 = .ok (.iload_n 1, 1) := by decide +kernel
theorem jd_Y_apply_322 : decode jc_Y_apply 322 = .ok (.iload_n 2, 1) := by decide +kernel
theorem jd_Y_apply_323 : decode jc_Y_apply 323 = .ok (.invokevirtual 183, 3) := by decide +kernel
theorem jd_Y_apply_326 : decode jc_Y_apply 326 = .ok (.goto 5, 3) := by decide +kernel
theorem jd_Y_apply_329 : decode jc_Y_apply 329 = .ok (.bipush (-5), 2) := by decide +kernel
theorem jd_Y_apply_331 : decode jc_Y_apply 331 = .ok (.ireturn, 1) := by decide +kernel
theorem jd_Y_apply_332 : decode jc_Y_apply 332 = .ok (.aload_n 0, 1) := by decide +kernel
theorem jd_Y_apply_333 : decode jc_Y_apply 333 = .ok (.iload_n 2, 1) := by decide +kernel
theorem jd_Y_apply_334 : decode jc_Y_apply 334 = .ok (.iload_n 3, 1) := by decide +kernel
theorem jd_Y_apply_335 : decode jc_Y_apply 335 = .ok (.invokevirtual 206, 3) := by decide +kernel
theorem jd_Y_apply_338 : decode jc_Y_apply 338 = .ok (.ireturn, 1) := by decide +kernel
theorem jd_Y_apply_339 : decode jc_Y_apply 339 = .ok (.aload_n 0, 1) := by decide +kernel
theorem jd_Y_apply_340 : decode jc_Y_apply 340 = .ok (.getfield 72, 3) := by decide +kernel
theorem jd_Y_apply_343 : decode jc_Y_apply 343 = .ok (.iconst 1, 1) := by decide +kernel
theorem jd_Y_apply_344 : decode jc_Y_apply 344 = .ok (.dup2, 1) := by decide +kernel
theorem jd_Y_apply_345 : decode jc_Y_apply 345 = .ok (.iaload, 1) := by decide +kernel
theorem jd_Y_apply_346 : decode jc_Y_apply 346 = .ok (.iconst 2, 1) := by decide +kernel
theorem jd_Y_apply_347 : decode jc_Y_apply 347 = .ok (.iload 5, 2) := by decide +kernel
theorem jd_Y_apply_349 : decode jc_Y_apply 349 = .ok (.imul, 1) := by decide +kernel
theorem jd_Y_apply_350 : decode jc_Y_apply 350 = .ok (.iadd, 1) := by decide +kernel
theorem jd_Y_apply_351 : decode jc_Y_apply 351 = .ok (.iastore, 1) := by decide +kernel
theorem jd_Y_apply_352 : decode jc_Y_apply 352 = .ok (.aload_n 0, 1) := by decide +kernel
theorem jd_Y_apply_353 : decode jc_Y_apply 353 = .ok (.getfield 72, 3) := by decide +kernel
theorem jd_Y_apply_356 : decode jc_Y_apply 356 = .ok (.iconst 2, 1) := by decide +kernel
theorem jd_Y_apply_357 : decode jc_Y_apply 357 = .ok (.dup2, 1) := by decide +kernel
theorem jd_Y_apply_358 : decode jc_Y_apply 358 = .ok (.iaload, 1) := by decide +kernel
theorem jd_Y_apply_359 : decode jc_Y_apply 359 = .ok (.iconst 2, 1) := by decide +kernel
theorem jd_Y_apply_360 : decode jc_Y_apply 360 = .ok (.iload 5, 2) := by decide +kernel
theorem jd_Y_apply_362 : decode jc_Y_apply 362 = .ok (.imul, 1) := by decide +kernel
theorem jd_Y_apply_363 : decode jc_Y_apply 363 = .ok (.iadd, 1) := by decide +kernel
theorem jd_Y_apply_364 : decode jc_Y_apply 364 = .ok (.iastore, 1) := by decide +kernel
theorem jd_Y_apply_365 : decode jc_Y_apply 365 = .ok (.iload 7, 2) := by decide +kernel
theorem jd_Y_apply_367 : decode jc_Y_apply 367 = .ok (.iconst 3, 1) := by decide +kernel
theorem jd_Y_apply_368 : decode jc_Y_apply 368 = .ok (.if_icmp .ne 25, 3) := by decide +kernel
theorem jd_Y_apply_371 : decode jc_Y_apply 371 = .ok (.iload 5, 2) := by decide +kernel
theorem jd_Y_apply_373 : decode jc_Y_apply 373 = .ok (.iconst 1, 1) := by decide +kernel
theorem jd_Y_apply_374 : decode jc_Y_apply 374 = .ok (.if_icmp .lt 19, 3) := by decide +kernel
theorem jd_Y_apply_377 : decode jc_Y_apply 377 = .ok (.iload 5, 2) := by decide +kernel
theorem jd_Y_apply_379 : decode jc_Y_apply 379 = .ok (.bipush 16, 2) := by decide +kernel
theorem jd_Y_apply_381 : decode jc_Y_apply 381 = .ok (.if_icmp .gt 12, 3) := by decide +kernel
theorem jd_Y_apply_384 : decode jc_Y_apply 384 = .ok (.aload_n 0, 1) := by decide +kernel
theorem jd_Y_apply_385 : decode jc_Y_apply 385 = .ok (.iload_n 1, 1) := by decide +kernel
theorem jd_Y_apply_386 : decode jc_Y_apply 386 = .ok (.iload_n 2, 1) := by decide +kernel
theorem jd_Y_apply_387 : decode jc_Y_apply 387 = .ok (.invokevirtual 183, 3) := by decide +kernel
theorem jd_Y_apply_390 : decode jc_Y_apply 390 = .ok (.goto 5, 3) := by decide +kernel
theorem jd_Y_apply_393 : decode jc_Y_apply 393 = .ok (.bipush (-5), 2) := by decide +kernel
theorem jd_Y_apply_395 : decode jc_Y_apply 395 = .ok (.ireturn, 1) := by decide +kernel
theorem jd_Y_apply_396 : decode jc_Y_apply 396 = .ok (.aload_n 0, 1) := by decide +kernel
theorem jd_Y_apply_397 : decode jc_Y_apply 397 = .ok (.getfield 72, 3) := by decide +kernel
theorem jd_Y_apply_400 : decode jc_Y_apply 400 = .ok (.iconst 0, 1) := by decide +kernel
theorem jd_Y_apply_401 : decode jc_Y_apply 401 = .ok (.aload_n 0, 1) := by decide +kernel
theorem jd_Y_apply_402 : decode jc_Y_apply 402 = .ok (.getfield 50, 3) := by decide +kernel
theorem jd_Y_apply_405 : decode jc_Y_apply 405 = .ok (.iconst (-1), 1) := by decide +kernel
theorem jd_Y_apply_406 : decode jc_Y_apply 406 = .ok (.iload_n 3, 1) := by decide +kernel
theorem jd_Y_apply_407 : decode jc_Y_apply 407 = .ok (.isub, 1) := by decide +kernel
theorem jd_Y_apply_408 : decode jc_Y_apply 408 = .ok (.iaload, 1) := by decide +kernel
theorem jd_Y_apply_409 : decode jc_Y_apply 409 = .ok (.iastore, 1) := by decide +kernel
theorem jd_Y_apply_410 : decode jc_Y_apply 410 = .ok (.iload 7, 2) := by decide +kernel
theorem jd_Y_apply_412 : decode jc_Y_apply 412 = .ok (.iconst 2, 1) := by decide +kernel
theorem jd_Y_apply_413 : decode jc_Y_apply 413 = .ok (.if_icmp .ne 41, 3) := by decide +kernel
theorem jd_Y_apply_416 : decode jc_Y_apply 416 = .ok (.aload_n 0, 1) := by decide +kernel
theorem jd_Y_apply_417 : decode jc_Y_apply 417 = .ok (.getfield 47, 3) := by decide +kernel
theorem jd_Y_apply_420 : decode jc_Y_apply 420 = .ok (.iconst (-1), 1) := by decide +kernel
theorem jd_Y_apply_421 : decode jc_Y_apply 421 = .ok (.iload_n 3, 1) := by decide +kernel
theorem jd_Y_apply_422 : decode jc_Y_apply 422 = .ok (.isub, 1) := by decide +kernel
theorem jd_Y_apply_423 : decode jc_Y_apply 423 = .ok (.iaload, 1) := by decide +kernel
theorem jd_Y_apply_424 : decode jc_Y_apply 424 = .ok (.iconst 1, 1) := by decide +kernel
theorem jd_Y_apply_425 : decode jc_Y_apply 425 = .ok (.if_icmp .ne 29, 3) := by decide +kernel
theorem jd_Y_apply_428 : decode jc_Y_apply 428 = .ok (.aload_n 0, 1) := by decide +kernel
theorem jd_Y_apply_429 : decode jc_Y_apply 429 = .ok (.getfield 53, 3) := by decide +kernel
theorem jd_Y_apply_432 : decode jc_Y_apply 432 = .ok (.iconst (-1), 1) := by decide +kernel
theorem jd_Y_apply_433 : decode jc_Y_apply 433 = .ok (.iload_n 3, 1) := by decide +kernel
theorem jd_Y_apply_434 : decode jc_Y_apply 434 = .ok (.isub, 1) := by decide +kernel
theorem jd_Y_apply_435 : decode jc_Y_apply 435 = .ok (.iaload, 1) := by decide +kernel
theorem jd_Y_apply_436 : decode jc_Y_apply 436 = .ok (.aload_n 0, 1) := by decide +kernel
theorem jd_Y_apply_437 : decode jc_Y_apply 437 = .ok (.iload_n 2, 1) := by decide +kernel
theorem jd_Y_apply_438 : decode jc_Y_apply 438 = .ok (.iconst 0, 1) := by decide +kernel
theorem jd_Y_apply_439 : decode jc_Y_apply 439 = .ok (.invokevirtual 105, 3) := by decide +kernel
theorem jd_Y_apply_442 : decode jc_Y_apply 442 = .ok (.if_icmp .gt 12, 3) := by decide +kernel
theorem jd_Y_apply_445 : decode jc_Y_apply 445 = .ok (.aload_n 0, 1) := by decide +kernel
theorem jd_Y_apply_446 : decode jc_Y_apply 446 = .ok (.iload_n 1, 1) := by decide +kernel
theorem jd_Y_apply_447 : decode jc_Y_apply 447 = .ok (.iload_n 2, 1) := by decide +kernel
theorem jd_Y_apply_448 : decode jc_Y_apply 448 = .ok (.invokevirtual 183, 3) := by decide +kernel
theorem jd_Y_apply_451 : decode jc_Y_apply 451 = .ok (.goto 5, 3) := by decide +kernel
theorem jd_Y_apply_454 : decode jc_Y_apply 454 = .ok (.bipush (-5), 2) := by decide +kernel
theorem jd_Y_apply_456 : decode jc_Y_apply 456 = .ok (.ireturn, 1) := by decide +kernel
theorem jd_Y_apply_457 : decode jc_Y_apply 457 = .ok (.aload_n 0, 1) := by decide +kernel
theorem jd_Y_apply_458 : decode jc_Y_apply 458 = .ok (.iconst 0, 1) := by decide +kernel
theorem jd_Y_apply_459 : decode jc_Y_apply 459 = .ok (.putfield 102, 3) := by decide +kernel
theorem jd_Y_apply_462 : decode jc_Y_apply 462 = .ok (.iload 7, 2) := by decide +kernel
theorem jd_Y_apply_464 : decode jc_Y_apply 464 = .ok (.iconst 1, 1) := by decide +kernel
theorem jd_Y_apply_465 : decode jc_Y_apply 465 = .ok (.if_icmp .ne 80, 3) := by decide +kernel
theorem jd_Y_apply_468 : decode jc_Y_apply 468 = .ok (.aload_n 0, 1) := by decide +kernel
theorem jd_Y_apply_469 : decode jc_Y_apply 469 = .ok (.getfield 47, 3) := by decide +kernel
theorem jd_Y_apply_472 : decode jc_Y_apply 472 = .ok (.iconst (-1), 1) := by decide +kernel
theorem jd_Y_apply_473 : decode jc_Y_apply 473 = .ok (.iload_n 3, 1) := by decide +kernel
theorem jd_Y_apply_474 : decode jc_Y_apply 474 = .ok (.isub, 1) := by decide +kernel
theorem jd_Y_apply_475 : decode jc_Y_apply 475 = .ok (.iaload, 1) := by decide +kernel
theorem jd_Y_apply_476 : decode jc_Y_apply 476 = .ok (.ifCond .ne 69, 3) := by decide +kernel
theorem jd_Y_apply_479 : decode jc_Y_apply 479 = .ok (.aload_n 0, 1) := by decide +kernel
theorem jd_Y_apply_480 : decode jc_Y_apply 480 = .ok (.getfield 53, 3) := by decide +kernel
theorem jd_Y_apply_483 : decode jc_Y_apply 483 = .ok (.iconst (-1), 1) := by decide +kernel
theorem jd_Y_apply_484 : decode jc_Y_apply 484 = .ok (.iload_n 3, 1) := by decide +kernel
theorem jd_Y_apply_485 : decode jc_Y_apply 485 = .ok (.isub, 1) := by decide +kernel
theorem jd_Y_apply_486 : decode jc_Y_apply 486 = .ok (.iaload, 1) := by decide +kernel
theorem jd_Y_apply_487 : decode jc_Y_apply 487 = .ok (.aload_n 0, 1) := by decide +kernel
theorem jd_Y_apply_488 : decode jc_Y_apply 488 = .ok (.iload_n 2, 1) := by decide +kernel
theorem jd_Y_apply_489 : decode jc_Y_apply 489 = .ok (.iconst 0, 1) := by decide +kernel
theorem jd_Y_apply_490 : decode jc_Y_apply 490 = .ok (.invokevirtual 105, 3) := by decide +kernel
theorem jd_Y_apply_493 : decode jc_Y_apply 493 = .ok (.if_icmp .gt 52, 3) := by decide +kernel
theorem jd_Y_apply_496 : decode jc_Y_apply 496 = .ok (.aload_n 0, 1) := by decide +kernel
theorem jd_Y_apply_497 : decode jc_Y_apply 497 = .ok (.iload_n 1, 1) := by decide +kernel
theorem jd_Y_apply_498 : decode jc_Y_apply 498 = .ok (.iload_n 2, 1) := by decide +kernel
theorem jd_Y_apply_499 : decode jc_Y_apply 499 = .ok (.iconst (-1), 1) := by decide +kernel
theorem jd_Y_apply_500 : decode jc_Y_apply 500 = .ok (.aload_n 0, 1) := by decide +kernel
theorem jd_Y_apply_501 : decode jc_Y_apply 501 = .ok (.getfield 31, 3) := by decide +kernel
theorem jd_Y_apply_504 : decode jc_Y_apply 504 = .ok (.iload_n 2, 1) := by decide +kernel
theorem jd_Y_apply_505 : decode jc_Y_apply 505 = .ok (.iaload, 1) := by decide +kernel
theorem jd_Y_apply_506 : decode jc_Y_apply 506 = .ok (.iconst 3, 1) := by decide +kernel
theorem jd_Y_apply_507 : decode jc_Y_apply 507 = .ok (.iadd, 1) := by decide +kernel
theorem jd_Y_apply_508 : decode jc_Y_apply 508 = .ok (.aload_n 0, 1) := by decide +kernel
theorem jd_Y_apply_509 : decode jc_Y_apply 509 = .ok (.getfield 25, 3) := by decide +kernel
theorem jd_Y_apply_512 : decode jc_Y_apply 512 = .ok (.iload_n 2, 1) := by decide +kernel
theorem jd_Y_apply_513 : decode jc_Y_apply 513 = .ok (.iaload, 1) := by decide +kernel
theorem jd_Y_apply_514 : decode jc_Y_apply 514 = .ok (.i2l, 1) := by decide +kernel
theorem jd_Y_apply_515 : decode jc_Y_apply 515 = .ok (.invokestatic 139, 3) := by decide +kernel
theorem jd_Y_apply_518 : decode jc_Y_apply 518 = .ok (.iadd, 1) := by decide +kernel
theorem jd_Y_apply_519 : decode jc_Y_apply 519 = .ok (.i2l, 1) := by decide +kernel
theorem jd_Y_apply_520 : decode jc_Y_apply 520 = .ok (.aload_n 0, 1) := by decide +kernel
theorem jd_Y_apply_521 : decode jc_Y_apply 521 = .ok (.getfield 34, 3) := by decide +kernel
theorem jd_Y_apply_524 : decode jc_Y_apply 524 = .ok (.iload_n 2, 1) := by decide +kernel
theorem jd_Y_apply_525 : decode jc_Y_apply 525 = .ok (.iaload, 1) := by decide +kernel
theorem jd_Y_apply_526 : decode jc_Y_apply 526 = .ok (.i2l, 1) := by decide +kernel
theorem jd_Y_apply_527 : decode jc_Y_apply 527 = .ok (.aload_n 0, 1) := by decide +kernel
theorem jd_Y_apply_528 : decode jc_Y_apply 528 = .ok (.getfield 37, 3) := by decide +kernel
theorem jd_Y_apply_531 : decode jc_Y_apply 531 = .ok (.iload_n 2, 1) := by decide +kernel
theorem jd_Y_apply_532 : decode jc_Y_apply 532 = .ok (.laload, 1) := by decide +kernel
theorem jd_Y_apply_533 : decode jc_Y_apply 533 = .ok (.aload_n 0, 1) := by decide +kernel
theorem jd_Y_apply_534 : decode jc_Y_apply 534 = .ok (.getfield 25, 3) := by decide +kernel
theorem jd_Y_apply_537 : decode jc_Y_apply 537 = .ok (.iload_n 2, 1) := by decide +kernel
theorem jd_Y_apply_538 : decode jc_Y_apply 538 = .ok (.iaload, 1) := by decide +kernel
theorem jd_Y_apply_539 : decode jc_Y_apply 539 = .ok (.invokevirtual 131, 3) := by decide +kernel
theorem jd_Y_apply_542 : decode jc_Y_apply 542 = .ok (.goto 5, 3) := by decide +kernel
theorem jd_Y_apply_545 : decode jc_Y_apply 545 = .ok (.bipush (-5), 2) := by decide +kernel
theorem jd_Y_apply_547 : decode jc_Y_apply 547 = .ok (.ireturn, 1) := by decide +kernel
theorem jd_Y_apply_548 : decode jc_Y_apply 548 = .ok (.aload_n 0, 1) := by decide +kernel
theorem jd_Y_apply_549 : decode jc_Y_apply 549 = .ok (.iload_n 2, 1) := by decide +kernel
theorem jd_Y_apply_550 : decode jc_Y_apply 550 = .ok (.iload_n 3, 1) := by decide +kernel
theorem jd_Y_apply_551 : decode jc_Y_apply 551 = .ok (.invokevirtual 209, 3) := by decide +kernel
theorem jd_Y_apply_554 : decode jc_Y_apply 554 = .ok (.ireturn, 1) := by decide +kernel
theorem jd_Y_apply_555 : decode jc_Y_apply 555 = .ok (.aload_n 0, 1) := by decide +kernel
theorem jd_Y_apply_556 : decode jc_Y_apply 556 = .ok (.iload_n 1, 1) := by decide +kernel
theorem jd_Y_apply_557 : decode jc_Y_apply 557 = .ok (.iload_n 2, 1) := by decide +kernel
theorem jd_Y_apply_558 : decode jc_Y_apply 558 = .ok (.invokevirtual 183, 3) := by decide +kernel
theorem jd_Y_apply_561 : decode jc_Y_apply 561 = .ok (.ireturn, 1) := by decide +kernel
abbrev jc_Y_along : ByteArray := prog_7_method_31_code
abbrev jy_Y_along : MethodName := ⟨"MeasuredTensorsModel", "along", "(III)I"⟩
theorem jd_Y_along_0 : decode jc_Y_along 0 = .ok (.iload_n 3, 1) := by decide +kernel
theorem jd_Y_along_1 : decode jc_Y_along 1 = .ok (.ifCond .ge 12, 3) := by decide +kernel
theorem jd_Y_along_4 : decode jc_Y_along 4 = .ok (.aload_n 0, 1) := by decide +kernel
theorem jd_Y_along_5 : decode jc_Y_along 5 = .ok (.getfield 25, 3) := by decide +kernel
theorem jd_Y_along_8 : decode jc_Y_along 8 = .ok (.iload_n 2, 1) := by decide +kernel
theorem jd_Y_along_9 : decode jc_Y_along 9 = .ok (.iaload, 1) := by decide +kernel
theorem jd_Y_along_10 : decode jc_Y_along 10 = .ok (.goto 9, 3) := by decide +kernel
theorem jd_Y_along_13 : decode jc_Y_along 13 = .ok (.aload_n 0, 1) := by decide +kernel
theorem jd_Y_along_14 : decode jc_Y_along 14 = .ok (.iload_n 2, 1) := by decide +kernel
theorem jd_Y_along_15 : decode jc_Y_along 15 = .ok (.iload_n 3, 1) := by decide +kernel
theorem jd_Y_along_16 : decode jc_Y_along 16 = .ok (.invokevirtual 105, 3) := by decide +kernel
theorem jd_Y_along_19 : decode jc_Y_along 19 = .ok (.istore 4, 2) := by decide +kernel
theorem jd_Y_along_21 : decode jc_Y_along 21 = .ok (.aload_n 0, 1) := by decide +kernel
theorem jd_Y_along_22 : decode jc_Y_along 22 = .ok (.iconst 0, 1) := by decide +kernel
theorem jd_Y_along_23 : decode jc_Y_along 23 = .ok (.putfield 102, 3) := by decide +kernel
theorem jd_Y_along_26 : decode jc_Y_along 26 = .ok (.iconst 0, 1) := by decide +kernel
theorem jd_Y_along_27 : decode jc_Y_along 27 = .ok (.istore 5, 2) := by decide +kernel
theorem jd_Y_along_29 : decode jc_Y_along 29 = .ok (.iload 5, 2) := by decide +kernel
theorem jd_Y_along_31 : decode jc_Y_along 31 = .ok (.aload_n 0, 1) := by decide +kernel
theorem jd_Y_along_32 : decode jc_Y_along 32 = .ok (.getfield 19, 3) := by decide +kernel
theorem jd_Y_along_35 : decode jc_Y_along 35 = .ok (.iload_n 2, 1) := by decide +kernel
theorem jd_Y_along_36 : decode jc_Y_along 36 = .ok (.iaload, 1) := by decide +kernel
theorem jd_Y_along_37 : decode jc_Y_along 37 = .ok (.if_icmp .ge 42, 3) := by decide +kernel
theorem jd_Y_along_40 : decode jc_Y_along 40 = .ok (.iload_n 3, 1) := by decide +kernel
theorem jd_Y_along_41 : decode jc_Y_along 41 = .ok (.ifCond .lt 38, 3) := by decide +kernel
theorem jd_Y_along_44 : decode jc_Y_along 44 = .ok (.iload 5, 2) := by decide +kernel
theorem jd_Y_along_46 : decode jc_Y_along 46 = .ok (.iload_n 3, 1) := by decide +kernel
theorem jd_Y_along_47 : decode jc_Y_along 47 = .ok (.if_icmp .eq 26, 3) := by decide +kernel
theorem jd_Y_along_50 : decode jc_Y_along 50 = .ok (.aload_n 0, 1) := by decide +kernel
theorem jd_Y_along_51 : decode jc_Y_along 51 = .ok (.getfield 72, 3) := by decide +kernel
theorem jd_Y_along_54 : decode jc_Y_along 54 = .ok (.aload_n 0, 1) := by decide +kernel
theorem jd_Y_along_55 : decode jc_Y_along 55 = .ok (.dup, 1) := by decide +kernel
theorem jd_Y_along_56 : decode jc_Y_along 56 = .ok (.getfield 102, 3) := by decide +kernel
theorem jd_Y_along_59 : decode jc_Y_along 59 = .ok (.dup_x1, 1) := by decide +kernel
theorem jd_Y_along_60 : decode jc_Y_along 60 = .ok (.iconst 1, 1) := by decide +kernel
theorem jd_Y_along_61 : decode jc_Y_along 61 = .ok (.iadd, 1) := by decide +kernel
theorem jd_Y_along_62 : decode jc_Y_along 62 = .ok (.putfield 102, 3) := by decide +kernel
theorem jd_Y_along_65 : decode jc_Y_along 65 = .ok (.aload_n 0, 1) := by decide +kernel
theorem jd_Y_along_66 : decode jc_Y_along 66 = .ok (.iload_n 2, 1) := by decide +kernel
theorem jd_Y_along_67 : decode jc_Y_along 67 = .ok (.iload 5, 2) := by decide +kernel
theorem jd_Y_along_69 : decode jc_Y_along 69 = .ok (.invokevirtual 105, 3) := by decide +kernel
theorem jd_Y_along_72 : decode jc_Y_along 72 = .ok (.iastore, 1) := by decide +kernel
theorem jd_Y_along_73 : decode jc_Y_along 73 = .ok (.iinc 5 1, 3) := by decide +kernel
theorem jd_Y_along_76 : decode jc_Y_along 76 = .ok (.goto (-47), 3) := by decide +kernel
theorem jd_Y_along_79 : decode jc_Y_along 79 = .ok (.iload_n 1, 1) := by decide +kernel
theorem jd_Y_along_80 : decode jc_Y_along 80 = .ok (.bipush 7, 2) := by decide +kernel
theorem jd_Y_along_82 : decode jc_Y_along 82 = .ok (.if_icmp .ne 12, 3) := by decide +kernel
theorem jd_Y_along_85 : decode jc_Y_along 85 = .ok (.aload_n 0, 1) := by decide +kernel
theorem jd_Y_along_86 : decode jc_Y_along 86 = .ok (.iload_n 1, 1) := by decide +kernel
theorem jd_Y_along_87 : decode jc_Y_along 87 = .ok (.iload_n 2, 1) := by decide +kernel
theorem jd_Y_along_88 : decode jc_Y_along 88 = .ok (.invokevirtual 183, 3) := by decide +kernel
theorem jd_Y_along_91 : decode jc_Y_along 91 = .ok (.goto 11, 3) := by decide +kernel
theorem jd_Y_along_94 : decode jc_Y_along 94 = .ok (.aload_n 0, 1) := by decide +kernel
theorem jd_Y_along_95 : decode jc_Y_along 95 = .ok (.iload_n 1, 1) := by decide +kernel
theorem jd_Y_along_96 : decode jc_Y_along 96 = .ok (.iload_n 2, 1) := by decide +kernel
theorem jd_Y_along_97 : decode jc_Y_along 97 = .ok (.iload 4, 2) := by decide +kernel
theorem jd_Y_along_99 : decode jc_Y_along 99 = .ok (.invokevirtual 212, 3) := by decide +kernel
theorem jd_Y_along_102 : decode jc_Y_along 102 = .ok (.ireturn, 1) := by decide +kernel
abbrev jc_Y_total : ByteArray := prog_7_method_32_code
abbrev jy_Y_total : MethodName := ⟨"MeasuredTensorsModel", "total", "(III)I"⟩
theorem jd_Y_total_0 : decode jc_Y_total 0 = .ok (.aload_n 0, 1) := by decide +kernel
theorem jd_Y_total_1 : decode jc_Y_total 1 = .ok (.getfield 31, 3) := by decide +kernel
theorem jd_Y_total_4 : decode jc_Y_total 4 = .ok (.iload_n 2, 1) := by decide +kernel
theorem jd_Y_total_5 : decode jc_Y_total 5 = .ok (.iaload, 1) := by decide +kernel
theorem jd_Y_total_6 : decode jc_Y_total 6 = .ok (.iload_n 3, 1) := by decide +kernel
theorem jd_Y_total_7 : decode jc_Y_total 7 = .ok (.i2l, 1) := by decide +kernel
theorem jd_Y_total_8 : decode jc_Y_total 8 = .ok (.invokestatic 139, 3) := by decide +kernel
theorem jd_Y_total_11 : decode jc_Y_total 11 = .ok (.iadd, 1) := by decide +kernel
theorem jd_Y_total_12 : decode jc_Y_total 12 = .ok (.i2l, 1) := by decide +kernel
theorem jd_Y_total_13 : decode jc_Y_total 13 = .ok (.lstore 4, 2) := by decide +kernel
theorem jd_Y_total_15 : decode jc_Y_total 15 = .ok (.iload_n 1, 1) := by decide +kernel
theorem jd_Y_total_16 : decode jc_Y_total 16 = .ok (.iconst 5, 1) := by decide +kernel
theorem jd_Y_total_17 : decode jc_Y_total 17 = .ok (.if_icmp .ne 27, 3) := by decide +kernel
theorem jd_Y_total_20 : decode jc_Y_total 20 = .ok (.aload_n 0, 1) := by decide +kernel
theorem jd_Y_total_21 : decode jc_Y_total 21 = .ok (.iload_n 1, 1) := by decide +kernel
theorem jd_Y_total_22 : decode jc_Y_total 22 = .ok (.iload_n 2, 1) := by decide +kernel
theorem jd_Y_total_23 : decode jc_Y_total 23 = .ok (.iconst (-1), 1) := by decide +kernel
theorem jd_Y_total_24 : decode jc_Y_total 24 = .ok (.lload 4, 2) := by decide +kernel
theorem jd_Y_total_26 : decode jc_Y_total 26 = .ok (.aload_n 0, 1) := by decide +kernel
theorem jd_Y_total_27 : decode jc_Y_total 27 = .ok (.getfield 34, 3) := by decide +kernel
theorem jd_Y_total_30 : decode jc_Y_total 30 = .ok (.iload_n 2, 1) := by decide +kernel
theorem jd_Y_total_31 : decode jc_Y_total 31 = .ok (.iaload, 1) := by decide +kernel
theorem jd_Y_total_32 : decode jc_Y_total 32 = .ok (.i2l, 1) := by decide +kernel
theorem jd_Y_total_33 : decode jc_Y_total 33 = .ok (.aload_n 0, 1) := by decide +kernel
theorem jd_Y_total_34 : decode jc_Y_total 34 = .ok (.getfield 37, 3) := by decide +kernel
theorem jd_Y_total_37 : decode jc_Y_total 37 = .ok (.iload_n 2, 1) := by decide +kernel
theorem jd_Y_total_38 : decode jc_Y_total 38 = .ok (.laload, 1) := by decide +kernel
theorem jd_Y_total_39 : decode jc_Y_total 39 = .ok (.iload_n 3, 1) := by decide +kernel
theorem jd_Y_total_40 : decode jc_Y_total 40 = .ok (.invokevirtual 131, 3) := by decide +kernel
theorem jd_Y_total_43 : decode jc_Y_total 43 = .ok (.ireturn, 1) := by decide +kernel
theorem jd_Y_total_44 : decode jc_Y_total 44 = .ok (.aload_n 0, 1) := by decide +kernel
theorem jd_Y_total_45 : decode jc_Y_total 45 = .ok (.iload_n 1, 1) := by decide +kernel
theorem jd_Y_total_46 : decode jc_Y_total 46 = .ok (.iload_n 2, 1) := by decide +kernel
theorem jd_Y_total_47 : decode jc_Y_total 47 = .ok (.iconst (-1), 1) := by decide +kernel
theorem jd_Y_total_48 : decode jc_Y_total 48 = .ok (.lload 4, 2) := by decide +kernel
theorem jd_Y_total_50 : decode jc_Y_total 50 = .ok (.lconst 1, 1) := by decide +kernel
theorem jd_Y_total_51 : decode jc_Y_total 51 = .ok (.ladd, 1) := by decide +kernel
theorem jd_Y_total_52 : decode jc_Y_total 52 = .ok (.aload_n 0, 1) := by decide +kernel
theorem jd_Y_total_53 : decode jc_Y_total 53 = .ok (.getfield 34, 3) := by decide +kernel
theorem jd_Y_total_56 : decode jc_Y_total 56 = .ok (.iload_n 2, 1) := by decide +kernel
theorem jd_Y_total_57 : decode jc_Y_total 57 = .ok (.iaload, 1) := by decide +kernel
theorem jd_Y_total_58 : decode jc_Y_total 58 = .ok (.iload_n 3, 1) := by decide +kernel
theorem jd_Y_total_59 : decode jc_Y_total 59 = .ok (.i2l, 1) := by decide +kernel
theorem jd_Y_total_60 : decode jc_Y_total 60 = .ok (.invokestatic 143, 3) := by decide +kernel
theorem jd_Y_total_63 : decode jc_Y_total 63 = .ok (.iadd, 1) := by decide +kernel
theorem jd_Y_total_64 : decode jc_Y_total 64 = .ok (.i2l, 1) := by decide +kernel
theorem jd_Y_total_65 : decode jc_Y_total 65 = .ok (.aload_n 0, 1) := by decide +kernel
theorem jd_Y_total_66 : decode jc_Y_total 66 = .ok (.getfield 37, 3) := by decide +kernel
theorem jd_Y_total_69 : decode jc_Y_total 69 = .ok (.iload_n 2, 1) := by decide +kernel
theorem jd_Y_total_70 : decode jc_Y_total 70 = .ok (.laload, 1) := by decide +kernel
theorem jd_Y_total_71 : decode jc_Y_total 71 = .ok (.iload_n 3, 1) := by decide +kernel
theorem jd_Y_total_72 : decode jc_Y_total 72 = .ok (.i2l, 1) := by decide +kernel
theorem jd_Y_total_73 : decode jc_Y_total 73 = .ok (.invokestatic 146, 3) := by decide +kernel
theorem jd_Y_total_76 : decode jc_Y_total 76 = .ok (.invokestatic 99, 3) := by decide +kernel
theorem jd_Y_total_79 : decode jc_Y_total 79 = .ok (.iload_n 3, 1) := by decide +kernel
theorem jd_Y_total_80 : decode jc_Y_total 80 = .ok (.invokevirtual 131, 3) := by decide +kernel
theorem jd_Y_total_83 : decode jc_Y_total 83 = .ok (.ireturn, 1) := by decide +kernel
abbrev jc_Y_conv : ByteArray := prog_7_method_33_code
abbrev jy_Y_conv : MethodName := ⟨"MeasuredTensorsModel", "conv", "(III)I"⟩
theorem jd_Y_conv_0 : decode jc_Y_conv 0 = .ok (.aload_n 0, 1) := by decide +kernel
theorem jd_Y_conv_1 : decode jc_Y_conv 1 = .ok (.getfield 19, 3) := by decide +kernel
theorem jd_Y_conv_4 : decode jc_Y_conv 4 = .ok (.iload_n 1, 1) := by decide +kernel
theorem jd_Y_conv_5 : decode jc_Y_conv 5 = .ok (.iaload, 1) := by decide +kernel
theorem jd_Y_conv_6 : decode jc_Y_conv 6 = .ok (.iconst 3, 1) := by decide +kernel
theorem jd_Y_conv_7 : decode jc_Y_conv 7 = .ok (.if_icmp .ne 73, 3) := by decide +kernel
theorem jd_Y_conv_10 : decode jc_Y_conv 10 = .ok (.aload_n 0, 1) := by decide +kernel
theorem jd_Y_conv_11 : decode jc_Y_conv 11 = .ok (.getfield 19, 3) := by decide +kernel
theorem jd_Y_conv_14 : decode jc_Y_conv 14 = .ok (.iload_n 2, 1) := by decide +kernel
theorem jd_Y_conv_15 : decode jc_Y_conv 15 = .ok (.iaload, 1) := by decide +kernel
theorem jd_Y_conv_16 : decode jc_Y_conv 16 = .ok (.iconst 4, 1) := by decide +kernel
theorem jd_Y_conv_17 : decode jc_Y_conv 17 = .ok (.if_icmp .ne 63, 3) := by decide +kernel
theorem jd_Y_conv_20 : decode jc_Y_conv 20 = .ok (.iload_n 3, 1) := by decide +kernel
theorem jd_Y_conv_21 : decode jc_Y_conv 21 = .ok (.iconst 1, 1) := by decide +kernel
theorem jd_Y_conv_22 : decode jc_Y_conv 22 = .ok (.if_icmp .lt 58, 3) := by decide +kernel
theorem jd_Y_conv_25 : decode jc_Y_conv 25 = .ok (.iload_n 3, 1) := by decide +kernel
theorem jd_Y_conv_26 : decode jc_Y_conv 26 = .ok (.bipush 16, 2) := by decide +kernel
theorem jd_Y_conv_28 : decode jc_Y_conv 28 = .ok (.if_icmp .gt 52, 3) := by decide +kernel
theorem jd_Y_conv_31 : decode jc_Y_conv 31 = .ok (.aload_n 0, 1) := by decide +kernel
theorem jd_Y_conv_32 : decode jc_Y_conv 32 = .ok (.iload_n 1, 1) := by decide +kernel
theorem jd_Y_conv_33 : decode jc_Y_conv 33 = .ok (.iconst 0, 1) := by decide +kernel
theorem jd_Y_conv_34 : decode jc_Y_conv 34 = .ok (.invokevirtual 105, 3) := by decide +kernel
theorem jd_Y_conv_37 : decode jc_Y_conv 37 = .ok (.aload_n 0, 1) := by decide +kernel
theorem jd_Y_conv_38 : decode jc_Y_conv 38 = .ok (.iload_n 2, 1) := by decide +kernel
theorem jd_Y_conv_39 : decode jc_Y_conv 39 = .ok (.iconst 1, 1) := by decide +kernel
theorem jd_Y_conv_40 : decode jc_Y_conv 40 = .ok (.invokevirtual 105, 3) := by decide +kernel
theorem jd_Y_conv_43 : decode jc_Y_conv 43 = .ok (.if_icmp .ne 37, 3) := by decide +kernel
theorem jd_Y_conv_46 : decode jc_Y_conv 46 = .ok (.aload_n 0, 1) := by decide +kernel
theorem jd_Y_conv_47 : decode jc_Y_conv 47 = .ok (.iload_n 2, 1) := by decide +kernel
theorem jd_Y_conv_48 : decode jc_Y_conv 48 = .ok (.iconst 2, 1) := by decide +kernel
theorem jd_Y_conv_49 : decode jc_Y_conv 49 = .ok (.invokevirtual 105, 3) := by decide +kernel
theorem jd_Y_conv_52 : decode jc_Y_conv 52 = .ok (.aload_n 0, 1) := by decide +kernel
theorem jd_Y_conv_53 : decode jc_Y_conv 53 = .ok (.iload_n 1, 1) := by decide +kernel
theorem jd_Y_conv_54 : decode jc_Y_conv 54 = .ok (.iconst 1, 1) := by decide +kernel
theorem jd_Y_conv_55 : decode jc_Y_conv 55 = .ok (.invokevirtual 105, 3) := by decide +kernel
theorem jd_Y_conv_58 : decode jc_Y_conv 58 = .ok (.if_icmp .gt 22, 3) := by decide +kernel
theorem jd_Y_conv_61 : decode jc_Y_conv 61 = .ok (.aload_n 0, 1) := by decide +kernel
theorem jd_Y_conv_62 : decode jc_Y_conv 62 = .ok (.iload_n 2, 1) := by decide +kernel
theorem jd_Y_conv_63 : decode jc_Y_conv 63 = .ok (.iconst 3, 1) := by decide +kernel
theorem jd_Y_conv_64 : decode jc_Y_conv 64 = .ok (.invokevirtual 105, 3) := by decide +kernel
theorem jd_Y_conv_67 : decode jc_Y_conv 67 = .ok (.aload_n 0, 1) := by decide +kernel
theorem jd_Y_conv_68 : decode jc_Y_conv 68 = .ok (.iload_n 1, 1) := by decide +kernel
theorem jd_Y_conv_69 : decode jc_Y_conv 69 = .ok (.iconst 2, 1) := by decide +kernel
theorem jd_Y_conv_70 : decode jc_Y_conv 70 = .ok (.invokevirtual 105, 3) := by decide +kernel
theorem jd_Y_conv_73 : decode jc_Y_conv 73 = .ok (.if_icmp .gt 7, 3) := by decide +kernel
theorem jd_Y_conv_76 : decode jc_Y_conv 76 = .ok (.iconst 1, 1) := by decide +kernel
theorem jd_Y_conv_77 : decode jc_Y_conv 77 = .ok (.goto 4, 3) := by decide +kernel
theorem jd_Y_conv_80 : decode jc_Y_conv 80 = .ok (.iconst 0, 1) := by decide +kernel
theorem jd_Y_conv_81 : decode jc_Y_conv 81 = .ok (.istore 4, 2) := by decide +kernel
theorem jd_Y_conv_83 : decode jc_Y_conv 83 = .ok (.iload 4, 2) := by decide +kernel
theorem jd_Y_conv_85 : decode jc_Y_conv 85 = .ok (.ifCond .ne 6, 3) := by decide +kernel
theorem jd_Y_conv_88 : decode jc_Y_conv 88 = .ok (.bipush (-5), 2) := by decide +kernel
theorem jd_Y_conv_90 : decode jc_Y_conv 90 = .ok (.ireturn, 1) := by decide +kernel
theorem jd_Y_conv_91 : decode jc_Y_conv 91 = .ok (.aload_n 0, 1) := by decide +kernel
theorem jd_Y_conv_92 : decode jc_Y_conv 92 = .ok (.getfield 72, 3) := by decide +kernel
theorem jd_Y_conv_95 : decode jc_Y_conv 95 = .ok (.iconst 0, 1) := by decide +kernel
theorem jd_Y_conv_96 : decode jc_Y_conv 96 = .ok (.aload_n 0, 1) := by decide +kernel
theorem jd_Y_conv_97 : decode jc_Y_conv 97 = .ok (.iload_n 2, 1) := by decide +kernel
theorem jd_Y_conv_98 : decode jc_Y_conv 98 = .ok (.iconst 0, 1) := by decide +kernel
theorem jd_Y_conv_99 : decode jc_Y_conv 99 = .ok (.invokevirtual 105, 3) := by decide +kernel
theorem jd_Y_conv_102 : decode jc_Y_conv 102 = .ok (.iastore, 1) := by decide +kernel
theorem jd_Y_conv_103 : decode jc_Y_conv 103 = .ok (.aload_n 0, 1) := by decide +kernel
theorem jd_Y_conv_104 : decode jc_Y_conv 104 = .ok (.getfield 72, 3) := by decide +kernel
theorem jd_Y_conv_107 : decode jc_Y_conv 107 = .ok (.iconst 1, 1) := by decide +kernel
theorem jd_Y_conv_108 : decode jc_Y_conv 108 = .ok (.aload_n 0, 1) := by decide +kernel
theorem jd_Y_conv_109 : decode jc_Y_conv 109 = .ok (.iload_n 1, 1) := by decide +kernel
theorem jd_Y_conv_110 : decode jc_Y_conv 110 = .ok (.iconst 1, 1) := by decide +kernel
theorem jd_Y_conv_111 : decode jc_Y_conv 111 = .ok (.invokevirtual 105, 3) := by decide +kernel
theorem jd_Y_conv_114 : decode jc_Y_conv 114 = .ok (.aload_n 0, 1) := by decide +kernel
theorem jd_Y_conv_115 : decode jc_Y_conv 115 = .ok (.iload_n 2, 1) := by decide +kernel
theorem jd_Y_conv_116 : decode jc_Y_conv 116 = .ok (.iconst 2, 1) := by decide +kernel
theorem jd_Y_conv_117 : decode jc_Y_conv 117 = .ok (.invokevirtual 105, 3) := by decide +kernel
theorem jd_Y_conv_120 : decode jc_Y_conv 120 = .ok (.isub, 1) := by decide +kernel
theorem jd_Y_conv_121 : decode jc_Y_conv 121 = .ok (.iload_n 3, 1) := by decide +kernel
theorem jd_Y_conv_122 : decode jc_Y_conv 122 = .ok (.idiv, 1) := by decide +kernel
theorem jd_Y_conv_123 : decode jc_Y_conv 123 = .ok (.iconst 1, 1) := by decide +kernel
theorem jd_Y_conv_124 : decode jc_Y_conv 124 = .ok (.iadd, 1) := by decide +kernel
theorem jd_Y_conv_125 : decode jc_Y_conv 125 = .ok (.iastore, 1) := by decide +kernel
theorem jd_Y_conv_126 : decode jc_Y_conv 126 = .ok (.aload_n 0, 1) := by decide +kernel
theorem jd_Y_conv_127 : decode jc_Y_conv 127 = .ok (.getfield 72, 3) := by decide +kernel
theorem jd_Y_conv_130 : decode jc_Y_conv 130 = .ok (.iconst 2, 1) := by decide +kernel
theorem jd_Y_conv_131 : decode jc_Y_conv 131 = .ok (.aload_n 0, 1) := by decide +kernel
theorem jd_Y_conv_132 : decode jc_Y_conv 132 = .ok (.iload_n 1, 1) := by decide +kernel
theorem jd_Y_conv_133 : decode jc_Y_conv 133 = .ok (.iconst 2, 1) := by decide +kernel
theorem jd_Y_conv_134 : decode jc_Y_conv 134 = .ok (.invokevirtual 105, 3) := by decide +kernel
theorem jd_Y_conv_137 : decode jc_Y_conv 137 = .ok (.aload_n 0, 1) := by decide +kernel
theorem jd_Y_conv_138 : decode jc_Y_conv 138 = .ok (.iload_n 2, 1) := by decide +kernel
theorem jd_Y_conv_139 : decode jc_Y_conv 139 = .ok (.iconst 3, 1) := by decide +kernel
theorem jd_Y_conv_140 : decode jc_Y_conv 140 = .ok (.invokevirtual 105, 3) := by decide +kernel
theorem jd_Y_conv_143 : decode jc_Y_conv 143 = .ok (.isub, 1) := by decide +kernel
theorem jd_Y_conv_144 : decode jc_Y_conv 144 = .ok (.iload_n 3, 1) := by decide +kernel
theorem jd_Y_conv_145 : decode jc_Y_conv 145 = .ok (.idiv, 1) := by decide +kernel
theorem jd_Y_conv_146 : decode jc_Y_conv 146 = .ok (.iconst 1, 1) := by decide +kernel
theorem jd_Y_conv_147 : decode jc_Y_conv 147 = .ok (.iadd, 1) := by decide +kernel
theorem jd_Y_conv_148 : decode jc_Y_conv 148 = .ok (.iastore, 1) := by decide +kernel
theorem jd_Y_conv_149 : decode jc_Y_conv 149 = .ok (.aload_n 0, 1) := by decide +kernel
theorem jd_Y_conv_150 : decode jc_Y_conv 150 = .ok (.iload_n 2, 1) := by decide +kernel
theorem jd_Y_conv_151 : decode jc_Y_conv 151 = .ok (.iconst 1, 1) := by decide +kernel
theorem jd_Y_conv_152 : decode jc_Y_conv 152 = .ok (.invokevirtual 105, 3) := by decide +kernel
theorem jd_Y_conv_155 : decode jc_Y_conv 155 = .ok (.aload_n 0, 1) := by decide +kernel
theorem jd_Y_conv_156 : decode jc_Y_conv 156 = .ok (.iload_n 2, 1) := by decide +kernel
theorem jd_Y_conv_157 : decode jc_Y_conv 157 = .ok (.iconst 2, 1) := by decide +kernel
theorem jd_Y_conv_158 : decode jc_Y_conv 158 = .ok (.invokevirtual 105, 3) := by decide +kernel
theorem jd_Y_conv_161 : decode jc_Y_conv 161 = .ok (.imul, 1) := by decide +kernel
theorem jd_Y_conv_162 : decode jc_Y_conv 162 = .ok (.aload_n 0, 1) := by decide +kernel
theorem jd_Y_conv_163 : decode jc_Y_conv 163 = .ok (.iload_n 2, 1) := by decide +kernel
theorem jd_Y_conv_164 : decode jc_Y_conv 164 = .ok (.iconst 3, 1) := by decide +kernel
theorem jd_Y_conv_165 : decode jc_Y_conv 165 = .ok (.invokevirtual 105, 3) := by decide +kernel
theorem jd_Y_conv_168 : decode jc_Y_conv 168 = .ok (.imul, 1) := by decide +kernel
theorem jd_Y_conv_169 : decode jc_Y_conv 169 = .ok (.istore 5, 2) := by decide +kernel
theorem jd_Y_conv_171 : decode jc_Y_conv 171 = .ok (.aload_n 0, 1) := by decide +kernel
theorem jd_Y_conv_172 : decode jc_Y_conv 172 = .ok (.bipush 8, 2) := by decide +kernel
theorem jd_Y_conv_174 : decode jc_Y_conv 174 = .ok (.iload_n 1, 1) := by decide +kernel
theorem jd_Y_conv_175 : decode jc_Y_conv 175 = .ok (.iload_n 2, 1) := by decide +kernel
theorem jd_Y_conv_176 : decode jc_Y_conv 176 = .ok (.aload_n 0, 1) := by decide +kernel
theorem jd_Y_conv_177 : decode jc_Y_conv 177 = .ok (.getfield 31, 3) := by decide +kernel
theorem jd_Y_conv_180 : decode jc_Y_conv 180 = .ok (.iload_n 1, 1) := by decide +kernel
theorem jd_Y_conv_181 : decode jc_Y_conv 181 = .ok (.iaload, 1) := by decide +kernel
theorem jd_Y_conv_182 : decode jc_Y_conv 182 = .ok (.aload_n 0, 1) := by decide +kernel
theorem jd_Y_conv_183 : decode jc_Y_conv 183 = .ok (.getfield 31, 3) := by decide +kernel
theorem jd_Y_conv_186 : decode jc_Y_conv 186 = .ok (.iload_n 2, 1) := by decide +kernel
theorem jd_Y_conv_187 : decode jc_Y_conv 187 = .ok (.iaload, 1) := by decide +kernel
theorem jd_Y_conv_188 : decode jc_Y_conv 188 = .ok (.iadd, 1) := by decide +kernel
theorem jd_Y_conv_189 : decode jc_Y_conv 189 = .ok (.iload 5, 2) := by decide +kernel
theorem jd_Y_conv_191 : decode jc_Y_conv 191 = .ok (.i2l, 1) := by decide +kernel
theorem jd_Y_conv_192 : decode jc_Y_conv 192 = .ok (.invokestatic 139, 3) := by decide +kernel
theorem jd_Y_conv_195 : decode jc_Y_conv 195 = .ok (.iadd, 1) := by decide +kernel
theorem jd_Y_conv_196 : decode jc_Y_conv 196 = .ok (.i2l, 1) := by decide +kernel
theorem jd_Y_conv_197 : decode jc_Y_conv 197 = .ok (.aload_n 0, 1) := by decide +kernel
theorem jd_Y_conv_198 : decode jc_Y_conv 198 = .ok (.getfield 34, 3) := by decide +kernel
theorem jd_Y_conv_201 : decode jc_Y_conv 201 = .ok (.iload_n 1, 1) := by decide +kernel
theorem jd_Y_conv_202 : decode jc_Y_conv 202 = .ok (.iaload, 1) := by decide +kernel
theorem jd_Y_conv_203 : decode jc_Y_conv 203 = .ok (.aload_n 0, 1) := by decide +kernel
theorem jd_Y_conv_204 : decode jc_Y_conv 204 = .ok (.getfield 34, 3) := by decide +kernel
theorem jd_Y_conv_207 : decode jc_Y_conv 207 = .ok (.iload_n 2, 1) := by decide +kernel
theorem jd_Y_conv_208 : decode jc_Y_conv 208 = .ok (.iaload, 1) := by decide +kernel
theorem jd_Y_conv_209 : decode jc_Y_conv 209 = .ok (.iadd, 1) := by decide +kernel
theorem jd_Y_conv_210 : decode jc_Y_conv 210 = .ok (.i2l, 1) := by decide +kernel
theorem jd_Y_conv_211 : decode jc_Y_conv 211 = .ok (.aload_n 0, 1) := by decide +kernel
theorem jd_Y_conv_212 : decode jc_Y_conv 212 = .ok (.getfield 37, 3) := by decide +kernel
theorem jd_Y_conv_215 : decode jc_Y_conv 215 = .ok (.iload_n 1, 1) := by decide +kernel
theorem jd_Y_conv_216 : decode jc_Y_conv 216 = .ok (.laload, 1) := by decide +kernel
theorem jd_Y_conv_217 : decode jc_Y_conv 217 = .ok (.aload_n 0, 1) := by decide +kernel
theorem jd_Y_conv_218 : decode jc_Y_conv 218 = .ok (.getfield 37, 3) := by decide +kernel
theorem jd_Y_conv_221 : decode jc_Y_conv 221 = .ok (.iload_n 2, 1) := by decide +kernel
theorem jd_Y_conv_222 : decode jc_Y_conv 222 = .ok (.laload, 1) := by decide +kernel
theorem jd_Y_conv_223 : decode jc_Y_conv 223 = .ok (.invokestatic 99, 3) := by decide +kernel
theorem jd_Y_conv_226 : decode jc_Y_conv 226 = .ok (.iload 5, 2) := by decide +kernel
theorem jd_Y_conv_228 : decode jc_Y_conv 228 = .ok (.invokevirtual 131, 3) := by decide +kernel
theorem jd_Y_conv_231 : decode jc_Y_conv 231 = .ok (.ireturn, 1) := by decide +kernel
abbrev jc_Y_pool : ByteArray := prog_7_method_34_code
abbrev jy_Y_pool : MethodName := ⟨"MeasuredTensorsModel", "pool", "(III)I"⟩
theorem jd_Y_pool_0 : decode jc_Y_pool 0 = .ok (.aload_n 0, 1) := by decide +kernel
theorem jd_Y_pool_1 : decode jc_Y_pool 1 = .ok (.getfield 72, 3) := by decide +kernel
theorem jd_Y_pool_4 : decode jc_Y_pool 4 = .ok (.iconst 1, 1) := by decide +kernel
theorem jd_Y_pool_5 : decode jc_Y_pool 5 = .ok (.aload_n 0, 1) := by decide +kernel
theorem jd_Y_pool_6 : decode jc_Y_pool 6 = .ok (.iload_n 2, 1) := by decide +kernel
theorem jd_Y_pool_7 : decode jc_Y_pool 7 = .ok (.iconst 1, 1) := by decide +kernel
theorem jd_Y_pool_8 : decode jc_Y_pool 8 = .ok (.invokevirtual 105, 3) := by decide +kernel
theorem jd_Y_pool_11 : decode jc_Y_pool 11 = .ok (.iload_n 3, 1) := by decide +kernel
theorem jd_Y_pool_12 : decode jc_Y_pool 12 = .ok (.idiv, 1) := by decide +kernel
theorem jd_Y_pool_13 : decode jc_Y_pool 13 = .ok (.iastore, 1) := by decide +kernel
theorem jd_Y_pool_14 : decode jc_Y_pool 14 = .ok (.aload_n 0, 1) := by decide +kernel
theorem jd_Y_pool_15 : decode jc_Y_pool 15 = .ok (.getfield 72, 3) := by decide +kernel
theorem jd_Y_pool_18 : decode jc_Y_pool 18 = .ok (.iconst 2, 1) := by decide +kernel
theorem jd_Y_pool_19 : decode jc_Y_pool 19 = .ok (.aload_n 0, 1) := by decide +kernel
theorem jd_Y_pool_20 : decode jc_Y_pool 20 = .ok (.iload_n 2, 1) := by decide +kernel
theorem jd_Y_pool_21 : decode jc_Y_pool 21 = .ok (.iconst 2, 1) := by decide +kernel
theorem jd_Y_pool_22 : decode jc_Y_pool 22 = .ok (.invokevirtual 105, 3) := by decide +kernel
theorem jd_Y_pool_25 : decode jc_Y_pool 25 = .ok (.iload_n 3, 1) := by decide +kernel
theorem jd_Y_pool_26 : decode jc_Y_pool 26 = .ok (.idiv, 1) := by decide +kernel
theorem jd_Y_pool_27 : decode jc_Y_pool 27 = .ok (.iastore, 1) := by decide +kernel
theorem jd_Y_pool_28 : decode jc_Y_pool 28 = .ok (.iload_n 1, 1) := by decide +kernel
theorem jd_Y_pool_29 : decode jc_Y_pool 29 = .ok (.bipush 10, 2) := by decide +kernel
theorem jd_Y_pool_31 : decode jc_Y_pool 31 = .ok (.if_icmp .ne 12, 3) := by decide +kernel
theorem jd_Y_pool_34 : decode jc_Y_pool 34 = .ok (.aload_n 0, 1) := by decide +kernel
theorem jd_Y_pool_35 : decode jc_Y_pool 35 = .ok (.iload_n 1, 1) := by decide +kernel
theorem jd_Y_pool_36 : decode jc_Y_pool 36 = .ok (.iload_n 2, 1) := by decide +kernel
theorem jd_Y_pool_37 : decode jc_Y_pool 37 = .ok (.invokevirtual 183, 3) := by decide +kernel
theorem jd_Y_pool_40 : decode jc_Y_pool 40 = .ok (.goto 12, 3) := by decide +kernel
theorem jd_Y_pool_43 : decode jc_Y_pool 43 = .ok (.aload_n 0, 1) := by decide +kernel
theorem jd_Y_pool_44 : decode jc_Y_pool 44 = .ok (.iload_n 1, 1) := by decide +kernel
theorem jd_Y_pool_45 : decode jc_Y_pool 45 = .ok (.iload_n 2, 1) := by decide +kernel
theorem jd_Y_pool_46 : decode jc_Y_pool 46 = .ok (.iload_n 3, 1) := by decide +kernel
theorem jd_Y_pool_47 : decode jc_Y_pool 47 = .ok (.iload_n 3, 1) := by decide +kernel
theorem jd_Y_pool_48 : decode jc_Y_pool 48 = .ok (.imul, 1) := by decide +kernel
theorem jd_Y_pool_49 : decode jc_Y_pool 49 = .ok (.invokevirtual 212, 3) := by decide +kernel
theorem jd_Y_pool_52 : decode jc_Y_pool 52 = .ok (.ireturn, 1) := by decide +kernel
abbrev jc_Y_join : ByteArray := prog_7_method_35_code
abbrev jy_Y_join : MethodName := ⟨"MeasuredTensorsModel", "join", "(II)I"⟩
theorem jd_Y_join_0 : decode jc_Y_join 0 = .ok (.aload_n 0, 1) := by decide +kernel
theorem jd_Y_join_1 : decode jc_Y_join 1 = .ok (.getfield 19, 3) := by decide +kernel
theorem jd_Y_join_4 : decode jc_Y_join 4 = .ok (.iload_n 1, 1) := by decide +kernel
theorem jd_Y_join_5 : decode jc_Y_join 5 = .ok (.iaload, 1) := by decide +kernel
theorem jd_Y_join_6 : decode jc_Y_join 6 = .ok (.ifCond .le 22, 3) := by decide +kernel
theorem jd_Y_join_9 : decode jc_Y_join 9 = .ok (.aload_n 0, 1) := by decide +kernel
theorem jd_Y_join_10 : decode jc_Y_join 10 = .ok (.getfield 19, 3) := by decide +kernel
theorem jd_Y_join_13 : decode jc_Y_join 13 = .ok (.iload_n 1, 1) := by decide +kernel
theorem jd_Y_join_14 : decode jc_Y_join 14 = .ok (.iaload, 1) := by decide +kernel
theorem jd_Y_join_15 : decode jc_Y_join 15 = .ok (.aload_n 0, 1) := by decide +kernel
theorem jd_Y_join_16 : decode jc_Y_join 16 = .ok (.getfield 19, 3) := by decide +kernel
theorem jd_Y_join_19 : decode jc_Y_join 19 = .ok (.iload_n 2, 1) := by decide +kernel
theorem jd_Y_join_20 : decode jc_Y_join 20 = .ok (.iaload, 1) := by decide +kernel
theorem jd_Y_join_21 : decode jc_Y_join 21 = .ok (.if_icmp .ne 7, 3) := by decide +kernel
theorem jd_Y_join_24 : decode jc_Y_join 24 = .ok (.iconst 1, 1) := by decide +kernel
theorem jd_Y_join_25 : decode jc_Y_join 25 = .ok (.goto 4, 3) := by decide +kernel
theorem jd_Y_join_28 : decode jc_Y_join 28 = .ok (.iconst 0, 1) := by decide +kernel
theorem jd_Y_join_29 : decode jc_Y_join 29 = .ok (.istore_n 3, 1) := by decide +kernel
theorem jd_Y_join_30 : decode jc_Y_join 30 = .ok (.iconst 1, 1) := by decide +kernel
theorem jd_Y_join_31 : decode jc_Y_join 31 = .ok (.istore 4, 2) := by decide +kernel
theorem jd_Y_join_33 : decode jc_Y_join 33 = .ok (.iload 4, 2) := by decide +kernel
theorem jd_Y_join_35 : decode jc_Y_join 35 = .ok (.iconst 4, 1) := by decide +kernel
theorem jd_Y_join_36 : decode jc_Y_join 36 = .ok (.if_icmp .ge 36, 3) := by decide +kernel
theorem jd_Y_join_39 : decode jc_Y_join 39 = .ok (.iload_n 3, 1) := by decide +kernel
theorem jd_Y_join_40 : decode jc_Y_join 40 = .ok (.ifCond .eq 24, 3) := by decide +kernel
theorem jd_Y_join_43 : decode jc_Y_join 43 = .ok (.aload_n 0, 1) := by decide +kernel
theorem jd_Y_join_44 : decode jc_Y_join 44 = .ok (.iload_n 1, 1) := by decide +kernel
theorem jd_Y_join_45 : decode jc_Y_join 45 = .ok (.iload 4, 2) := by decide +kernel
theorem jd_Y_join_47 : decode jc_Y_join 47 = .ok (.invokevirtual 105, 3) := by decide +kernel
theorem jd_Y_join_50 : decode jc_Y_join 50 = .ok (.aload_n 0, 1) := by decide +kernel
theorem jd_Y_join_51 : decode jc_Y_join 51 = .ok (.iload_n 2, 1) := by decide +kernel
theorem jd_Y_join_52 : decode jc_Y_join 52 = .ok (.iload 4, 2) := by decide +kernel
theorem jd_Y_join_54 : decode jc_Y_join 54 = .ok (.invokevirtual 105, 3) := by decide +kernel
theorem jd_Y_join_57 : decode jc_Y_join 57 = .ok (.if_icmp .ne 7, 3) := by decide +kernel
theorem jd_Y_join_60 : decode jc_Y_join 60 = .ok (.iconst 1, 1) := by decide +kernel
theorem jd_Y_join_61 : decode jc_Y_join 61 = .ok (.goto 4, 3) := by decide +kernel
theorem jd_Y_join_64 : decode jc_Y_join 64 = .ok (.iconst 0, 1) := by decide +kernel
theorem jd_Y_join_65 : decode jc_Y_join 65 = .ok (.istore_n 3, 1) := by decide +kernel
theorem jd_Y_join_66 : decode jc_Y_join 66 = .ok (.iinc 4 1, 3) := by decide +kernel
theorem jd_Y_join_69 : decode jc_Y_join 69 = .ok (.goto (-36), 3) := by decide +kernel
theorem jd_Y_join_72 : decode jc_Y_join 72 = .ok (.iload_n 3, 1) := by decide +kernel
theorem jd_Y_join_73 : decode jc_Y_join 73 = .ok (.ifCond .ne 6, 3) := by decide +kernel
theorem jd_Y_join_76 : decode jc_Y_join 76 = .ok (.bipush (-5), 2) := by decide +kernel
theorem jd_Y_join_78 : decode jc_Y_join 78 = .ok (.ireturn, 1) := by decide +kernel
theorem jd_Y_join_79 : decode jc_Y_join 79 = .ok (.aload_n 0, 1) := by decide +kernel
theorem jd_Y_join_80 : decode jc_Y_join 80 = .ok (.getfield 72, 3) := by decide +kernel
theorem jd_Y_join_83 : decode jc_Y_join 83 = .ok (.iconst 0, 1) := by decide +kernel
theorem jd_Y_join_84 : decode jc_Y_join 84 = .ok (.aload_n 0, 1) := by decide +kernel
theorem jd_Y_join_85 : decode jc_Y_join 85 = .ok (.iload_n 1, 1) := by decide +kernel
theorem jd_Y_join_86 : decode jc_Y_join 86 = .ok (.iconst 0, 1) := by decide +kernel
theorem jd_Y_join_87 : decode jc_Y_join 87 = .ok (.invokevirtual 105, 3) := by decide +kernel
theorem jd_Y_join_90 : decode jc_Y_join 90 = .ok (.aload_n 0, 1) := by decide +kernel
theorem jd_Y_join_91 : decode jc_Y_join 91 = .ok (.iload_n 2, 1) := by decide +kernel
theorem jd_Y_join_92 : decode jc_Y_join 92 = .ok (.iconst 0, 1) := by decide +kernel
theorem jd_Y_join_93 : decode jc_Y_join 93 = .ok (.invokevirtual 105, 3) := by decide +kernel
theorem jd_Y_join_96 : decode jc_Y_join 96 = .ok (.iadd, 1) := by decide +kernel
theorem jd_Y_join_97 : decode jc_Y_join 97 = .ok (.iastore, 1) := by decide +kernel
theorem jd_Y_join_98 : decode jc_Y_join 98 = .ok (.aload_n 0, 1) := by decide +kernel
theorem jd_Y_join_99 : decode jc_Y_join 99 = .ok (.bipush 14, 2) := by decide +kernel
theorem jd_Y_join_101 : decode jc_Y_join 101 = .ok (.iload_n 1, 1) := by decide +kernel
theorem jd_Y_join_102 : decode jc_Y_join 102 = .ok (.iload_n 2, 1) := by decide +kernel
theorem jd_Y_join_103 : decode jc_Y_join 103 = .ok (.aload_n 0, 1) := by decide +kernel
theorem jd_Y_join_104 : decode jc_Y_join 104 = .ok (.getfield 31, 3) := by decide +kernel
theorem jd_Y_join_107 : decode jc_Y_join 107 = .ok (.iload_n 1, 1) := by decide +kernel
theorem jd_Y_join_108 : decode jc_Y_join 108 = .ok (.iaload, 1) := by decide +kernel
theorem jd_Y_join_109 : decode jc_Y_join 109 = .ok (.aload_n 0, 1) := by decide +kernel
theorem jd_Y_join_110 : decode jc_Y_join 110 = .ok (.getfield 31, 3) := by decide +kernel
theorem jd_Y_join_113 : decode jc_Y_join 113 = .ok (.iload_n 2, 1) := by decide +kernel
theorem jd_Y_join_114 : decode jc_Y_join 114 = .ok (.iaload, 1) := by decide +kernel
theorem jd_Y_join_115 : decode jc_Y_join 115 = .ok (.invokestatic 175, 3) := by decide +kernel
theorem jd_Y_join_118 : decode jc_Y_join 118 = .ok (.i2l, 1) := by decide +kernel
theorem jd_Y_join_119 : decode jc_Y_join 119 = .ok (.aload_n 0, 1) := by decide +kernel
theorem jd_Y_join_120 : decode jc_Y_join 120 = .ok (.getfield 34, 3) := by decide +kernel
theorem jd_Y_join_123 : decode jc_Y_join 123 = .ok (.iload_n 1, 1) := by decide +kernel
theorem jd_Y_join_124 : decode jc_Y_join 124 = .ok (.iaload, 1) := by decide +kernel
theorem jd_Y_join_125 : decode jc_Y_join 125 = .ok (.aload_n 0, 1) := by decide +kernel
theorem jd_Y_join_126 : decode jc_Y_join 126 = .ok (.getfield 34, 3) := by decide +kernel
theorem jd_Y_join_129 : decode jc_Y_join 129 = .ok (.iload_n 2, 1) := by decide +kernel
theorem jd_Y_join_130 : decode jc_Y_join 130 = .ok (.iaload, 1) := by decide +kernel
theorem jd_Y_join_131 : decode jc_Y_join 131 = .ok (.invokestatic 175, 3) := by decide +kernel
theorem jd_Y_join_134 : decode jc_Y_join 134 = .ok (.i2l, 1) := by decide +kernel
theorem jd_Y_join_135 : decode jc_Y_join 135 = .ok (.aload_n 0, 1) := by decide +kernel
theorem jd_Y_join_136 : decode jc_Y_join 136 = .ok (.getfield 37, 3) := by decide +kernel
theorem jd_Y_join_139 : decode jc_Y_join 139 = .ok (.iload_n 1, 1) := by decide +kernel
theorem jd_Y_join_140 : decode jc_Y_join 140 = .ok (.laload, 1) := by decide +kernel
theorem jd_Y_join_141 : decode jc_Y_join 141 = .ok (.aload_n 0, 1) := by decide +kernel
theorem jd_Y_join_142 : decode jc_Y_join 142 = .ok (.getfield 37, 3) := by decide +kernel
theorem jd_Y_join_145 : decode jc_Y_join 145 = .ok (.iload_n 2, 1) := by decide +kernel
theorem jd_Y_join_146 : decode jc_Y_join 146 = .ok (.laload, 1) := by decide +kernel
theorem jd_Y_join_147 : decode jc_Y_join 147 = .ok (.invokestatic 180, 3) := by decide +kernel
theorem jd_Y_join_150 : decode jc_Y_join 150 = .ok (.iconst 1, 1) := by decide +kernel
theorem jd_Y_join_151 : decode jc_Y_join 151 = .ok (.invokevirtual 131, 3) := by decide +kernel
theorem jd_Y_join_154 : decode jc_Y_join 154 = .ok (.ireturn, 1) := by decide +kernel
