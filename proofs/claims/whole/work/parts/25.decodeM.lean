/-! decode rows -/
theorem d_L_law_0 : decode b_L_law 0 = .ok (.new 8, 3) := by decide +kernel
theorem d_L_law_3 : decode b_L_law 3 = .ok (.dup, 1) := by decide +kernel
theorem d_L_law_4 : decode b_L_law 4 = .ok (.invokespecial 67, 3) := by decide +kernel
theorem d_L_law_7 : decode b_L_law 7 = .ok (.astore_n 1, 1) := by decide +kernel
theorem d_L_law_8 : decode b_L_law 8 = .ok (.new 68, 3) := by decide +kernel
theorem d_L_law_11 : decode b_L_law 11 = .ok (.dup, 1) := by decide +kernel
theorem d_L_law_12 : decode b_L_law 12 = .ok (.invokespecial 70, 3) := by decide +kernel
theorem d_L_law_15 : decode b_L_law 15 = .ok (.astore_n 2, 1) := by decide +kernel
theorem d_L_law_16 : decode b_L_law 16 = .ok (.iconst 1, 1) := by decide +kernel
theorem d_L_law_17 : decode b_L_law 17 = .ok (.newarray .long, 2) := by decide +kernel
theorem d_L_law_19 : decode b_L_law 19 = .ok (.astore_n 3, 1) := by decide +kernel
theorem d_L_law_20 : decode b_L_law 20 = .ok (.iconst 0, 1) := by decide +kernel
theorem d_L_law_21 : decode b_L_law 21 = .ok (.istore 4, 2) := by decide +kernel
theorem d_L_law_23 : decode b_L_law 23 = .ok (.iload 4, 2) := by decide +kernel
theorem d_L_law_25 : decode b_L_law 25 = .ok (.aload_n 0, 1) := by decide +kernel
theorem d_L_law_26 : decode b_L_law 26 = .ok (.arraylength, 1) := by decide +kernel
theorem d_L_law_27 : decode b_L_law 27 = .ok (.iconst 5, 1) := by decide +kernel
theorem d_L_law_28 : decode b_L_law 28 = .ok (.isub, 1) := by decide +kernel
theorem d_L_law_29 : decode b_L_law 29 = .ok (.if_icmp .gt 1211, 3) := by decide +kernel
theorem d_L_law_32 : decode b_L_law 32 = .ok (.aload_n 0, 1) := by decide +kernel
theorem d_L_law_33 : decode b_L_law 33 = .ok (.iload 4, 2) := by decide +kernel
theorem d_L_law_35 : decode b_L_law 35 = .ok (.iaload, 1) := by decide +kernel
theorem d_L_law_36 : decode b_L_law 36 = .ok (.bipush 31, 2) := by decide +kernel
theorem d_L_law_38 : decode b_L_law 38 = .ok (.iand, 1) := by decide +kernel
theorem d_L_law_39 : decode b_L_law 39 = .ok (.tableswitch 1195 0 17 #[85, 153, 209, 284, 344, 412, 480, 548, 596, 676, 744, 824, 892, 917, 1009, 1101, 1157, 1170], 85) := by decide +kernel
theorem d_L_law_124 : decode b_L_law 124 = .ok (.aload_n 1, 1) := by decide +kernel
theorem d_L_law_125 : decode b_L_law 125 = .ok (.aload_n 0, 1) := by decide +kernel
theorem d_L_law_126 : decode b_L_law 126 = .ok (.iload 4, 2) := by decide +kernel
theorem d_L_law_128 : decode b_L_law 128 = .ok (.iconst 1, 1) := by decide +kernel
theorem d_L_law_129 : decode b_L_law 129 = .ok (.iadd, 1) := by decide +kernel
theorem d_L_law_130 : decode b_L_law 130 = .ok (.iaload, 1) := by decide +kernel
theorem d_L_law_131 : decode b_L_law 131 = .ok (.aload_n 0, 1) := by decide +kernel
theorem d_L_law_132 : decode b_L_law 132 = .ok (.iload 4, 2) := by decide +kernel
theorem d_L_law_134 : decode b_L_law 134 = .ok (.iconst 2, 1) := by decide +kernel
theorem d_L_law_135 : decode b_L_law 135 = .ok (.iadd, 1) := by decide +kernel
theorem d_L_law_136 : decode b_L_law 136 = .ok (.iaload, 1) := by decide +kernel
theorem d_L_law_137 : decode b_L_law 137 = .ok (.aload_n 3, 1) := by decide +kernel
theorem d_L_law_138 : decode b_L_law 138 = .ok (.invokestatic 71, 3) := by decide +kernel
theorem d_L_law_141 : decode b_L_law 141 = .ok (.istore 5, 2) := by decide +kernel
theorem d_L_law_143 : decode b_L_law 143 = .ok (.aload_n 2, 1) := by decide +kernel
theorem d_L_law_144 : decode b_L_law 144 = .ok (.aload_n 0, 1) := by decide +kernel
theorem d_L_law_145 : decode b_L_law 145 = .ok (.iload 4, 2) := by decide +kernel
theorem d_L_law_147 : decode b_L_law 147 = .ok (.iconst 1, 1) := by decide +kernel
theorem d_L_law_148 : decode b_L_law 148 = .ok (.iadd, 1) := by decide +kernel
theorem d_L_law_149 : decode b_L_law 149 = .ok (.iaload, 1) := by decide +kernel
theorem d_L_law_150 : decode b_L_law 150 = .ok (.aload_n 0, 1) := by decide +kernel
theorem d_L_law_151 : decode b_L_law 151 = .ok (.iload 4, 2) := by decide +kernel
theorem d_L_law_153 : decode b_L_law 153 = .ok (.iconst 2, 1) := by decide +kernel
theorem d_L_law_154 : decode b_L_law 154 = .ok (.iadd, 1) := by decide +kernel
theorem d_L_law_155 : decode b_L_law 155 = .ok (.iaload, 1) := by decide +kernel
theorem d_L_law_156 : decode b_L_law 156 = .ok (.invokevirtual 76, 3) := by decide +kernel
theorem d_L_law_159 : decode b_L_law 159 = .ok (.istore 6, 2) := by decide +kernel
theorem d_L_law_161 : decode b_L_law 161 = .ok (.aload_n 2, 1) := by decide +kernel
theorem d_L_law_162 : decode b_L_law 162 = .ok (.invokevirtual 77, 3) := by decide +kernel
theorem d_L_law_165 : decode b_L_law 165 = .ok (.iload 5, 2) := by decide +kernel
theorem d_L_law_167 : decode b_L_law 167 = .ok (.if_icmp .eq 5, 3) := by decide +kernel
theorem d_L_law_170 : decode b_L_law 170 = .ok (.iconst 0, 1) := by decide +kernel
theorem d_L_law_171 : decode b_L_law 171 = .ok (.ireturn, 1) := by decide +kernel
theorem d_L_law_172 : decode b_L_law 172 = .ok (.iload 5, 2) := by decide +kernel
theorem d_L_law_174 : decode b_L_law 174 = .ok (.ifCond .ne 15, 3) := by decide +kernel
theorem d_L_law_177 : decode b_L_law 177 = .ok (.aload_n 3, 1) := by decide +kernel
theorem d_L_law_178 : decode b_L_law 178 = .ok (.iconst 0, 1) := by decide +kernel
theorem d_L_law_179 : decode b_L_law 179 = .ok (.laload, 1) := by decide +kernel
theorem d_L_law_180 : decode b_L_law 180 = .ok (.iload 6, 2) := by decide +kernel
theorem d_L_law_182 : decode b_L_law 182 = .ok (.i2l, 1) := by decide +kernel
theorem d_L_law_183 : decode b_L_law 183 = .ok (.lcmp, 1) := by decide +kernel
theorem d_L_law_184 : decode b_L_law 184 = .ok (.ifCond .eq 5, 3) := by decide +kernel
theorem d_L_law_187 : decode b_L_law 187 = .ok (.iconst 0, 1) := by decide +kernel
theorem d_L_law_188 : decode b_L_law 188 = .ok (.ireturn, 1) := by decide +kernel
theorem d_L_law_189 : decode b_L_law 189 = .ok (.goto 1045, 3) := by decide +kernel
theorem d_L_law_192 : decode b_L_law 192 = .ok (.aload_n 1, 1) := by decide +kernel
theorem d_L_law_193 : decode b_L_law 193 = .ok (.aload_n 0, 1) := by decide +kernel
theorem d_L_law_194 : decode b_L_law 194 = .ok (.iload 4, 2) := by decide +kernel
theorem d_L_law_196 : decode b_L_law 196 = .ok (.iconst 1, 1) := by decide +kernel
theorem d_L_law_197 : decode b_L_law 197 = .ok (.iadd, 1) := by decide +kernel
theorem d_L_law_198 : decode b_L_law 198 = .ok (.iaload, 1) := by decide +kernel
theorem d_L_law_199 : decode b_L_law 199 = .ok (.aload_n 3, 1) := by decide +kernel
theorem d_L_law_200 : decode b_L_law 200 = .ok (.invokestatic 81, 3) := by decide +kernel
theorem d_L_law_203 : decode b_L_law 203 = .ok (.istore 5, 2) := by decide +kernel
theorem d_L_law_205 : decode b_L_law 205 = .ok (.aload_n 2, 1) := by decide +kernel
theorem d_L_law_206 : decode b_L_law 206 = .ok (.aload_n 0, 1) := by decide +kernel
theorem d_L_law_207 : decode b_L_law 207 = .ok (.iload 4, 2) := by decide +kernel
theorem d_L_law_209 : decode b_L_law 209 = .ok (.iconst 1, 1) := by decide +kernel
theorem d_L_law_210 : decode b_L_law 210 = .ok (.iadd, 1) := by decide +kernel
theorem d_L_law_211 : decode b_L_law 211 = .ok (.iaload, 1) := by decide +kernel
theorem d_L_law_212 : decode b_L_law 212 = .ok (.invokevirtual 84, 3) := by decide +kernel
theorem d_L_law_215 : decode b_L_law 215 = .ok (.istore 6, 2) := by decide +kernel
theorem d_L_law_217 : decode b_L_law 217 = .ok (.aload_n 2, 1) := by decide +kernel
theorem d_L_law_218 : decode b_L_law 218 = .ok (.invokevirtual 77, 3) := by decide +kernel
theorem d_L_law_221 : decode b_L_law 221 = .ok (.iload 5, 2) := by decide +kernel
theorem d_L_law_223 : decode b_L_law 223 = .ok (.if_icmp .eq 5, 3) := by decide +kernel
theorem d_L_law_226 : decode b_L_law 226 = .ok (.iconst 0, 1) := by decide +kernel
theorem d_L_law_227 : decode b_L_law 227 = .ok (.ireturn, 1) := by decide +kernel
theorem d_L_law_228 : decode b_L_law 228 = .ok (.iload 5, 2) := by decide +kernel
theorem d_L_law_230 : decode b_L_law 230 = .ok (.ifCond .ne 15, 3) := by decide +kernel
theorem d_L_law_233 : decode b_L_law 233 = .ok (.aload_n 3, 1) := by decide +kernel
theorem d_L_law_234 : decode b_L_law 234 = .ok (.iconst 0, 1) := by decide +kernel
theorem d_L_law_235 : decode b_L_law 235 = .ok (.laload, 1) := by decide +kernel
theorem d_L_law_236 : decode b_L_law 236 = .ok (.iload 6, 2) := by decide +kernel
theorem d_L_law_238 : decode b_L_law 238 = .ok (.i2l, 1) := by decide +kernel
theorem d_L_law_239 : decode b_L_law 239 = .ok (.lcmp, 1) := by decide +kernel
theorem d_L_law_240 : decode b_L_law 240 = .ok (.ifCond .eq 5, 3) := by decide +kernel
theorem d_L_law_243 : decode b_L_law 243 = .ok (.iconst 0, 1) := by decide +kernel
theorem d_L_law_244 : decode b_L_law 244 = .ok (.ireturn, 1) := by decide +kernel
theorem d_L_law_245 : decode b_L_law 245 = .ok (.goto 989, 3) := by decide +kernel
theorem d_L_law_248 : decode b_L_law 248 = .ok (.aload_n 1, 1) := by decide +kernel
theorem d_L_law_249 : decode b_L_law 249 = .ok (.aload_n 0, 1) := by decide +kernel
theorem d_L_law_250 : decode b_L_law 250 = .ok (.iload 4, 2) := by decide +kernel
theorem d_L_law_252 : decode b_L_law 252 = .ok (.iconst 1, 1) := by decide +kernel
theorem d_L_law_253 : decode b_L_law 253 = .ok (.iadd, 1) := by decide +kernel
theorem d_L_law_254 : decode b_L_law 254 = .ok (.iaload, 1) := by decide +kernel
theorem d_L_law_255 : decode b_L_law 255 = .ok (.aload_n 0, 1) := by decide +kernel
theorem d_L_law_256 : decode b_L_law 256 = .ok (.iload 4, 2) := by decide +kernel
theorem d_L_law_258 : decode b_L_law 258 = .ok (.iconst 2, 1) := by decide +kernel
theorem d_L_law_259 : decode b_L_law 259 = .ok (.iadd, 1) := by decide +kernel
theorem d_L_law_260 : decode b_L_law 260 = .ok (.iaload, 1) := by decide +kernel
theorem d_L_law_261 : decode b_L_law 261 = .ok (.aload_n 3, 1) := by decide +kernel
theorem d_L_law_262 : decode b_L_law 262 = .ok (.invokestatic 85, 3) := by decide +kernel
theorem d_L_law_265 : decode b_L_law 265 = .ok (.istore 5, 2) := by decide +kernel
theorem d_L_law_267 : decode b_L_law 267 = .ok (.aload_n 2, 1) := by decide +kernel
theorem d_L_law_268 : decode b_L_law 268 = .ok (.aload_n 0, 1) := by decide +kernel
theorem d_L_law_269 : decode b_L_law 269 = .ok (.iload 4, 2) := by decide +kernel
theorem d_L_law_271 : decode b_L_law 271 = .ok (.iconst 1, 1) := by decide +kernel
theorem d_L_law_272 : decode b_L_law 272 = .ok (.iadd, 1) := by decide +kernel
theorem d_L_law_273 : decode b_L_law 273 = .ok (.iaload, 1) := by decide +kernel
theorem d_L_law_274 : decode b_L_law 274 = .ok (.aload_n 0, 1) := by decide +kernel
theorem d_L_law_275 : decode b_L_law 275 = .ok (.iload 4, 2) := by decide +kernel
theorem d_L_law_277 : decode b_L_law 277 = .ok (.iconst 2, 1) := by decide +kernel
theorem d_L_law_278 : decode b_L_law 278 = .ok (.iadd, 1) := by decide +kernel
theorem d_L_law_279 : decode b_L_law 279 = .ok (.iaload, 1) := by decide +kernel
theorem d_L_law_280 : decode b_L_law 280 = .ok (.invokevirtual 87, 3) := by decide +kernel
theorem d_L_law_283 : decode b_L_law 283 = .ok (.istore 6, 2) := by decide +kernel
theorem d_L_law_285 : decode b_L_law 285 = .ok (.aload_n 2, 1) := by decide +kernel
theorem d_L_law_286 : decode b_L_law 286 = .ok (.invokevirtual 77, 3) := by decide +kernel
theorem d_L_law_289 : decode b_L_law 289 = .ok (.iload 5, 2) := by decide +kernel
theorem d_L_law_291 : decode b_L_law 291 = .ok (.if_icmp .eq 5, 3) := by decide +kernel
theorem d_L_law_294 : decode b_L_law 294 = .ok (.iconst 0, 1) := by decide +kernel
theorem d_L_law_295 : decode b_L_law 295 = .ok (.ireturn, 1) := by decide +kernel
theorem d_L_law_296 : decode b_L_law 296 = .ok (.iload 5, 2) := by decide +kernel
theorem d_L_law_298 : decode b_L_law 298 = .ok (.ifCond .ne 22, 3) := by decide +kernel
theorem d_L_law_301 : decode b_L_law 301 = .ok (.aload_n 3, 1) := by decide +kernel
theorem d_L_law_302 : decode b_L_law 302 = .ok (.iconst 0, 1) := by decide +kernel
theorem d_L_law_303 : decode b_L_law 303 = .ok (.laload, 1) := by decide +kernel
theorem d_L_law_304 : decode b_L_law 304 = .ok (.iload 6, 2) := by decide +kernel
theorem d_L_law_306 : decode b_L_law 306 = .ok (.ifCond .eq 7, 3) := by decide +kernel
theorem d_L_law_309 : decode b_L_law 309 = .ok (.lconst 1, 1) := by decide +kernel
theorem d_L_law_310 : decode b_L_law 310 = .ok (.goto 4, 3) := by decide +kernel
theorem d_L_law_313 : decode b_L_law 313 = .ok (.lconst 0, 1) := by decide +kernel
theorem d_L_law_314 : decode b_L_law 314 = .ok (.lcmp, 1) := by decide +kernel
theorem d_L_law_315 : decode b_L_law 315 = .ok (.ifCond .eq 5, 3) := by decide +kernel
theorem d_L_law_318 : decode b_L_law 318 = .ok (.iconst 0, 1) := by decide +kernel
theorem d_L_law_319 : decode b_L_law 319 = .ok (.ireturn, 1) := by decide +kernel
theorem d_L_law_320 : decode b_L_law 320 = .ok (.goto 914, 3) := by decide +kernel
theorem d_L_law_323 : decode b_L_law 323 = .ok (.aload_n 1, 1) := by decide +kernel
theorem d_L_law_324 : decode b_L_law 324 = .ok (.aload_n 0, 1) := by decide +kernel
theorem d_L_law_325 : decode b_L_law 325 = .ok (.iload 4, 2) := by decide +kernel
theorem d_L_law_327 : decode b_L_law 327 = .ok (.iconst 1, 1) := by decide +kernel
theorem d_L_law_328 : decode b_L_law 328 = .ok (.iadd, 1) := by decide +kernel
theorem d_L_law_329 : decode b_L_law 329 = .ok (.iaload, 1) := by decide +kernel
theorem d_L_law_330 : decode b_L_law 330 = .ok (.aload_n 0, 1) := by decide +kernel
theorem d_L_law_331 : decode b_L_law 331 = .ok (.iload 4, 2) := by decide +kernel
theorem d_L_law_333 : decode b_L_law 333 = .ok (.iconst 2, 1) := by decide +kernel
theorem d_L_law_334 : decode b_L_law 334 = .ok (.iadd, 1) := by decide +kernel
theorem d_L_law_335 : decode b_L_law 335 = .ok (.iaload, 1) := by decide +kernel
theorem d_L_law_336 : decode b_L_law 336 = .ok (.aload_n 0, 1) := by decide +kernel
theorem d_L_law_337 : decode b_L_law 337 = .ok (.iload 4, 2) := by decide +kernel
theorem d_L_law_339 : decode b_L_law 339 = .ok (.iconst 3, 1) := by decide +kernel
theorem d_L_law_340 : decode b_L_law 340 = .ok (.iadd, 1) := by decide +kernel
theorem d_L_law_341 : decode b_L_law 341 = .ok (.iaload, 1) := by decide +kernel
theorem d_L_law_342 : decode b_L_law 342 = .ok (.invokestatic 88, 3) := by decide +kernel
theorem d_L_law_345 : decode b_L_law 345 = .ok (.istore 5, 2) := by decide +kernel
theorem d_L_law_347 : decode b_L_law 347 = .ok (.aload_n 2, 1) := by decide +kernel
theorem d_L_law_348 : decode b_L_law 348 = .ok (.aload_n 0, 1) := by decide +kernel
theorem d_L_law_349 : decode b_L_law 349 = .ok (.iload 4, 2) := by decide +kernel
theorem d_L_law_351 : decode b_L_law 351 = .ok (.iconst 1, 1) := by decide +kernel
theorem d_L_law_352 : decode b_L_law 352 = .ok (.iadd, 1) := by decide +kernel
theorem d_L_law_353 : decode b_L_law 353 = .ok (.iaload, 1) := by decide +kernel
theorem d_L_law_354 : decode b_L_law 354 = .ok (.aload_n 0, 1) := by decide +kernel
theorem d_L_law_355 : decode b_L_law 355 = .ok (.iload 4, 2) := by decide +kernel
theorem d_L_law_357 : decode b_L_law 357 = .ok (.iconst 2, 1) := by decide +kernel
theorem d_L_law_358 : decode b_L_law 358 = .ok (.iadd, 1) := by decide +kernel
theorem d_L_law_359 : decode b_L_law 359 = .ok (.iaload, 1) := by decide +kernel
theorem d_L_law_360 : decode b_L_law 360 = .ok (.aload_n 0, 1) := by decide +kernel
theorem d_L_law_361 : decode b_L_law 361 = .ok (.iload 4, 2) := by decide +kernel
theorem d_L_law_363 : decode b_L_law 363 = .ok (.iconst 3, 1) := by decide +kernel
theorem d_L_law_364 : decode b_L_law 364 = .ok (.iadd, 1) := by decide +kernel
theorem d_L_law_365 : decode b_L_law 365 = .ok (.iaload, 1) := by decide +kernel
theorem d_L_law_366 : decode b_L_law 366 = .ok (.invokevirtual 91, 3) := by decide +kernel
theorem d_L_law_369 : decode b_L_law 369 = .ok (.aload_n 2, 1) := by decide +kernel
theorem d_L_law_370 : decode b_L_law 370 = .ok (.invokevirtual 77, 3) := by decide +kernel
theorem d_L_law_373 : decode b_L_law 373 = .ok (.iload 5, 2) := by decide +kernel
theorem d_L_law_375 : decode b_L_law 375 = .ok (.if_icmp .eq 5, 3) := by decide +kernel
theorem d_L_law_378 : decode b_L_law 378 = .ok (.iconst 0, 1) := by decide +kernel
theorem d_L_law_379 : decode b_L_law 379 = .ok (.ireturn, 1) := by decide +kernel
theorem d_L_law_380 : decode b_L_law 380 = .ok (.goto 854, 3) := by decide +kernel
theorem d_L_law_383 : decode b_L_law 383 = .ok (.aload_n 1, 1) := by decide +kernel
theorem d_L_law_384 : decode b_L_law 384 = .ok (.aload_n 0, 1) := by decide +kernel
theorem d_L_law_385 : decode b_L_law 385 = .ok (.iload 4, 2) := by decide +kernel
theorem d_L_law_387 : decode b_L_law 387 = .ok (.iconst 1, 1) := by decide +kernel
theorem d_L_law_388 : decode b_L_law 388 = .ok (.iadd, 1) := by decide +kernel
theorem d_L_law_389 : decode b_L_law 389 = .ok (.iaload, 1) := by decide +kernel
theorem d_L_law_390 : decode b_L_law 390 = .ok (.aload_n 0, 1) := by decide +kernel
theorem d_L_law_391 : decode b_L_law 391 = .ok (.iload 4, 2) := by decide +kernel
theorem d_L_law_393 : decode b_L_law 393 = .ok (.iconst 2, 1) := by decide +kernel
theorem d_L_law_394 : decode b_L_law 394 = .ok (.iadd, 1) := by decide +kernel
theorem d_L_law_395 : decode b_L_law 395 = .ok (.iaload, 1) := by decide +kernel
theorem d_L_law_396 : decode b_L_law 396 = .ok (.aload_n 3, 1) := by decide +kernel
theorem d_L_law_397 : decode b_L_law 397 = .ok (.invokestatic 92, 3) := by decide +kernel
theorem d_L_law_400 : decode b_L_law 400 = .ok (.istore 5, 2) := by decide +kernel
theorem d_L_law_402 : decode b_L_law 402 = .ok (.aload_n 2, 1) := by decide +kernel
theorem d_L_law_403 : decode b_L_law 403 = .ok (.aload_n 0, 1) := by decide +kernel
theorem d_L_law_404 : decode b_L_law 404 = .ok (.iload 4, 2) := by decide +kernel
theorem d_L_law_406 : decode b_L_law 406 = .ok (.iconst 1, 1) := by decide +kernel
theorem d_L_law_407 : decode b_L_law 407 = .ok (.iadd, 1) := by decide +kernel
theorem d_L_law_408 : decode b_L_law 408 = .ok (.iaload, 1) := by decide +kernel
theorem d_L_law_409 : decode b_L_law 409 = .ok (.aload_n 0, 1) := by decide +kernel
theorem d_L_law_410 : decode b_L_law 410 = .ok (.iload 4, 2) := by decide +kernel
theorem d_L_law_412 : decode b_L_law 412 = .ok (.iconst 2, 1) := by decide +kernel
theorem d_L_law_413 : decode b_L_law 413 = .ok (.iadd, 1) := by decide +kernel
theorem d_L_law_414 : decode b_L_law 414 = .ok (.iaload, 1) := by decide +kernel
theorem d_L_law_415 : decode b_L_law 415 = .ok (.invokevirtual 94, 3) := by decide +kernel
theorem d_L_law_418 : decode b_L_law 418 = .ok (.istore 6, 2) := by decide +kernel
theorem d_L_law_420 : decode b_L_law 420 = .ok (.aload_n 2, 1) := by decide +kernel
theorem d_L_law_421 : decode b_L_law 421 = .ok (.invokevirtual 77, 3) := by decide +kernel
theorem d_L_law_424 : decode b_L_law 424 = .ok (.iload 5, 2) := by decide +kernel
theorem d_L_law_426 : decode b_L_law 426 = .ok (.if_icmp .eq 5, 3) := by decide +kernel
theorem d_L_law_429 : decode b_L_law 429 = .ok (.iconst 0, 1) := by decide +kernel
theorem d_L_law_430 : decode b_L_law 430 = .ok (.ireturn, 1) := by decide +kernel
theorem d_L_law_431 : decode b_L_law 431 = .ok (.iload 5, 2) := by decide +kernel
theorem d_L_law_433 : decode b_L_law 433 = .ok (.ifCond .ne 15, 3) := by decide +kernel
theorem d_L_law_436 : decode b_L_law 436 = .ok (.aload_n 3, 1) := by decide +kernel
theorem d_L_law_437 : decode b_L_law 437 = .ok (.iconst 0, 1) := by decide +kernel
theorem d_L_law_438 : decode b_L_law 438 = .ok (.laload, 1) := by decide +kernel
theorem d_L_law_439 : decode b_L_law 439 = .ok (.iload 6, 2) := by decide +kernel
theorem d_L_law_441 : decode b_L_law 441 = .ok (.i2l, 1) := by decide +kernel
theorem d_L_law_442 : decode b_L_law 442 = .ok (.lcmp, 1) := by decide +kernel
theorem d_L_law_443 : decode b_L_law 443 = .ok (.ifCond .eq 5, 3) := by decide +kernel
theorem d_L_law_446 : decode b_L_law 446 = .ok (.iconst 0, 1) := by decide +kernel
theorem d_L_law_447 : decode b_L_law 447 = .ok (.ireturn, 1) := by decide +kernel
theorem d_L_law_448 : decode b_L_law 448 = .ok (.goto 786, 3) := by decide +kernel
theorem d_L_law_451 : decode b_L_law 451 = .ok (.aload_n 1, 1) := by decide +kernel
theorem d_L_law_452 : decode b_L_law 452 = .ok (.aload_n 0, 1) := by decide +kernel
theorem d_L_law_453 : decode b_L_law 453 = .ok (.iload 4, 2) := by decide +kernel
theorem d_L_law_455 : decode b_L_law 455 = .ok (.iconst 1, 1) := by decide +kernel
theorem d_L_law_456 : decode b_L_law 456 = .ok (.iadd, 1) := by decide +kernel
theorem d_L_law_457 : decode b_L_law 457 = .ok (.iaload, 1) := by decide +kernel
theorem d_L_law_458 : decode b_L_law 458 = .ok (.aload_n 0, 1) := by decide +kernel
theorem d_L_law_459 : decode b_L_law 459 = .ok (.iload 4, 2) := by decide +kernel
theorem d_L_law_461 : decode b_L_law 461 = .ok (.iconst 2, 1) := by decide +kernel
theorem d_L_law_462 : decode b_L_law 462 = .ok (.iadd, 1) := by decide +kernel
theorem d_L_law_463 : decode b_L_law 463 = .ok (.iaload, 1) := by decide +kernel
theorem d_L_law_464 : decode b_L_law 464 = .ok (.aload_n 3, 1) := by decide +kernel
theorem d_L_law_465 : decode b_L_law 465 = .ok (.invokestatic 95, 3) := by decide +kernel
theorem d_L_law_468 : decode b_L_law 468 = .ok (.istore 5, 2) := by decide +kernel
theorem d_L_law_470 : decode b_L_law 470 = .ok (.aload_n 2, 1) := by decide +kernel
theorem d_L_law_471 : decode b_L_law 471 = .ok (.aload_n 0, 1) := by decide +kernel
theorem d_L_law_472 : decode b_L_law 472 = .ok (.iload 4, 2) := by decide +kernel
theorem d_L_law_474 : decode b_L_law 474 = .ok (.iconst 1, 1) := by decide +kernel
theorem d_L_law_475 : decode b_L_law 475 = .ok (.iadd, 1) := by decide +kernel
theorem d_L_law_476 : decode b_L_law 476 = .ok (.iaload, 1) := by decide +kernel
theorem d_L_law_477 : decode b_L_law 477 = .ok (.aload_n 0, 1) := by decide +kernel
theorem d_L_law_478 : decode b_L_law 478 = .ok (.iload 4, 2) := by decide +kernel
theorem d_L_law_480 : decode b_L_law 480 = .ok (.iconst 2, 1) := by decide +kernel
theorem d_L_law_481 : decode b_L_law 481 = .ok (.iadd, 1) := by decide +kernel
theorem d_L_law_482 : decode b_L_law 482 = .ok (.iaload, 1) := by decide +kernel
theorem d_L_law_483 : decode b_L_law 483 = .ok (.invokevirtual 97, 3) := by decide +kernel
theorem d_L_law_486 : decode b_L_law 486 = .ok (.istore 6, 2) := by decide +kernel
theorem d_L_law_488 : decode b_L_law 488 = .ok (.aload_n 2, 1) := by decide +kernel
theorem d_L_law_489 : decode b_L_law 489 = .ok (.invokevirtual 77, 3) := by decide +kernel
theorem d_L_law_492 : decode b_L_law 492 = .ok (.iload 5, 2) := by decide +kernel
theorem d_L_law_494 : decode b_L_law 494 = .ok (.if_icmp .eq 5, 3) := by decide +kernel
theorem d_L_law_497 : decode b_L_law 497 = .ok (.iconst 0, 1) := by decide +kernel
theorem d_L_law_498 : decode b_L_law 498 = .ok (.ireturn, 1) := by decide +kernel
theorem d_L_law_499 : decode b_L_law 499 = .ok (.iload 5, 2) := by decide +kernel
theorem d_L_law_501 : decode b_L_law 501 = .ok (.ifCond .ne 15, 3) := by decide +kernel
theorem d_L_law_504 : decode b_L_law 504 = .ok (.aload_n 3, 1) := by decide +kernel
theorem d_L_law_505 : decode b_L_law 505 = .ok (.iconst 0, 1) := by decide +kernel
theorem d_L_law_506 : decode b_L_law 506 = .ok (.laload, 1) := by decide +kernel
theorem d_L_law_507 : decode b_L_law 507 = .ok (.iload 6, 2) := by decide +kernel
theorem d_L_law_509 : decode b_L_law 509 = .ok (.i2l, 1) := by decide +kernel
theorem d_L_law_510 : decode b_L_law 510 = .ok (.lcmp, 1) := by decide +kernel
theorem d_L_law_511 : decode b_L_law 511 = .ok (.ifCond .eq 5, 3) := by decide +kernel
theorem d_L_law_514 : decode b_L_law 514 = .ok (.iconst 0, 1) := by decide +kernel
theorem d_L_law_515 : decode b_L_law 515 = .ok (.ireturn, 1) := by decide +kernel
theorem d_L_law_516 : decode b_L_law 516 = .ok (.goto 718, 3) := by decide +kernel
theorem d_L_law_519 : decode b_L_law 519 = .ok (.aload_n 1, 1) := by decide +kernel
theorem d_L_law_520 : decode b_L_law 520 = .ok (.aload_n 0, 1) := by decide +kernel
theorem d_L_law_521 : decode b_L_law 521 = .ok (.iload 4, 2) := by decide +kernel
theorem d_L_law_523 : decode b_L_law 523 = .ok (.iconst 1, 1) := by decide +kernel
theorem d_L_law_524 : decode b_L_law 524 = .ok (.iadd, 1) := by decide +kernel
theorem d_L_law_525 : decode b_L_law 525 = .ok (.iaload, 1) := by decide +kernel
theorem d_L_law_526 : decode b_L_law 526 = .ok (.aload_n 0, 1) := by decide +kernel
theorem d_L_law_527 : decode b_L_law 527 = .ok (.iload 4, 2) := by decide +kernel
theorem d_L_law_529 : decode b_L_law 529 = .ok (.iconst 2, 1) := by decide +kernel
theorem d_L_law_530 : decode b_L_law 530 = .ok (.iadd, 1) := by decide +kernel
theorem d_L_law_531 : decode b_L_law 531 = .ok (.iaload, 1) := by decide +kernel
theorem d_L_law_532 : decode b_L_law 532 = .ok (.aload_n 3, 1) := by decide +kernel
theorem d_L_law_533 : decode b_L_law 533 = .ok (.invokestatic 98, 3) := by decide +kernel
theorem d_L_law_536 : decode b_L_law 536 = .ok (.istore 5, 2) := by decide +kernel
theorem d_L_law_538 : decode b_L_law 538 = .ok (.aload_n 2, 1) := by decide +kernel
theorem d_L_law_539 : decode b_L_law 539 = .ok (.aload_n 0, 1) := by decide +kernel
theorem d_L_law_540 : decode b_L_law 540 = .ok (.iload 4, 2) := by decide +kernel
theorem d_L_law_542 : decode b_L_law 542 = .ok (.iconst 1, 1) := by decide +kernel
theorem d_L_law_543 : decode b_L_law 543 = .ok (.iadd, 1) := by decide +kernel
theorem d_L_law_544 : decode b_L_law 544 = .ok (.iaload, 1) := by decide +kernel
theorem d_L_law_545 : decode b_L_law 545 = .ok (.aload_n 0, 1) := by decide +kernel
theorem d_L_law_546 : decode b_L_law 546 = .ok (.iload 4, 2) := by decide +kernel
theorem d_L_law_548 : decode b_L_law 548 = .ok (.iconst 2, 1) := by decide +kernel
theorem d_L_law_549 : decode b_L_law 549 = .ok (.iadd, 1) := by decide +kernel
theorem d_L_law_550 : decode b_L_law 550 = .ok (.iaload, 1) := by decide +kernel
theorem d_L_law_551 : decode b_L_law 551 = .ok (.invokevirtual 100, 3) := by decide +kernel
theorem d_L_law_554 : decode b_L_law 554 = .ok (.istore 6, 2) := by decide +kernel
theorem d_L_law_556 : decode b_L_law 556 = .ok (.aload_n 2, 1) := by decide +kernel
theorem d_L_law_557 : decode b_L_law 557 = .ok (.invokevirtual 77, 3) := by decide +kernel
theorem d_L_law_560 : decode b_L_law 560 = .ok (.iload 5, 2) := by decide +kernel
theorem d_L_law_562 : decode b_L_law 562 = .ok (.if_icmp .eq 5, 3) := by decide +kernel
theorem d_L_law_565 : decode b_L_law 565 = .ok (.iconst 0, 1) := by decide +kernel
theorem d_L_law_566 : decode b_L_law 566 = .ok (.ireturn, 1) := by decide +kernel
theorem d_L_law_567 : decode b_L_law 567 = .ok (.iload 5, 2) := by decide +kernel
theorem d_L_law_569 : decode b_L_law 569 = .ok (.ifCond .ne 15, 3) := by decide +kernel
theorem d_L_law_572 : decode b_L_law 572 = .ok (.aload_n 3, 1) := by decide +kernel
theorem d_L_law_573 : decode b_L_law 573 = .ok (.iconst 0, 1) := by decide +kernel
theorem d_L_law_574 : decode b_L_law 574 = .ok (.laload, 1) := by decide +kernel
theorem d_L_law_575 : decode b_L_law 575 = .ok (.iload 6, 2) := by decide +kernel
theorem d_L_law_577 : decode b_L_law 577 = .ok (.i2l, 1) := by decide +kernel
theorem d_L_law_578 : decode b_L_law 578 = .ok (.lcmp, 1) := by decide +kernel
theorem d_L_law_579 : decode b_L_law 579 = .ok (.ifCond .eq 5, 3) := by decide +kernel
theorem d_L_law_582 : decode b_L_law 582 = .ok (.iconst 0, 1) := by decide +kernel
theorem d_L_law_583 : decode b_L_law 583 = .ok (.ireturn, 1) := by decide +kernel
theorem d_L_law_584 : decode b_L_law 584 = .ok (.goto 650, 3) := by decide +kernel
theorem d_L_law_587 : decode b_L_law 587 = .ok (.aload_n 1, 1) := by decide +kernel
theorem d_L_law_588 : decode b_L_law 588 = .ok (.aload_n 0, 1) := by decide +kernel
theorem d_L_law_589 : decode b_L_law 589 = .ok (.iload 4, 2) := by decide +kernel
theorem d_L_law_591 : decode b_L_law 591 = .ok (.iconst 1, 1) := by decide +kernel
theorem d_L_law_592 : decode b_L_law 592 = .ok (.iadd, 1) := by decide +kernel
theorem d_L_law_593 : decode b_L_law 593 = .ok (.iaload, 1) := by decide +kernel
theorem d_L_law_594 : decode b_L_law 594 = .ok (.aload_n 0, 1) := by decide +kernel
theorem d_L_law_595 : decode b_L_law 595 = .ok (.iload 4, 2) := by decide +kernel
theorem d_L_law_597 : decode b_L_law 597 = .ok (.iconst 2, 1) := by decide +kernel
theorem d_L_law_598 : decode b_L_law 598 = .ok (.iadd, 1) := by decide +kernel
theorem d_L_law_599 : decode b_L_law 599 = .ok (.iaload, 1) := by decide +kernel
theorem d_L_law_600 : decode b_L_law 600 = .ok (.invokestatic 101, 3) := by decide +kernel
theorem d_L_law_603 : decode b_L_law 603 = .ok (.istore 5, 2) := by decide +kernel
theorem d_L_law_605 : decode b_L_law 605 = .ok (.aload_n 2, 1) := by decide +kernel
theorem d_L_law_606 : decode b_L_law 606 = .ok (.aload_n 0, 1) := by decide +kernel
theorem d_L_law_607 : decode b_L_law 607 = .ok (.iload 4, 2) := by decide +kernel
theorem d_L_law_609 : decode b_L_law 609 = .ok (.iconst 1, 1) := by decide +kernel
theorem d_L_law_610 : decode b_L_law 610 = .ok (.iadd, 1) := by decide +kernel
theorem d_L_law_611 : decode b_L_law 611 = .ok (.iaload, 1) := by decide +kernel
theorem d_L_law_612 : decode b_L_law 612 = .ok (.aload_n 0, 1) := by decide +kernel
theorem d_L_law_613 : decode b_L_law 613 = .ok (.iload 4, 2) := by decide +kernel
theorem d_L_law_615 : decode b_L_law 615 = .ok (.iconst 2, 1) := by decide +kernel
theorem d_L_law_616 : decode b_L_law 616 = .ok (.iadd, 1) := by decide +kernel
theorem d_L_law_617 : decode b_L_law 617 = .ok (.iaload, 1) := by decide +kernel
theorem d_L_law_618 : decode b_L_law 618 = .ok (.invokevirtual 104, 3) := by decide +kernel
theorem d_L_law_621 : decode b_L_law 621 = .ok (.aload_n 2, 1) := by decide +kernel
theorem d_L_law_622 : decode b_L_law 622 = .ok (.invokevirtual 77, 3) := by decide +kernel
theorem d_L_law_625 : decode b_L_law 625 = .ok (.iload 5, 2) := by decide +kernel
theorem d_L_law_627 : decode b_L_law 627 = .ok (.if_icmp .eq 5, 3) := by decide +kernel
theorem d_L_law_630 : decode b_L_law 630 = .ok (.iconst 0, 1) := by decide +kernel
theorem d_L_law_631 : decode b_L_law 631 = .ok (.ireturn, 1) := by decide +kernel
theorem d_L_law_632 : decode b_L_law 632 = .ok (.goto 602, 3) := by decide +kernel
theorem d_L_law_635 : decode b_L_law 635 = .ok (.aload_n 1, 1) := by decide +kernel
theorem d_L_law_636 : decode b_L_law 636 = .ok (.aload_n 0, 1) := by decide +kernel
theorem d_L_law_637 : decode b_L_law 637 = .ok (.iload 4, 2) := by decide +kernel
theorem d_L_law_639 : decode b_L_law 639 = .ok (.iconst 1, 1) := by decide +kernel
theorem d_L_law_640 : decode b_L_law 640 = .ok (.iadd, 1) := by decide +kernel
theorem d_L_law_641 : decode b_L_law 641 = .ok (.iaload, 1) := by decide +kernel
theorem d_L_law_642 : decode b_L_law 642 = .ok (.aload_n 0, 1) := by decide +kernel
theorem d_L_law_643 : decode b_L_law 643 = .ok (.iload 4, 2) := by decide +kernel
theorem d_L_law_645 : decode b_L_law 645 = .ok (.iconst 2, 1) := by decide +kernel
theorem d_L_law_646 : decode b_L_law 646 = .ok (.iadd, 1) := by decide +kernel
theorem d_L_law_647 : decode b_L_law 647 = .ok (.iaload, 1) := by decide +kernel
theorem d_L_law_648 : decode b_L_law 648 = .ok (.aload_n 0, 1) := by decide +kernel
theorem d_L_law_649 : decode b_L_law 649 = .ok (.iload 4, 2) := by decide +kernel
theorem d_L_law_651 : decode b_L_law 651 = .ok (.iconst 3, 1) := by decide +kernel
theorem d_L_law_652 : decode b_L_law 652 = .ok (.iadd, 1) := by decide +kernel
theorem d_L_law_653 : decode b_L_law 653 = .ok (.iaload, 1) := by decide +kernel
theorem d_L_law_654 : decode b_L_law 654 = .ok (.aload_n 3, 1) := by decide +kernel
theorem d_L_law_655 : decode b_L_law 655 = .ok (.invokestatic 105, 3) := by decide +kernel
theorem d_L_law_658 : decode b_L_law 658 = .ok (.istore 5, 2) := by decide +kernel
theorem d_L_law_660 : decode b_L_law 660 = .ok (.aload_n 2, 1) := by decide +kernel
theorem d_L_law_661 : decode b_L_law 661 = .ok (.aload_n 0, 1) := by decide +kernel
theorem d_L_law_662 : decode b_L_law 662 = .ok (.iload 4, 2) := by decide +kernel
theorem d_L_law_664 : decode b_L_law 664 = .ok (.iconst 1, 1) := by decide +kernel
theorem d_L_law_665 : decode b_L_law 665 = .ok (.iadd, 1) := by decide +kernel
theorem d_L_law_666 : decode b_L_law 666 = .ok (.iaload, 1) := by decide +kernel
theorem d_L_law_667 : decode b_L_law 667 = .ok (.aload_n 0, 1) := by decide +kernel
theorem d_L_law_668 : decode b_L_law 668 = .ok (.iload 4, 2) := by decide +kernel
theorem d_L_law_670 : decode b_L_law 670 = .ok (.iconst 2, 1) := by decide +kernel
theorem d_L_law_671 : decode b_L_law 671 = .ok (.iadd, 1) := by decide +kernel
theorem d_L_law_672 : decode b_L_law 672 = .ok (.iaload, 1) := by decide +kernel
theorem d_L_law_673 : decode b_L_law 673 = .ok (.aload_n 0, 1) := by decide +kernel
theorem d_L_law_674 : decode b_L_law 674 = .ok (.iload 4, 2) := by decide +kernel
theorem d_L_law_676 : decode b_L_law 676 = .ok (.iconst 3, 1) := by decide +kernel
theorem d_L_law_677 : decode b_L_law 677 = .ok (.iadd, 1) := by decide +kernel
theorem d_L_law_678 : decode b_L_law 678 = .ok (.iaload, 1) := by decide +kernel
theorem d_L_law_679 : decode b_L_law 679 = .ok (.invokevirtual 108, 3) := by decide +kernel
theorem d_L_law_682 : decode b_L_law 682 = .ok (.istore 6, 2) := by decide +kernel
theorem d_L_law_684 : decode b_L_law 684 = .ok (.aload_n 2, 1) := by decide +kernel
