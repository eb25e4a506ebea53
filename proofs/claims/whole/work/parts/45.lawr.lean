/-! the law's loop, its switch, its end -/
abbrev b_l_law : ByteArray := code
theorem d_l_law_0 : decode b_l_law 0 = .ok (.new 8, 3) := by decide +kernel
theorem d_l_law_3 : decode b_l_law 3 = .ok (.dup, 1) := by decide +kernel
theorem d_l_law_4 : decode b_l_law 4 = .ok (.invokespecial 63, 3) := by decide +kernel
theorem d_l_law_7 : decode b_l_law 7 = .ok (.astore_n 1, 1) := by decide +kernel
theorem d_l_law_8 : decode b_l_law 8 = .ok (.new 64, 3) := by decide +kernel
theorem d_l_law_11 : decode b_l_law 11 = .ok (.dup, 1) := by decide +kernel
theorem d_l_law_12 : decode b_l_law 12 = .ok (.invokespecial 66, 3) := by decide +kernel
theorem d_l_law_15 : decode b_l_law 15 = .ok (.astore_n 2, 1) := by decide +kernel
theorem d_l_law_16 : decode b_l_law 16 = .ok (.iconst 1, 1) := by decide +kernel
theorem d_l_law_17 : decode b_l_law 17 = .ok (.newarray .long, 2) := by decide +kernel
theorem d_l_law_19 : decode b_l_law 19 = .ok (.astore_n 3, 1) := by decide +kernel
theorem d_l_law_20 : decode b_l_law 20 = .ok (.iconst 0, 1) := by decide +kernel
theorem d_l_law_21 : decode b_l_law 21 = .ok (.istore 4, 2) := by decide +kernel
theorem d_l_law_23 : decode b_l_law 23 = .ok (.iload 4, 2) := by decide +kernel
theorem d_l_law_25 : decode b_l_law 25 = .ok (.aload_n 0, 1) := by decide +kernel
theorem d_l_law_26 : decode b_l_law 26 = .ok (.arraylength, 1) := by decide +kernel
theorem d_l_law_27 : decode b_l_law 27 = .ok (.iconst 4, 1) := by decide +kernel
theorem d_l_law_28 : decode b_l_law 28 = .ok (.isub, 1) := by decide +kernel
theorem d_l_law_29 : decode b_l_law 29 = .ok (.if_icmp .gt 951, 3) := by decide +kernel
theorem d_l_law_32 : decode b_l_law 32 = .ok (.aload_n 0, 1) := by decide +kernel
theorem d_l_law_33 : decode b_l_law 33 = .ok (.iload 4, 2) := by decide +kernel
theorem d_l_law_35 : decode b_l_law 35 = .ok (.iaload, 1) := by decide +kernel
theorem d_l_law_36 : decode b_l_law 36 = .ok (.bipush 31, 2) := by decide +kernel
theorem d_l_law_38 : decode b_l_law 38 = .ok (.iand, 1) := by decide +kernel
theorem d_l_law_39 : decode b_l_law 39 = .ok (.tableswitch 935 0 16 #[81, 137, 197, 265, 352, 420, 495, 563, 611, 667, 727, 740, 784, 797, 810, 866, 922], 81) := by decide +kernel
theorem d_l_law_120 : decode b_l_law 120 = .ok (.aload_n 1, 1) := by decide +kernel
theorem d_l_law_121 : decode b_l_law 121 = .ok (.aload_n 0, 1) := by decide +kernel
theorem d_l_law_122 : decode b_l_law 122 = .ok (.iload 4, 2) := by decide +kernel
theorem d_l_law_124 : decode b_l_law 124 = .ok (.iconst 1, 1) := by decide +kernel
theorem d_l_law_125 : decode b_l_law 125 = .ok (.iadd, 1) := by decide +kernel
theorem d_l_law_126 : decode b_l_law 126 = .ok (.iaload, 1) := by decide +kernel
theorem d_l_law_127 : decode b_l_law 127 = .ok (.aload_n 3, 1) := by decide +kernel
theorem d_l_law_128 : decode b_l_law 128 = .ok (.invokestatic 67, 3) := by decide +kernel
theorem d_l_law_131 : decode b_l_law 131 = .ok (.istore 5, 2) := by decide +kernel
theorem d_l_law_133 : decode b_l_law 133 = .ok (.aload_n 2, 1) := by decide +kernel
theorem d_l_law_134 : decode b_l_law 134 = .ok (.aload_n 0, 1) := by decide +kernel
theorem d_l_law_135 : decode b_l_law 135 = .ok (.iload 4, 2) := by decide +kernel
theorem d_l_law_137 : decode b_l_law 137 = .ok (.iconst 1, 1) := by decide +kernel
theorem d_l_law_138 : decode b_l_law 138 = .ok (.iadd, 1) := by decide +kernel
theorem d_l_law_139 : decode b_l_law 139 = .ok (.iaload, 1) := by decide +kernel
theorem d_l_law_140 : decode b_l_law 140 = .ok (.invokevirtual 72, 3) := by decide +kernel
theorem d_l_law_143 : decode b_l_law 143 = .ok (.istore 6, 2) := by decide +kernel
theorem d_l_law_145 : decode b_l_law 145 = .ok (.aload_n 2, 1) := by decide +kernel
theorem d_l_law_146 : decode b_l_law 146 = .ok (.invokevirtual 73, 3) := by decide +kernel
theorem d_l_law_149 : decode b_l_law 149 = .ok (.iload 5, 2) := by decide +kernel
theorem d_l_law_151 : decode b_l_law 151 = .ok (.if_icmp .eq 5, 3) := by decide +kernel
theorem d_l_law_154 : decode b_l_law 154 = .ok (.iconst 0, 1) := by decide +kernel
theorem d_l_law_155 : decode b_l_law 155 = .ok (.ireturn, 1) := by decide +kernel
theorem d_l_law_156 : decode b_l_law 156 = .ok (.iload 5, 2) := by decide +kernel
theorem d_l_law_158 : decode b_l_law 158 = .ok (.ifCond .ne 15, 3) := by decide +kernel
theorem d_l_law_161 : decode b_l_law 161 = .ok (.aload_n 3, 1) := by decide +kernel
theorem d_l_law_162 : decode b_l_law 162 = .ok (.iconst 0, 1) := by decide +kernel
theorem d_l_law_163 : decode b_l_law 163 = .ok (.laload, 1) := by decide +kernel
theorem d_l_law_164 : decode b_l_law 164 = .ok (.iload 6, 2) := by decide +kernel
theorem d_l_law_166 : decode b_l_law 166 = .ok (.i2l, 1) := by decide +kernel
theorem d_l_law_167 : decode b_l_law 167 = .ok (.lcmp, 1) := by decide +kernel
theorem d_l_law_168 : decode b_l_law 168 = .ok (.ifCond .eq 5, 3) := by decide +kernel
theorem d_l_law_171 : decode b_l_law 171 = .ok (.iconst 0, 1) := by decide +kernel
theorem d_l_law_172 : decode b_l_law 172 = .ok (.ireturn, 1) := by decide +kernel
theorem d_l_law_173 : decode b_l_law 173 = .ok (.goto 801, 3) := by decide +kernel
theorem d_l_law_176 : decode b_l_law 176 = .ok (.aload_n 1, 1) := by decide +kernel
theorem d_l_law_177 : decode b_l_law 177 = .ok (.aload_n 0, 1) := by decide +kernel
theorem d_l_law_178 : decode b_l_law 178 = .ok (.iload 4, 2) := by decide +kernel
theorem d_l_law_180 : decode b_l_law 180 = .ok (.iconst 1, 1) := by decide +kernel
theorem d_l_law_181 : decode b_l_law 181 = .ok (.iadd, 1) := by decide +kernel
theorem d_l_law_182 : decode b_l_law 182 = .ok (.iaload, 1) := by decide +kernel
theorem d_l_law_183 : decode b_l_law 183 = .ok (.aload_n 0, 1) := by decide +kernel
theorem d_l_law_184 : decode b_l_law 184 = .ok (.iload 4, 2) := by decide +kernel
theorem d_l_law_186 : decode b_l_law 186 = .ok (.iconst 2, 1) := by decide +kernel
theorem d_l_law_187 : decode b_l_law 187 = .ok (.iadd, 1) := by decide +kernel
theorem d_l_law_188 : decode b_l_law 188 = .ok (.iaload, 1) := by decide +kernel
theorem d_l_law_189 : decode b_l_law 189 = .ok (.aload_n 0, 1) := by decide +kernel
theorem d_l_law_190 : decode b_l_law 190 = .ok (.iload 4, 2) := by decide +kernel
theorem d_l_law_192 : decode b_l_law 192 = .ok (.iconst 3, 1) := by decide +kernel
theorem d_l_law_193 : decode b_l_law 193 = .ok (.iadd, 1) := by decide +kernel
theorem d_l_law_194 : decode b_l_law 194 = .ok (.iaload, 1) := by decide +kernel
theorem d_l_law_195 : decode b_l_law 195 = .ok (.invokestatic 76, 3) := by decide +kernel
theorem d_l_law_198 : decode b_l_law 198 = .ok (.istore 5, 2) := by decide +kernel
theorem d_l_law_200 : decode b_l_law 200 = .ok (.aload_n 2, 1) := by decide +kernel
theorem d_l_law_201 : decode b_l_law 201 = .ok (.aload_n 0, 1) := by decide +kernel
theorem d_l_law_202 : decode b_l_law 202 = .ok (.iload 4, 2) := by decide +kernel
theorem d_l_law_204 : decode b_l_law 204 = .ok (.iconst 1, 1) := by decide +kernel
theorem d_l_law_205 : decode b_l_law 205 = .ok (.iadd, 1) := by decide +kernel
theorem d_l_law_206 : decode b_l_law 206 = .ok (.iaload, 1) := by decide +kernel
theorem d_l_law_207 : decode b_l_law 207 = .ok (.aload_n 0, 1) := by decide +kernel
theorem d_l_law_208 : decode b_l_law 208 = .ok (.iload 4, 2) := by decide +kernel
theorem d_l_law_210 : decode b_l_law 210 = .ok (.iconst 2, 1) := by decide +kernel
theorem d_l_law_211 : decode b_l_law 211 = .ok (.iadd, 1) := by decide +kernel
theorem d_l_law_212 : decode b_l_law 212 = .ok (.iaload, 1) := by decide +kernel
theorem d_l_law_213 : decode b_l_law 213 = .ok (.aload_n 0, 1) := by decide +kernel
theorem d_l_law_214 : decode b_l_law 214 = .ok (.iload 4, 2) := by decide +kernel
theorem d_l_law_216 : decode b_l_law 216 = .ok (.iconst 3, 1) := by decide +kernel
theorem d_l_law_217 : decode b_l_law 217 = .ok (.iadd, 1) := by decide +kernel
theorem d_l_law_218 : decode b_l_law 218 = .ok (.iaload, 1) := by decide +kernel
theorem d_l_law_219 : decode b_l_law 219 = .ok (.invokevirtual 79, 3) := by decide +kernel
theorem d_l_law_222 : decode b_l_law 222 = .ok (.aload_n 2, 1) := by decide +kernel
theorem d_l_law_223 : decode b_l_law 223 = .ok (.invokevirtual 73, 3) := by decide +kernel
theorem d_l_law_226 : decode b_l_law 226 = .ok (.iload 5, 2) := by decide +kernel
theorem d_l_law_228 : decode b_l_law 228 = .ok (.if_icmp .eq 5, 3) := by decide +kernel
theorem d_l_law_231 : decode b_l_law 231 = .ok (.iconst 0, 1) := by decide +kernel
theorem d_l_law_232 : decode b_l_law 232 = .ok (.ireturn, 1) := by decide +kernel
theorem d_l_law_233 : decode b_l_law 233 = .ok (.goto 741, 3) := by decide +kernel
theorem d_l_law_236 : decode b_l_law 236 = .ok (.aload_n 1, 1) := by decide +kernel
theorem d_l_law_237 : decode b_l_law 237 = .ok (.aload_n 0, 1) := by decide +kernel
theorem d_l_law_238 : decode b_l_law 238 = .ok (.iload 4, 2) := by decide +kernel
theorem d_l_law_240 : decode b_l_law 240 = .ok (.iconst 1, 1) := by decide +kernel
theorem d_l_law_241 : decode b_l_law 241 = .ok (.iadd, 1) := by decide +kernel
theorem d_l_law_242 : decode b_l_law 242 = .ok (.iaload, 1) := by decide +kernel
theorem d_l_law_243 : decode b_l_law 243 = .ok (.aload_n 0, 1) := by decide +kernel
theorem d_l_law_244 : decode b_l_law 244 = .ok (.iload 4, 2) := by decide +kernel
theorem d_l_law_246 : decode b_l_law 246 = .ok (.iconst 2, 1) := by decide +kernel
theorem d_l_law_247 : decode b_l_law 247 = .ok (.iadd, 1) := by decide +kernel
theorem d_l_law_248 : decode b_l_law 248 = .ok (.iaload, 1) := by decide +kernel
theorem d_l_law_249 : decode b_l_law 249 = .ok (.aload_n 3, 1) := by decide +kernel
theorem d_l_law_250 : decode b_l_law 250 = .ok (.invokestatic 80, 3) := by decide +kernel
theorem d_l_law_253 : decode b_l_law 253 = .ok (.istore 5, 2) := by decide +kernel
theorem d_l_law_255 : decode b_l_law 255 = .ok (.aload_n 2, 1) := by decide +kernel
theorem d_l_law_256 : decode b_l_law 256 = .ok (.aload_n 0, 1) := by decide +kernel
theorem d_l_law_257 : decode b_l_law 257 = .ok (.iload 4, 2) := by decide +kernel
theorem d_l_law_259 : decode b_l_law 259 = .ok (.iconst 1, 1) := by decide +kernel
theorem d_l_law_260 : decode b_l_law 260 = .ok (.iadd, 1) := by decide +kernel
theorem d_l_law_261 : decode b_l_law 261 = .ok (.iaload, 1) := by decide +kernel
theorem d_l_law_262 : decode b_l_law 262 = .ok (.aload_n 0, 1) := by decide +kernel
theorem d_l_law_263 : decode b_l_law 263 = .ok (.iload 4, 2) := by decide +kernel
theorem d_l_law_265 : decode b_l_law 265 = .ok (.iconst 2, 1) := by decide +kernel
theorem d_l_law_266 : decode b_l_law 266 = .ok (.iadd, 1) := by decide +kernel
theorem d_l_law_267 : decode b_l_law 267 = .ok (.iaload, 1) := by decide +kernel
theorem d_l_law_268 : decode b_l_law 268 = .ok (.invokevirtual 83, 3) := by decide +kernel
theorem d_l_law_271 : decode b_l_law 271 = .ok (.istore 6, 2) := by decide +kernel
theorem d_l_law_273 : decode b_l_law 273 = .ok (.aload_n 2, 1) := by decide +kernel
theorem d_l_law_274 : decode b_l_law 274 = .ok (.invokevirtual 73, 3) := by decide +kernel
theorem d_l_law_277 : decode b_l_law 277 = .ok (.iload 5, 2) := by decide +kernel
theorem d_l_law_279 : decode b_l_law 279 = .ok (.if_icmp .eq 5, 3) := by decide +kernel
theorem d_l_law_282 : decode b_l_law 282 = .ok (.iconst 0, 1) := by decide +kernel
theorem d_l_law_283 : decode b_l_law 283 = .ok (.ireturn, 1) := by decide +kernel
theorem d_l_law_284 : decode b_l_law 284 = .ok (.iload 5, 2) := by decide +kernel
theorem d_l_law_286 : decode b_l_law 286 = .ok (.ifCond .ne 15, 3) := by decide +kernel
theorem d_l_law_289 : decode b_l_law 289 = .ok (.aload_n 3, 1) := by decide +kernel
theorem d_l_law_290 : decode b_l_law 290 = .ok (.iconst 0, 1) := by decide +kernel
theorem d_l_law_291 : decode b_l_law 291 = .ok (.laload, 1) := by decide +kernel
theorem d_l_law_292 : decode b_l_law 292 = .ok (.iload 6, 2) := by decide +kernel
theorem d_l_law_294 : decode b_l_law 294 = .ok (.i2l, 1) := by decide +kernel
theorem d_l_law_295 : decode b_l_law 295 = .ok (.lcmp, 1) := by decide +kernel
theorem d_l_law_296 : decode b_l_law 296 = .ok (.ifCond .eq 5, 3) := by decide +kernel
theorem d_l_law_299 : decode b_l_law 299 = .ok (.iconst 0, 1) := by decide +kernel
theorem d_l_law_300 : decode b_l_law 300 = .ok (.ireturn, 1) := by decide +kernel
theorem d_l_law_301 : decode b_l_law 301 = .ok (.goto 673, 3) := by decide +kernel
theorem d_l_law_304 : decode b_l_law 304 = .ok (.aload_n 1, 1) := by decide +kernel
theorem d_l_law_305 : decode b_l_law 305 = .ok (.aload_n 0, 1) := by decide +kernel
theorem d_l_law_306 : decode b_l_law 306 = .ok (.iload 4, 2) := by decide +kernel
theorem d_l_law_308 : decode b_l_law 308 = .ok (.iconst 1, 1) := by decide +kernel
theorem d_l_law_309 : decode b_l_law 309 = .ok (.iadd, 1) := by decide +kernel
theorem d_l_law_310 : decode b_l_law 310 = .ok (.iaload, 1) := by decide +kernel
theorem d_l_law_311 : decode b_l_law 311 = .ok (.aload_n 0, 1) := by decide +kernel
theorem d_l_law_312 : decode b_l_law 312 = .ok (.iload 4, 2) := by decide +kernel
theorem d_l_law_314 : decode b_l_law 314 = .ok (.iconst 2, 1) := by decide +kernel
theorem d_l_law_315 : decode b_l_law 315 = .ok (.iadd, 1) := by decide +kernel
theorem d_l_law_316 : decode b_l_law 316 = .ok (.iaload, 1) := by decide +kernel
theorem d_l_law_317 : decode b_l_law 317 = .ok (.aload_n 0, 1) := by decide +kernel
theorem d_l_law_318 : decode b_l_law 318 = .ok (.iload 4, 2) := by decide +kernel
theorem d_l_law_320 : decode b_l_law 320 = .ok (.iconst 3, 1) := by decide +kernel
theorem d_l_law_321 : decode b_l_law 321 = .ok (.iadd, 1) := by decide +kernel
theorem d_l_law_322 : decode b_l_law 322 = .ok (.iaload, 1) := by decide +kernel
theorem d_l_law_323 : decode b_l_law 323 = .ok (.aload_n 3, 1) := by decide +kernel
theorem d_l_law_324 : decode b_l_law 324 = .ok (.invokestatic 84, 3) := by decide +kernel
theorem d_l_law_327 : decode b_l_law 327 = .ok (.istore 5, 2) := by decide +kernel
theorem d_l_law_329 : decode b_l_law 329 = .ok (.aload_n 2, 1) := by decide +kernel
theorem d_l_law_330 : decode b_l_law 330 = .ok (.aload_n 0, 1) := by decide +kernel
theorem d_l_law_331 : decode b_l_law 331 = .ok (.iload 4, 2) := by decide +kernel
theorem d_l_law_333 : decode b_l_law 333 = .ok (.iconst 1, 1) := by decide +kernel
theorem d_l_law_334 : decode b_l_law 334 = .ok (.iadd, 1) := by decide +kernel
theorem d_l_law_335 : decode b_l_law 335 = .ok (.iaload, 1) := by decide +kernel
theorem d_l_law_336 : decode b_l_law 336 = .ok (.aload_n 0, 1) := by decide +kernel
theorem d_l_law_337 : decode b_l_law 337 = .ok (.iload 4, 2) := by decide +kernel
theorem d_l_law_339 : decode b_l_law 339 = .ok (.iconst 2, 1) := by decide +kernel
theorem d_l_law_340 : decode b_l_law 340 = .ok (.iadd, 1) := by decide +kernel
theorem d_l_law_341 : decode b_l_law 341 = .ok (.iaload, 1) := by decide +kernel
theorem d_l_law_342 : decode b_l_law 342 = .ok (.aload_n 0, 1) := by decide +kernel
theorem d_l_law_343 : decode b_l_law 343 = .ok (.iload 4, 2) := by decide +kernel
theorem d_l_law_345 : decode b_l_law 345 = .ok (.iconst 3, 1) := by decide +kernel
theorem d_l_law_346 : decode b_l_law 346 = .ok (.iadd, 1) := by decide +kernel
theorem d_l_law_347 : decode b_l_law 347 = .ok (.iaload, 1) := by decide +kernel
theorem d_l_law_348 : decode b_l_law 348 = .ok (.invokevirtual 87, 3) := by decide +kernel
theorem d_l_law_351 : decode b_l_law 351 = .ok (.istore 6, 2) := by decide +kernel
theorem d_l_law_353 : decode b_l_law 353 = .ok (.aload_n 2, 1) := by decide +kernel
theorem d_l_law_354 : decode b_l_law 354 = .ok (.invokevirtual 73, 3) := by decide +kernel
theorem d_l_law_357 : decode b_l_law 357 = .ok (.iload 5, 2) := by decide +kernel
theorem d_l_law_359 : decode b_l_law 359 = .ok (.if_icmp .eq 5, 3) := by decide +kernel
theorem d_l_law_362 : decode b_l_law 362 = .ok (.iconst 0, 1) := by decide +kernel
theorem d_l_law_363 : decode b_l_law 363 = .ok (.ireturn, 1) := by decide +kernel
theorem d_l_law_364 : decode b_l_law 364 = .ok (.iload 5, 2) := by decide +kernel
theorem d_l_law_366 : decode b_l_law 366 = .ok (.ifCond .ne 22, 3) := by decide +kernel
theorem d_l_law_369 : decode b_l_law 369 = .ok (.aload_n 3, 1) := by decide +kernel
theorem d_l_law_370 : decode b_l_law 370 = .ok (.iconst 0, 1) := by decide +kernel
theorem d_l_law_371 : decode b_l_law 371 = .ok (.laload, 1) := by decide +kernel
theorem d_l_law_372 : decode b_l_law 372 = .ok (.iload 6, 2) := by decide +kernel
theorem d_l_law_374 : decode b_l_law 374 = .ok (.ifCond .eq 7, 3) := by decide +kernel
theorem d_l_law_377 : decode b_l_law 377 = .ok (.lconst 1, 1) := by decide +kernel
theorem d_l_law_378 : decode b_l_law 378 = .ok (.goto 4, 3) := by decide +kernel
theorem d_l_law_381 : decode b_l_law 381 = .ok (.lconst 0, 1) := by decide +kernel
theorem d_l_law_382 : decode b_l_law 382 = .ok (.lcmp, 1) := by decide +kernel
theorem d_l_law_383 : decode b_l_law 383 = .ok (.ifCond .eq 5, 3) := by decide +kernel
theorem d_l_law_386 : decode b_l_law 386 = .ok (.iconst 0, 1) := by decide +kernel
theorem d_l_law_387 : decode b_l_law 387 = .ok (.ireturn, 1) := by decide +kernel
theorem d_l_law_388 : decode b_l_law 388 = .ok (.goto 586, 3) := by decide +kernel
theorem d_l_law_391 : decode b_l_law 391 = .ok (.aload_n 1, 1) := by decide +kernel
theorem d_l_law_392 : decode b_l_law 392 = .ok (.aload_n 0, 1) := by decide +kernel
theorem d_l_law_393 : decode b_l_law 393 = .ok (.iload 4, 2) := by decide +kernel
theorem d_l_law_395 : decode b_l_law 395 = .ok (.iconst 1, 1) := by decide +kernel
theorem d_l_law_396 : decode b_l_law 396 = .ok (.iadd, 1) := by decide +kernel
theorem d_l_law_397 : decode b_l_law 397 = .ok (.iaload, 1) := by decide +kernel
theorem d_l_law_398 : decode b_l_law 398 = .ok (.aload_n 0, 1) := by decide +kernel
theorem d_l_law_399 : decode b_l_law 399 = .ok (.iload 4, 2) := by decide +kernel
theorem d_l_law_401 : decode b_l_law 401 = .ok (.iconst 2, 1) := by decide +kernel
theorem d_l_law_402 : decode b_l_law 402 = .ok (.iadd, 1) := by decide +kernel
theorem d_l_law_403 : decode b_l_law 403 = .ok (.iaload, 1) := by decide +kernel
theorem d_l_law_404 : decode b_l_law 404 = .ok (.aload_n 3, 1) := by decide +kernel
theorem d_l_law_405 : decode b_l_law 405 = .ok (.invokestatic 88, 3) := by decide +kernel
theorem d_l_law_408 : decode b_l_law 408 = .ok (.istore 5, 2) := by decide +kernel
theorem d_l_law_410 : decode b_l_law 410 = .ok (.aload_n 2, 1) := by decide +kernel
theorem d_l_law_411 : decode b_l_law 411 = .ok (.aload_n 0, 1) := by decide +kernel
theorem d_l_law_412 : decode b_l_law 412 = .ok (.iload 4, 2) := by decide +kernel
theorem d_l_law_414 : decode b_l_law 414 = .ok (.iconst 1, 1) := by decide +kernel
theorem d_l_law_415 : decode b_l_law 415 = .ok (.iadd, 1) := by decide +kernel
theorem d_l_law_416 : decode b_l_law 416 = .ok (.iaload, 1) := by decide +kernel
theorem d_l_law_417 : decode b_l_law 417 = .ok (.aload_n 0, 1) := by decide +kernel
theorem d_l_law_418 : decode b_l_law 418 = .ok (.iload 4, 2) := by decide +kernel
theorem d_l_law_420 : decode b_l_law 420 = .ok (.iconst 2, 1) := by decide +kernel
theorem d_l_law_421 : decode b_l_law 421 = .ok (.iadd, 1) := by decide +kernel
theorem d_l_law_422 : decode b_l_law 422 = .ok (.iaload, 1) := by decide +kernel
theorem d_l_law_423 : decode b_l_law 423 = .ok (.invokevirtual 90, 3) := by decide +kernel
theorem d_l_law_426 : decode b_l_law 426 = .ok (.istore 6, 2) := by decide +kernel
theorem d_l_law_428 : decode b_l_law 428 = .ok (.aload_n 2, 1) := by decide +kernel
theorem d_l_law_429 : decode b_l_law 429 = .ok (.invokevirtual 73, 3) := by decide +kernel
theorem d_l_law_432 : decode b_l_law 432 = .ok (.iload 5, 2) := by decide +kernel
theorem d_l_law_434 : decode b_l_law 434 = .ok (.if_icmp .eq 5, 3) := by decide +kernel
theorem d_l_law_437 : decode b_l_law 437 = .ok (.iconst 0, 1) := by decide +kernel
theorem d_l_law_438 : decode b_l_law 438 = .ok (.ireturn, 1) := by decide +kernel
theorem d_l_law_439 : decode b_l_law 439 = .ok (.iload 5, 2) := by decide +kernel
theorem d_l_law_441 : decode b_l_law 441 = .ok (.ifCond .ne 15, 3) := by decide +kernel
theorem d_l_law_444 : decode b_l_law 444 = .ok (.aload_n 3, 1) := by decide +kernel
theorem d_l_law_445 : decode b_l_law 445 = .ok (.iconst 0, 1) := by decide +kernel
theorem d_l_law_446 : decode b_l_law 446 = .ok (.laload, 1) := by decide +kernel
theorem d_l_law_447 : decode b_l_law 447 = .ok (.iload 6, 2) := by decide +kernel
theorem d_l_law_449 : decode b_l_law 449 = .ok (.i2l, 1) := by decide +kernel
theorem d_l_law_450 : decode b_l_law 450 = .ok (.lcmp, 1) := by decide +kernel
theorem d_l_law_451 : decode b_l_law 451 = .ok (.ifCond .eq 5, 3) := by decide +kernel
theorem d_l_law_454 : decode b_l_law 454 = .ok (.iconst 0, 1) := by decide +kernel
theorem d_l_law_455 : decode b_l_law 455 = .ok (.ireturn, 1) := by decide +kernel
theorem d_l_law_456 : decode b_l_law 456 = .ok (.goto 518, 3) := by decide +kernel
theorem d_l_law_459 : decode b_l_law 459 = .ok (.aload_n 1, 1) := by decide +kernel
theorem d_l_law_460 : decode b_l_law 460 = .ok (.aload_n 0, 1) := by decide +kernel
theorem d_l_law_461 : decode b_l_law 461 = .ok (.iload 4, 2) := by decide +kernel
theorem d_l_law_463 : decode b_l_law 463 = .ok (.iconst 1, 1) := by decide +kernel
theorem d_l_law_464 : decode b_l_law 464 = .ok (.iadd, 1) := by decide +kernel
theorem d_l_law_465 : decode b_l_law 465 = .ok (.iaload, 1) := by decide +kernel
theorem d_l_law_466 : decode b_l_law 466 = .ok (.aload_n 0, 1) := by decide +kernel
theorem d_l_law_467 : decode b_l_law 467 = .ok (.iload 4, 2) := by decide +kernel
theorem d_l_law_469 : decode b_l_law 469 = .ok (.iconst 2, 1) := by decide +kernel
theorem d_l_law_470 : decode b_l_law 470 = .ok (.iadd, 1) := by decide +kernel
theorem d_l_law_471 : decode b_l_law 471 = .ok (.iaload, 1) := by decide +kernel
theorem d_l_law_472 : decode b_l_law 472 = .ok (.aload_n 3, 1) := by decide +kernel
theorem d_l_law_473 : decode b_l_law 473 = .ok (.invokestatic 91, 3) := by decide +kernel
theorem d_l_law_476 : decode b_l_law 476 = .ok (.istore 5, 2) := by decide +kernel
theorem d_l_law_478 : decode b_l_law 478 = .ok (.aload_n 2, 1) := by decide +kernel
theorem d_l_law_479 : decode b_l_law 479 = .ok (.aload_n 0, 1) := by decide +kernel
theorem d_l_law_480 : decode b_l_law 480 = .ok (.iload 4, 2) := by decide +kernel
theorem d_l_law_482 : decode b_l_law 482 = .ok (.iconst 1, 1) := by decide +kernel
theorem d_l_law_483 : decode b_l_law 483 = .ok (.iadd, 1) := by decide +kernel
theorem d_l_law_484 : decode b_l_law 484 = .ok (.iaload, 1) := by decide +kernel
theorem d_l_law_485 : decode b_l_law 485 = .ok (.aload_n 0, 1) := by decide +kernel
theorem d_l_law_486 : decode b_l_law 486 = .ok (.iload 4, 2) := by decide +kernel
theorem d_l_law_488 : decode b_l_law 488 = .ok (.iconst 2, 1) := by decide +kernel
theorem d_l_law_489 : decode b_l_law 489 = .ok (.iadd, 1) := by decide +kernel
theorem d_l_law_490 : decode b_l_law 490 = .ok (.iaload, 1) := by decide +kernel
theorem d_l_law_491 : decode b_l_law 491 = .ok (.invokevirtual 93, 3) := by decide +kernel
theorem d_l_law_494 : decode b_l_law 494 = .ok (.istore 6, 2) := by decide +kernel
theorem d_l_law_496 : decode b_l_law 496 = .ok (.aload_n 2, 1) := by decide +kernel
theorem d_l_law_497 : decode b_l_law 497 = .ok (.invokevirtual 73, 3) := by decide +kernel
theorem d_l_law_500 : decode b_l_law 500 = .ok (.iload 5, 2) := by decide +kernel
theorem d_l_law_502 : decode b_l_law 502 = .ok (.if_icmp .eq 5, 3) := by decide +kernel
theorem d_l_law_505 : decode b_l_law 505 = .ok (.iconst 0, 1) := by decide +kernel
theorem d_l_law_506 : decode b_l_law 506 = .ok (.ireturn, 1) := by decide +kernel
theorem d_l_law_507 : decode b_l_law 507 = .ok (.iload 5, 2) := by decide +kernel
theorem d_l_law_509 : decode b_l_law 509 = .ok (.ifCond .ne 22, 3) := by decide +kernel
theorem d_l_law_512 : decode b_l_law 512 = .ok (.aload_n 3, 1) := by decide +kernel
theorem d_l_law_513 : decode b_l_law 513 = .ok (.iconst 0, 1) := by decide +kernel
theorem d_l_law_514 : decode b_l_law 514 = .ok (.laload, 1) := by decide +kernel
theorem d_l_law_515 : decode b_l_law 515 = .ok (.iload 6, 2) := by decide +kernel
theorem d_l_law_517 : decode b_l_law 517 = .ok (.ifCond .eq 7, 3) := by decide +kernel
theorem d_l_law_520 : decode b_l_law 520 = .ok (.lconst 1, 1) := by decide +kernel
theorem d_l_law_521 : decode b_l_law 521 = .ok (.goto 4, 3) := by decide +kernel
theorem d_l_law_524 : decode b_l_law 524 = .ok (.lconst 0, 1) := by decide +kernel
theorem d_l_law_525 : decode b_l_law 525 = .ok (.lcmp, 1) := by decide +kernel
theorem d_l_law_526 : decode b_l_law 526 = .ok (.ifCond .eq 5, 3) := by decide +kernel
theorem d_l_law_529 : decode b_l_law 529 = .ok (.iconst 0, 1) := by decide +kernel
theorem d_l_law_530 : decode b_l_law 530 = .ok (.ireturn, 1) := by decide +kernel
theorem d_l_law_531 : decode b_l_law 531 = .ok (.goto 443, 3) := by decide +kernel
theorem d_l_law_534 : decode b_l_law 534 = .ok (.aload_n 1, 1) := by decide +kernel
theorem d_l_law_535 : decode b_l_law 535 = .ok (.aload_n 0, 1) := by decide +kernel
theorem d_l_law_536 : decode b_l_law 536 = .ok (.iload 4, 2) := by decide +kernel
theorem d_l_law_538 : decode b_l_law 538 = .ok (.iconst 1, 1) := by decide +kernel
theorem d_l_law_539 : decode b_l_law 539 = .ok (.iadd, 1) := by decide +kernel
theorem d_l_law_540 : decode b_l_law 540 = .ok (.iaload, 1) := by decide +kernel
theorem d_l_law_541 : decode b_l_law 541 = .ok (.aload_n 0, 1) := by decide +kernel
theorem d_l_law_542 : decode b_l_law 542 = .ok (.iload 4, 2) := by decide +kernel
theorem d_l_law_544 : decode b_l_law 544 = .ok (.iconst 2, 1) := by decide +kernel
theorem d_l_law_545 : decode b_l_law 545 = .ok (.iadd, 1) := by decide +kernel
theorem d_l_law_546 : decode b_l_law 546 = .ok (.iaload, 1) := by decide +kernel
theorem d_l_law_547 : decode b_l_law 547 = .ok (.aload_n 3, 1) := by decide +kernel
theorem d_l_law_548 : decode b_l_law 548 = .ok (.invokestatic 94, 3) := by decide +kernel
theorem d_l_law_551 : decode b_l_law 551 = .ok (.istore 5, 2) := by decide +kernel
theorem d_l_law_553 : decode b_l_law 553 = .ok (.aload_n 2, 1) := by decide +kernel
theorem d_l_law_554 : decode b_l_law 554 = .ok (.aload_n 0, 1) := by decide +kernel
theorem d_l_law_555 : decode b_l_law 555 = .ok (.iload 4, 2) := by decide +kernel
theorem d_l_law_557 : decode b_l_law 557 = .ok (.iconst 1, 1) := by decide +kernel
theorem d_l_law_558 : decode b_l_law 558 = .ok (.iadd, 1) := by decide +kernel
theorem d_l_law_559 : decode b_l_law 559 = .ok (.iaload, 1) := by decide +kernel
theorem d_l_law_560 : decode b_l_law 560 = .ok (.aload_n 0, 1) := by decide +kernel
theorem d_l_law_561 : decode b_l_law 561 = .ok (.iload 4, 2) := by decide +kernel
theorem d_l_law_563 : decode b_l_law 563 = .ok (.iconst 2, 1) := by decide +kernel
theorem d_l_law_564 : decode b_l_law 564 = .ok (.iadd, 1) := by decide +kernel
theorem d_l_law_565 : decode b_l_law 565 = .ok (.iaload, 1) := by decide +kernel
theorem d_l_law_566 : decode b_l_law 566 = .ok (.invokevirtual 96, 3) := by decide +kernel
theorem d_l_law_569 : decode b_l_law 569 = .ok (.istore 6, 2) := by decide +kernel
theorem d_l_law_571 : decode b_l_law 571 = .ok (.aload_n 2, 1) := by decide +kernel
theorem d_l_law_572 : decode b_l_law 572 = .ok (.invokevirtual 73, 3) := by decide +kernel
theorem d_l_law_575 : decode b_l_law 575 = .ok (.iload 5, 2) := by decide +kernel
theorem d_l_law_577 : decode b_l_law 577 = .ok (.if_icmp .eq 5, 3) := by decide +kernel
theorem d_l_law_580 : decode b_l_law 580 = .ok (.iconst 0, 1) := by decide +kernel
theorem d_l_law_581 : decode b_l_law 581 = .ok (.ireturn, 1) := by decide +kernel
theorem d_l_law_582 : decode b_l_law 582 = .ok (.iload 5, 2) := by decide +kernel
theorem d_l_law_584 : decode b_l_law 584 = .ok (.ifCond .ne 15, 3) := by decide +kernel
theorem d_l_law_587 : decode b_l_law 587 = .ok (.aload_n 3, 1) := by decide +kernel
theorem d_l_law_588 : decode b_l_law 588 = .ok (.iconst 0, 1) := by decide +kernel
theorem d_l_law_589 : decode b_l_law 589 = .ok (.laload, 1) := by decide +kernel
theorem d_l_law_590 : decode b_l_law 590 = .ok (.iload 6, 2) := by decide +kernel
theorem d_l_law_592 : decode b_l_law 592 = .ok (.i2l, 1) := by decide +kernel
theorem d_l_law_593 : decode b_l_law 593 = .ok (.lcmp, 1) := by decide +kernel
theorem d_l_law_594 : decode b_l_law 594 = .ok (.ifCond .eq 5, 3) := by decide +kernel
theorem d_l_law_597 : decode b_l_law 597 = .ok (.iconst 0, 1) := by decide +kernel
theorem d_l_law_598 : decode b_l_law 598 = .ok (.ireturn, 1) := by decide +kernel
theorem d_l_law_599 : decode b_l_law 599 = .ok (.goto 375, 3) := by decide +kernel
theorem d_l_law_602 : decode b_l_law 602 = .ok (.aload_n 1, 1) := by decide +kernel
theorem d_l_law_603 : decode b_l_law 603 = .ok (.aload_n 0, 1) := by decide +kernel
theorem d_l_law_604 : decode b_l_law 604 = .ok (.iload 4, 2) := by decide +kernel
theorem d_l_law_606 : decode b_l_law 606 = .ok (.iconst 1, 1) := by decide +kernel
theorem d_l_law_607 : decode b_l_law 607 = .ok (.iadd, 1) := by decide +kernel
theorem d_l_law_608 : decode b_l_law 608 = .ok (.iaload, 1) := by decide +kernel
theorem d_l_law_609 : decode b_l_law 609 = .ok (.aload_n 0, 1) := by decide +kernel
theorem d_l_law_610 : decode b_l_law 610 = .ok (.iload 4, 2) := by decide +kernel
theorem d_l_law_612 : decode b_l_law 612 = .ok (.iconst 2, 1) := by decide +kernel
theorem d_l_law_613 : decode b_l_law 613 = .ok (.iadd, 1) := by decide +kernel
theorem d_l_law_614 : decode b_l_law 614 = .ok (.iaload, 1) := by decide +kernel
theorem d_l_law_615 : decode b_l_law 615 = .ok (.invokestatic 97, 3) := by decide +kernel
theorem d_l_law_618 : decode b_l_law 618 = .ok (.istore 5, 2) := by decide +kernel
theorem d_l_law_620 : decode b_l_law 620 = .ok (.aload_n 2, 1) := by decide +kernel
theorem d_l_law_621 : decode b_l_law 621 = .ok (.aload_n 0, 1) := by decide +kernel
theorem d_l_law_622 : decode b_l_law 622 = .ok (.iload 4, 2) := by decide +kernel
theorem d_l_law_624 : decode b_l_law 624 = .ok (.iconst 1, 1) := by decide +kernel
theorem d_l_law_625 : decode b_l_law 625 = .ok (.iadd, 1) := by decide +kernel
theorem d_l_law_626 : decode b_l_law 626 = .ok (.iaload, 1) := by decide +kernel
theorem d_l_law_627 : decode b_l_law 627 = .ok (.aload_n 0, 1) := by decide +kernel
theorem d_l_law_628 : decode b_l_law 628 = .ok (.iload 4, 2) := by decide +kernel
theorem d_l_law_630 : decode b_l_law 630 = .ok (.iconst 2, 1) := by decide +kernel
theorem d_l_law_631 : decode b_l_law 631 = .ok (.iadd, 1) := by decide +kernel
theorem d_l_law_632 : decode b_l_law 632 = .ok (.iaload, 1) := by decide +kernel
theorem d_l_law_633 : decode b_l_law 633 = .ok (.invokevirtual 100, 3) := by decide +kernel
theorem d_l_law_636 : decode b_l_law 636 = .ok (.aload_n 2, 1) := by decide +kernel
theorem d_l_law_637 : decode b_l_law 637 = .ok (.invokevirtual 73, 3) := by decide +kernel
theorem d_l_law_640 : decode b_l_law 640 = .ok (.iload 5, 2) := by decide +kernel
theorem d_l_law_642 : decode b_l_law 642 = .ok (.if_icmp .eq 5, 3) := by decide +kernel
theorem d_l_law_645 : decode b_l_law 645 = .ok (.iconst 0, 1) := by decide +kernel
theorem d_l_law_646 : decode b_l_law 646 = .ok (.ireturn, 1) := by decide +kernel
theorem d_l_law_647 : decode b_l_law 647 = .ok (.goto 327, 3) := by decide +kernel
theorem d_l_law_650 : decode b_l_law 650 = .ok (.aload_n 1, 1) := by decide +kernel
theorem d_l_law_651 : decode b_l_law 651 = .ok (.aload_n 0, 1) := by decide +kernel
theorem d_l_law_652 : decode b_l_law 652 = .ok (.iload 4, 2) := by decide +kernel
theorem d_l_law_654 : decode b_l_law 654 = .ok (.iconst 1, 1) := by decide +kernel
theorem d_l_law_655 : decode b_l_law 655 = .ok (.iadd, 1) := by decide +kernel
theorem d_l_law_656 : decode b_l_law 656 = .ok (.iaload, 1) := by decide +kernel
theorem d_l_law_657 : decode b_l_law 657 = .ok (.aload_n 3, 1) := by decide +kernel
theorem d_l_law_658 : decode b_l_law 658 = .ok (.invokestatic 101, 3) := by decide +kernel
theorem d_l_law_661 : decode b_l_law 661 = .ok (.istore 5, 2) := by decide +kernel
theorem d_l_law_663 : decode b_l_law 663 = .ok (.aload_n 2, 1) := by decide +kernel
theorem d_l_law_664 : decode b_l_law 664 = .ok (.aload_n 0, 1) := by decide +kernel
theorem d_l_law_665 : decode b_l_law 665 = .ok (.iload 4, 2) := by decide +kernel
theorem d_l_law_667 : decode b_l_law 667 = .ok (.iconst 1, 1) := by decide +kernel
theorem d_l_law_668 : decode b_l_law 668 = .ok (.iadd, 1) := by decide +kernel
theorem d_l_law_669 : decode b_l_law 669 = .ok (.iaload, 1) := by decide +kernel
theorem d_l_law_670 : decode b_l_law 670 = .ok (.invokevirtual 103, 3) := by decide +kernel
theorem d_l_law_673 : decode b_l_law 673 = .ok (.istore 6, 2) := by decide +kernel
theorem d_l_law_675 : decode b_l_law 675 = .ok (.aload_n 2, 1) := by decide +kernel
theorem d_l_law_676 : decode b_l_law 676 = .ok (.invokevirtual 73, 3) := by decide +kernel
theorem d_l_law_679 : decode b_l_law 679 = .ok (.iload 5, 2) := by decide +kernel
theorem d_l_law_681 : decode b_l_law 681 = .ok (.if_icmp .eq 5, 3) := by decide +kernel
theorem d_l_law_684 : decode b_l_law 684 = .ok (.iconst 0, 1) := by decide +kernel
theorem d_l_law_685 : decode b_l_law 685 = .ok (.ireturn, 1) := by decide +kernel
theorem d_l_law_686 : decode b_l_law 686 = .ok (.iload 5, 2) := by decide +kernel
theorem d_l_law_688 : decode b_l_law 688 = .ok (.ifCond .ne 15, 3) := by decide +kernel
theorem d_l_law_691 : decode b_l_law 691 = .ok (.aload_n 3, 1) := by decide +kernel
theorem d_l_law_692 : decode b_l_law 692 = .ok (.iconst 0, 1) := by decide +kernel
theorem d_l_law_693 : decode b_l_law 693 = .ok (.laload, 1) := by decide +kernel
theorem d_l_law_694 : decode b_l_law 694 = .ok (.iload 6, 2) := by decide +kernel
theorem d_l_law_696 : decode b_l_law 696 = .ok (.i2l, 1) := by decide +kernel
theorem d_l_law_697 : decode b_l_law 697 = .ok (.lcmp, 1) := by decide +kernel
theorem d_l_law_698 : decode b_l_law 698 = .ok (.ifCond .eq 5, 3) := by decide +kernel
theorem d_l_law_701 : decode b_l_law 701 = .ok (.iconst 0, 1) := by decide +kernel
theorem d_l_law_702 : decode b_l_law 702 = .ok (.ireturn, 1) := by decide +kernel
theorem d_l_law_703 : decode b_l_law 703 = .ok (.goto 271, 3) := by decide +kernel
theorem d_l_law_706 : decode b_l_law 706 = .ok (.aload_n 1, 1) := by decide +kernel
theorem d_l_law_707 : decode b_l_law 707 = .ok (.aload_n 0, 1) := by decide +kernel
theorem d_l_law_708 : decode b_l_law 708 = .ok (.iload 4, 2) := by decide +kernel
theorem d_l_law_710 : decode b_l_law 710 = .ok (.iconst 1, 1) := by decide +kernel
theorem d_l_law_711 : decode b_l_law 711 = .ok (.iadd, 1) := by decide +kernel
theorem d_l_law_712 : decode b_l_law 712 = .ok (.iaload, 1) := by decide +kernel
theorem d_l_law_713 : decode b_l_law 713 = .ok (.aload_n 0, 1) := by decide +kernel
theorem d_l_law_714 : decode b_l_law 714 = .ok (.iload 4, 2) := by decide +kernel
theorem d_l_law_716 : decode b_l_law 716 = .ok (.iconst 2, 1) := by decide +kernel
theorem d_l_law_717 : decode b_l_law 717 = .ok (.iadd, 1) := by decide +kernel
theorem d_l_law_718 : decode b_l_law 718 = .ok (.iaload, 1) := by decide +kernel
theorem d_l_law_719 : decode b_l_law 719 = .ok (.aload_n 0, 1) := by decide +kernel
theorem d_l_law_720 : decode b_l_law 720 = .ok (.iload 4, 2) := by decide +kernel
theorem d_l_law_722 : decode b_l_law 722 = .ok (.iconst 3, 1) := by decide +kernel
theorem d_l_law_723 : decode b_l_law 723 = .ok (.iadd, 1) := by decide +kernel
theorem d_l_law_724 : decode b_l_law 724 = .ok (.iaload, 1) := by decide +kernel
theorem d_l_law_725 : decode b_l_law 725 = .ok (.invokestatic 104, 3) := by decide +kernel
theorem d_l_law_728 : decode b_l_law 728 = .ok (.istore 5, 2) := by decide +kernel
theorem d_l_law_730 : decode b_l_law 730 = .ok (.aload_n 2, 1) := by decide +kernel
theorem d_l_law_731 : decode b_l_law 731 = .ok (.aload_n 0, 1) := by decide +kernel
theorem d_l_law_732 : decode b_l_law 732 = .ok (.iload 4, 2) := by decide +kernel
theorem d_l_law_734 : decode b_l_law 734 = .ok (.iconst 1, 1) := by decide +kernel
theorem d_l_law_735 : decode b_l_law 735 = .ok (.iadd, 1) := by decide +kernel
theorem d_l_law_736 : decode b_l_law 736 = .ok (.iaload, 1) := by decide +kernel
theorem d_l_law_737 : decode b_l_law 737 = .ok (.aload_n 0, 1) := by decide +kernel
theorem d_l_law_738 : decode b_l_law 738 = .ok (.iload 4, 2) := by decide +kernel
theorem d_l_law_740 : decode b_l_law 740 = .ok (.iconst 2, 1) := by decide +kernel
theorem d_l_law_741 : decode b_l_law 741 = .ok (.iadd, 1) := by decide +kernel
theorem d_l_law_742 : decode b_l_law 742 = .ok (.iaload, 1) := by decide +kernel
theorem d_l_law_743 : decode b_l_law 743 = .ok (.aload_n 0, 1) := by decide +kernel
theorem d_l_law_744 : decode b_l_law 744 = .ok (.iload 4, 2) := by decide +kernel
theorem d_l_law_746 : decode b_l_law 746 = .ok (.iconst 3, 1) := by decide +kernel
theorem d_l_law_747 : decode b_l_law 747 = .ok (.iadd, 1) := by decide +kernel
theorem d_l_law_748 : decode b_l_law 748 = .ok (.iaload, 1) := by decide +kernel
theorem d_l_law_749 : decode b_l_law 749 = .ok (.invokevirtual 106, 3) := by decide +kernel
theorem d_l_law_752 : decode b_l_law 752 = .ok (.aload_n 2, 1) := by decide +kernel
theorem d_l_law_753 : decode b_l_law 753 = .ok (.invokevirtual 73, 3) := by decide +kernel
theorem d_l_law_756 : decode b_l_law 756 = .ok (.iload 5, 2) := by decide +kernel
theorem d_l_law_758 : decode b_l_law 758 = .ok (.if_icmp .eq 5, 3) := by decide +kernel
theorem d_l_law_761 : decode b_l_law 761 = .ok (.iconst 0, 1) := by decide +kernel
theorem d_l_law_762 : decode b_l_law 762 = .ok (.ireturn, 1) := by decide +kernel
theorem d_l_law_763 : decode b_l_law 763 = .ok (.goto 211, 3) := by decide +kernel
theorem d_l_law_766 : decode b_l_law 766 = .ok (.aload_n 1, 1) := by decide +kernel
theorem d_l_law_767 : decode b_l_law 767 = .ok (.invokevirtual 107, 3) := by decide +kernel
theorem d_l_law_770 : decode b_l_law 770 = .ok (.aload_n 2, 1) := by decide +kernel
theorem d_l_law_771 : decode b_l_law 771 = .ok (.invokevirtual 110, 3) := by decide +kernel
theorem d_l_law_774 : decode b_l_law 774 = .ok (.if_icmp .eq 200, 3) := by decide +kernel
theorem d_l_law_777 : decode b_l_law 777 = .ok (.iconst 0, 1) := by decide +kernel
theorem d_l_law_778 : decode b_l_law 778 = .ok (.ireturn, 1) := by decide +kernel
theorem d_l_law_779 : decode b_l_law 779 = .ok (.aload_n 1, 1) := by decide +kernel
theorem d_l_law_780 : decode b_l_law 780 = .ok (.aload_n 3, 1) := by decide +kernel
theorem d_l_law_781 : decode b_l_law 781 = .ok (.invokestatic 111, 3) := by decide +kernel
theorem d_l_law_784 : decode b_l_law 784 = .ok (.istore 5, 2) := by decide +kernel
theorem d_l_law_786 : decode b_l_law 786 = .ok (.aload_n 2, 1) := by decide +kernel
theorem d_l_law_787 : decode b_l_law 787 = .ok (.invokevirtual 114, 3) := by decide +kernel
theorem d_l_law_790 : decode b_l_law 790 = .ok (.istore 6, 2) := by decide +kernel
theorem d_l_law_792 : decode b_l_law 792 = .ok (.aload_n 2, 1) := by decide +kernel
theorem d_l_law_793 : decode b_l_law 793 = .ok (.invokevirtual 73, 3) := by decide +kernel
theorem d_l_law_796 : decode b_l_law 796 = .ok (.iload 5, 2) := by decide +kernel
theorem d_l_law_798 : decode b_l_law 798 = .ok (.if_icmp .eq 5, 3) := by decide +kernel
theorem d_l_law_801 : decode b_l_law 801 = .ok (.iconst 0, 1) := by decide +kernel
theorem d_l_law_802 : decode b_l_law 802 = .ok (.ireturn, 1) := by decide +kernel
theorem d_l_law_803 : decode b_l_law 803 = .ok (.iload 5, 2) := by decide +kernel
theorem d_l_law_805 : decode b_l_law 805 = .ok (.ifCond .ne 15, 3) := by decide +kernel
theorem d_l_law_808 : decode b_l_law 808 = .ok (.aload_n 3, 1) := by decide +kernel
theorem d_l_law_809 : decode b_l_law 809 = .ok (.iconst 0, 1) := by decide +kernel
theorem d_l_law_810 : decode b_l_law 810 = .ok (.laload, 1) := by decide +kernel
theorem d_l_law_811 : decode b_l_law 811 = .ok (.iload 6, 2) := by decide +kernel
theorem d_l_law_813 : decode b_l_law 813 = .ok (.i2l, 1) := by decide +kernel
theorem d_l_law_814 : decode b_l_law 814 = .ok (.lcmp, 1) := by decide +kernel
theorem d_l_law_815 : decode b_l_law 815 = .ok (.ifCond .eq 5, 3) := by decide +kernel
theorem d_l_law_818 : decode b_l_law 818 = .ok (.iconst 0, 1) := by decide +kernel
theorem d_l_law_819 : decode b_l_law 819 = .ok (.ireturn, 1) := by decide +kernel
theorem d_l_law_820 : decode b_l_law 820 = .ok (.goto 154, 3) := by decide +kernel
theorem d_l_law_823 : decode b_l_law 823 = .ok (.aload_n 1, 1) := by decide +kernel
theorem d_l_law_824 : decode b_l_law 824 = .ok (.invokevirtual 115, 3) := by decide +kernel
theorem d_l_law_827 : decode b_l_law 827 = .ok (.aload_n 2, 1) := by decide +kernel
theorem d_l_law_828 : decode b_l_law 828 = .ok (.invokevirtual 118, 3) := by decide +kernel
theorem d_l_law_831 : decode b_l_law 831 = .ok (.if_icmp .eq 143, 3) := by decide +kernel
theorem d_l_law_834 : decode b_l_law 834 = .ok (.iconst 0, 1) := by decide +kernel
theorem d_l_law_835 : decode b_l_law 835 = .ok (.ireturn, 1) := by decide +kernel
theorem d_l_law_836 : decode b_l_law 836 = .ok (.aload_n 1, 1) := by decide +kernel
theorem d_l_law_837 : decode b_l_law 837 = .ok (.invokevirtual 119, 3) := by decide +kernel
theorem d_l_law_840 : decode b_l_law 840 = .ok (.aload_n 2, 1) := by decide +kernel
theorem d_l_law_841 : decode b_l_law 841 = .ok (.invokevirtual 122, 3) := by decide +kernel
theorem d_l_law_844 : decode b_l_law 844 = .ok (.if_icmp .eq 130, 3) := by decide +kernel
theorem d_l_law_847 : decode b_l_law 847 = .ok (.iconst 0, 1) := by decide +kernel
theorem d_l_law_848 : decode b_l_law 848 = .ok (.ireturn, 1) := by decide +kernel
theorem d_l_law_849 : decode b_l_law 849 = .ok (.aload_n 1, 1) := by decide +kernel
theorem d_l_law_850 : decode b_l_law 850 = .ok (.aload_n 0, 1) := by decide +kernel
theorem d_l_law_851 : decode b_l_law 851 = .ok (.iload 4, 2) := by decide +kernel
theorem d_l_law_853 : decode b_l_law 853 = .ok (.iconst 1, 1) := by decide +kernel
theorem d_l_law_854 : decode b_l_law 854 = .ok (.iadd, 1) := by decide +kernel
theorem d_l_law_855 : decode b_l_law 855 = .ok (.iaload, 1) := by decide +kernel
theorem d_l_law_856 : decode b_l_law 856 = .ok (.aload_n 3, 1) := by decide +kernel
theorem d_l_law_857 : decode b_l_law 857 = .ok (.invokestatic 123, 3) := by decide +kernel
theorem d_l_law_860 : decode b_l_law 860 = .ok (.istore 5, 2) := by decide +kernel
theorem d_l_law_862 : decode b_l_law 862 = .ok (.aload_n 2, 1) := by decide +kernel
theorem d_l_law_863 : decode b_l_law 863 = .ok (.aload_n 0, 1) := by decide +kernel
theorem d_l_law_864 : decode b_l_law 864 = .ok (.iload 4, 2) := by decide +kernel
theorem d_l_law_866 : decode b_l_law 866 = .ok (.iconst 1, 1) := by decide +kernel
theorem d_l_law_867 : decode b_l_law 867 = .ok (.iadd, 1) := by decide +kernel
theorem d_l_law_868 : decode b_l_law 868 = .ok (.iaload, 1) := by decide +kernel
theorem d_l_law_869 : decode b_l_law 869 = .ok (.invokevirtual 125, 3) := by decide +kernel
theorem d_l_law_872 : decode b_l_law 872 = .ok (.istore 6, 2) := by decide +kernel
theorem d_l_law_874 : decode b_l_law 874 = .ok (.aload_n 2, 1) := by decide +kernel
theorem d_l_law_875 : decode b_l_law 875 = .ok (.invokevirtual 73, 3) := by decide +kernel
theorem d_l_law_878 : decode b_l_law 878 = .ok (.iload 5, 2) := by decide +kernel
theorem d_l_law_880 : decode b_l_law 880 = .ok (.if_icmp .eq 5, 3) := by decide +kernel
theorem d_l_law_883 : decode b_l_law 883 = .ok (.iconst 0, 1) := by decide +kernel
theorem d_l_law_884 : decode b_l_law 884 = .ok (.ireturn, 1) := by decide +kernel
theorem d_l_law_885 : decode b_l_law 885 = .ok (.iload 5, 2) := by decide +kernel
theorem d_l_law_887 : decode b_l_law 887 = .ok (.ifCond .ne 15, 3) := by decide +kernel
theorem d_l_law_890 : decode b_l_law 890 = .ok (.aload_n 3, 1) := by decide +kernel
theorem d_l_law_891 : decode b_l_law 891 = .ok (.iconst 0, 1) := by decide +kernel
theorem d_l_law_892 : decode b_l_law 892 = .ok (.laload, 1) := by decide +kernel
theorem d_l_law_893 : decode b_l_law 893 = .ok (.iload 6, 2) := by decide +kernel
theorem d_l_law_895 : decode b_l_law 895 = .ok (.i2l, 1) := by decide +kernel
theorem d_l_law_896 : decode b_l_law 896 = .ok (.lcmp, 1) := by decide +kernel
theorem d_l_law_897 : decode b_l_law 897 = .ok (.ifCond .eq 5, 3) := by decide +kernel
theorem d_l_law_900 : decode b_l_law 900 = .ok (.iconst 0, 1) := by decide +kernel
theorem d_l_law_901 : decode b_l_law 901 = .ok (.ireturn, 1) := by decide +kernel
theorem d_l_law_902 : decode b_l_law 902 = .ok (.goto 72, 3) := by decide +kernel
theorem d_l_law_905 : decode b_l_law 905 = .ok (.aload_n 1, 1) := by decide +kernel
theorem d_l_law_906 : decode b_l_law 906 = .ok (.aload_n 0, 1) := by decide +kernel
theorem d_l_law_907 : decode b_l_law 907 = .ok (.iload 4, 2) := by decide +kernel
theorem d_l_law_909 : decode b_l_law 909 = .ok (.iconst 1, 1) := by decide +kernel
theorem d_l_law_910 : decode b_l_law 910 = .ok (.iadd, 1) := by decide +kernel
theorem d_l_law_911 : decode b_l_law 911 = .ok (.iaload, 1) := by decide +kernel
theorem d_l_law_912 : decode b_l_law 912 = .ok (.aload_n 3, 1) := by decide +kernel
theorem d_l_law_913 : decode b_l_law 913 = .ok (.invokestatic 126, 3) := by decide +kernel
theorem d_l_law_916 : decode b_l_law 916 = .ok (.istore 5, 2) := by decide +kernel
theorem d_l_law_918 : decode b_l_law 918 = .ok (.aload_n 2, 1) := by decide +kernel
theorem d_l_law_919 : decode b_l_law 919 = .ok (.aload_n 0, 1) := by decide +kernel
theorem d_l_law_920 : decode b_l_law 920 = .ok (.iload 4, 2) := by decide +kernel
theorem d_l_law_922 : decode b_l_law 922 = .ok (.iconst 1, 1) := by decide +kernel
theorem d_l_law_923 : decode b_l_law 923 = .ok (.iadd, 1) := by decide +kernel
theorem d_l_law_924 : decode b_l_law 924 = .ok (.iaload, 1) := by decide +kernel
theorem d_l_law_925 : decode b_l_law 925 = .ok (.invokevirtual 128, 3) := by decide +kernel
theorem d_l_law_928 : decode b_l_law 928 = .ok (.istore 6, 2) := by decide +kernel
theorem d_l_law_930 : decode b_l_law 930 = .ok (.aload_n 2, 1) := by decide +kernel
theorem d_l_law_931 : decode b_l_law 931 = .ok (.invokevirtual 73, 3) := by decide +kernel
theorem d_l_law_934 : decode b_l_law 934 = .ok (.iload 5, 2) := by decide +kernel
theorem d_l_law_936 : decode b_l_law 936 = .ok (.if_icmp .eq 5, 3) := by decide +kernel
theorem d_l_law_939 : decode b_l_law 939 = .ok (.iconst 0, 1) := by decide +kernel
theorem d_l_law_940 : decode b_l_law 940 = .ok (.ireturn, 1) := by decide +kernel
theorem d_l_law_941 : decode b_l_law 941 = .ok (.iload 5, 2) := by decide +kernel
theorem d_l_law_943 : decode b_l_law 943 = .ok (.ifCond .ne 15, 3) := by decide +kernel
theorem d_l_law_946 : decode b_l_law 946 = .ok (.aload_n 3, 1) := by decide +kernel
theorem d_l_law_947 : decode b_l_law 947 = .ok (.iconst 0, 1) := by decide +kernel
theorem d_l_law_948 : decode b_l_law 948 = .ok (.laload, 1) := by decide +kernel
theorem d_l_law_949 : decode b_l_law 949 = .ok (.iload 6, 2) := by decide +kernel
theorem d_l_law_951 : decode b_l_law 951 = .ok (.i2l, 1) := by decide +kernel
theorem d_l_law_952 : decode b_l_law 952 = .ok (.lcmp, 1) := by decide +kernel
theorem d_l_law_953 : decode b_l_law 953 = .ok (.ifCond .eq 5, 3) := by decide +kernel
theorem d_l_law_956 : decode b_l_law 956 = .ok (.iconst 0, 1) := by decide +kernel
theorem d_l_law_957 : decode b_l_law 957 = .ok (.ireturn, 1) := by decide +kernel
theorem d_l_law_958 : decode b_l_law 958 = .ok (.goto 16, 3) := by decide +kernel
theorem d_l_law_961 : decode b_l_law 961 = .ok (.aload_n 1, 1) := by decide +kernel
theorem d_l_law_962 : decode b_l_law 962 = .ok (.invokevirtual 129, 3) := by decide +kernel
theorem d_l_law_965 : decode b_l_law 965 = .ok (.aload_n 2, 1) := by decide +kernel
theorem d_l_law_966 : decode b_l_law 966 = .ok (.invokevirtual 132, 3) := by decide +kernel
theorem d_l_law_969 : decode b_l_law 969 = .ok (.if_icmp .eq 5, 3) := by decide +kernel
theorem d_l_law_972 : decode b_l_law 972 = .ok (.iconst 0, 1) := by decide +kernel
theorem d_l_law_973 : decode b_l_law 973 = .ok (.ireturn, 1) := by decide +kernel
theorem d_l_law_974 : decode b_l_law 974 = .ok (.iinc 4 4, 3) := by decide +kernel
theorem d_l_law_977 : decode b_l_law 977 = .ok (.goto (-954), 3) := by decide +kernel
theorem d_l_law_980 : decode b_l_law 980 = .ok (.iconst 1, 1) := by decide +kernel
theorem d_l_law_981 : decode b_l_law 981 = .ok (.ireturn, 1) := by decide +kernel
section ZL2
variable {p : Program} {l : Launch} {e : Env} {R : Room} {s : State} {m : MethodId} {args : Array Value} {below : List Frame} {meth : Method} {c : Code} {nL : Nat} {Q : State → Prop} {D : va_G} {cl : List vw_C} {w0 : va_W} {pc : Nat}
theorem z_loopC {α : Type} (I : α → Prop) (μ cf sf : α → Nat) (wsf : α → va_W) (lvf : α → List (Nat × Value)) (body : ∀ a, I a → (∀ b, I b → μ b < μ a → zAt p l e R s m args below meth c D cl w0 nL (cf b) (sf b) Q (wsf b) pc (lvf b) []) → zAt p l e R s m args below meth c D cl w0 nL (cf a) (sf a) Q (wsf a) pc (lvf a) []) (a : α) (h : I a) : zAt p l e R s m args below meth c D cl w0 nL (cf a) (sf a) Q (wsf a) pc (lvf a) [] := by
  have go : ∀ n a, μ a < n → I a → zAt p l e R s m args below meth c D cl w0 nL (cf a) (sf a) Q (wsf a) pc (lvf a) [] := by
    intro n
    induction n with
    | zero => intro a h0; exact absurd h0 (Nat.not_lt_zero _)
    | succ n ih => intro a h0 h1; exact body a h1 (fun b hb hl => ih b (Nat.lt_of_lt_of_le hl (Nat.le_of_lt_succ h0)) hb)
  exact go (μ a + 1) a (Nat.lt_succ_self _) h
end ZL2
theorem zb_31 : (Int8.ofInt 31).toInt32 = nI 31 := by decide
theorem lgc0 (x : Int64) : lg_cmp x x = 0 := by
  unfold lg_cmp
  rw [if_neg (fun h => by have := Int64.lt_iff_toInt_lt.mp h; omega), if_pos rfl]
theorem and31 (x : Int32) : ∃ k, k < 32 ∧ x &&& nI 31 = nI k := by
  refine ⟨x.toBitVec.toNat % 32, Nat.mod_lt _ (by decide), Int32.toBitVec_inj.mp ?_⟩
  rw [Int32.toBitVec_and]
  apply BitVec.eq_of_toNat_eq
  show (x.toBitVec &&& BitVec.ofNat 32 31).toNat = (BitVec.ofNat 32 (x.toBitVec.toNat % 32)).toNat
  rw [BitVec.toNat_and, BitVec.toNat_ofNat, BitVec.toNat_ofNat, show (31 : Nat) % 2 ^ 32 = 2 ^ 5 - 1 from rfl, Nat.and_two_pow_sub_one_eq_mod]
  rw [Nat.mod_eq_of_lt (Nat.lt_trans (Nat.mod_lt _ (by decide)) (by decide))]
