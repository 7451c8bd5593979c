theorem d_L_law_0 : decode code 0 = .ok (.new 7, 3) := by decide +kernel
theorem d_L_law_3 : decode code 3 = .ok (.dup, 1) := by decide +kernel
theorem d_L_law_4 : decode code 4 = .ok (.invokespecial 9, 3) := by decide +kernel
theorem d_L_law_7 : decode code 7 = .ok (.astore_n 1, 1) := by decide +kernel
theorem d_L_law_8 : decode code 8 = .ok (.new 10, 3) := by decide +kernel
theorem d_L_law_11 : decode code 11 = .ok (.dup, 1) := by decide +kernel
theorem d_L_law_12 : decode code 12 = .ok (.invokespecial 12, 3) := by decide +kernel
theorem d_L_law_15 : decode code 15 = .ok (.astore_n 2, 1) := by decide +kernel
theorem d_L_law_16 : decode code 16 = .ok (.iconst 0, 1) := by decide +kernel
theorem d_L_law_17 : decode code 17 = .ok (.istore_n 3, 1) := by decide +kernel
theorem d_L_law_18 : decode code 18 = .ok (.iload_n 3, 1) := by decide +kernel
theorem d_L_law_19 : decode code 19 = .ok (.aload_n 0, 1) := by decide +kernel
theorem d_L_law_20 : decode code 20 = .ok (.arraylength, 1) := by decide +kernel
theorem d_L_law_21 : decode code 21 = .ok (.iconst 3, 1) := by decide +kernel
theorem d_L_law_22 : decode code 22 = .ok (.isub, 1) := by decide +kernel
theorem d_L_law_23 : decode code 23 = .ok (.if_icmp .gt 374, 3) := by decide +kernel
theorem d_L_law_26 : decode code 26 = .ok (.aload_n 0, 1) := by decide +kernel
theorem d_L_law_27 : decode code 27 = .ok (.iload_n 3, 1) := by decide +kernel
theorem d_L_law_28 : decode code 28 = .ok (.iaload, 1) := by decide +kernel
theorem d_L_law_29 : decode code 29 = .ok (.bipush 15, 2) := by decide +kernel
theorem d_L_law_31 : decode code 31 = .ok (.iand, 1) := by decide +kernel
theorem d_L_law_32 : decode code 32 = .ok (.tableswitch 359 0 12 #[68, 101, 124, 147, 170, 183, 206, 219, 232, 245, 278, 302, 326], 68) := by decide +kernel
theorem d_L_law_100 : decode code 100 = .ok (.aload_n 1, 1) := by decide +kernel
theorem d_L_law_101 : decode code 101 = .ok (.aload_n 0, 1) := by decide +kernel
theorem d_L_law_102 : decode code 102 = .ok (.iload_n 3, 1) := by decide +kernel
theorem d_L_law_103 : decode code 103 = .ok (.iconst 1, 1) := by decide +kernel
theorem d_L_law_104 : decode code 104 = .ok (.iadd, 1) := by decide +kernel
theorem d_L_law_105 : decode code 105 = .ok (.iaload, 1) := by decide +kernel
theorem d_L_law_106 : decode code 106 = .ok (.aload_n 0, 1) := by decide +kernel
theorem d_L_law_107 : decode code 107 = .ok (.iload_n 3, 1) := by decide +kernel
theorem d_L_law_108 : decode code 108 = .ok (.iconst 2, 1) := by decide +kernel
theorem d_L_law_109 : decode code 109 = .ok (.iadd, 1) := by decide +kernel
theorem d_L_law_110 : decode code 110 = .ok (.iaload, 1) := by decide +kernel
theorem d_L_law_111 : decode code 111 = .ok (.invokevirtual 13, 3) := by decide +kernel
theorem d_L_law_114 : decode code 114 = .ok (.aload_n 2, 1) := by decide +kernel
theorem d_L_law_115 : decode code 115 = .ok (.aload_n 0, 1) := by decide +kernel
theorem d_L_law_116 : decode code 116 = .ok (.iload_n 3, 1) := by decide +kernel
theorem d_L_law_117 : decode code 117 = .ok (.iconst 1, 1) := by decide +kernel
theorem d_L_law_118 : decode code 118 = .ok (.iadd, 1) := by decide +kernel
theorem d_L_law_119 : decode code 119 = .ok (.iaload, 1) := by decide +kernel
theorem d_L_law_120 : decode code 120 = .ok (.aload_n 0, 1) := by decide +kernel
theorem d_L_law_121 : decode code 121 = .ok (.iload_n 3, 1) := by decide +kernel
theorem d_L_law_122 : decode code 122 = .ok (.iconst 2, 1) := by decide +kernel
theorem d_L_law_123 : decode code 123 = .ok (.iadd, 1) := by decide +kernel
theorem d_L_law_124 : decode code 124 = .ok (.iaload, 1) := by decide +kernel
theorem d_L_law_125 : decode code 125 = .ok (.invokevirtual 17, 3) := by decide +kernel
theorem d_L_law_128 : decode code 128 = .ok (.if_icmp .eq 263, 3) := by decide +kernel
theorem d_L_law_131 : decode code 131 = .ok (.iconst 0, 1) := by decide +kernel
theorem d_L_law_132 : decode code 132 = .ok (.ireturn, 1) := by decide +kernel
theorem d_L_law_133 : decode code 133 = .ok (.aload_n 1, 1) := by decide +kernel
theorem d_L_law_134 : decode code 134 = .ok (.aload_n 0, 1) := by decide +kernel
theorem d_L_law_135 : decode code 135 = .ok (.iload_n 3, 1) := by decide +kernel
theorem d_L_law_136 : decode code 136 = .ok (.iconst 1, 1) := by decide +kernel
theorem d_L_law_137 : decode code 137 = .ok (.iadd, 1) := by decide +kernel
theorem d_L_law_138 : decode code 138 = .ok (.iaload, 1) := by decide +kernel
theorem d_L_law_139 : decode code 139 = .ok (.invokevirtual 18, 3) := by decide +kernel
theorem d_L_law_142 : decode code 142 = .ok (.aload_n 2, 1) := by decide +kernel
theorem d_L_law_143 : decode code 143 = .ok (.aload_n 0, 1) := by decide +kernel
theorem d_L_law_144 : decode code 144 = .ok (.iload_n 3, 1) := by decide +kernel
theorem d_L_law_145 : decode code 145 = .ok (.iconst 1, 1) := by decide +kernel
theorem d_L_law_146 : decode code 146 = .ok (.iadd, 1) := by decide +kernel
theorem d_L_law_147 : decode code 147 = .ok (.iaload, 1) := by decide +kernel
theorem d_L_law_148 : decode code 148 = .ok (.invokevirtual 22, 3) := by decide +kernel
theorem d_L_law_151 : decode code 151 = .ok (.if_icmp .eq 240, 3) := by decide +kernel
theorem d_L_law_154 : decode code 154 = .ok (.iconst 0, 1) := by decide +kernel
theorem d_L_law_155 : decode code 155 = .ok (.ireturn, 1) := by decide +kernel
theorem d_L_law_156 : decode code 156 = .ok (.aload_n 1, 1) := by decide +kernel
theorem d_L_law_157 : decode code 157 = .ok (.aload_n 0, 1) := by decide +kernel
theorem d_L_law_158 : decode code 158 = .ok (.iload_n 3, 1) := by decide +kernel
theorem d_L_law_159 : decode code 159 = .ok (.iconst 1, 1) := by decide +kernel
theorem d_L_law_160 : decode code 160 = .ok (.iadd, 1) := by decide +kernel
theorem d_L_law_161 : decode code 161 = .ok (.iaload, 1) := by decide +kernel
theorem d_L_law_162 : decode code 162 = .ok (.invokevirtual 23, 3) := by decide +kernel
theorem d_L_law_165 : decode code 165 = .ok (.aload_n 2, 1) := by decide +kernel
theorem d_L_law_166 : decode code 166 = .ok (.aload_n 0, 1) := by decide +kernel
theorem d_L_law_167 : decode code 167 = .ok (.iload_n 3, 1) := by decide +kernel
theorem d_L_law_168 : decode code 168 = .ok (.iconst 1, 1) := by decide +kernel
theorem d_L_law_169 : decode code 169 = .ok (.iadd, 1) := by decide +kernel
theorem d_L_law_170 : decode code 170 = .ok (.iaload, 1) := by decide +kernel
theorem d_L_law_171 : decode code 171 = .ok (.invokevirtual 27, 3) := by decide +kernel
theorem d_L_law_174 : decode code 174 = .ok (.if_icmp .eq 217, 3) := by decide +kernel
theorem d_L_law_177 : decode code 177 = .ok (.iconst 0, 1) := by decide +kernel
theorem d_L_law_178 : decode code 178 = .ok (.ireturn, 1) := by decide +kernel
theorem d_L_law_179 : decode code 179 = .ok (.aload_n 1, 1) := by decide +kernel
theorem d_L_law_180 : decode code 180 = .ok (.aload_n 0, 1) := by decide +kernel
theorem d_L_law_181 : decode code 181 = .ok (.iload_n 3, 1) := by decide +kernel
theorem d_L_law_182 : decode code 182 = .ok (.iconst 1, 1) := by decide +kernel
theorem d_L_law_183 : decode code 183 = .ok (.iadd, 1) := by decide +kernel
theorem d_L_law_184 : decode code 184 = .ok (.iaload, 1) := by decide +kernel
theorem d_L_law_185 : decode code 185 = .ok (.invokevirtual 28, 3) := by decide +kernel
theorem d_L_law_188 : decode code 188 = .ok (.aload_n 2, 1) := by decide +kernel
theorem d_L_law_189 : decode code 189 = .ok (.aload_n 0, 1) := by decide +kernel
theorem d_L_law_190 : decode code 190 = .ok (.iload_n 3, 1) := by decide +kernel
theorem d_L_law_191 : decode code 191 = .ok (.iconst 1, 1) := by decide +kernel
theorem d_L_law_192 : decode code 192 = .ok (.iadd, 1) := by decide +kernel
theorem d_L_law_193 : decode code 193 = .ok (.iaload, 1) := by decide +kernel
theorem d_L_law_194 : decode code 194 = .ok (.invokevirtual 31, 3) := by decide +kernel
theorem d_L_law_197 : decode code 197 = .ok (.if_icmp .eq 194, 3) := by decide +kernel
theorem d_L_law_200 : decode code 200 = .ok (.iconst 0, 1) := by decide +kernel
theorem d_L_law_201 : decode code 201 = .ok (.ireturn, 1) := by decide +kernel
theorem d_L_law_202 : decode code 202 = .ok (.aload_n 1, 1) := by decide +kernel
theorem d_L_law_203 : decode code 203 = .ok (.invokevirtual 32, 3) := by decide +kernel
theorem d_L_law_206 : decode code 206 = .ok (.aload_n 2, 1) := by decide +kernel
theorem d_L_law_207 : decode code 207 = .ok (.invokevirtual 36, 3) := by decide +kernel
theorem d_L_law_210 : decode code 210 = .ok (.if_icmp .eq 181, 3) := by decide +kernel
theorem d_L_law_213 : decode code 213 = .ok (.iconst 0, 1) := by decide +kernel
theorem d_L_law_214 : decode code 214 = .ok (.ireturn, 1) := by decide +kernel
theorem d_L_law_215 : decode code 215 = .ok (.aload_n 1, 1) := by decide +kernel
theorem d_L_law_216 : decode code 216 = .ok (.aload_n 0, 1) := by decide +kernel
theorem d_L_law_217 : decode code 217 = .ok (.iload_n 3, 1) := by decide +kernel
theorem d_L_law_218 : decode code 218 = .ok (.iconst 1, 1) := by decide +kernel
theorem d_L_law_219 : decode code 219 = .ok (.iadd, 1) := by decide +kernel
theorem d_L_law_220 : decode code 220 = .ok (.iaload, 1) := by decide +kernel
theorem d_L_law_221 : decode code 221 = .ok (.invokevirtual 37, 3) := by decide +kernel
theorem d_L_law_224 : decode code 224 = .ok (.aload_n 2, 1) := by decide +kernel
theorem d_L_law_225 : decode code 225 = .ok (.aload_n 0, 1) := by decide +kernel
theorem d_L_law_226 : decode code 226 = .ok (.iload_n 3, 1) := by decide +kernel
theorem d_L_law_227 : decode code 227 = .ok (.iconst 1, 1) := by decide +kernel
theorem d_L_law_228 : decode code 228 = .ok (.iadd, 1) := by decide +kernel
theorem d_L_law_229 : decode code 229 = .ok (.iaload, 1) := by decide +kernel
theorem d_L_law_230 : decode code 230 = .ok (.invokevirtual 40, 3) := by decide +kernel
theorem d_L_law_233 : decode code 233 = .ok (.if_icmp .eq 158, 3) := by decide +kernel
theorem d_L_law_236 : decode code 236 = .ok (.iconst 0, 1) := by decide +kernel
theorem d_L_law_237 : decode code 237 = .ok (.ireturn, 1) := by decide +kernel
theorem d_L_law_238 : decode code 238 = .ok (.aload_n 1, 1) := by decide +kernel
theorem d_L_law_239 : decode code 239 = .ok (.invokevirtual 41, 3) := by decide +kernel
theorem d_L_law_242 : decode code 242 = .ok (.aload_n 2, 1) := by decide +kernel
theorem d_L_law_243 : decode code 243 = .ok (.invokevirtual 44, 3) := by decide +kernel
theorem d_L_law_246 : decode code 246 = .ok (.if_icmp .eq 145, 3) := by decide +kernel
theorem d_L_law_249 : decode code 249 = .ok (.iconst 0, 1) := by decide +kernel
theorem d_L_law_250 : decode code 250 = .ok (.ireturn, 1) := by decide +kernel
theorem d_L_law_251 : decode code 251 = .ok (.aload_n 1, 1) := by decide +kernel
theorem d_L_law_252 : decode code 252 = .ok (.invokevirtual 45, 3) := by decide +kernel
theorem d_L_law_255 : decode code 255 = .ok (.aload_n 2, 1) := by decide +kernel
theorem d_L_law_256 : decode code 256 = .ok (.invokevirtual 48, 3) := by decide +kernel
theorem d_L_law_259 : decode code 259 = .ok (.if_icmp .eq 132, 3) := by decide +kernel
theorem d_L_law_262 : decode code 262 = .ok (.iconst 0, 1) := by decide +kernel
theorem d_L_law_263 : decode code 263 = .ok (.ireturn, 1) := by decide +kernel
theorem d_L_law_264 : decode code 264 = .ok (.aload_n 1, 1) := by decide +kernel
theorem d_L_law_265 : decode code 265 = .ok (.invokevirtual 49, 3) := by decide +kernel
theorem d_L_law_268 : decode code 268 = .ok (.aload_n 2, 1) := by decide +kernel
theorem d_L_law_269 : decode code 269 = .ok (.invokevirtual 52, 3) := by decide +kernel
theorem d_L_law_272 : decode code 272 = .ok (.if_icmp .eq 119, 3) := by decide +kernel
theorem d_L_law_275 : decode code 275 = .ok (.iconst 0, 1) := by decide +kernel
theorem d_L_law_276 : decode code 276 = .ok (.ireturn, 1) := by decide +kernel
theorem d_L_law_277 : decode code 277 = .ok (.aload_n 1, 1) := by decide +kernel
theorem d_L_law_278 : decode code 278 = .ok (.aload_n 0, 1) := by decide +kernel
theorem d_L_law_279 : decode code 279 = .ok (.iload_n 3, 1) := by decide +kernel
theorem d_L_law_280 : decode code 280 = .ok (.iconst 1, 1) := by decide +kernel
theorem d_L_law_281 : decode code 281 = .ok (.iadd, 1) := by decide +kernel
theorem d_L_law_282 : decode code 282 = .ok (.iaload, 1) := by decide +kernel
theorem d_L_law_283 : decode code 283 = .ok (.aload_n 0, 1) := by decide +kernel
theorem d_L_law_284 : decode code 284 = .ok (.iload_n 3, 1) := by decide +kernel
theorem d_L_law_285 : decode code 285 = .ok (.iconst 2, 1) := by decide +kernel
theorem d_L_law_286 : decode code 286 = .ok (.iadd, 1) := by decide +kernel
theorem d_L_law_287 : decode code 287 = .ok (.iaload, 1) := by decide +kernel
theorem d_L_law_288 : decode code 288 = .ok (.invokevirtual 53, 3) := by decide +kernel
theorem d_L_law_291 : decode code 291 = .ok (.aload_n 2, 1) := by decide +kernel
theorem d_L_law_292 : decode code 292 = .ok (.aload_n 0, 1) := by decide +kernel
theorem d_L_law_293 : decode code 293 = .ok (.iload_n 3, 1) := by decide +kernel
theorem d_L_law_294 : decode code 294 = .ok (.iconst 1, 1) := by decide +kernel
theorem d_L_law_295 : decode code 295 = .ok (.iadd, 1) := by decide +kernel
theorem d_L_law_296 : decode code 296 = .ok (.iaload, 1) := by decide +kernel
theorem d_L_law_297 : decode code 297 = .ok (.aload_n 0, 1) := by decide +kernel
theorem d_L_law_298 : decode code 298 = .ok (.iload_n 3, 1) := by decide +kernel
theorem d_L_law_299 : decode code 299 = .ok (.iconst 2, 1) := by decide +kernel
theorem d_L_law_300 : decode code 300 = .ok (.iadd, 1) := by decide +kernel
theorem d_L_law_301 : decode code 301 = .ok (.iaload, 1) := by decide +kernel
theorem d_L_law_302 : decode code 302 = .ok (.invokevirtual 57, 3) := by decide +kernel
theorem d_L_law_305 : decode code 305 = .ok (.if_icmp .eq 86, 3) := by decide +kernel
theorem d_L_law_308 : decode code 308 = .ok (.iconst 0, 1) := by decide +kernel
theorem d_L_law_309 : decode code 309 = .ok (.ireturn, 1) := by decide +kernel
theorem d_L_law_310 : decode code 310 = .ok (.aload_n 1, 1) := by decide +kernel
theorem d_L_law_311 : decode code 311 = .ok (.aload_n 0, 1) := by decide +kernel
theorem d_L_law_312 : decode code 312 = .ok (.iload_n 3, 1) := by decide +kernel
theorem d_L_law_313 : decode code 313 = .ok (.iconst 1, 1) := by decide +kernel
theorem d_L_law_314 : decode code 314 = .ok (.iadd, 1) := by decide +kernel
theorem d_L_law_315 : decode code 315 = .ok (.iaload, 1) := by decide +kernel
theorem d_L_law_316 : decode code 316 = .ok (.invokevirtual 58, 3) := by decide +kernel
theorem d_L_law_319 : decode code 319 = .ok (.aload_n 2, 1) := by decide +kernel
theorem d_L_law_320 : decode code 320 = .ok (.aload_n 0, 1) := by decide +kernel
theorem d_L_law_321 : decode code 321 = .ok (.iload_n 3, 1) := by decide +kernel
theorem d_L_law_322 : decode code 322 = .ok (.iconst 1, 1) := by decide +kernel
theorem d_L_law_323 : decode code 323 = .ok (.iadd, 1) := by decide +kernel
theorem d_L_law_324 : decode code 324 = .ok (.iaload, 1) := by decide +kernel
theorem d_L_law_325 : decode code 325 = .ok (.invokevirtual 62, 3) := by decide +kernel
theorem d_L_law_328 : decode code 328 = .ok (.lcmp, 1) := by decide +kernel
theorem d_L_law_329 : decode code 329 = .ok (.ifCond .eq 62, 3) := by decide +kernel
theorem d_L_law_332 : decode code 332 = .ok (.iconst 0, 1) := by decide +kernel
theorem d_L_law_333 : decode code 333 = .ok (.ireturn, 1) := by decide +kernel
theorem d_L_law_334 : decode code 334 = .ok (.aload_n 1, 1) := by decide +kernel
theorem d_L_law_335 : decode code 335 = .ok (.aload_n 0, 1) := by decide +kernel
theorem d_L_law_336 : decode code 336 = .ok (.iload_n 3, 1) := by decide +kernel
theorem d_L_law_337 : decode code 337 = .ok (.iconst 1, 1) := by decide +kernel
theorem d_L_law_338 : decode code 338 = .ok (.iadd, 1) := by decide +kernel
theorem d_L_law_339 : decode code 339 = .ok (.iaload, 1) := by decide +kernel
theorem d_L_law_340 : decode code 340 = .ok (.invokevirtual 63, 3) := by decide +kernel
theorem d_L_law_343 : decode code 343 = .ok (.aload_n 2, 1) := by decide +kernel
theorem d_L_law_344 : decode code 344 = .ok (.aload_n 0, 1) := by decide +kernel
theorem d_L_law_345 : decode code 345 = .ok (.iload_n 3, 1) := by decide +kernel
theorem d_L_law_346 : decode code 346 = .ok (.iconst 1, 1) := by decide +kernel
theorem d_L_law_347 : decode code 347 = .ok (.iadd, 1) := by decide +kernel
theorem d_L_law_348 : decode code 348 = .ok (.iaload, 1) := by decide +kernel
theorem d_L_law_349 : decode code 349 = .ok (.invokevirtual 66, 3) := by decide +kernel
theorem d_L_law_352 : decode code 352 = .ok (.lcmp, 1) := by decide +kernel
theorem d_L_law_353 : decode code 353 = .ok (.ifCond .eq 38, 3) := by decide +kernel
theorem d_L_law_356 : decode code 356 = .ok (.iconst 0, 1) := by decide +kernel
theorem d_L_law_357 : decode code 357 = .ok (.ireturn, 1) := by decide +kernel
theorem d_L_law_358 : decode code 358 = .ok (.aload_n 1, 1) := by decide +kernel
theorem d_L_law_359 : decode code 359 = .ok (.aload_n 0, 1) := by decide +kernel
theorem d_L_law_360 : decode code 360 = .ok (.iload_n 3, 1) := by decide +kernel
theorem d_L_law_361 : decode code 361 = .ok (.iconst 1, 1) := by decide +kernel
theorem d_L_law_362 : decode code 362 = .ok (.iadd, 1) := by decide +kernel
theorem d_L_law_363 : decode code 363 = .ok (.iaload, 1) := by decide +kernel
theorem d_L_law_364 : decode code 364 = .ok (.aload_n 0, 1) := by decide +kernel
theorem d_L_law_365 : decode code 365 = .ok (.iload_n 3, 1) := by decide +kernel
theorem d_L_law_366 : decode code 366 = .ok (.iconst 2, 1) := by decide +kernel
theorem d_L_law_367 : decode code 367 = .ok (.iadd, 1) := by decide +kernel
theorem d_L_law_368 : decode code 368 = .ok (.iaload, 1) := by decide +kernel
theorem d_L_law_369 : decode code 369 = .ok (.invokevirtual 67, 3) := by decide +kernel
theorem d_L_law_372 : decode code 372 = .ok (.aload_n 2, 1) := by decide +kernel
theorem d_L_law_373 : decode code 373 = .ok (.aload_n 0, 1) := by decide +kernel
theorem d_L_law_374 : decode code 374 = .ok (.iload_n 3, 1) := by decide +kernel
theorem d_L_law_375 : decode code 375 = .ok (.iconst 1, 1) := by decide +kernel
theorem d_L_law_376 : decode code 376 = .ok (.iadd, 1) := by decide +kernel
theorem d_L_law_377 : decode code 377 = .ok (.iaload, 1) := by decide +kernel
theorem d_L_law_378 : decode code 378 = .ok (.aload_n 0, 1) := by decide +kernel
theorem d_L_law_379 : decode code 379 = .ok (.iload_n 3, 1) := by decide +kernel
theorem d_L_law_380 : decode code 380 = .ok (.iconst 2, 1) := by decide +kernel
theorem d_L_law_381 : decode code 381 = .ok (.iadd, 1) := by decide +kernel
theorem d_L_law_382 : decode code 382 = .ok (.iaload, 1) := by decide +kernel
theorem d_L_law_383 : decode code 383 = .ok (.invokevirtual 70, 3) := by decide +kernel
theorem d_L_law_386 : decode code 386 = .ok (.if_icmp .eq 5, 3) := by decide +kernel
theorem d_L_law_389 : decode code 389 = .ok (.iconst 0, 1) := by decide +kernel
theorem d_L_law_390 : decode code 390 = .ok (.ireturn, 1) := by decide +kernel
theorem d_L_law_391 : decode code 391 = .ok (.iinc 3 3, 3) := by decide +kernel
theorem d_L_law_394 : decode code 394 = .ok (.goto (-376), 3) := by decide +kernel
theorem d_L_law_397 : decode code 397 = .ok (.iconst 1, 1) := by decide +kernel
theorem d_L_law_398 : decode code 398 = .ok (.ireturn, 1) := by decide +kernel
