theorem d_X_enterTrap_60 : decode c_X_enterTrap 60 = .ok (.getfield 41, 3) := by decide +kernel
theorem d_X_enterTrap_63 : decode c_X_enterTrap 63 = .ok (.aload_n 2, 1) := by decide +kernel
theorem d_X_enterTrap_64 : decode c_X_enterTrap 64 = .ok (.invokevirtual 93, 3) := by decide +kernel
theorem d_X_enterTrap_67 : decode c_X_enterTrap 67 = .ok (.goto 8, 3) := by decide +kernel
theorem d_X_enterTrap_70 : decode c_X_enterTrap 70 = .ok (.aload_n 0, 1) := by decide +kernel
theorem d_X_enterTrap_71 : decode c_X_enterTrap 71 = .ok (.iconst 2, 1) := by decide +kernel
theorem d_X_enterTrap_72 : decode c_X_enterTrap 72 = .ok (.putfield 28, 3) := by decide +kernel
theorem d_X_enterTrap_75 : decode c_X_enterTrap 75 = .ok (.return_, 1) := by decide +kernel
theorem d_X_trapOf_0 : decode c_X_trapOf 0 = .ok (.iload_n 1, 1) := by decide +kernel
theorem d_X_trapOf_1 : decode c_X_trapOf 1 = .ok (.bipush 16, 2) := by decide +kernel
theorem d_X_trapOf_3 : decode c_X_trapOf 3 = .ok (.iload_n 0, 1) := by decide +kernel
theorem d_X_trapOf_4 : decode c_X_trapOf 4 = .ok (.imul, 1) := by decide +kernel
theorem d_X_trapOf_5 : decode c_X_trapOf 5 = .ok (.iadd, 1) := by decide +kernel
theorem d_X_trapOf_6 : decode c_X_trapOf 6 = .ok (.ireturn, 1) := by decide +kernel
theorem d_X_check_0 : decode c_X_check 0 = .ok (.aload_n 0, 1) := by decide +kernel
theorem d_X_check_1 : decode c_X_check 1 = .ok (.getfield 19, 3) := by decide +kernel
theorem d_X_check_4 : decode c_X_check 4 = .ok (.iload_n 1, 1) := by decide +kernel
theorem d_X_check_5 : decode c_X_check 5 = .ok (.aaload, 1) := by decide +kernel
theorem d_X_check_6 : decode c_X_check 6 = .ok (.astore 5, 2) := by decide +kernel
theorem d_X_check_8 : decode c_X_check 8 = .ok (.iload 4, 2) := by decide +kernel
theorem d_X_check_10 : decode c_X_check 10 = .ok (.i2l, 1) := by decide +kernel
theorem d_X_check_11 : decode c_X_check 11 = .ok (.ldc2_w 104, 3) := by decide +kernel
theorem d_X_check_14 : decode c_X_check 14 = .ok (.land, 1) := by decide +kernel
theorem d_X_check_15 : decode c_X_check 15 = .ok (.lstore 6, 2) := by decide +kernel
theorem d_X_check_17 : decode c_X_check 17 = .ok (.aload 5, 2) := by decide +kernel
theorem d_X_check_19 : decode c_X_check 19 = .ok (.getfield 68, 3) := by decide +kernel
theorem d_X_check_22 : decode c_X_check 22 = .ok (.ifCond .ne 9, 3) := by decide +kernel
theorem d_X_check_25 : decode c_X_check 25 = .ok (.iload_n 1, 1) := by decide +kernel
theorem d_X_check_26 : decode c_X_check 26 = .ok (.iconst 1, 1) := by decide +kernel
theorem d_X_check_27 : decode c_X_check 27 = .ok (.invokestatic 106, 3) := by decide +kernel
theorem d_X_check_30 : decode c_X_check 30 = .ok (.ireturn, 1) := by decide +kernel
theorem d_X_check_31 : decode c_X_check 31 = .ok (.aload 5, 2) := by decide +kernel
theorem d_X_check_33 : decode c_X_check 33 = .ok (.invokevirtual 97, 3) := by decide +kernel
theorem d_X_check_36 : decode c_X_check 36 = .ok (.ifCond .eq 9, 3) := by decide +kernel
theorem d_X_check_39 : decode c_X_check 39 = .ok (.iload_n 1, 1) := by decide +kernel
theorem d_X_check_40 : decode c_X_check 40 = .ok (.iconst 2, 1) := by decide +kernel
theorem d_X_check_41 : decode c_X_check 41 = .ok (.invokestatic 106, 3) := by decide +kernel
theorem d_X_check_44 : decode c_X_check 44 = .ok (.ireturn, 1) := by decide +kernel
theorem d_X_check_45 : decode c_X_check 45 = .ok (.aload 5, 2) := by decide +kernel
theorem d_X_check_47 : decode c_X_check 47 = .ok (.iload_n 2, 1) := by decide +kernel
theorem d_X_check_48 : decode c_X_check 48 = .ok (.invokevirtual 101, 3) := by decide +kernel
theorem d_X_check_51 : decode c_X_check 51 = .ok (.ifCond .ne 9, 3) := by decide +kernel
theorem d_X_check_54 : decode c_X_check 54 = .ok (.iload_n 1, 1) := by decide +kernel
theorem d_X_check_55 : decode c_X_check 55 = .ok (.iconst 3, 1) := by decide +kernel
theorem d_X_check_56 : decode c_X_check 56 = .ok (.invokestatic 106, 3) := by decide +kernel
theorem d_X_check_59 : decode c_X_check 59 = .ok (.ireturn, 1) := by decide +kernel
theorem d_X_check_60 : decode c_X_check 60 = .ok (.iload 4, 2) := by decide +kernel
theorem d_X_check_62 : decode c_X_check 62 = .ok (.iload_n 3, 1) := by decide +kernel
theorem d_X_check_63 : decode c_X_check 63 = .ok (.iconst 1, 1) := by decide +kernel
theorem d_X_check_64 : decode c_X_check 64 = .ok (.isub, 1) := by decide +kernel
theorem d_X_check_65 : decode c_X_check 65 = .ok (.iand, 1) := by decide +kernel
theorem d_X_check_66 : decode c_X_check 66 = .ok (.ifCond .eq 9, 3) := by decide +kernel
theorem d_X_check_69 : decode c_X_check 69 = .ok (.iload_n 1, 1) := by decide +kernel
theorem d_X_check_70 : decode c_X_check 70 = .ok (.iconst 4, 1) := by decide +kernel
theorem d_X_check_71 : decode c_X_check 71 = .ok (.invokestatic 106, 3) := by decide +kernel
theorem d_X_check_74 : decode c_X_check 74 = .ok (.ireturn, 1) := by decide +kernel
theorem d_X_check_75 : decode c_X_check 75 = .ok (.lload 6, 2) := by decide +kernel
theorem d_X_check_77 : decode c_X_check 77 = .ok (.aload 5, 2) := by decide +kernel
theorem d_X_check_79 : decode c_X_check 79 = .ok (.invokevirtual 72, 3) := by decide +kernel
theorem d_X_check_82 : decode c_X_check 82 = .ok (.lcmp, 1) := by decide +kernel
theorem d_X_check_83 : decode c_X_check 83 = .ok (.ifCond .lt 17, 3) := by decide +kernel
theorem d_X_check_86 : decode c_X_check 86 = .ok (.lload 6, 2) := by decide +kernel
theorem d_X_check_88 : decode c_X_check 88 = .ok (.iload_n 3, 1) := by decide +kernel
theorem d_X_check_89 : decode c_X_check 89 = .ok (.i2l, 1) := by decide +kernel
theorem d_X_check_90 : decode c_X_check 90 = .ok (.ladd, 1) := by decide +kernel
theorem d_X_check_91 : decode c_X_check 91 = .ok (.aload 5, 2) := by decide +kernel
theorem d_X_check_93 : decode c_X_check 93 = .ok (.invokevirtual 76, 3) := by decide +kernel
theorem d_X_check_96 : decode c_X_check 96 = .ok (.lcmp, 1) := by decide +kernel
theorem d_X_check_97 : decode c_X_check 97 = .ok (.ifCond .le 9, 3) := by decide +kernel
theorem d_X_check_100 : decode c_X_check 100 = .ok (.iload_n 1, 1) := by decide +kernel
theorem d_X_check_101 : decode c_X_check 101 = .ok (.iconst 5, 1) := by decide +kernel
theorem d_X_check_102 : decode c_X_check 102 = .ok (.invokestatic 106, 3) := by decide +kernel
theorem d_X_check_105 : decode c_X_check 105 = .ok (.ireturn, 1) := by decide +kernel
theorem d_X_check_106 : decode c_X_check 106 = .ok (.lload 6, 2) := by decide +kernel
theorem d_X_check_108 : decode c_X_check 108 = .ok (.iload_n 3, 1) := by decide +kernel
theorem d_X_check_109 : decode c_X_check 109 = .ok (.i2l, 1) := by decide +kernel
theorem d_X_check_110 : decode c_X_check 110 = .ok (.ladd, 1) := by decide +kernel
theorem d_X_check_111 : decode c_X_check 111 = .ok (.ldc2_w 110, 3) := by decide +kernel
theorem d_X_check_114 : decode c_X_check 114 = .ok (.lcmp, 1) := by decide +kernel
theorem d_X_check_115 : decode c_X_check 115 = .ok (.ifCond .le 10, 3) := by decide +kernel
theorem d_X_check_118 : decode c_X_check 118 = .ok (.iload_n 1, 1) := by decide +kernel
theorem d_X_check_119 : decode c_X_check 119 = .ok (.bipush 6, 2) := by decide +kernel
theorem d_X_check_121 : decode c_X_check 121 = .ok (.invokestatic 106, 3) := by decide +kernel
theorem d_X_check_124 : decode c_X_check 124 = .ok (.ireturn, 1) := by decide +kernel
theorem d_X_check_125 : decode c_X_check 125 = .ok (.iconst 0, 1) := by decide +kernel
theorem d_X_check_126 : decode c_X_check 126 = .ok (.ireturn, 1) := by decide +kernel
theorem d_X_execute_0 : decode c_X_execute 0 = .ok (.iload_n 1, 1) := by decide +kernel
theorem d_X_execute_1 : decode c_X_execute 1 = .ok (.bipush 31, 2) := by decide +kernel
theorem d_X_execute_3 : decode c_X_execute 3 = .ok (.iand, 1) := by decide +kernel
theorem d_X_execute_4 : decode c_X_execute 4 = .ok (.istore_n 2, 1) := by decide +kernel
theorem d_X_execute_5 : decode c_X_execute 5 = .ok (.iload_n 1, 1) := by decide +kernel
theorem d_X_execute_6 : decode c_X_execute 6 = .ok (.iconst 5, 1) := by decide +kernel
theorem d_X_execute_7 : decode c_X_execute 7 = .ok (.iushr, 1) := by decide +kernel
theorem d_X_execute_8 : decode c_X_execute 8 = .ok (.bipush 7, 2) := by decide +kernel
theorem d_X_execute_10 : decode c_X_execute 10 = .ok (.iand, 1) := by decide +kernel
theorem d_X_execute_11 : decode c_X_execute 11 = .ok (.istore_n 3, 1) := by decide +kernel
theorem d_X_execute_12 : decode c_X_execute 12 = .ok (.iload_n 1, 1) := by decide +kernel
theorem d_X_execute_13 : decode c_X_execute 13 = .ok (.bipush 8, 2) := by decide +kernel
theorem d_X_execute_15 : decode c_X_execute 15 = .ok (.iushr, 1) := by decide +kernel
theorem d_X_execute_16 : decode c_X_execute 16 = .ok (.bipush 7, 2) := by decide +kernel
theorem d_X_execute_18 : decode c_X_execute 18 = .ok (.iand, 1) := by decide +kernel
theorem d_X_execute_19 : decode c_X_execute 19 = .ok (.istore 4, 2) := by decide +kernel
theorem d_X_execute_21 : decode c_X_execute 21 = .ok (.iload_n 1, 1) := by decide +kernel
theorem d_X_execute_22 : decode c_X_execute 22 = .ok (.bipush 11, 2) := by decide +kernel
theorem d_X_execute_24 : decode c_X_execute 24 = .ok (.iushr, 1) := by decide +kernel
theorem d_X_execute_25 : decode c_X_execute 25 = .ok (.bipush 7, 2) := by decide +kernel
theorem d_X_execute_27 : decode c_X_execute 27 = .ok (.iand, 1) := by decide +kernel
theorem d_X_execute_28 : decode c_X_execute 28 = .ok (.istore 5, 2) := by decide +kernel
theorem d_X_execute_30 : decode c_X_execute 30 = .ok (.iload_n 1, 1) := by decide +kernel
theorem d_X_execute_31 : decode c_X_execute 31 = .ok (.bipush 14, 2) := by decide +kernel
theorem d_X_execute_33 : decode c_X_execute 33 = .ok (.ishr, 1) := by decide +kernel
theorem d_X_execute_34 : decode c_X_execute 34 = .ok (.istore 6, 2) := by decide +kernel
theorem d_X_execute_36 : decode c_X_execute 36 = .ok (.iconst 0, 1) := by decide +kernel
theorem d_X_execute_37 : decode c_X_execute 37 = .ok (.istore 7, 2) := by decide +kernel
theorem d_X_execute_39 : decode c_X_execute 39 = .ok (.iload_n 2, 1) := by decide +kernel
theorem d_X_execute_40 : decode c_X_execute 40 = .ok (.tableswitch 371 0 31 #[144, 371, 371, 371, 371, 371, 371, 371, 371, 371, 371, 151, 165, 180, 194, 209, 243, 277, 289, 371, 371, 371, 371, 297, 311, 325, 371, 371, 371, 345, 359, 366], 144) := by decide +kernel
theorem d_X_execute_184 : decode c_X_execute 184 = .ok (.aload_n 0, 1) := by decide +kernel
theorem d_X_execute_185 : decode c_X_execute 185 = .ok (.iconst 1, 1) := by decide +kernel
theorem d_X_execute_186 : decode c_X_execute 186 = .ok (.putfield 28, 3) := by decide +kernel
theorem d_X_execute_189 : decode c_X_execute 189 = .ok (.iconst 0, 1) := by decide +kernel
theorem d_X_execute_190 : decode c_X_execute 190 = .ok (.ireturn, 1) := by decide +kernel
theorem d_X_execute_191 : decode c_X_execute 191 = .ok (.aload_n 0, 1) := by decide +kernel
theorem d_X_execute_192 : decode c_X_execute 192 = .ok (.iload_n 3, 1) := by decide +kernel
theorem d_X_execute_193 : decode c_X_execute 193 = .ok (.iload 4, 2) := by decide +kernel
theorem d_X_execute_195 : decode c_X_execute 195 = .ok (.iload 6, 2) := by decide +kernel
theorem d_X_execute_197 : decode c_X_execute 197 = .ok (.invokevirtual 112, 3) := by decide +kernel
theorem d_X_execute_200 : decode c_X_execute 200 = .ok (.istore 7, 2) := by decide +kernel
theorem d_X_execute_202 : decode c_X_execute 202 = .ok (.goto 269, 3) := by decide +kernel
theorem d_X_execute_205 : decode c_X_execute 205 = .ok (.aload_n 0, 1) := by decide +kernel
theorem d_X_execute_206 : decode c_X_execute 206 = .ok (.iload 4, 2) := by decide +kernel
theorem d_X_execute_208 : decode c_X_execute 208 = .ok (.iload 5, 2) := by decide +kernel
theorem d_X_execute_210 : decode c_X_execute 210 = .ok (.iload 6, 2) := by decide +kernel
theorem d_X_execute_212 : decode c_X_execute 212 = .ok (.invokevirtual 116, 3) := by decide +kernel
theorem d_X_execute_215 : decode c_X_execute 215 = .ok (.istore 7, 2) := by decide +kernel
theorem d_X_execute_217 : decode c_X_execute 217 = .ok (.goto 254, 3) := by decide +kernel
theorem d_X_execute_220 : decode c_X_execute 220 = .ok (.aload_n 0, 1) := by decide +kernel
theorem d_X_execute_221 : decode c_X_execute 221 = .ok (.iload_n 3, 1) := by decide +kernel
theorem d_X_execute_222 : decode c_X_execute 222 = .ok (.iload 4, 2) := by decide +kernel
theorem d_X_execute_224 : decode c_X_execute 224 = .ok (.iload 6, 2) := by decide +kernel
theorem d_X_execute_226 : decode c_X_execute 226 = .ok (.invokevirtual 119, 3) := by decide +kernel
theorem d_X_execute_229 : decode c_X_execute 229 = .ok (.istore 7, 2) := by decide +kernel
theorem d_X_execute_231 : decode c_X_execute 231 = .ok (.goto 240, 3) := by decide +kernel
theorem d_X_execute_234 : decode c_X_execute 234 = .ok (.aload_n 0, 1) := by decide +kernel
theorem d_X_execute_235 : decode c_X_execute 235 = .ok (.iload 4, 2) := by decide +kernel
theorem d_X_execute_237 : decode c_X_execute 237 = .ok (.iload 5, 2) := by decide +kernel
theorem d_X_execute_239 : decode c_X_execute 239 = .ok (.iload 6, 2) := by decide +kernel
theorem d_X_execute_241 : decode c_X_execute 241 = .ok (.invokevirtual 122, 3) := by decide +kernel
theorem d_X_execute_244 : decode c_X_execute 244 = .ok (.istore 7, 2) := by decide +kernel
theorem d_X_execute_246 : decode c_X_execute 246 = .ok (.goto 225, 3) := by decide +kernel
theorem d_X_execute_249 : decode c_X_execute 249 = .ok (.aload_n 0, 1) := by decide +kernel
theorem d_X_execute_250 : decode c_X_execute 250 = .ok (.aload_n 0, 1) := by decide +kernel
theorem d_X_execute_251 : decode c_X_execute 251 = .ok (.getfield 19, 3) := by decide +kernel
theorem d_X_execute_254 : decode c_X_execute 254 = .ok (.iload 4, 2) := by decide +kernel
theorem d_X_execute_256 : decode c_X_execute 256 = .ok (.aaload, 1) := by decide +kernel
theorem d_X_execute_257 : decode c_X_execute 257 = .ok (.getfield 62, 3) := by decide +kernel
theorem d_X_execute_260 : decode c_X_execute 260 = .ok (.aload_n 0, 1) := by decide +kernel
theorem d_X_execute_261 : decode c_X_execute 261 = .ok (.getfield 19, 3) := by decide +kernel
theorem d_X_execute_264 : decode c_X_execute 264 = .ok (.iload 5, 2) := by decide +kernel
theorem d_X_execute_266 : decode c_X_execute 266 = .ok (.aaload, 1) := by decide +kernel
theorem d_X_execute_267 : decode c_X_execute 267 = .ok (.getfield 62, 3) := by decide +kernel
theorem d_X_execute_270 : decode c_X_execute 270 = .ok (.if_icmp .ne 8, 3) := by decide +kernel
theorem d_X_execute_273 : decode c_X_execute 273 = .ok (.iload 6, 2) := by decide +kernel
theorem d_X_execute_275 : decode c_X_execute 275 = .ok (.goto 4, 3) := by decide +kernel
theorem d_X_execute_278 : decode c_X_execute 278 = .ok (.iconst 1, 1) := by decide +kernel
theorem d_X_execute_279 : decode c_X_execute 279 = .ok (.invokevirtual 125, 3) := by decide +kernel
theorem d_X_execute_282 : decode c_X_execute 282 = .ok (.ireturn, 1) := by decide +kernel
theorem d_X_execute_283 : decode c_X_execute 283 = .ok (.aload_n 0, 1) := by decide +kernel
theorem d_X_execute_284 : decode c_X_execute 284 = .ok (.aload_n 0, 1) := by decide +kernel
theorem d_X_execute_285 : decode c_X_execute 285 = .ok (.getfield 19, 3) := by decide +kernel
theorem d_X_execute_288 : decode c_X_execute 288 = .ok (.iload 4, 2) := by decide +kernel
theorem d_X_execute_290 : decode c_X_execute 290 = .ok (.aaload, 1) := by decide +kernel
theorem d_X_execute_291 : decode c_X_execute 291 = .ok (.getfield 62, 3) := by decide +kernel
theorem d_X_execute_294 : decode c_X_execute 294 = .ok (.aload_n 0, 1) := by decide +kernel
theorem d_X_execute_295 : decode c_X_execute 295 = .ok (.getfield 19, 3) := by decide +kernel
theorem d_X_execute_298 : decode c_X_execute 298 = .ok (.iload 5, 2) := by decide +kernel
theorem d_X_execute_300 : decode c_X_execute 300 = .ok (.aaload, 1) := by decide +kernel
theorem d_X_execute_301 : decode c_X_execute 301 = .ok (.getfield 62, 3) := by decide +kernel
theorem d_X_execute_304 : decode c_X_execute 304 = .ok (.if_icmp .ge 8, 3) := by decide +kernel
theorem d_X_execute_307 : decode c_X_execute 307 = .ok (.iload 6, 2) := by decide +kernel
theorem d_X_execute_309 : decode c_X_execute 309 = .ok (.goto 4, 3) := by decide +kernel
theorem d_X_execute_312 : decode c_X_execute 312 = .ok (.iconst 1, 1) := by decide +kernel
theorem d_X_execute_313 : decode c_X_execute 313 = .ok (.invokevirtual 125, 3) := by decide +kernel
theorem d_X_execute_316 : decode c_X_execute 316 = .ok (.ireturn, 1) := by decide +kernel
theorem d_X_execute_317 : decode c_X_execute 317 = .ok (.aload_n 0, 1) := by decide +kernel
theorem d_X_execute_318 : decode c_X_execute 318 = .ok (.iload_n 3, 1) := by decide +kernel
theorem d_X_execute_319 : decode c_X_execute 319 = .ok (.invokevirtual 128, 3) := by decide +kernel
theorem d_X_execute_322 : decode c_X_execute 322 = .ok (.aload_n 0, 1) := by decide +kernel
theorem d_X_execute_323 : decode c_X_execute 323 = .ok (.iload 6, 2) := by decide +kernel
theorem d_X_execute_325 : decode c_X_execute 325 = .ok (.invokevirtual 125, 3) := by decide +kernel
theorem d_X_execute_328 : decode c_X_execute 328 = .ok (.ireturn, 1) := by decide +kernel
theorem d_X_execute_329 : decode c_X_execute 329 = .ok (.aload_n 0, 1) := by decide +kernel
theorem d_X_execute_330 : decode c_X_execute 330 = .ok (.iload_n 3, 1) := by decide +kernel
theorem d_X_execute_331 : decode c_X_execute 331 = .ok (.iload 4, 2) := by decide +kernel
theorem d_X_execute_333 : decode c_X_execute 333 = .ok (.invokevirtual 131, 3) := by decide +kernel
theorem d_X_execute_336 : decode c_X_execute 336 = .ok (.ireturn, 1) := by decide +kernel
theorem d_X_execute_337 : decode c_X_execute 337 = .ok (.aload_n 0, 1) := by decide +kernel
theorem d_X_execute_338 : decode c_X_execute 338 = .ok (.iload_n 3, 1) := by decide +kernel
theorem d_X_execute_339 : decode c_X_execute 339 = .ok (.iload 4, 2) := by decide +kernel
theorem d_X_execute_341 : decode c_X_execute 341 = .ok (.iload 5, 2) := by decide +kernel
theorem d_X_execute_343 : decode c_X_execute 343 = .ok (.invokevirtual 134, 3) := by decide +kernel
theorem d_X_execute_346 : decode c_X_execute 346 = .ok (.istore 7, 2) := by decide +kernel
theorem d_X_execute_348 : decode c_X_execute 348 = .ok (.goto 123, 3) := by decide +kernel
theorem d_X_execute_351 : decode c_X_execute 351 = .ok (.aload_n 0, 1) := by decide +kernel
theorem d_X_execute_352 : decode c_X_execute 352 = .ok (.iload_n 3, 1) := by decide +kernel
theorem d_X_execute_353 : decode c_X_execute 353 = .ok (.iload 4, 2) := by decide +kernel
theorem d_X_execute_355 : decode c_X_execute 355 = .ok (.iload 5, 2) := by decide +kernel
theorem d_X_execute_357 : decode c_X_execute 357 = .ok (.invokevirtual 137, 3) := by decide +kernel
theorem d_X_execute_360 : decode c_X_execute 360 = .ok (.istore 7, 2) := by decide +kernel
theorem d_X_execute_362 : decode c_X_execute 362 = .ok (.goto 109, 3) := by decide +kernel
theorem d_X_execute_365 : decode c_X_execute 365 = .ok (.aload_n 0, 1) := by decide +kernel
theorem d_X_execute_366 : decode c_X_execute 366 = .ok (.iload_n 3, 1) := by decide +kernel
theorem d_X_execute_367 : decode c_X_execute 367 = .ok (.aload_n 0, 1) := by decide +kernel
theorem d_X_execute_368 : decode c_X_execute 368 = .ok (.getfield 19, 3) := by decide +kernel
theorem d_X_execute_371 : decode c_X_execute 371 = .ok (.iload 4, 2) := by decide +kernel
theorem d_X_execute_373 : decode c_X_execute 373 = .ok (.aaload, 1) := by decide +kernel
theorem d_X_execute_374 : decode c_X_execute 374 = .ok (.iload 6, 2) := by decide +kernel
theorem d_X_execute_376 : decode c_X_execute 376 = .ok (.invokestatic 140, 3) := by decide +kernel
theorem d_X_execute_379 : decode c_X_execute 379 = .ok (.invokevirtual 79, 3) := by decide +kernel
theorem d_X_execute_382 : decode c_X_execute 382 = .ok (.goto 89, 3) := by decide +kernel
theorem d_X_execute_385 : decode c_X_execute 385 = .ok (.aload_n 0, 1) := by decide +kernel
theorem d_X_execute_386 : decode c_X_execute 386 = .ok (.iload_n 3, 1) := by decide +kernel
theorem d_X_execute_387 : decode c_X_execute 387 = .ok (.iload 4, 2) := by decide +kernel
theorem d_X_execute_389 : decode c_X_execute 389 = .ok (.iload 6, 2) := by decide +kernel
theorem d_X_execute_391 : decode c_X_execute 391 = .ok (.invokevirtual 144, 3) := by decide +kernel
theorem d_X_execute_394 : decode c_X_execute 394 = .ok (.istore 7, 2) := by decide +kernel
theorem d_X_execute_396 : decode c_X_execute 396 = .ok (.goto 75, 3) := by decide +kernel
theorem d_X_execute_399 : decode c_X_execute 399 = .ok (.iconst 0, 1) := by decide +kernel
theorem d_X_execute_400 : decode c_X_execute 400 = .ok (.bipush 9, 2) := by decide +kernel
theorem d_X_execute_402 : decode c_X_execute 402 = .ok (.invokestatic 106, 3) := by decide +kernel
theorem d_X_execute_405 : decode c_X_execute 405 = .ok (.ireturn, 1) := by decide +kernel
theorem d_X_execute_406 : decode c_X_execute 406 = .ok (.aload_n 0, 1) := by decide +kernel
theorem d_X_execute_407 : decode c_X_execute 407 = .ok (.invokevirtual 147, 3) := by decide +kernel
theorem d_X_execute_410 : decode c_X_execute 410 = .ok (.ireturn, 1) := by decide +kernel
theorem d_X_execute_411 : decode c_X_execute 411 = .ok (.iload_n 2, 1) := by decide +kernel
theorem d_X_execute_412 : decode c_X_execute 412 = .ok (.bipush 10, 2) := by decide +kernel
theorem d_X_execute_414 : decode c_X_execute 414 = .ok (.if_icmp .gt 37, 3) := by decide +kernel
theorem d_X_execute_417 : decode c_X_execute 417 = .ok (.aload_n 0, 1) := by decide +kernel
theorem d_X_execute_418 : decode c_X_execute 418 = .ok (.iload_n 3, 1) := by decide +kernel
theorem d_X_execute_419 : decode c_X_execute 419 = .ok (.iload_n 2, 1) := by decide +kernel
theorem d_X_execute_420 : decode c_X_execute 420 = .ok (.aload_n 0, 1) := by decide +kernel
theorem d_X_execute_421 : decode c_X_execute 421 = .ok (.getfield 19, 3) := by decide +kernel
theorem d_X_execute_424 : decode c_X_execute 424 = .ok (.iload 4, 2) := by decide +kernel
theorem d_X_execute_426 : decode c_X_execute 426 = .ok (.aaload, 1) := by decide +kernel
theorem d_X_execute_427 : decode c_X_execute 427 = .ok (.getfield 62, 3) := by decide +kernel
theorem d_X_execute_430 : decode c_X_execute 430 = .ok (.aload_n 0, 1) := by decide +kernel
theorem d_X_execute_431 : decode c_X_execute 431 = .ok (.getfield 19, 3) := by decide +kernel
theorem d_X_execute_434 : decode c_X_execute 434 = .ok (.iload 5, 2) := by decide +kernel
theorem d_X_execute_436 : decode c_X_execute 436 = .ok (.aaload, 1) := by decide +kernel
theorem d_X_execute_437 : decode c_X_execute 437 = .ok (.getfield 62, 3) := by decide +kernel
theorem d_X_execute_440 : decode c_X_execute 440 = .ok (.iload 6, 2) := by decide +kernel
theorem d_X_execute_442 : decode c_X_execute 442 = .ok (.invokestatic 151, 3) := by decide +kernel
theorem d_X_execute_445 : decode c_X_execute 445 = .ok (.invokevirtual 79, 3) := by decide +kernel
theorem d_X_execute_448 : decode c_X_execute 448 = .ok (.goto 23, 3) := by decide +kernel
theorem d_X_execute_451 : decode c_X_execute 451 = .ok (.aload_n 0, 1) := by decide +kernel
theorem d_X_execute_452 : decode c_X_execute 452 = .ok (.iload_n 2, 1) := by decide +kernel
theorem d_X_execute_453 : decode c_X_execute 453 = .ok (.iload_n 3, 1) := by decide +kernel
theorem d_X_execute_454 : decode c_X_execute 454 = .ok (.aload_n 0, 1) := by decide +kernel
theorem d_X_execute_455 : decode c_X_execute 455 = .ok (.getfield 19, 3) := by decide +kernel
theorem d_X_execute_458 : decode c_X_execute 458 = .ok (.iload 4, 2) := by decide +kernel
theorem d_X_execute_460 : decode c_X_execute 460 = .ok (.aaload, 1) := by decide +kernel
theorem d_X_execute_461 : decode c_X_execute 461 = .ok (.aload_n 0, 1) := by decide +kernel
theorem d_X_execute_462 : decode c_X_execute 462 = .ok (.getfield 19, 3) := by decide +kernel
theorem d_X_execute_465 : decode c_X_execute 465 = .ok (.iload 5, 2) := by decide +kernel
theorem d_X_execute_467 : decode c_X_execute 467 = .ok (.aaload, 1) := by decide +kernel
theorem d_X_execute_468 : decode c_X_execute 468 = .ok (.invokevirtual 154, 3) := by decide +kernel
theorem d_X_execute_471 : decode c_X_execute 471 = .ok (.iload 7, 2) := by decide +kernel
theorem d_X_execute_473 : decode c_X_execute 473 = .ok (.ifCond .ne 11, 3) := by decide +kernel
theorem d_X_execute_476 : decode c_X_execute 476 = .ok (.aload_n 0, 1) := by decide +kernel
theorem d_X_execute_477 : decode c_X_execute 477 = .ok (.iconst 1, 1) := by decide +kernel
theorem d_X_execute_478 : decode c_X_execute 478 = .ok (.invokevirtual 125, 3) := by decide +kernel
theorem d_X_execute_481 : decode c_X_execute 481 = .ok (.goto 5, 3) := by decide +kernel
theorem d_X_execute_484 : decode c_X_execute 484 = .ok (.iload 7, 2) := by decide +kernel
theorem d_X_execute_486 : decode c_X_execute 486 = .ok (.ireturn, 1) := by decide +kernel
theorem d_X_compute_0 : decode c_X_compute 0 = .ok (.iload_n 0, 1) := by decide +kernel
theorem d_X_compute_1 : decode c_X_compute 1 = .ok (.tableswitch 100 1 9 #[51, 55, 59, 63, 67, 71, 75, 82, 89], 51) := by decide +kernel
theorem d_X_compute_52 : decode c_X_compute 52 = .ok (.iload_n 1, 1) := by decide +kernel
theorem d_X_compute_53 : decode c_X_compute 53 = .ok (.iload_n 3, 1) := by decide +kernel
theorem d_X_compute_54 : decode c_X_compute 54 = .ok (.iadd, 1) := by decide +kernel
theorem d_X_compute_55 : decode c_X_compute 55 = .ok (.ireturn, 1) := by decide +kernel
theorem d_X_compute_56 : decode c_X_compute 56 = .ok (.iload_n 1, 1) := by decide +kernel
theorem d_X_compute_57 : decode c_X_compute 57 = .ok (.iload_n 2, 1) := by decide +kernel
theorem d_X_compute_58 : decode c_X_compute 58 = .ok (.iadd, 1) := by decide +kernel
theorem d_X_compute_59 : decode c_X_compute 59 = .ok (.ireturn, 1) := by decide +kernel
theorem d_X_compute_60 : decode c_X_compute 60 = .ok (.iload_n 1, 1) := by decide +kernel
theorem d_X_compute_61 : decode c_X_compute 61 = .ok (.iload_n 2, 1) := by decide +kernel
theorem d_X_compute_62 : decode c_X_compute 62 = .ok (.isub, 1) := by decide +kernel
theorem d_X_compute_63 : decode c_X_compute 63 = .ok (.ireturn, 1) := by decide +kernel
theorem d_X_compute_64 : decode c_X_compute 64 = .ok (.iload_n 1, 1) := by decide +kernel
theorem d_X_compute_65 : decode c_X_compute 65 = .ok (.iload_n 2, 1) := by decide +kernel
theorem d_X_compute_66 : decode c_X_compute 66 = .ok (.iand, 1) := by decide +kernel
theorem d_X_compute_67 : decode c_X_compute 67 = .ok (.ireturn, 1) := by decide +kernel
theorem d_X_compute_68 : decode c_X_compute 68 = .ok (.iload_n 1, 1) := by decide +kernel
theorem d_X_compute_69 : decode c_X_compute 69 = .ok (.iload_n 2, 1) := by decide +kernel
theorem d_X_compute_70 : decode c_X_compute 70 = .ok (.ior, 1) := by decide +kernel
theorem d_X_compute_71 : decode c_X_compute 71 = .ok (.ireturn, 1) := by decide +kernel
theorem d_X_compute_72 : decode c_X_compute 72 = .ok (.iload_n 1, 1) := by decide +kernel
theorem d_X_compute_73 : decode c_X_compute 73 = .ok (.iload_n 2, 1) := by decide +kernel
theorem d_X_compute_74 : decode c_X_compute 74 = .ok (.ixor, 1) := by decide +kernel
theorem d_X_compute_75 : decode c_X_compute 75 = .ok (.ireturn, 1) := by decide +kernel
theorem d_X_compute_76 : decode c_X_compute 76 = .ok (.iload_n 1, 1) := by decide +kernel
