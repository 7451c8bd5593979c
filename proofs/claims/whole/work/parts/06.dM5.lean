theorem d_M_shape_129 : decode c_M_shape 129 = .ok (.lcmp, 1) := by decide +kernel
theorem d_M_shape_130 : decode c_M_shape 130 = .ok (.ifCond .gt 7, 3) := by decide +kernel
theorem d_M_shape_133 : decode c_M_shape 133 = .ok (.iconst 1, 1) := by decide +kernel
theorem d_M_shape_134 : decode c_M_shape 134 = .ok (.goto 4, 3) := by decide +kernel
theorem d_M_shape_137 : decode c_M_shape 137 = .ok (.iconst 0, 1) := by decide +kernel
theorem d_M_shape_138 : decode c_M_shape 138 = .ok (.putfield 78, 3) := by decide +kernel
theorem d_M_shape_141 : decode c_M_shape 141 = .ok (.goto 172, 3) := by decide +kernel
theorem d_M_shape_144 : decode c_M_shape 144 = .ok (.iload_n 1, 1) := by decide +kernel
theorem d_M_shape_145 : decode c_M_shape 145 = .ok (.bipush 20, 2) := by decide +kernel
theorem d_M_shape_147 : decode c_M_shape 147 = .ok (.if_icmp .ne 49, 3) := by decide +kernel
theorem d_M_shape_150 : decode c_M_shape 150 = .ok (.aload_n 0, 1) := by decide +kernel
theorem d_M_shape_151 : decode c_M_shape 151 = .ok (.aload_n 0, 1) := by decide +kernel
theorem d_M_shape_152 : decode c_M_shape 152 = .ok (.getfield 75, 3) := by decide +kernel
theorem d_M_shape_155 : decode c_M_shape 155 = .ok (.iload 7, 2) := by decide +kernel
theorem d_M_shape_157 : decode c_M_shape 157 = .ok (.sipush (-256), 3) := by decide +kernel
theorem d_M_shape_160 : decode c_M_shape 160 = .ok (.ior, 1) := by decide +kernel
theorem d_M_shape_161 : decode c_M_shape 161 = .ok (.iand, 1) := by decide +kernel
theorem d_M_shape_162 : decode c_M_shape 162 = .ok (.putfield 75, 3) := by decide +kernel
theorem d_M_shape_165 : decode c_M_shape 165 = .ok (.aload_n 0, 1) := by decide +kernel
theorem d_M_shape_166 : decode c_M_shape 166 = .ok (.aload_n 0, 1) := by decide +kernel
theorem d_M_shape_167 : decode c_M_shape 167 = .ok (.getfield 78, 3) := by decide +kernel
theorem d_M_shape_170 : decode c_M_shape 170 = .ok (.ifCond .eq 19, 3) := by decide +kernel
theorem d_M_shape_173 : decode c_M_shape 173 = .ok (.aload_n 0, 1) := by decide +kernel
theorem d_M_shape_174 : decode c_M_shape 174 = .ok (.getfield 13, 3) := by decide +kernel
theorem d_M_shape_177 : decode c_M_shape 177 = .ok (.iload_n 3, 1) := by decide +kernel
theorem d_M_shape_178 : decode c_M_shape 178 = .ok (.iaload, 1) := by decide +kernel
theorem d_M_shape_179 : decode c_M_shape 179 = .ok (.invokestatic 57, 3) := by decide +kernel
theorem d_M_shape_182 : decode c_M_shape 182 = .ok (.ifCond .ne 7, 3) := by decide +kernel
theorem d_M_shape_185 : decode c_M_shape 185 = .ok (.iconst 1, 1) := by decide +kernel
theorem d_M_shape_186 : decode c_M_shape 186 = .ok (.goto 4, 3) := by decide +kernel
theorem d_M_shape_189 : decode c_M_shape 189 = .ok (.iconst 0, 1) := by decide +kernel
theorem d_M_shape_190 : decode c_M_shape 190 = .ok (.putfield 78, 3) := by decide +kernel
theorem d_M_shape_193 : decode c_M_shape 193 = .ok (.goto 120, 3) := by decide +kernel
theorem d_M_shape_196 : decode c_M_shape 196 = .ok (.iload_n 1, 1) := by decide +kernel
theorem d_M_shape_197 : decode c_M_shape 197 = .ok (.bipush 21, 2) := by decide +kernel
theorem d_M_shape_199 : decode c_M_shape 199 = .ok (.if_icmp .ne 15, 3) := by decide +kernel
theorem d_M_shape_202 : decode c_M_shape 202 = .ok (.aload_n 0, 1) := by decide +kernel
theorem d_M_shape_203 : decode c_M_shape 203 = .ok (.iload 6, 2) := by decide +kernel
theorem d_M_shape_205 : decode c_M_shape 205 = .ok (.iload 7, 2) := by decide +kernel
theorem d_M_shape_207 : decode c_M_shape 207 = .ok (.iadd, 1) := by decide +kernel
theorem d_M_shape_208 : decode c_M_shape 208 = .ok (.invokevirtual 86, 3) := by decide +kernel
theorem d_M_shape_211 : decode c_M_shape 211 = .ok (.goto 102, 3) := by decide +kernel
theorem d_M_shape_214 : decode c_M_shape 214 = .ok (.iload_n 1, 1) := by decide +kernel
theorem d_M_shape_215 : decode c_M_shape 215 = .ok (.bipush 22, 2) := by decide +kernel
theorem d_M_shape_217 : decode c_M_shape 217 = .ok (.if_icmp .ne 12, 3) := by decide +kernel
theorem d_M_shape_220 : decode c_M_shape 220 = .ok (.aload_n 0, 1) := by decide +kernel
theorem d_M_shape_221 : decode c_M_shape 221 = .ok (.iload 7, 2) := by decide +kernel
theorem d_M_shape_223 : decode c_M_shape 223 = .ok (.invokevirtual 86, 3) := by decide +kernel
theorem d_M_shape_226 : decode c_M_shape 226 = .ok (.goto 87, 3) := by decide +kernel
theorem d_M_shape_229 : decode c_M_shape 229 = .ok (.iload_n 1, 1) := by decide +kernel
theorem d_M_shape_230 : decode c_M_shape 230 = .ok (.bipush 23, 2) := by decide +kernel
theorem d_M_shape_232 : decode c_M_shape 232 = .ok (.if_icmp .ne 16, 3) := by decide +kernel
theorem d_M_shape_235 : decode c_M_shape 235 = .ok (.aload_n 0, 1) := by decide +kernel
theorem d_M_shape_236 : decode c_M_shape 236 = .ok (.aload_n 0, 1) := by decide +kernel
theorem d_M_shape_237 : decode c_M_shape 237 = .ok (.getfield 75, 3) := by decide +kernel
theorem d_M_shape_240 : decode c_M_shape 240 = .ok (.iload 7, 2) := by decide +kernel
theorem d_M_shape_242 : decode c_M_shape 242 = .ok (.invokevirtual 92, 3) := by decide +kernel
theorem d_M_shape_245 : decode c_M_shape 245 = .ok (.goto 68, 3) := by decide +kernel
theorem d_M_shape_248 : decode c_M_shape 248 = .ok (.iload_n 1, 1) := by decide +kernel
theorem d_M_shape_249 : decode c_M_shape 249 = .ok (.bipush 24, 2) := by decide +kernel
theorem d_M_shape_251 : decode c_M_shape 251 = .ok (.if_icmp .ne 15, 3) := by decide +kernel
theorem d_M_shape_254 : decode c_M_shape 254 = .ok (.aload_n 0, 1) := by decide +kernel
theorem d_M_shape_255 : decode c_M_shape 255 = .ok (.aload_n 0, 1) := by decide +kernel
theorem d_M_shape_256 : decode c_M_shape 256 = .ok (.getfield 75, 3) := by decide +kernel
theorem d_M_shape_259 : decode c_M_shape 259 = .ok (.iconst 0, 1) := by decide +kernel
theorem d_M_shape_260 : decode c_M_shape 260 = .ok (.invokevirtual 92, 3) := by decide +kernel
theorem d_M_shape_263 : decode c_M_shape 263 = .ok (.goto 50, 3) := by decide +kernel
theorem d_M_shape_266 : decode c_M_shape 266 = .ok (.iload_n 1, 1) := by decide +kernel
theorem d_M_shape_267 : decode c_M_shape 267 = .ok (.bipush 25, 2) := by decide +kernel
theorem d_M_shape_269 : decode c_M_shape 269 = .ok (.if_icmp .ne 17, 3) := by decide +kernel
theorem d_M_shape_272 : decode c_M_shape 272 = .ok (.aload_n 0, 1) := by decide +kernel
theorem d_M_shape_273 : decode c_M_shape 273 = .ok (.aload_n 0, 1) := by decide +kernel
theorem d_M_shape_274 : decode c_M_shape 274 = .ok (.iload_n 3, 1) := by decide +kernel
theorem d_M_shape_275 : decode c_M_shape 275 = .ok (.iload 5, 2) := by decide +kernel
theorem d_M_shape_277 : decode c_M_shape 277 = .ok (.invokevirtual 151, 3) := by decide +kernel
theorem d_M_shape_280 : decode c_M_shape 280 = .ok (.invokevirtual 128, 3) := by decide +kernel
theorem d_M_shape_283 : decode c_M_shape 283 = .ok (.goto 30, 3) := by decide +kernel
theorem d_M_shape_286 : decode c_M_shape 286 = .ok (.iload_n 1, 1) := by decide +kernel
theorem d_M_shape_287 : decode c_M_shape 287 = .ok (.bipush 26, 2) := by decide +kernel
theorem d_M_shape_289 : decode c_M_shape 289 = .ok (.if_icmp .ne 13, 3) := by decide +kernel
theorem d_M_shape_292 : decode c_M_shape 292 = .ok (.aload_n 0, 1) := by decide +kernel
theorem d_M_shape_293 : decode c_M_shape 293 = .ok (.iload_n 3, 1) := by decide +kernel
theorem d_M_shape_294 : decode c_M_shape 294 = .ok (.iload 4, 2) := by decide +kernel
theorem d_M_shape_296 : decode c_M_shape 296 = .ok (.invokevirtual 154, 3) := by decide +kernel
theorem d_M_shape_299 : decode c_M_shape 299 = .ok (.goto 14, 3) := by decide +kernel
theorem d_M_shape_302 : decode c_M_shape 302 = .ok (.iload_n 1, 1) := by decide +kernel
theorem d_M_shape_303 : decode c_M_shape 303 = .ok (.bipush 28, 2) := by decide +kernel
theorem d_M_shape_305 : decode c_M_shape 305 = .ok (.if_icmp .ne 8, 3) := by decide +kernel
theorem d_M_shape_308 : decode c_M_shape 308 = .ok (.aload_n 0, 1) := by decide +kernel
theorem d_M_shape_309 : decode c_M_shape 309 = .ok (.iconst 0, 1) := by decide +kernel
theorem d_M_shape_310 : decode c_M_shape 310 = .ok (.putfield 78, 3) := by decide +kernel
theorem d_M_shape_313 : decode c_M_shape 313 = .ok (.aload_n 0, 1) := by decide +kernel
theorem d_M_shape_314 : decode c_M_shape 314 = .ok (.iload_n 2, 1) := by decide +kernel
theorem d_M_shape_315 : decode c_M_shape 315 = .ok (.invokevirtual 89, 3) := by decide +kernel
theorem d_M_shape_318 : decode c_M_shape 318 = .ok (.return_, 1) := by decide +kernel
theorem d_M_told_0 : decode c_M_told 0 = .ok (.aload_n 0, 1) := by decide +kernel
theorem d_M_told_1 : decode c_M_told 1 = .ok (.getfield 13, 3) := by decide +kernel
theorem d_M_told_4 : decode c_M_told 4 = .ok (.iload_n 1, 1) := by decide +kernel
theorem d_M_told_5 : decode c_M_told 5 = .ok (.iaload, 1) := by decide +kernel
theorem d_M_told_6 : decode c_M_told 6 = .ok (.aload_n 0, 1) := by decide +kernel
theorem d_M_told_7 : decode c_M_told 7 = .ok (.getfield 7, 3) := by decide +kernel
theorem d_M_told_10 : decode c_M_told 10 = .ok (.iload_n 1, 1) := by decide +kernel
theorem d_M_told_11 : decode c_M_told 11 = .ok (.iaload, 1) := by decide +kernel
theorem d_M_told_12 : decode c_M_told 12 = .ok (.invokestatic 65, 3) := by decide +kernel
theorem d_M_told_15 : decode c_M_told 15 = .ok (.lstore_n 3, 1) := by decide +kernel
theorem d_M_told_16 : decode c_M_told 16 = .ok (.iload_n 2, 1) := by decide +kernel
theorem d_M_told_17 : decode c_M_told 17 = .ok (.ifCond .ne 6, 3) := by decide +kernel
theorem d_M_told_20 : decode c_M_told 20 = .ok (.lload_n 3, 1) := by decide +kernel
theorem d_M_told_21 : decode c_M_told 21 = .ok (.l2i, 1) := by decide +kernel
theorem d_M_told_22 : decode c_M_told 22 = .ok (.ireturn, 1) := by decide +kernel
theorem d_M_told_23 : decode c_M_told 23 = .ok (.iload_n 2, 1) := by decide +kernel
theorem d_M_told_24 : decode c_M_told 24 = .ok (.iconst 1, 1) := by decide +kernel
theorem d_M_told_25 : decode c_M_told 25 = .ok (.if_icmp .ne 22, 3) := by decide +kernel
theorem d_M_told_28 : decode c_M_told 28 = .ok (.aload_n 0, 1) := by decide +kernel
theorem d_M_told_29 : decode c_M_told 29 = .ok (.getfield 13, 3) := by decide +kernel
theorem d_M_told_32 : decode c_M_told 32 = .ok (.iload_n 1, 1) := by decide +kernel
theorem d_M_told_33 : decode c_M_told 33 = .ok (.iaload, 1) := by decide +kernel
theorem d_M_told_34 : decode c_M_told 34 = .ok (.aload_n 0, 1) := by decide +kernel
theorem d_M_told_35 : decode c_M_told 35 = .ok (.getfield 7, 3) := by decide +kernel
theorem d_M_told_38 : decode c_M_told 38 = .ok (.iload_n 1, 1) := by decide +kernel
theorem d_M_told_39 : decode c_M_told 39 = .ok (.iaload, 1) := by decide +kernel
theorem d_M_told_40 : decode c_M_told 40 = .ok (.invokestatic 68, 3) := by decide +kernel
theorem d_M_told_43 : decode c_M_told 43 = .ok (.lload_n 3, 1) := by decide +kernel
theorem d_M_told_44 : decode c_M_told 44 = .ok (.lsub, 1) := by decide +kernel
theorem d_M_told_45 : decode c_M_told 45 = .ok (.l2i, 1) := by decide +kernel
theorem d_M_told_46 : decode c_M_told 46 = .ok (.ireturn, 1) := by decide +kernel
theorem d_M_told_47 : decode c_M_told 47 = .ok (.iload_n 2, 1) := by decide +kernel
theorem d_M_told_48 : decode c_M_told 48 = .ok (.iconst 2, 1) := by decide +kernel
theorem d_M_told_49 : decode c_M_told 49 = .ok (.if_icmp .ne 16, 3) := by decide +kernel
theorem d_M_told_52 : decode c_M_told 52 = .ok (.aload_n 0, 1) := by decide +kernel
theorem d_M_told_53 : decode c_M_told 53 = .ok (.getfield 13, 3) := by decide +kernel
theorem d_M_told_56 : decode c_M_told 56 = .ok (.iload_n 1, 1) := by decide +kernel
theorem d_M_told_57 : decode c_M_told 57 = .ok (.iaload, 1) := by decide +kernel
theorem d_M_told_58 : decode c_M_told 58 = .ok (.sipush 255, 3) := by decide +kernel
theorem d_M_told_61 : decode c_M_told 61 = .ok (.iand, 1) := by decide +kernel
theorem d_M_told_62 : decode c_M_told 62 = .ok (.goto 72, 3) := by decide +kernel
theorem d_M_told_65 : decode c_M_told 65 = .ok (.iload_n 2, 1) := by decide +kernel
theorem d_M_told_66 : decode c_M_told 66 = .ok (.iconst 3, 1) := by decide +kernel
theorem d_M_told_67 : decode c_M_told 67 = .ok (.if_icmp .ne 15, 3) := by decide +kernel
theorem d_M_told_70 : decode c_M_told 70 = .ok (.aload_n 0, 1) := by decide +kernel
theorem d_M_told_71 : decode c_M_told 71 = .ok (.getfield 13, 3) := by decide +kernel
theorem d_M_told_74 : decode c_M_told 74 = .ok (.iload_n 1, 1) := by decide +kernel
theorem d_M_told_75 : decode c_M_told 75 = .ok (.iaload, 1) := by decide +kernel
theorem d_M_told_76 : decode c_M_told 76 = .ok (.invokestatic 57, 3) := by decide +kernel
theorem d_M_told_79 : decode c_M_told 79 = .ok (.goto 55, 3) := by decide +kernel
theorem d_M_told_82 : decode c_M_told 82 = .ok (.iload_n 2, 1) := by decide +kernel
theorem d_M_told_83 : decode c_M_told 83 = .ok (.iconst 4, 1) := by decide +kernel
theorem d_M_told_84 : decode c_M_told 84 = .ok (.if_icmp .ne 20, 3) := by decide +kernel
theorem d_M_told_87 : decode c_M_told 87 = .ok (.aload_n 0, 1) := by decide +kernel
theorem d_M_told_88 : decode c_M_told 88 = .ok (.getfield 16, 3) := by decide +kernel
theorem d_M_told_91 : decode c_M_told 91 = .ok (.iload_n 1, 1) := by decide +kernel
theorem d_M_told_92 : decode c_M_told 92 = .ok (.baload, 1) := by decide +kernel
theorem d_M_told_93 : decode c_M_told 93 = .ok (.ifCond .eq 7, 3) := by decide +kernel
theorem d_M_told_96 : decode c_M_told 96 = .ok (.iconst 1, 1) := by decide +kernel
theorem d_M_told_97 : decode c_M_told 97 = .ok (.goto 37, 3) := by decide +kernel
theorem d_M_told_100 : decode c_M_told 100 = .ok (.iconst 0, 1) := by decide +kernel
theorem d_M_told_101 : decode c_M_told 101 = .ok (.goto 33, 3) := by decide +kernel
theorem d_M_told_104 : decode c_M_told 104 = .ok (.iload_n 2, 1) := by decide +kernel
theorem d_M_told_105 : decode c_M_told 105 = .ok (.iconst 5, 1) := by decide +kernel
theorem d_M_told_106 : decode c_M_told 106 = .ok (.if_icmp .ne 12, 3) := by decide +kernel
theorem d_M_told_109 : decode c_M_told 109 = .ok (.aload_n 0, 1) := by decide +kernel
theorem d_M_told_110 : decode c_M_told 110 = .ok (.getfield 7, 3) := by decide +kernel
theorem d_M_told_113 : decode c_M_told 113 = .ok (.iload_n 1, 1) := by decide +kernel
theorem d_M_told_114 : decode c_M_told 114 = .ok (.iaload, 1) := by decide +kernel
theorem d_M_told_115 : decode c_M_told 115 = .ok (.goto 19, 3) := by decide +kernel
theorem d_M_told_118 : decode c_M_told 118 = .ok (.iload_n 2, 1) := by decide +kernel
theorem d_M_told_119 : decode c_M_told 119 = .ok (.bipush 6, 2) := by decide +kernel
theorem d_M_told_121 : decode c_M_told 121 = .ok (.if_icmp .ne 12, 3) := by decide +kernel
theorem d_M_told_124 : decode c_M_told 124 = .ok (.aload_n 0, 1) := by decide +kernel
theorem d_M_told_125 : decode c_M_told 125 = .ok (.getfield 13, 3) := by decide +kernel
theorem d_M_told_128 : decode c_M_told 128 = .ok (.iload_n 1, 1) := by decide +kernel
theorem d_M_told_129 : decode c_M_told 129 = .ok (.iaload, 1) := by decide +kernel
theorem d_M_told_130 : decode c_M_told 130 = .ok (.goto 4, 3) := by decide +kernel
theorem d_M_told_133 : decode c_M_told 133 = .ok (.iconst 0, 1) := by decide +kernel
theorem d_M_told_134 : decode c_M_told 134 = .ok (.ireturn, 1) := by decide +kernel
theorem d_M_build_0 : decode c_M_build 0 = .ok (.aload_n 0, 1) := by decide +kernel
theorem d_M_build_1 : decode c_M_build 1 = .ok (.getfield 13, 3) := by decide +kernel
theorem d_M_build_4 : decode c_M_build 4 = .ok (.iload_n 2, 1) := by decide +kernel
theorem d_M_build_5 : decode c_M_build 5 = .ok (.iaload, 1) := by decide +kernel
theorem d_M_build_6 : decode c_M_build 6 = .ok (.aload_n 0, 1) := by decide +kernel
theorem d_M_build_7 : decode c_M_build 7 = .ok (.getfield 7, 3) := by decide +kernel
theorem d_M_build_10 : decode c_M_build 10 = .ok (.iload_n 2, 1) := by decide +kernel
theorem d_M_build_11 : decode c_M_build 11 = .ok (.iaload, 1) := by decide +kernel
theorem d_M_build_12 : decode c_M_build 12 = .ok (.invokestatic 65, 3) := by decide +kernel
theorem d_M_build_15 : decode c_M_build 15 = .ok (.lstore_n 3, 1) := by decide +kernel
theorem d_M_build_16 : decode c_M_build 16 = .ok (.aload_n 0, 1) := by decide +kernel
theorem d_M_build_17 : decode c_M_build 17 = .ok (.getfield 13, 3) := by decide +kernel
theorem d_M_build_20 : decode c_M_build 20 = .ok (.iload_n 2, 1) := by decide +kernel
theorem d_M_build_21 : decode c_M_build 21 = .ok (.iaload, 1) := by decide +kernel
theorem d_M_build_22 : decode c_M_build 22 = .ok (.aload_n 0, 1) := by decide +kernel
theorem d_M_build_23 : decode c_M_build 23 = .ok (.getfield 7, 3) := by decide +kernel
theorem d_M_build_26 : decode c_M_build 26 = .ok (.iload_n 2, 1) := by decide +kernel
theorem d_M_build_27 : decode c_M_build 27 = .ok (.iaload, 1) := by decide +kernel
theorem d_M_build_28 : decode c_M_build 28 = .ok (.invokestatic 68, 3) := by decide +kernel
theorem d_M_build_31 : decode c_M_build 31 = .ok (.lstore 5, 2) := by decide +kernel
theorem d_M_build_33 : decode c_M_build 33 = .ok (.lload_n 3, 1) := by decide +kernel
theorem d_M_build_34 : decode c_M_build 34 = .ok (.aload_n 0, 1) := by decide +kernel
theorem d_M_build_35 : decode c_M_build 35 = .ok (.getfield 13, 3) := by decide +kernel
theorem d_M_build_38 : decode c_M_build 38 = .ok (.iload_n 1, 1) := by decide +kernel
theorem d_M_build_39 : decode c_M_build 39 = .ok (.iaload, 1) := by decide +kernel
theorem d_M_build_40 : decode c_M_build 40 = .ok (.aload_n 0, 1) := by decide +kernel
theorem d_M_build_41 : decode c_M_build 41 = .ok (.getfield 7, 3) := by decide +kernel
theorem d_M_build_44 : decode c_M_build 44 = .ok (.iload_n 1, 1) := by decide +kernel
theorem d_M_build_45 : decode c_M_build 45 = .ok (.iaload, 1) := by decide +kernel
theorem d_M_build_46 : decode c_M_build 46 = .ok (.invokestatic 65, 3) := by decide +kernel
theorem d_M_build_49 : decode c_M_build 49 = .ok (.lcmp, 1) := by decide +kernel
theorem d_M_build_50 : decode c_M_build 50 = .ok (.ifCond .lt 35, 3) := by decide +kernel
theorem d_M_build_53 : decode c_M_build 53 = .ok (.lload_n 3, 1) := by decide +kernel
theorem d_M_build_54 : decode c_M_build 54 = .ok (.lload 5, 2) := by decide +kernel
theorem d_M_build_56 : decode c_M_build 56 = .ok (.lcmp, 1) := by decide +kernel
theorem d_M_build_57 : decode c_M_build 57 = .ok (.ifCond .gt 28, 3) := by decide +kernel
theorem d_M_build_60 : decode c_M_build 60 = .ok (.lload 5, 2) := by decide +kernel
theorem d_M_build_62 : decode c_M_build 62 = .ok (.aload_n 0, 1) := by decide +kernel
theorem d_M_build_63 : decode c_M_build 63 = .ok (.getfield 13, 3) := by decide +kernel
theorem d_M_build_66 : decode c_M_build 66 = .ok (.iload_n 1, 1) := by decide +kernel
theorem d_M_build_67 : decode c_M_build 67 = .ok (.iaload, 1) := by decide +kernel
theorem d_M_build_68 : decode c_M_build 68 = .ok (.aload_n 0, 1) := by decide +kernel
theorem d_M_build_69 : decode c_M_build 69 = .ok (.getfield 7, 3) := by decide +kernel
theorem d_M_build_72 : decode c_M_build 72 = .ok (.iload_n 1, 1) := by decide +kernel
theorem d_M_build_73 : decode c_M_build 73 = .ok (.iaload, 1) := by decide +kernel
theorem d_M_build_74 : decode c_M_build 74 = .ok (.invokestatic 68, 3) := by decide +kernel
theorem d_M_build_77 : decode c_M_build 77 = .ok (.lcmp, 1) := by decide +kernel
theorem d_M_build_78 : decode c_M_build 78 = .ok (.ifCond .gt 7, 3) := by decide +kernel
theorem d_M_build_81 : decode c_M_build 81 = .ok (.iconst 1, 1) := by decide +kernel
theorem d_M_build_82 : decode c_M_build 82 = .ok (.goto 4, 3) := by decide +kernel
theorem d_M_build_85 : decode c_M_build 85 = .ok (.iconst 0, 1) := by decide +kernel
theorem d_M_build_86 : decode c_M_build 86 = .ok (.istore 7, 2) := by decide +kernel
theorem d_M_build_88 : decode c_M_build 88 = .ok (.aload_n 0, 1) := by decide +kernel
theorem d_M_build_89 : decode c_M_build 89 = .ok (.getfield 13, 3) := by decide +kernel
theorem d_M_build_92 : decode c_M_build 92 = .ok (.iload_n 1, 1) := by decide +kernel
theorem d_M_build_93 : decode c_M_build 93 = .ok (.iaload, 1) := by decide +kernel
theorem d_M_build_94 : decode c_M_build 94 = .ok (.invokestatic 57, 3) := by decide +kernel
theorem d_M_build_97 : decode c_M_build 97 = .ok (.ifCond .ne 41, 3) := by decide +kernel
theorem d_M_build_100 : decode c_M_build 100 = .ok (.aload_n 0, 1) := by decide +kernel
theorem d_M_build_101 : decode c_M_build 101 = .ok (.getfield 13, 3) := by decide +kernel
theorem d_M_build_104 : decode c_M_build 104 = .ok (.iload_n 2, 1) := by decide +kernel
theorem d_M_build_105 : decode c_M_build 105 = .ok (.iaload, 1) := by decide +kernel
theorem d_M_build_106 : decode c_M_build 106 = .ok (.invokestatic 57, 3) := by decide +kernel
theorem d_M_build_109 : decode c_M_build 109 = .ok (.ifCond .ne 29, 3) := by decide +kernel
theorem d_M_build_112 : decode c_M_build 112 = .ok (.aload_n 0, 1) := by decide +kernel
theorem d_M_build_113 : decode c_M_build 113 = .ok (.getfield 13, 3) := by decide +kernel
theorem d_M_build_116 : decode c_M_build 116 = .ok (.iload_n 2, 1) := by decide +kernel
theorem d_M_build_117 : decode c_M_build 117 = .ok (.iaload, 1) := by decide +kernel
theorem d_M_build_118 : decode c_M_build 118 = .ok (.sipush 255, 3) := by decide +kernel
theorem d_M_build_121 : decode c_M_build 121 = .ok (.iand, 1) := by decide +kernel
theorem d_M_build_122 : decode c_M_build 122 = .ok (.aload_n 0, 1) := by decide +kernel
theorem d_M_build_123 : decode c_M_build 123 = .ok (.getfield 13, 3) := by decide +kernel
theorem d_M_build_126 : decode c_M_build 126 = .ok (.iload_n 1, 1) := by decide +kernel
theorem d_M_build_127 : decode c_M_build 127 = .ok (.iaload, 1) := by decide +kernel
theorem d_M_build_128 : decode c_M_build 128 = .ok (.iconst (-1), 1) := by decide +kernel
theorem d_M_build_129 : decode c_M_build 129 = .ok (.ixor, 1) := by decide +kernel
theorem d_M_build_130 : decode c_M_build 130 = .ok (.iand, 1) := by decide +kernel
theorem d_M_build_131 : decode c_M_build 131 = .ok (.ifCond .ne 7, 3) := by decide +kernel
theorem d_M_build_134 : decode c_M_build 134 = .ok (.iconst 1, 1) := by decide +kernel
theorem d_M_build_135 : decode c_M_build 135 = .ok (.goto 4, 3) := by decide +kernel
theorem d_M_build_138 : decode c_M_build 138 = .ok (.iconst 0, 1) := by decide +kernel
theorem d_M_build_139 : decode c_M_build 139 = .ok (.istore 8, 2) := by decide +kernel
theorem d_M_build_141 : decode c_M_build 141 = .ok (.aload_n 0, 1) := by decide +kernel
theorem d_M_build_142 : decode c_M_build 142 = .ok (.getfield 16, 3) := by decide +kernel
theorem d_M_build_145 : decode c_M_build 145 = .ok (.iload_n 1, 1) := by decide +kernel
theorem d_M_build_146 : decode c_M_build 146 = .ok (.baload, 1) := by decide +kernel
theorem d_M_build_147 : decode c_M_build 147 = .ok (.ifCond .eq 17, 3) := by decide +kernel
theorem d_M_build_150 : decode c_M_build 150 = .ok (.iload 7, 2) := by decide +kernel
theorem d_M_build_152 : decode c_M_build 152 = .ok (.ifCond .eq 12, 3) := by decide +kernel
theorem d_M_build_155 : decode c_M_build 155 = .ok (.iload 8, 2) := by decide +kernel
theorem d_M_build_157 : decode c_M_build 157 = .ok (.ifCond .eq 7, 3) := by decide +kernel
theorem d_M_build_160 : decode c_M_build 160 = .ok (.iconst 1, 1) := by decide +kernel
theorem d_M_build_161 : decode c_M_build 161 = .ok (.goto 4, 3) := by decide +kernel
theorem d_M_build_164 : decode c_M_build 164 = .ok (.iconst 0, 1) := by decide +kernel
theorem d_M_build_165 : decode c_M_build 165 = .ok (.istore 9, 2) := by decide +kernel
theorem d_M_build_167 : decode c_M_build 167 = .ok (.aload_n 0, 1) := by decide +kernel
theorem d_M_build_168 : decode c_M_build 168 = .ok (.iload_n 2, 1) := by decide +kernel
theorem d_M_build_169 : decode c_M_build 169 = .ok (.invokevirtual 82, 3) := by decide +kernel
theorem d_M_build_172 : decode c_M_build 172 = .ok (.aload_n 0, 1) := by decide +kernel
theorem d_M_build_173 : decode c_M_build 173 = .ok (.iload 9, 2) := by decide +kernel
theorem d_M_build_175 : decode c_M_build 175 = .ok (.putfield 78, 3) := by decide +kernel
theorem d_M_build_178 : decode c_M_build 178 = .ok (.return_, 1) := by decide +kernel
theorem d_M_rule_0 : decode c_M_rule 0 = .ok (.iload_n 1, 1) := by decide +kernel
theorem d_M_rule_1 : decode c_M_rule 1 = .ok (.bipush 31, 2) := by decide +kernel
theorem d_M_rule_3 : decode c_M_rule 3 = .ok (.if_icmp .ne 46, 3) := by decide +kernel
theorem d_M_rule_6 : decode c_M_rule 6 = .ok (.aload_n 0, 1) := by decide +kernel
theorem d_M_rule_7 : decode c_M_rule 7 = .ok (.bipush 10, 2) := by decide +kernel
theorem d_M_rule_9 : decode c_M_rule 9 = .ok (.invokevirtual 82, 3) := by decide +kernel
theorem d_M_rule_12 : decode c_M_rule 12 = .ok (.aload_n 0, 1) := by decide +kernel
theorem d_M_rule_13 : decode c_M_rule 13 = .ok (.aload_n 0, 1) := by decide +kernel
theorem d_M_rule_14 : decode c_M_rule 14 = .ok (.getfield 75, 3) := by decide +kernel
theorem d_M_rule_17 : decode c_M_rule 17 = .ok (.invokestatic 57, 3) := by decide +kernel
theorem d_M_rule_20 : decode c_M_rule 20 = .ok (.iconst 1, 1) := by decide +kernel
theorem d_M_rule_21 : decode c_M_rule 21 = .ok (.if_icmp .ne 14, 3) := by decide +kernel
theorem d_M_rule_24 : decode c_M_rule 24 = .ok (.aload_n 0, 1) := by decide +kernel
theorem d_M_rule_25 : decode c_M_rule 25 = .ok (.getfield 75, 3) := by decide +kernel
theorem d_M_rule_28 : decode c_M_rule 28 = .ok (.sipush (-3841), 3) := by decide +kernel
theorem d_M_rule_31 : decode c_M_rule 31 = .ok (.iand, 1) := by decide +kernel
theorem d_M_rule_32 : decode c_M_rule 32 = .ok (.goto 7, 3) := by decide +kernel
theorem d_M_rule_35 : decode c_M_rule 35 = .ok (.aload_n 0, 1) := by decide +kernel
theorem d_M_rule_36 : decode c_M_rule 36 = .ok (.getfield 75, 3) := by decide +kernel
theorem d_M_rule_39 : decode c_M_rule 39 = .ok (.putfield 75, 3) := by decide +kernel
theorem d_M_rule_42 : decode c_M_rule 42 = .ok (.aload_n 0, 1) := by decide +kernel
theorem d_M_rule_43 : decode c_M_rule 43 = .ok (.bipush 8, 2) := by decide +kernel
theorem d_M_rule_45 : decode c_M_rule 45 = .ok (.invokevirtual 89, 3) := by decide +kernel
