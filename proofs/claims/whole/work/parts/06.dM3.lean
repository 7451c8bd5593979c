theorem d_M_trapOf_254 : decode c_M_trapOf 254 = .ok (.bipush 8, 2) := by decide +kernel
theorem d_M_trapOf_256 : decode c_M_trapOf 256 = .ok (.aload_n 0, 1) := by decide +kernel
theorem d_M_trapOf_257 : decode c_M_trapOf 257 = .ok (.bipush 8, 2) := by decide +kernel
theorem d_M_trapOf_259 : decode c_M_trapOf 259 = .ok (.sipush 128, 3) := by decide +kernel
theorem d_M_trapOf_262 : decode c_M_trapOf 262 = .ok (.invokevirtual 61, 3) := by decide +kernel
theorem d_M_trapOf_265 : decode c_M_trapOf 265 = .ok (.ifCond .eq 7, 3) := by decide +kernel
theorem d_M_trapOf_268 : decode c_M_trapOf 268 = .ok (.iconst 0, 1) := by decide +kernel
theorem d_M_trapOf_269 : decode c_M_trapOf 269 = .ok (.goto 4, 3) := by decide +kernel
theorem d_M_trapOf_272 : decode c_M_trapOf 272 = .ok (.iconst 3, 1) := by decide +kernel
theorem d_M_trapOf_273 : decode c_M_trapOf 273 = .ok (.invokestatic 99, 3) := by decide +kernel
theorem d_M_trapOf_276 : decode c_M_trapOf 276 = .ok (.ireturn, 1) := by decide +kernel
theorem d_M_trapOf_277 : decode c_M_trapOf 277 = .ok (.iload_n 1, 1) := by decide +kernel
theorem d_M_trapOf_278 : decode c_M_trapOf 278 = .ok (.bipush 30, 2) := by decide +kernel
theorem d_M_trapOf_280 : decode c_M_trapOf 280 = .ok (.if_icmp .ne 8, 3) := by decide +kernel
theorem d_M_trapOf_283 : decode c_M_trapOf 283 = .ok (.bipush 9, 2) := by decide +kernel
theorem d_M_trapOf_285 : decode c_M_trapOf 285 = .ok (.goto 4, 3) := by decide +kernel
theorem d_M_trapOf_288 : decode c_M_trapOf 288 = .ok (.iconst 0, 1) := by decide +kernel
theorem d_M_trapOf_289 : decode c_M_trapOf 289 = .ok (.ireturn, 1) := by decide +kernel
theorem d_M_sealing_0 : decode c_M_sealing 0 = .ok (.aload_n 0, 1) := by decide +kernel
theorem d_M_sealing_1 : decode c_M_sealing 1 = .ok (.getfield 13, 3) := by decide +kernel
theorem d_M_sealing_4 : decode c_M_sealing 4 = .ok (.iload_n 2, 1) := by decide +kernel
theorem d_M_sealing_5 : decode c_M_sealing 5 = .ok (.iaload, 1) := by decide +kernel
theorem d_M_sealing_6 : decode c_M_sealing 6 = .ok (.invokestatic 57, 3) := by decide +kernel
theorem d_M_sealing_9 : decode c_M_sealing 9 = .ok (.istore 5, 2) := by decide +kernel
theorem d_M_sealing_11 : decode c_M_sealing 11 = .ok (.aload_n 0, 1) := by decide +kernel
theorem d_M_sealing_12 : decode c_M_sealing 12 = .ok (.getfield 16, 3) := by decide +kernel
theorem d_M_sealing_15 : decode c_M_sealing 15 = .ok (.iload_n 2, 1) := by decide +kernel
theorem d_M_sealing_16 : decode c_M_sealing 16 = .ok (.baload, 1) := by decide +kernel
theorem d_M_sealing_17 : decode c_M_sealing 17 = .ok (.ifCond .ne 9, 3) := by decide +kernel
theorem d_M_sealing_20 : decode c_M_sealing 20 = .ok (.iload_n 2, 1) := by decide +kernel
theorem d_M_sealing_21 : decode c_M_sealing 21 = .ok (.iconst 1, 1) := by decide +kernel
theorem d_M_sealing_22 : decode c_M_sealing 22 = .ok (.invokestatic 99, 3) := by decide +kernel
theorem d_M_sealing_25 : decode c_M_sealing 25 = .ok (.ireturn, 1) := by decide +kernel
theorem d_M_sealing_26 : decode c_M_sealing 26 = .ok (.iload_n 1, 1) := by decide +kernel
theorem d_M_sealing_27 : decode c_M_sealing 27 = .ok (.ifCond .eq 11, 3) := by decide +kernel
theorem d_M_sealing_30 : decode c_M_sealing 30 = .ok (.iload 5, 2) := by decide +kernel
theorem d_M_sealing_32 : decode c_M_sealing 32 = .ok (.ifCond .eq 18, 3) := by decide +kernel
theorem d_M_sealing_35 : decode c_M_sealing 35 = .ok (.goto 9, 3) := by decide +kernel
theorem d_M_sealing_38 : decode c_M_sealing 38 = .ok (.iload 5, 2) := by decide +kernel
theorem d_M_sealing_40 : decode c_M_sealing 40 = .ok (.iconst 2, 1) := by decide +kernel
theorem d_M_sealing_41 : decode c_M_sealing 41 = .ok (.if_icmp .ge 9, 3) := by decide +kernel
theorem d_M_sealing_44 : decode c_M_sealing 44 = .ok (.iload_n 2, 1) := by decide +kernel
theorem d_M_sealing_45 : decode c_M_sealing 45 = .ok (.iconst 2, 1) := by decide +kernel
theorem d_M_sealing_46 : decode c_M_sealing 46 = .ok (.invokestatic 99, 3) := by decide +kernel
theorem d_M_sealing_49 : decode c_M_sealing 49 = .ok (.ireturn, 1) := by decide +kernel
theorem d_M_sealing_50 : decode c_M_sealing 50 = .ok (.aload_n 0, 1) := by decide +kernel
theorem d_M_sealing_51 : decode c_M_sealing 51 = .ok (.iload_n 3, 1) := by decide +kernel
theorem d_M_sealing_52 : decode c_M_sealing 52 = .ok (.iload_n 1, 1) := by decide +kernel
theorem d_M_sealing_53 : decode c_M_sealing 53 = .ok (.ifCond .eq 8, 3) := by decide +kernel
theorem d_M_sealing_56 : decode c_M_sealing 56 = .ok (.bipush 32, 2) := by decide +kernel
theorem d_M_sealing_58 : decode c_M_sealing 58 = .ok (.goto 5, 3) := by decide +kernel
theorem d_M_sealing_61 : decode c_M_sealing 61 = .ok (.bipush 64, 2) := by decide +kernel
theorem d_M_sealing_63 : decode c_M_sealing 63 = .ok (.iconst 1, 1) := by decide +kernel
theorem d_M_sealing_64 : decode c_M_sealing 64 = .ok (.iload 4, 2) := by decide +kernel
theorem d_M_sealing_66 : decode c_M_sealing 66 = .ok (.invokevirtual 95, 3) := by decide +kernel
theorem d_M_sealing_69 : decode c_M_sealing 69 = .ok (.istore 6, 2) := by decide +kernel
theorem d_M_sealing_71 : decode c_M_sealing 71 = .ok (.iload 6, 2) := by decide +kernel
theorem d_M_sealing_73 : decode c_M_sealing 73 = .ok (.ifCond .eq 10, 3) := by decide +kernel
theorem d_M_sealing_76 : decode c_M_sealing 76 = .ok (.iload_n 3, 1) := by decide +kernel
theorem d_M_sealing_77 : decode c_M_sealing 77 = .ok (.iload 6, 2) := by decide +kernel
theorem d_M_sealing_79 : decode c_M_sealing 79 = .ok (.invokestatic 99, 3) := by decide +kernel
theorem d_M_sealing_82 : decode c_M_sealing 82 = .ok (.ireturn, 1) := by decide +kernel
theorem d_M_sealing_83 : decode c_M_sealing 83 = .ok (.iload_n 1, 1) := by decide +kernel
theorem d_M_sealing_84 : decode c_M_sealing 84 = .ok (.ifCond .eq 24, 3) := by decide +kernel
theorem d_M_sealing_87 : decode c_M_sealing 87 = .ok (.iload 4, 2) := by decide +kernel
theorem d_M_sealing_89 : decode c_M_sealing 89 = .ok (.iconst 2, 1) := by decide +kernel
theorem d_M_sealing_90 : decode c_M_sealing 90 = .ok (.if_icmp .lt 14, 3) := by decide +kernel
theorem d_M_sealing_93 : decode c_M_sealing 93 = .ok (.iload 4, 2) := by decide +kernel
theorem d_M_sealing_95 : decode c_M_sealing 95 = .ok (.bipush 15, 2) := by decide +kernel
theorem d_M_sealing_97 : decode c_M_sealing 97 = .ok (.if_icmp .gt 7, 3) := by decide +kernel
theorem d_M_sealing_100 : decode c_M_sealing 100 = .ok (.iconst 1, 1) := by decide +kernel
theorem d_M_sealing_101 : decode c_M_sealing 101 = .ok (.goto 19, 3) := by decide +kernel
theorem d_M_sealing_104 : decode c_M_sealing 104 = .ok (.iconst 0, 1) := by decide +kernel
theorem d_M_sealing_105 : decode c_M_sealing 105 = .ok (.goto 15, 3) := by decide +kernel
theorem d_M_sealing_108 : decode c_M_sealing 108 = .ok (.iload 4, 2) := by decide +kernel
theorem d_M_sealing_110 : decode c_M_sealing 110 = .ok (.iload 5, 2) := by decide +kernel
theorem d_M_sealing_112 : decode c_M_sealing 112 = .ok (.if_icmp .ne 7, 3) := by decide +kernel
theorem d_M_sealing_115 : decode c_M_sealing 115 = .ok (.iconst 1, 1) := by decide +kernel
theorem d_M_sealing_116 : decode c_M_sealing 116 = .ok (.goto 4, 3) := by decide +kernel
theorem d_M_sealing_119 : decode c_M_sealing 119 = .ok (.iconst 0, 1) := by decide +kernel
theorem d_M_sealing_120 : decode c_M_sealing 120 = .ok (.istore 7, 2) := by decide +kernel
theorem d_M_sealing_122 : decode c_M_sealing 122 = .ok (.iload 7, 2) := by decide +kernel
theorem d_M_sealing_124 : decode c_M_sealing 124 = .ok (.ifCond .eq 7, 3) := by decide +kernel
theorem d_M_sealing_127 : decode c_M_sealing 127 = .ok (.iconst 0, 1) := by decide +kernel
theorem d_M_sealing_128 : decode c_M_sealing 128 = .ok (.goto 9, 3) := by decide +kernel
theorem d_M_sealing_131 : decode c_M_sealing 131 = .ok (.iload_n 3, 1) := by decide +kernel
theorem d_M_sealing_132 : decode c_M_sealing 132 = .ok (.bipush 7, 2) := by decide +kernel
theorem d_M_sealing_134 : decode c_M_sealing 134 = .ok (.invokestatic 99, 3) := by decide +kernel
theorem d_M_sealing_137 : decode c_M_sealing 137 = .ok (.ireturn, 1) := by decide +kernel
theorem d_M_trap_0 : decode c_M_trap 0 = .ok (.aload_n 0, 1) := by decide +kernel
theorem d_M_trap_1 : decode c_M_trap 1 = .ok (.bipush 8, 2) := by decide +kernel
theorem d_M_trap_3 : decode c_M_trap 3 = .ok (.invokevirtual 82, 3) := by decide +kernel
theorem d_M_trap_6 : decode c_M_trap 6 = .ok (.aload_n 0, 1) := by decide +kernel
theorem d_M_trap_7 : decode c_M_trap 7 = .ok (.bipush 10, 2) := by decide +kernel
theorem d_M_trap_9 : decode c_M_trap 9 = .ok (.invokevirtual 89, 3) := by decide +kernel
theorem d_M_trap_12 : decode c_M_trap 12 = .ok (.aload_n 0, 1) := by decide +kernel
theorem d_M_trap_13 : decode c_M_trap 13 = .ok (.iload_n 1, 1) := by decide +kernel
theorem d_M_trap_14 : decode c_M_trap 14 = .ok (.putfield 107, 3) := by decide +kernel
theorem d_M_trap_17 : decode c_M_trap 17 = .ok (.aload_n 0, 1) := by decide +kernel
theorem d_M_trap_18 : decode c_M_trap 18 = .ok (.dup, 1) := by decide +kernel
theorem d_M_trap_19 : decode c_M_trap 19 = .ok (.getfield 110, 3) := by decide +kernel
theorem d_M_trap_22 : decode c_M_trap 22 = .ok (.iconst 1, 1) := by decide +kernel
theorem d_M_trap_23 : decode c_M_trap 23 = .ok (.iadd, 1) := by decide +kernel
theorem d_M_trap_24 : decode c_M_trap 24 = .ok (.putfield 110, 3) := by decide +kernel
theorem d_M_trap_27 : decode c_M_trap 27 = .ok (.aload_n 0, 1) := by decide +kernel
theorem d_M_trap_28 : decode c_M_trap 28 = .ok (.getfield 16, 3) := by decide +kernel
theorem d_M_trap_31 : decode c_M_trap 31 = .ok (.bipush 9, 2) := by decide +kernel
theorem d_M_trap_33 : decode c_M_trap 33 = .ok (.baload, 1) := by decide +kernel
theorem d_M_trap_34 : decode c_M_trap 34 = .ok (.ifCond .eq 41, 3) := by decide +kernel
theorem d_M_trap_37 : decode c_M_trap 37 = .ok (.aload_n 0, 1) := by decide +kernel
theorem d_M_trap_38 : decode c_M_trap 38 = .ok (.getfield 13, 3) := by decide +kernel
theorem d_M_trap_41 : decode c_M_trap 41 = .ok (.bipush 9, 2) := by decide +kernel
theorem d_M_trap_43 : decode c_M_trap 43 = .ok (.iaload, 1) := by decide +kernel
theorem d_M_trap_44 : decode c_M_trap 44 = .ok (.invokestatic 57, 3) := by decide +kernel
theorem d_M_trap_47 : decode c_M_trap 47 = .ok (.ifCond .ne 28, 3) := by decide +kernel
theorem d_M_trap_50 : decode c_M_trap 50 = .ok (.aload_n 0, 1) := by decide +kernel
theorem d_M_trap_51 : decode c_M_trap 51 = .ok (.bipush 9, 2) := by decide +kernel
theorem d_M_trap_53 : decode c_M_trap 53 = .ok (.iconst 1, 1) := by decide +kernel
theorem d_M_trap_54 : decode c_M_trap 54 = .ok (.invokevirtual 61, 3) := by decide +kernel
theorem d_M_trap_57 : decode c_M_trap 57 = .ok (.ifCond .eq 18, 3) := by decide +kernel
theorem d_M_trap_60 : decode c_M_trap 60 = .ok (.aload_n 0, 1) := by decide +kernel
theorem d_M_trap_61 : decode c_M_trap 61 = .ok (.bipush 9, 2) := by decide +kernel
theorem d_M_trap_63 : decode c_M_trap 63 = .ok (.invokevirtual 82, 3) := by decide +kernel
theorem d_M_trap_66 : decode c_M_trap 66 = .ok (.aload_n 0, 1) := by decide +kernel
theorem d_M_trap_67 : decode c_M_trap 67 = .ok (.bipush 8, 2) := by decide +kernel
theorem d_M_trap_69 : decode c_M_trap 69 = .ok (.invokevirtual 89, 3) := by decide +kernel
theorem d_M_trap_72 : decode c_M_trap 72 = .ok (.goto 8, 3) := by decide +kernel
theorem d_M_trap_75 : decode c_M_trap 75 = .ok (.aload_n 0, 1) := by decide +kernel
theorem d_M_trap_76 : decode c_M_trap 76 = .ok (.iconst 2, 1) := by decide +kernel
theorem d_M_trap_77 : decode c_M_trap 77 = .ok (.putfield 113, 3) := by decide +kernel
theorem d_M_trap_80 : decode c_M_trap 80 = .ok (.return_, 1) := by decide +kernel
theorem d_M_step_0 : decode c_M_step 0 = .ok (.aload_n 0, 1) := by decide +kernel
theorem d_M_step_1 : decode c_M_step 1 = .ok (.dup, 1) := by decide +kernel
theorem d_M_step_2 : decode c_M_step 2 = .ok (.getfield 116, 3) := by decide +kernel
theorem d_M_step_5 : decode c_M_step 5 = .ok (.iconst 1, 1) := by decide +kernel
theorem d_M_step_6 : decode c_M_step 6 = .ok (.iadd, 1) := by decide +kernel
theorem d_M_step_7 : decode c_M_step 7 = .ok (.putfield 116, 3) := by decide +kernel
theorem d_M_step_10 : decode c_M_step 10 = .ok (.aload_n 0, 1) := by decide +kernel
theorem d_M_step_11 : decode c_M_step 11 = .ok (.bipush 8, 2) := by decide +kernel
theorem d_M_step_13 : decode c_M_step 13 = .ok (.iconst 1, 1) := by decide +kernel
theorem d_M_step_14 : decode c_M_step 14 = .ok (.iconst 4, 1) := by decide +kernel
theorem d_M_step_15 : decode c_M_step 15 = .ok (.aload_n 0, 1) := by decide +kernel
theorem d_M_step_16 : decode c_M_step 16 = .ok (.getfield 7, 3) := by decide +kernel
theorem d_M_step_19 : decode c_M_step 19 = .ok (.bipush 8, 2) := by decide +kernel
theorem d_M_step_21 : decode c_M_step 21 = .ok (.iaload, 1) := by decide +kernel
theorem d_M_step_22 : decode c_M_step 22 = .ok (.invokevirtual 95, 3) := by decide +kernel
theorem d_M_step_25 : decode c_M_step 25 = .ok (.istore_n 1, 1) := by decide +kernel
theorem d_M_step_26 : decode c_M_step 26 = .ok (.iload_n 1, 1) := by decide +kernel
theorem d_M_step_27 : decode c_M_step 27 = .ok (.ifCond .eq 14, 3) := by decide +kernel
theorem d_M_step_30 : decode c_M_step 30 = .ok (.aload_n 0, 1) := by decide +kernel
theorem d_M_step_31 : decode c_M_step 31 = .ok (.bipush 8, 2) := by decide +kernel
theorem d_M_step_33 : decode c_M_step 33 = .ok (.iload_n 1, 1) := by decide +kernel
theorem d_M_step_34 : decode c_M_step 34 = .ok (.invokestatic 99, 3) := by decide +kernel
theorem d_M_step_37 : decode c_M_step 37 = .ok (.invokevirtual 119, 3) := by decide +kernel
theorem d_M_step_40 : decode c_M_step 40 = .ok (.return_, 1) := by decide +kernel
theorem d_M_step_41 : decode c_M_step 41 = .ok (.aload_n 0, 1) := by decide +kernel
theorem d_M_step_42 : decode c_M_step 42 = .ok (.getfield 20, 3) := by decide +kernel
theorem d_M_step_45 : decode c_M_step 45 = .ok (.aload_n 0, 1) := by decide +kernel
theorem d_M_step_46 : decode c_M_step 46 = .ok (.getfield 7, 3) := by decide +kernel
theorem d_M_step_49 : decode c_M_step 49 = .ok (.bipush 8, 2) := by decide +kernel
theorem d_M_step_51 : decode c_M_step 51 = .ok (.iaload, 1) := by decide +kernel
theorem d_M_step_52 : decode c_M_step 52 = .ok (.iconst 4, 1) := by decide +kernel
theorem d_M_step_53 : decode c_M_step 53 = .ok (.idiv, 1) := by decide +kernel
theorem d_M_step_54 : decode c_M_step 54 = .ok (.iaload, 1) := by decide +kernel
theorem d_M_step_55 : decode c_M_step 55 = .ok (.istore_n 2, 1) := by decide +kernel
theorem d_M_step_56 : decode c_M_step 56 = .ok (.iload_n 2, 1) := by decide +kernel
theorem d_M_step_57 : decode c_M_step 57 = .ok (.bipush 31, 2) := by decide +kernel
theorem d_M_step_59 : decode c_M_step 59 = .ok (.iand, 1) := by decide +kernel
theorem d_M_step_60 : decode c_M_step 60 = .ok (.istore_n 3, 1) := by decide +kernel
theorem d_M_step_61 : decode c_M_step 61 = .ok (.iload_n 2, 1) := by decide +kernel
theorem d_M_step_62 : decode c_M_step 62 = .ok (.iconst 5, 1) := by decide +kernel
theorem d_M_step_63 : decode c_M_step 63 = .ok (.ishr, 1) := by decide +kernel
theorem d_M_step_64 : decode c_M_step 64 = .ok (.bipush 7, 2) := by decide +kernel
theorem d_M_step_66 : decode c_M_step 66 = .ok (.iand, 1) := by decide +kernel
theorem d_M_step_67 : decode c_M_step 67 = .ok (.istore 4, 2) := by decide +kernel
theorem d_M_step_69 : decode c_M_step 69 = .ok (.iload_n 2, 1) := by decide +kernel
theorem d_M_step_70 : decode c_M_step 70 = .ok (.bipush 8, 2) := by decide +kernel
theorem d_M_step_72 : decode c_M_step 72 = .ok (.ishr, 1) := by decide +kernel
theorem d_M_step_73 : decode c_M_step 73 = .ok (.bipush 7, 2) := by decide +kernel
theorem d_M_step_75 : decode c_M_step 75 = .ok (.iand, 1) := by decide +kernel
theorem d_M_step_76 : decode c_M_step 76 = .ok (.istore 5, 2) := by decide +kernel
theorem d_M_step_78 : decode c_M_step 78 = .ok (.iload_n 2, 1) := by decide +kernel
theorem d_M_step_79 : decode c_M_step 79 = .ok (.bipush 11, 2) := by decide +kernel
theorem d_M_step_81 : decode c_M_step 81 = .ok (.ishr, 1) := by decide +kernel
theorem d_M_step_82 : decode c_M_step 82 = .ok (.bipush 7, 2) := by decide +kernel
theorem d_M_step_84 : decode c_M_step 84 = .ok (.iand, 1) := by decide +kernel
theorem d_M_step_85 : decode c_M_step 85 = .ok (.istore 6, 2) := by decide +kernel
theorem d_M_step_87 : decode c_M_step 87 = .ok (.iload_n 2, 1) := by decide +kernel
theorem d_M_step_88 : decode c_M_step 88 = .ok (.bipush 14, 2) := by decide +kernel
theorem d_M_step_90 : decode c_M_step 90 = .ok (.ishr, 1) := by decide +kernel
theorem d_M_step_91 : decode c_M_step 91 = .ok (.istore 7, 2) := by decide +kernel
theorem d_M_step_93 : decode c_M_step 93 = .ok (.aload_n 0, 1) := by decide +kernel
theorem d_M_step_94 : decode c_M_step 94 = .ok (.iload_n 3, 1) := by decide +kernel
theorem d_M_step_95 : decode c_M_step 95 = .ok (.iload 5, 2) := by decide +kernel
theorem d_M_step_97 : decode c_M_step 97 = .ok (.iload 6, 2) := by decide +kernel
theorem d_M_step_99 : decode c_M_step 99 = .ok (.iload 7, 2) := by decide +kernel
theorem d_M_step_101 : decode c_M_step 101 = .ok (.invokevirtual 122, 3) := by decide +kernel
theorem d_M_step_104 : decode c_M_step 104 = .ok (.istore 8, 2) := by decide +kernel
theorem d_M_step_106 : decode c_M_step 106 = .ok (.iload 8, 2) := by decide +kernel
theorem d_M_step_108 : decode c_M_step 108 = .ok (.ifCond .eq 10, 3) := by decide +kernel
theorem d_M_step_111 : decode c_M_step 111 = .ok (.aload_n 0, 1) := by decide +kernel
theorem d_M_step_112 : decode c_M_step 112 = .ok (.iload 8, 2) := by decide +kernel
theorem d_M_step_114 : decode c_M_step 114 = .ok (.invokevirtual 119, 3) := by decide +kernel
theorem d_M_step_117 : decode c_M_step 117 = .ok (.return_, 1) := by decide +kernel
theorem d_M_step_118 : decode c_M_step 118 = .ok (.iload_n 3, 1) := by decide +kernel
theorem d_M_step_119 : decode c_M_step 119 = .ok (.ifCond .ne 11, 3) := by decide +kernel
theorem d_M_step_122 : decode c_M_step 122 = .ok (.aload_n 0, 1) := by decide +kernel
theorem d_M_step_123 : decode c_M_step 123 = .ok (.iconst 1, 1) := by decide +kernel
theorem d_M_step_124 : decode c_M_step 124 = .ok (.putfield 113, 3) := by decide +kernel
theorem d_M_step_127 : decode c_M_step 127 = .ok (.goto 134, 3) := by decide +kernel
theorem d_M_step_130 : decode c_M_step 130 = .ok (.iload_n 3, 1) := by decide +kernel
theorem d_M_step_131 : decode c_M_step 131 = .ok (.bipush 11, 2) := by decide +kernel
theorem d_M_step_133 : decode c_M_step 133 = .ok (.if_icmp .ge 41, 3) := by decide +kernel
theorem d_M_step_136 : decode c_M_step 136 = .ok (.aload_n 0, 1) := by decide +kernel
theorem d_M_step_137 : decode c_M_step 137 = .ok (.iload_n 3, 1) := by decide +kernel
theorem d_M_step_138 : decode c_M_step 138 = .ok (.aload_n 0, 1) := by decide +kernel
theorem d_M_step_139 : decode c_M_step 139 = .ok (.getfield 7, 3) := by decide +kernel
theorem d_M_step_142 : decode c_M_step 142 = .ok (.iload 5, 2) := by decide +kernel
theorem d_M_step_144 : decode c_M_step 144 = .ok (.iaload, 1) := by decide +kernel
theorem d_M_step_145 : decode c_M_step 145 = .ok (.aload_n 0, 1) := by decide +kernel
theorem d_M_step_146 : decode c_M_step 146 = .ok (.getfield 7, 3) := by decide +kernel
theorem d_M_step_149 : decode c_M_step 149 = .ok (.iload 6, 2) := by decide +kernel
theorem d_M_step_151 : decode c_M_step 151 = .ok (.iaload, 1) := by decide +kernel
theorem d_M_step_152 : decode c_M_step 152 = .ok (.iload 7, 2) := by decide +kernel
theorem d_M_step_154 : decode c_M_step 154 = .ok (.invokestatic 125, 3) := by decide +kernel
theorem d_M_step_157 : decode c_M_step 157 = .ok (.invokevirtual 128, 3) := by decide +kernel
theorem d_M_step_160 : decode c_M_step 160 = .ok (.aload_n 0, 1) := by decide +kernel
theorem d_M_step_161 : decode c_M_step 161 = .ok (.iload 4, 2) := by decide +kernel
theorem d_M_step_163 : decode c_M_step 163 = .ok (.invokevirtual 89, 3) := by decide +kernel
theorem d_M_step_166 : decode c_M_step 166 = .ok (.aload_n 0, 1) := by decide +kernel
theorem d_M_step_167 : decode c_M_step 167 = .ok (.iconst 4, 1) := by decide +kernel
theorem d_M_step_168 : decode c_M_step 168 = .ok (.invokevirtual 131, 3) := by decide +kernel
theorem d_M_step_171 : decode c_M_step 171 = .ok (.goto 90, 3) := by decide +kernel
theorem d_M_step_174 : decode c_M_step 174 = .ok (.iload_n 3, 1) := by decide +kernel
theorem d_M_step_175 : decode c_M_step 175 = .ok (.bipush 15, 2) := by decide +kernel
theorem d_M_step_177 : decode c_M_step 177 = .ok (.if_icmp .ge 24, 3) := by decide +kernel
theorem d_M_step_180 : decode c_M_step 180 = .ok (.aload_n 0, 1) := by decide +kernel
theorem d_M_step_181 : decode c_M_step 181 = .ok (.iload_n 3, 1) := by decide +kernel
theorem d_M_step_182 : decode c_M_step 182 = .ok (.iload 4, 2) := by decide +kernel
theorem d_M_step_184 : decode c_M_step 184 = .ok (.iload 5, 2) := by decide +kernel
theorem d_M_step_186 : decode c_M_step 186 = .ok (.iload 6, 2) := by decide +kernel
theorem d_M_step_188 : decode c_M_step 188 = .ok (.iload 7, 2) := by decide +kernel
theorem d_M_step_190 : decode c_M_step 190 = .ok (.invokevirtual 134, 3) := by decide +kernel
theorem d_M_step_193 : decode c_M_step 193 = .ok (.aload_n 0, 1) := by decide +kernel
theorem d_M_step_194 : decode c_M_step 194 = .ok (.iconst 4, 1) := by decide +kernel
theorem d_M_step_195 : decode c_M_step 195 = .ok (.invokevirtual 131, 3) := by decide +kernel
theorem d_M_step_198 : decode c_M_step 198 = .ok (.goto 63, 3) := by decide +kernel
theorem d_M_step_201 : decode c_M_step 201 = .ok (.iload_n 3, 1) := by decide +kernel
theorem d_M_step_202 : decode c_M_step 202 = .ok (.bipush 19, 2) := by decide +kernel
theorem d_M_step_204 : decode c_M_step 204 = .ok (.if_icmp .ge 19, 3) := by decide +kernel
theorem d_M_step_207 : decode c_M_step 207 = .ok (.aload_n 0, 1) := by decide +kernel
theorem d_M_step_208 : decode c_M_step 208 = .ok (.iload_n 3, 1) := by decide +kernel
theorem d_M_step_209 : decode c_M_step 209 = .ok (.iload 4, 2) := by decide +kernel
theorem d_M_step_211 : decode c_M_step 211 = .ok (.iload 5, 2) := by decide +kernel
theorem d_M_step_213 : decode c_M_step 213 = .ok (.iload 6, 2) := by decide +kernel
theorem d_M_step_215 : decode c_M_step 215 = .ok (.iload 7, 2) := by decide +kernel
theorem d_M_step_217 : decode c_M_step 217 = .ok (.invokevirtual 138, 3) := by decide +kernel
theorem d_M_step_220 : decode c_M_step 220 = .ok (.goto 41, 3) := by decide +kernel
theorem d_M_step_223 : decode c_M_step 223 = .ok (.iload_n 3, 1) := by decide +kernel
theorem d_M_step_224 : decode c_M_step 224 = .ok (.bipush 29, 2) := by decide +kernel
theorem d_M_step_226 : decode c_M_step 226 = .ok (.if_icmp .ge 24, 3) := by decide +kernel
theorem d_M_step_229 : decode c_M_step 229 = .ok (.aload_n 0, 1) := by decide +kernel
theorem d_M_step_230 : decode c_M_step 230 = .ok (.iload_n 3, 1) := by decide +kernel
theorem d_M_step_231 : decode c_M_step 231 = .ok (.iload 4, 2) := by decide +kernel
theorem d_M_step_233 : decode c_M_step 233 = .ok (.iload 5, 2) := by decide +kernel
theorem d_M_step_235 : decode c_M_step 235 = .ok (.iload 6, 2) := by decide +kernel
theorem d_M_step_237 : decode c_M_step 237 = .ok (.iload 7, 2) := by decide +kernel
theorem d_M_step_239 : decode c_M_step 239 = .ok (.invokevirtual 141, 3) := by decide +kernel
theorem d_M_step_242 : decode c_M_step 242 = .ok (.aload_n 0, 1) := by decide +kernel
theorem d_M_step_243 : decode c_M_step 243 = .ok (.iconst 4, 1) := by decide +kernel
theorem d_M_step_244 : decode c_M_step 244 = .ok (.invokevirtual 131, 3) := by decide +kernel
theorem d_M_step_247 : decode c_M_step 247 = .ok (.goto 14, 3) := by decide +kernel
theorem d_M_step_250 : decode c_M_step 250 = .ok (.aload_n 0, 1) := by decide +kernel
theorem d_M_step_251 : decode c_M_step 251 = .ok (.iload_n 3, 1) := by decide +kernel
theorem d_M_step_252 : decode c_M_step 252 = .ok (.iload 4, 2) := by decide +kernel
theorem d_M_step_254 : decode c_M_step 254 = .ok (.iload 5, 2) := by decide +kernel
theorem d_M_step_256 : decode c_M_step 256 = .ok (.iload 7, 2) := by decide +kernel
theorem d_M_step_258 : decode c_M_step 258 = .ok (.invokevirtual 144, 3) := by decide +kernel
theorem d_M_step_261 : decode c_M_step 261 = .ok (.return_, 1) := by decide +kernel
theorem d_M_reckoned_0 : decode c_M_reckoned 0 = .ok (.iload_n 0, 1) := by decide +kernel
theorem d_M_reckoned_1 : decode c_M_reckoned 1 = .ok (.tableswitch 100 1 9 #[51, 55, 59, 63, 67, 71, 75, 82, 89], 51) := by decide +kernel
theorem d_M_reckoned_52 : decode c_M_reckoned 52 = .ok (.iload_n 1, 1) := by decide +kernel
theorem d_M_reckoned_53 : decode c_M_reckoned 53 = .ok (.iload_n 3, 1) := by decide +kernel
theorem d_M_reckoned_54 : decode c_M_reckoned 54 = .ok (.iadd, 1) := by decide +kernel
theorem d_M_reckoned_55 : decode c_M_reckoned 55 = .ok (.ireturn, 1) := by decide +kernel
theorem d_M_reckoned_56 : decode c_M_reckoned 56 = .ok (.iload_n 1, 1) := by decide +kernel
theorem d_M_reckoned_57 : decode c_M_reckoned 57 = .ok (.iload_n 2, 1) := by decide +kernel
theorem d_M_reckoned_58 : decode c_M_reckoned 58 = .ok (.iadd, 1) := by decide +kernel
theorem d_M_reckoned_59 : decode c_M_reckoned 59 = .ok (.ireturn, 1) := by decide +kernel
theorem d_M_reckoned_60 : decode c_M_reckoned 60 = .ok (.iload_n 1, 1) := by decide +kernel
theorem d_M_reckoned_61 : decode c_M_reckoned 61 = .ok (.iload_n 2, 1) := by decide +kernel
theorem d_M_reckoned_62 : decode c_M_reckoned 62 = .ok (.isub, 1) := by decide +kernel
theorem d_M_reckoned_63 : decode c_M_reckoned 63 = .ok (.ireturn, 1) := by decide +kernel
theorem d_M_reckoned_64 : decode c_M_reckoned 64 = .ok (.iload_n 1, 1) := by decide +kernel
theorem d_M_reckoned_65 : decode c_M_reckoned 65 = .ok (.iload_n 2, 1) := by decide +kernel
theorem d_M_reckoned_66 : decode c_M_reckoned 66 = .ok (.iand, 1) := by decide +kernel
theorem d_M_reckoned_67 : decode c_M_reckoned 67 = .ok (.ireturn, 1) := by decide +kernel
theorem d_M_reckoned_68 : decode c_M_reckoned 68 = .ok (.iload_n 1, 1) := by decide +kernel
theorem d_M_reckoned_69 : decode c_M_reckoned 69 = .ok (.iload_n 2, 1) := by decide +kernel
theorem d_M_reckoned_70 : decode c_M_reckoned 70 = .ok (.ior, 1) := by decide +kernel
