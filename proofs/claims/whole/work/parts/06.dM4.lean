theorem d_M_reckoned_71 : decode c_M_reckoned 71 = .ok (.ireturn, 1) := by decide +kernel
theorem d_M_reckoned_72 : decode c_M_reckoned 72 = .ok (.iload_n 1, 1) := by decide +kernel
theorem d_M_reckoned_73 : decode c_M_reckoned 73 = .ok (.iload_n 2, 1) := by decide +kernel
theorem d_M_reckoned_74 : decode c_M_reckoned 74 = .ok (.ixor, 1) := by decide +kernel
theorem d_M_reckoned_75 : decode c_M_reckoned 75 = .ok (.ireturn, 1) := by decide +kernel
theorem d_M_reckoned_76 : decode c_M_reckoned 76 = .ok (.iload_n 1, 1) := by decide +kernel
theorem d_M_reckoned_77 : decode c_M_reckoned 77 = .ok (.iload_n 2, 1) := by decide +kernel
theorem d_M_reckoned_78 : decode c_M_reckoned 78 = .ok (.bipush 31, 2) := by decide +kernel
theorem d_M_reckoned_80 : decode c_M_reckoned 80 = .ok (.iand, 1) := by decide +kernel
theorem d_M_reckoned_81 : decode c_M_reckoned 81 = .ok (.ishl, 1) := by decide +kernel
theorem d_M_reckoned_82 : decode c_M_reckoned 82 = .ok (.ireturn, 1) := by decide +kernel
theorem d_M_reckoned_83 : decode c_M_reckoned 83 = .ok (.iload_n 1, 1) := by decide +kernel
theorem d_M_reckoned_84 : decode c_M_reckoned 84 = .ok (.iload_n 2, 1) := by decide +kernel
theorem d_M_reckoned_85 : decode c_M_reckoned 85 = .ok (.bipush 31, 2) := by decide +kernel
theorem d_M_reckoned_87 : decode c_M_reckoned 87 = .ok (.iand, 1) := by decide +kernel
theorem d_M_reckoned_88 : decode c_M_reckoned 88 = .ok (.iushr, 1) := by decide +kernel
theorem d_M_reckoned_89 : decode c_M_reckoned 89 = .ok (.ireturn, 1) := by decide +kernel
theorem d_M_reckoned_90 : decode c_M_reckoned 90 = .ok (.iload_n 1, 1) := by decide +kernel
theorem d_M_reckoned_91 : decode c_M_reckoned 91 = .ok (.iload_n 2, 1) := by decide +kernel
theorem d_M_reckoned_92 : decode c_M_reckoned 92 = .ok (.if_icmp .ge 7, 3) := by decide +kernel
theorem d_M_reckoned_95 : decode c_M_reckoned 95 = .ok (.iconst 1, 1) := by decide +kernel
theorem d_M_reckoned_96 : decode c_M_reckoned 96 = .ok (.goto 4, 3) := by decide +kernel
theorem d_M_reckoned_99 : decode c_M_reckoned 99 = .ok (.iconst 0, 1) := by decide +kernel
theorem d_M_reckoned_100 : decode c_M_reckoned 100 = .ok (.ireturn, 1) := by decide +kernel
theorem d_M_reckoned_101 : decode c_M_reckoned 101 = .ok (.iload_n 3, 1) := by decide +kernel
theorem d_M_reckoned_102 : decode c_M_reckoned 102 = .ok (.sipush 16384, 3) := by decide +kernel
theorem d_M_reckoned_105 : decode c_M_reckoned 105 = .ok (.imul, 1) := by decide +kernel
theorem d_M_reckoned_106 : decode c_M_reckoned 106 = .ok (.ireturn, 1) := by decide +kernel
theorem d_M_access_0 : decode c_M_access 0 = .ok (.aload_n 0, 1) := by decide +kernel
theorem d_M_access_1 : decode c_M_access 1 = .ok (.getfield 7, 3) := by decide +kernel
theorem d_M_access_4 : decode c_M_access 4 = .ok (.iload_n 3, 1) := by decide +kernel
theorem d_M_access_5 : decode c_M_access 5 = .ok (.iaload, 1) := by decide +kernel
theorem d_M_access_6 : decode c_M_access 6 = .ok (.iload 5, 2) := by decide +kernel
theorem d_M_access_8 : decode c_M_access 8 = .ok (.iadd, 1) := by decide +kernel
theorem d_M_access_9 : decode c_M_access 9 = .ok (.istore 6, 2) := by decide +kernel
theorem d_M_access_11 : decode c_M_access 11 = .ok (.iload_n 1, 1) := by decide +kernel
theorem d_M_access_12 : decode c_M_access 12 = .ok (.bipush 11, 2) := by decide +kernel
theorem d_M_access_14 : decode c_M_access 14 = .ok (.if_icmp .ne 24, 3) := by decide +kernel
theorem d_M_access_17 : decode c_M_access 17 = .ok (.aload_n 0, 1) := by decide +kernel
theorem d_M_access_18 : decode c_M_access 18 = .ok (.aload_n 0, 1) := by decide +kernel
theorem d_M_access_19 : decode c_M_access 19 = .ok (.getfield 20, 3) := by decide +kernel
theorem d_M_access_22 : decode c_M_access 22 = .ok (.iload 6, 2) := by decide +kernel
theorem d_M_access_24 : decode c_M_access 24 = .ok (.iconst 4, 1) := by decide +kernel
theorem d_M_access_25 : decode c_M_access 25 = .ok (.idiv, 1) := by decide +kernel
theorem d_M_access_26 : decode c_M_access 26 = .ok (.iaload, 1) := by decide +kernel
theorem d_M_access_27 : decode c_M_access 27 = .ok (.invokevirtual 128, 3) := by decide +kernel
theorem d_M_access_30 : decode c_M_access 30 = .ok (.aload_n 0, 1) := by decide +kernel
theorem d_M_access_31 : decode c_M_access 31 = .ok (.iload_n 2, 1) := by decide +kernel
theorem d_M_access_32 : decode c_M_access 32 = .ok (.invokevirtual 89, 3) := by decide +kernel
theorem d_M_access_35 : decode c_M_access 35 = .ok (.goto 164, 3) := by decide +kernel
theorem d_M_access_38 : decode c_M_access 38 = .ok (.iload_n 1, 1) := by decide +kernel
theorem d_M_access_39 : decode c_M_access 39 = .ok (.bipush 12, 2) := by decide +kernel
theorem d_M_access_41 : decode c_M_access 41 = .ok (.if_icmp .ne 33, 3) := by decide +kernel
theorem d_M_access_44 : decode c_M_access 44 = .ok (.aload_n 0, 1) := by decide +kernel
theorem d_M_access_45 : decode c_M_access 45 = .ok (.getfield 20, 3) := by decide +kernel
theorem d_M_access_48 : decode c_M_access 48 = .ok (.iload 6, 2) := by decide +kernel
theorem d_M_access_50 : decode c_M_access 50 = .ok (.iconst 4, 1) := by decide +kernel
theorem d_M_access_51 : decode c_M_access 51 = .ok (.idiv, 1) := by decide +kernel
theorem d_M_access_52 : decode c_M_access 52 = .ok (.aload_n 0, 1) := by decide +kernel
theorem d_M_access_53 : decode c_M_access 53 = .ok (.getfield 7, 3) := by decide +kernel
theorem d_M_access_56 : decode c_M_access 56 = .ok (.iload 4, 2) := by decide +kernel
theorem d_M_access_58 : decode c_M_access 58 = .ok (.iaload, 1) := by decide +kernel
theorem d_M_access_59 : decode c_M_access 59 = .ok (.iastore, 1) := by decide +kernel
theorem d_M_access_60 : decode c_M_access 60 = .ok (.aload_n 0, 1) := by decide +kernel
theorem d_M_access_61 : decode c_M_access 61 = .ok (.getfield 23, 3) := by decide +kernel
theorem d_M_access_64 : decode c_M_access 64 = .ok (.iload 6, 2) := by decide +kernel
theorem d_M_access_66 : decode c_M_access 66 = .ok (.bipush 8, 2) := by decide +kernel
theorem d_M_access_68 : decode c_M_access 68 = .ok (.idiv, 1) := by decide +kernel
theorem d_M_access_69 : decode c_M_access 69 = .ok (.iconst 0, 1) := by decide +kernel
theorem d_M_access_70 : decode c_M_access 70 = .ok (.bastore, 1) := by decide +kernel
theorem d_M_access_71 : decode c_M_access 71 = .ok (.goto 128, 3) := by decide +kernel
theorem d_M_access_74 : decode c_M_access 74 = .ok (.iload_n 1, 1) := by decide +kernel
theorem d_M_access_75 : decode c_M_access 75 = .ok (.bipush 13, 2) := by decide +kernel
theorem d_M_access_77 : decode c_M_access 77 = .ok (.if_icmp .ne 71, 3) := by decide +kernel
theorem d_M_access_80 : decode c_M_access 80 = .ok (.aload_n 0, 1) := by decide +kernel
theorem d_M_access_81 : decode c_M_access 81 = .ok (.aload_n 0, 1) := by decide +kernel
theorem d_M_access_82 : decode c_M_access 82 = .ok (.getfield 20, 3) := by decide +kernel
theorem d_M_access_85 : decode c_M_access 85 = .ok (.iload 6, 2) := by decide +kernel
theorem d_M_access_87 : decode c_M_access 87 = .ok (.iconst 4, 1) := by decide +kernel
theorem d_M_access_88 : decode c_M_access 88 = .ok (.idiv, 1) := by decide +kernel
theorem d_M_access_89 : decode c_M_access 89 = .ok (.iaload, 1) := by decide +kernel
theorem d_M_access_90 : decode c_M_access 90 = .ok (.putfield 71, 3) := by decide +kernel
theorem d_M_access_93 : decode c_M_access 93 = .ok (.aload_n 0, 1) := by decide +kernel
theorem d_M_access_94 : decode c_M_access 94 = .ok (.aload_n 0, 1) := by decide +kernel
theorem d_M_access_95 : decode c_M_access 95 = .ok (.getfield 20, 3) := by decide +kernel
theorem d_M_access_98 : decode c_M_access 98 = .ok (.iload 6, 2) := by decide +kernel
theorem d_M_access_100 : decode c_M_access 100 = .ok (.iconst 4, 1) := by decide +kernel
theorem d_M_access_101 : decode c_M_access 101 = .ok (.idiv, 1) := by decide +kernel
theorem d_M_access_102 : decode c_M_access 102 = .ok (.iconst 1, 1) := by decide +kernel
theorem d_M_access_103 : decode c_M_access 103 = .ok (.iadd, 1) := by decide +kernel
theorem d_M_access_104 : decode c_M_access 104 = .ok (.iaload, 1) := by decide +kernel
theorem d_M_access_105 : decode c_M_access 105 = .ok (.putfield 75, 3) := by decide +kernel
theorem d_M_access_108 : decode c_M_access 108 = .ok (.aload_n 0, 1) := by decide +kernel
theorem d_M_access_109 : decode c_M_access 109 = .ok (.aload_n 0, 1) := by decide +kernel
theorem d_M_access_110 : decode c_M_access 110 = .ok (.getfield 23, 3) := by decide +kernel
theorem d_M_access_113 : decode c_M_access 113 = .ok (.iload 6, 2) := by decide +kernel
theorem d_M_access_115 : decode c_M_access 115 = .ok (.bipush 8, 2) := by decide +kernel
theorem d_M_access_117 : decode c_M_access 117 = .ok (.idiv, 1) := by decide +kernel
theorem d_M_access_118 : decode c_M_access 118 = .ok (.baload, 1) := by decide +kernel
theorem d_M_access_119 : decode c_M_access 119 = .ok (.ifCond .eq 17, 3) := by decide +kernel
theorem d_M_access_122 : decode c_M_access 122 = .ok (.aload_n 0, 1) := by decide +kernel
theorem d_M_access_123 : decode c_M_access 123 = .ok (.iload_n 3, 1) := by decide +kernel
theorem d_M_access_124 : decode c_M_access 124 = .ok (.bipush 8, 2) := by decide +kernel
theorem d_M_access_126 : decode c_M_access 126 = .ok (.invokevirtual 61, 3) := by decide +kernel
theorem d_M_access_129 : decode c_M_access 129 = .ok (.ifCond .eq 7, 3) := by decide +kernel
theorem d_M_access_132 : decode c_M_access 132 = .ok (.iconst 1, 1) := by decide +kernel
theorem d_M_access_133 : decode c_M_access 133 = .ok (.goto 4, 3) := by decide +kernel
theorem d_M_access_136 : decode c_M_access 136 = .ok (.iconst 0, 1) := by decide +kernel
theorem d_M_access_137 : decode c_M_access 137 = .ok (.putfield 78, 3) := by decide +kernel
theorem d_M_access_140 : decode c_M_access 140 = .ok (.aload_n 0, 1) := by decide +kernel
theorem d_M_access_141 : decode c_M_access 141 = .ok (.iload_n 2, 1) := by decide +kernel
theorem d_M_access_142 : decode c_M_access 142 = .ok (.invokevirtual 89, 3) := by decide +kernel
theorem d_M_access_145 : decode c_M_access 145 = .ok (.goto 54, 3) := by decide +kernel
theorem d_M_access_148 : decode c_M_access 148 = .ok (.aload_n 0, 1) := by decide +kernel
theorem d_M_access_149 : decode c_M_access 149 = .ok (.getfield 20, 3) := by decide +kernel
theorem d_M_access_152 : decode c_M_access 152 = .ok (.iload 6, 2) := by decide +kernel
theorem d_M_access_154 : decode c_M_access 154 = .ok (.iconst 4, 1) := by decide +kernel
theorem d_M_access_155 : decode c_M_access 155 = .ok (.idiv, 1) := by decide +kernel
theorem d_M_access_156 : decode c_M_access 156 = .ok (.aload_n 0, 1) := by decide +kernel
theorem d_M_access_157 : decode c_M_access 157 = .ok (.getfield 7, 3) := by decide +kernel
theorem d_M_access_160 : decode c_M_access 160 = .ok (.iload 4, 2) := by decide +kernel
theorem d_M_access_162 : decode c_M_access 162 = .ok (.iaload, 1) := by decide +kernel
theorem d_M_access_163 : decode c_M_access 163 = .ok (.iastore, 1) := by decide +kernel
theorem d_M_access_164 : decode c_M_access 164 = .ok (.aload_n 0, 1) := by decide +kernel
theorem d_M_access_165 : decode c_M_access 165 = .ok (.getfield 20, 3) := by decide +kernel
theorem d_M_access_168 : decode c_M_access 168 = .ok (.iload 6, 2) := by decide +kernel
theorem d_M_access_170 : decode c_M_access 170 = .ok (.iconst 4, 1) := by decide +kernel
theorem d_M_access_171 : decode c_M_access 171 = .ok (.idiv, 1) := by decide +kernel
theorem d_M_access_172 : decode c_M_access 172 = .ok (.iconst 1, 1) := by decide +kernel
theorem d_M_access_173 : decode c_M_access 173 = .ok (.iadd, 1) := by decide +kernel
theorem d_M_access_174 : decode c_M_access 174 = .ok (.aload_n 0, 1) := by decide +kernel
theorem d_M_access_175 : decode c_M_access 175 = .ok (.getfield 13, 3) := by decide +kernel
theorem d_M_access_178 : decode c_M_access 178 = .ok (.iload 4, 2) := by decide +kernel
theorem d_M_access_180 : decode c_M_access 180 = .ok (.iaload, 1) := by decide +kernel
theorem d_M_access_181 : decode c_M_access 181 = .ok (.iastore, 1) := by decide +kernel
theorem d_M_access_182 : decode c_M_access 182 = .ok (.aload_n 0, 1) := by decide +kernel
theorem d_M_access_183 : decode c_M_access 183 = .ok (.getfield 23, 3) := by decide +kernel
theorem d_M_access_186 : decode c_M_access 186 = .ok (.iload 6, 2) := by decide +kernel
theorem d_M_access_188 : decode c_M_access 188 = .ok (.bipush 8, 2) := by decide +kernel
theorem d_M_access_190 : decode c_M_access 190 = .ok (.idiv, 1) := by decide +kernel
theorem d_M_access_191 : decode c_M_access 191 = .ok (.aload_n 0, 1) := by decide +kernel
theorem d_M_access_192 : decode c_M_access 192 = .ok (.getfield 16, 3) := by decide +kernel
theorem d_M_access_195 : decode c_M_access 195 = .ok (.iload 4, 2) := by decide +kernel
theorem d_M_access_197 : decode c_M_access 197 = .ok (.baload, 1) := by decide +kernel
theorem d_M_access_198 : decode c_M_access 198 = .ok (.bastore, 1) := by decide +kernel
theorem d_M_access_199 : decode c_M_access 199 = .ok (.return_, 1) := by decide +kernel
theorem d_M_turn_0 : decode c_M_turn 0 = .ok (.iload_n 1, 1) := by decide +kernel
theorem d_M_turn_1 : decode c_M_turn 1 = .ok (.bipush 15, 2) := by decide +kernel
theorem d_M_turn_3 : decode c_M_turn 3 = .ok (.if_icmp .eq 9, 3) := by decide +kernel
theorem d_M_turn_6 : decode c_M_turn 6 = .ok (.iload_n 1, 1) := by decide +kernel
theorem d_M_turn_7 : decode c_M_turn 7 = .ok (.bipush 16, 2) := by decide +kernel
theorem d_M_turn_9 : decode c_M_turn 9 = .ok (.if_icmp .ne 74, 3) := by decide +kernel
theorem d_M_turn_12 : decode c_M_turn 12 = .ok (.iload_n 1, 1) := by decide +kernel
theorem d_M_turn_13 : decode c_M_turn 13 = .ok (.bipush 15, 2) := by decide +kernel
theorem d_M_turn_15 : decode c_M_turn 15 = .ok (.if_icmp .ne 27, 3) := by decide +kernel
theorem d_M_turn_18 : decode c_M_turn 18 = .ok (.aload_n 0, 1) := by decide +kernel
theorem d_M_turn_19 : decode c_M_turn 19 = .ok (.getfield 7, 3) := by decide +kernel
theorem d_M_turn_22 : decode c_M_turn 22 = .ok (.iload_n 3, 1) := by decide +kernel
theorem d_M_turn_23 : decode c_M_turn 23 = .ok (.iaload, 1) := by decide +kernel
theorem d_M_turn_24 : decode c_M_turn 24 = .ok (.aload_n 0, 1) := by decide +kernel
theorem d_M_turn_25 : decode c_M_turn 25 = .ok (.getfield 7, 3) := by decide +kernel
theorem d_M_turn_28 : decode c_M_turn 28 = .ok (.iload 4, 2) := by decide +kernel
theorem d_M_turn_30 : decode c_M_turn 30 = .ok (.iaload, 1) := by decide +kernel
theorem d_M_turn_31 : decode c_M_turn 31 = .ok (.if_icmp .ne 7, 3) := by decide +kernel
theorem d_M_turn_34 : decode c_M_turn 34 = .ok (.iconst 1, 1) := by decide +kernel
theorem d_M_turn_35 : decode c_M_turn 35 = .ok (.goto 28, 3) := by decide +kernel
theorem d_M_turn_38 : decode c_M_turn 38 = .ok (.iconst 0, 1) := by decide +kernel
theorem d_M_turn_39 : decode c_M_turn 39 = .ok (.goto 24, 3) := by decide +kernel
theorem d_M_turn_42 : decode c_M_turn 42 = .ok (.aload_n 0, 1) := by decide +kernel
theorem d_M_turn_43 : decode c_M_turn 43 = .ok (.getfield 7, 3) := by decide +kernel
theorem d_M_turn_46 : decode c_M_turn 46 = .ok (.iload_n 3, 1) := by decide +kernel
theorem d_M_turn_47 : decode c_M_turn 47 = .ok (.iaload, 1) := by decide +kernel
theorem d_M_turn_48 : decode c_M_turn 48 = .ok (.aload_n 0, 1) := by decide +kernel
theorem d_M_turn_49 : decode c_M_turn 49 = .ok (.getfield 7, 3) := by decide +kernel
theorem d_M_turn_52 : decode c_M_turn 52 = .ok (.iload 4, 2) := by decide +kernel
theorem d_M_turn_54 : decode c_M_turn 54 = .ok (.iaload, 1) := by decide +kernel
theorem d_M_turn_55 : decode c_M_turn 55 = .ok (.if_icmp .ge 7, 3) := by decide +kernel
theorem d_M_turn_58 : decode c_M_turn 58 = .ok (.iconst 1, 1) := by decide +kernel
theorem d_M_turn_59 : decode c_M_turn 59 = .ok (.goto 4, 3) := by decide +kernel
theorem d_M_turn_62 : decode c_M_turn 62 = .ok (.iconst 0, 1) := by decide +kernel
theorem d_M_turn_63 : decode c_M_turn 63 = .ok (.istore 6, 2) := by decide +kernel
theorem d_M_turn_65 : decode c_M_turn 65 = .ok (.aload_n 0, 1) := by decide +kernel
theorem d_M_turn_66 : decode c_M_turn 66 = .ok (.iload 6, 2) := by decide +kernel
theorem d_M_turn_68 : decode c_M_turn 68 = .ok (.ifCond .eq 10, 3) := by decide +kernel
theorem d_M_turn_71 : decode c_M_turn 71 = .ok (.iconst 4, 1) := by decide +kernel
theorem d_M_turn_72 : decode c_M_turn 72 = .ok (.iload 5, 2) := by decide +kernel
theorem d_M_turn_74 : decode c_M_turn 74 = .ok (.imul, 1) := by decide +kernel
theorem d_M_turn_75 : decode c_M_turn 75 = .ok (.goto 4, 3) := by decide +kernel
theorem d_M_turn_78 : decode c_M_turn 78 = .ok (.iconst 4, 1) := by decide +kernel
theorem d_M_turn_79 : decode c_M_turn 79 = .ok (.invokevirtual 131, 3) := by decide +kernel
theorem d_M_turn_82 : decode c_M_turn 82 = .ok (.return_, 1) := by decide +kernel
theorem d_M_turn_83 : decode c_M_turn 83 = .ok (.iload_n 1, 1) := by decide +kernel
theorem d_M_turn_84 : decode c_M_turn 84 = .ok (.bipush 17, 2) := by decide +kernel
theorem d_M_turn_86 : decode c_M_turn 86 = .ok (.if_icmp .ne 21, 3) := by decide +kernel
theorem d_M_turn_89 : decode c_M_turn 89 = .ok (.aload_n 0, 1) := by decide +kernel
theorem d_M_turn_90 : decode c_M_turn 90 = .ok (.invokevirtual 148, 3) := by decide +kernel
theorem d_M_turn_93 : decode c_M_turn 93 = .ok (.aload_n 0, 1) := by decide +kernel
theorem d_M_turn_94 : decode c_M_turn 94 = .ok (.iload_n 2, 1) := by decide +kernel
theorem d_M_turn_95 : decode c_M_turn 95 = .ok (.invokevirtual 89, 3) := by decide +kernel
theorem d_M_turn_98 : decode c_M_turn 98 = .ok (.aload_n 0, 1) := by decide +kernel
theorem d_M_turn_99 : decode c_M_turn 99 = .ok (.iconst 4, 1) := by decide +kernel
theorem d_M_turn_100 : decode c_M_turn 100 = .ok (.iload 5, 2) := by decide +kernel
theorem d_M_turn_102 : decode c_M_turn 102 = .ok (.imul, 1) := by decide +kernel
theorem d_M_turn_103 : decode c_M_turn 103 = .ok (.invokevirtual 131, 3) := by decide +kernel
theorem d_M_turn_106 : decode c_M_turn 106 = .ok (.return_, 1) := by decide +kernel
theorem d_M_turn_107 : decode c_M_turn 107 = .ok (.aload_n 0, 1) := by decide +kernel
theorem d_M_turn_108 : decode c_M_turn 108 = .ok (.getfield 7, 3) := by decide +kernel
theorem d_M_turn_111 : decode c_M_turn 111 = .ok (.iload_n 3, 1) := by decide +kernel
theorem d_M_turn_112 : decode c_M_turn 112 = .ok (.iaload, 1) := by decide +kernel
theorem d_M_turn_113 : decode c_M_turn 113 = .ok (.istore 6, 2) := by decide +kernel
theorem d_M_turn_115 : decode c_M_turn 115 = .ok (.aload_n 0, 1) := by decide +kernel
theorem d_M_turn_116 : decode c_M_turn 116 = .ok (.getfield 13, 3) := by decide +kernel
theorem d_M_turn_119 : decode c_M_turn 119 = .ok (.iload_n 3, 1) := by decide +kernel
theorem d_M_turn_120 : decode c_M_turn 120 = .ok (.iaload, 1) := by decide +kernel
theorem d_M_turn_121 : decode c_M_turn 121 = .ok (.istore 7, 2) := by decide +kernel
theorem d_M_turn_123 : decode c_M_turn 123 = .ok (.aload_n 0, 1) := by decide +kernel
theorem d_M_turn_124 : decode c_M_turn 124 = .ok (.invokevirtual 148, 3) := by decide +kernel
theorem d_M_turn_127 : decode c_M_turn 127 = .ok (.aload_n 0, 1) := by decide +kernel
theorem d_M_turn_128 : decode c_M_turn 128 = .ok (.iload_n 2, 1) := by decide +kernel
theorem d_M_turn_129 : decode c_M_turn 129 = .ok (.invokevirtual 89, 3) := by decide +kernel
theorem d_M_turn_132 : decode c_M_turn 132 = .ok (.aload_n 0, 1) := by decide +kernel
theorem d_M_turn_133 : decode c_M_turn 133 = .ok (.iload 6, 2) := by decide +kernel
theorem d_M_turn_135 : decode c_M_turn 135 = .ok (.putfield 71, 3) := by decide +kernel
theorem d_M_turn_138 : decode c_M_turn 138 = .ok (.aload_n 0, 1) := by decide +kernel
theorem d_M_turn_139 : decode c_M_turn 139 = .ok (.iload 7, 2) := by decide +kernel
theorem d_M_turn_141 : decode c_M_turn 141 = .ok (.iconst 0, 1) := by decide +kernel
theorem d_M_turn_142 : decode c_M_turn 142 = .ok (.invokevirtual 92, 3) := by decide +kernel
theorem d_M_turn_145 : decode c_M_turn 145 = .ok (.aload_n 0, 1) := by decide +kernel
theorem d_M_turn_146 : decode c_M_turn 146 = .ok (.iconst 1, 1) := by decide +kernel
theorem d_M_turn_147 : decode c_M_turn 147 = .ok (.putfield 78, 3) := by decide +kernel
theorem d_M_turn_150 : decode c_M_turn 150 = .ok (.aload_n 0, 1) := by decide +kernel
theorem d_M_turn_151 : decode c_M_turn 151 = .ok (.bipush 8, 2) := by decide +kernel
theorem d_M_turn_153 : decode c_M_turn 153 = .ok (.invokevirtual 89, 3) := by decide +kernel
theorem d_M_turn_156 : decode c_M_turn 156 = .ok (.return_, 1) := by decide +kernel
theorem d_M_shape_0 : decode c_M_shape 0 = .ok (.aload_n 0, 1) := by decide +kernel
theorem d_M_shape_1 : decode c_M_shape 1 = .ok (.getfield 7, 3) := by decide +kernel
theorem d_M_shape_4 : decode c_M_shape 4 = .ok (.iload_n 3, 1) := by decide +kernel
theorem d_M_shape_5 : decode c_M_shape 5 = .ok (.iaload, 1) := by decide +kernel
theorem d_M_shape_6 : decode c_M_shape 6 = .ok (.istore 6, 2) := by decide +kernel
theorem d_M_shape_8 : decode c_M_shape 8 = .ok (.aload_n 0, 1) := by decide +kernel
theorem d_M_shape_9 : decode c_M_shape 9 = .ok (.getfield 7, 3) := by decide +kernel
theorem d_M_shape_12 : decode c_M_shape 12 = .ok (.iload 4, 2) := by decide +kernel
theorem d_M_shape_14 : decode c_M_shape 14 = .ok (.iaload, 1) := by decide +kernel
theorem d_M_shape_15 : decode c_M_shape 15 = .ok (.istore 7, 2) := by decide +kernel
theorem d_M_shape_17 : decode c_M_shape 17 = .ok (.aload_n 0, 1) := by decide +kernel
theorem d_M_shape_18 : decode c_M_shape 18 = .ok (.iload_n 3, 1) := by decide +kernel
theorem d_M_shape_19 : decode c_M_shape 19 = .ok (.invokevirtual 82, 3) := by decide +kernel
theorem d_M_shape_22 : decode c_M_shape 22 = .ok (.iload_n 1, 1) := by decide +kernel
theorem d_M_shape_23 : decode c_M_shape 23 = .ok (.bipush 19, 2) := by decide +kernel
theorem d_M_shape_25 : decode c_M_shape 25 = .ok (.if_icmp .ne 119, 3) := by decide +kernel
theorem d_M_shape_28 : decode c_M_shape 28 = .ok (.aload_n 0, 1) := by decide +kernel
theorem d_M_shape_29 : decode c_M_shape 29 = .ok (.getfield 13, 3) := by decide +kernel
theorem d_M_shape_32 : decode c_M_shape 32 = .ok (.iload_n 3, 1) := by decide +kernel
theorem d_M_shape_33 : decode c_M_shape 33 = .ok (.iaload, 1) := by decide +kernel
theorem d_M_shape_34 : decode c_M_shape 34 = .ok (.iload 6, 2) := by decide +kernel
theorem d_M_shape_36 : decode c_M_shape 36 = .ok (.invokestatic 65, 3) := by decide +kernel
theorem d_M_shape_39 : decode c_M_shape 39 = .ok (.lstore 8, 2) := by decide +kernel
theorem d_M_shape_41 : decode c_M_shape 41 = .ok (.aload_n 0, 1) := by decide +kernel
theorem d_M_shape_42 : decode c_M_shape 42 = .ok (.getfield 13, 3) := by decide +kernel
theorem d_M_shape_45 : decode c_M_shape 45 = .ok (.iload_n 3, 1) := by decide +kernel
theorem d_M_shape_46 : decode c_M_shape 46 = .ok (.iaload, 1) := by decide +kernel
theorem d_M_shape_47 : decode c_M_shape 47 = .ok (.iload 6, 2) := by decide +kernel
theorem d_M_shape_49 : decode c_M_shape 49 = .ok (.invokestatic 68, 3) := by decide +kernel
theorem d_M_shape_52 : decode c_M_shape 52 = .ok (.lstore 10, 2) := by decide +kernel
theorem d_M_shape_54 : decode c_M_shape 54 = .ok (.aload_n 0, 1) := by decide +kernel
theorem d_M_shape_55 : decode c_M_shape 55 = .ok (.aload_n 0, 1) := by decide +kernel
theorem d_M_shape_56 : decode c_M_shape 56 = .ok (.getfield 13, 3) := by decide +kernel
theorem d_M_shape_59 : decode c_M_shape 59 = .ok (.iload_n 3, 1) := by decide +kernel
theorem d_M_shape_60 : decode c_M_shape 60 = .ok (.iaload, 1) := by decide +kernel
theorem d_M_shape_61 : decode c_M_shape 61 = .ok (.iload 6, 2) := by decide +kernel
theorem d_M_shape_63 : decode c_M_shape 63 = .ok (.invokestatic 42, 3) := by decide +kernel
theorem d_M_shape_66 : decode c_M_shape 66 = .ok (.iload 6, 2) := by decide +kernel
theorem d_M_shape_68 : decode c_M_shape 68 = .ok (.invokestatic 42, 3) := by decide +kernel
theorem d_M_shape_71 : decode c_M_shape 71 = .ok (.iload 7, 2) := by decide +kernel
theorem d_M_shape_73 : decode c_M_shape 73 = .ok (.invokestatic 42, 3) := by decide +kernel
theorem d_M_shape_76 : decode c_M_shape 76 = .ok (.ladd, 1) := by decide +kernel
theorem d_M_shape_77 : decode c_M_shape 77 = .ok (.invokestatic 32, 3) := by decide +kernel
theorem d_M_shape_80 : decode c_M_shape 80 = .ok (.putfield 75, 3) := by decide +kernel
theorem d_M_shape_83 : decode c_M_shape 83 = .ok (.aload_n 0, 1) := by decide +kernel
theorem d_M_shape_84 : decode c_M_shape 84 = .ok (.aload_n 0, 1) := by decide +kernel
theorem d_M_shape_85 : decode c_M_shape 85 = .ok (.getfield 78, 3) := by decide +kernel
theorem d_M_shape_88 : decode c_M_shape 88 = .ok (.ifCond .eq 49, 3) := by decide +kernel
theorem d_M_shape_91 : decode c_M_shape 91 = .ok (.aload_n 0, 1) := by decide +kernel
theorem d_M_shape_92 : decode c_M_shape 92 = .ok (.getfield 13, 3) := by decide +kernel
theorem d_M_shape_95 : decode c_M_shape 95 = .ok (.iload_n 3, 1) := by decide +kernel
theorem d_M_shape_96 : decode c_M_shape 96 = .ok (.iaload, 1) := by decide +kernel
theorem d_M_shape_97 : decode c_M_shape 97 = .ok (.invokestatic 57, 3) := by decide +kernel
theorem d_M_shape_100 : decode c_M_shape 100 = .ok (.ifCond .ne 37, 3) := by decide +kernel
theorem d_M_shape_103 : decode c_M_shape 103 = .ok (.aload_n 0, 1) := by decide +kernel
theorem d_M_shape_104 : decode c_M_shape 104 = .ok (.getfield 75, 3) := by decide +kernel
theorem d_M_shape_107 : decode c_M_shape 107 = .ok (.iload 6, 2) := by decide +kernel
theorem d_M_shape_109 : decode c_M_shape 109 = .ok (.invokestatic 65, 3) := by decide +kernel
theorem d_M_shape_112 : decode c_M_shape 112 = .ok (.lload 8, 2) := by decide +kernel
theorem d_M_shape_114 : decode c_M_shape 114 = .ok (.lcmp, 1) := by decide +kernel
theorem d_M_shape_115 : decode c_M_shape 115 = .ok (.ifCond .lt 22, 3) := by decide +kernel
theorem d_M_shape_118 : decode c_M_shape 118 = .ok (.aload_n 0, 1) := by decide +kernel
theorem d_M_shape_119 : decode c_M_shape 119 = .ok (.getfield 75, 3) := by decide +kernel
theorem d_M_shape_122 : decode c_M_shape 122 = .ok (.iload 6, 2) := by decide +kernel
theorem d_M_shape_124 : decode c_M_shape 124 = .ok (.invokestatic 68, 3) := by decide +kernel
theorem d_M_shape_127 : decode c_M_shape 127 = .ok (.lload 10, 2) := by decide +kernel
