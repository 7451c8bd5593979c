theorem d_X_compute_77 : decode c_X_compute 77 = .ok (.iload_n 2, 1) := by decide +kernel
theorem d_X_compute_78 : decode c_X_compute 78 = .ok (.bipush 31, 2) := by decide +kernel
theorem d_X_compute_80 : decode c_X_compute 80 = .ok (.iand, 1) := by decide +kernel
theorem d_X_compute_81 : decode c_X_compute 81 = .ok (.ishl, 1) := by decide +kernel
theorem d_X_compute_82 : decode c_X_compute 82 = .ok (.ireturn, 1) := by decide +kernel
theorem d_X_compute_83 : decode c_X_compute 83 = .ok (.iload_n 1, 1) := by decide +kernel
theorem d_X_compute_84 : decode c_X_compute 84 = .ok (.iload_n 2, 1) := by decide +kernel
theorem d_X_compute_85 : decode c_X_compute 85 = .ok (.bipush 31, 2) := by decide +kernel
theorem d_X_compute_87 : decode c_X_compute 87 = .ok (.iand, 1) := by decide +kernel
theorem d_X_compute_88 : decode c_X_compute 88 = .ok (.iushr, 1) := by decide +kernel
theorem d_X_compute_89 : decode c_X_compute 89 = .ok (.ireturn, 1) := by decide +kernel
theorem d_X_compute_90 : decode c_X_compute 90 = .ok (.iload_n 1, 1) := by decide +kernel
theorem d_X_compute_91 : decode c_X_compute 91 = .ok (.iload_n 2, 1) := by decide +kernel
theorem d_X_compute_92 : decode c_X_compute 92 = .ok (.if_icmp .ge 7, 3) := by decide +kernel
theorem d_X_compute_95 : decode c_X_compute 95 = .ok (.iconst 1, 1) := by decide +kernel
theorem d_X_compute_96 : decode c_X_compute 96 = .ok (.goto 4, 3) := by decide +kernel
theorem d_X_compute_99 : decode c_X_compute 99 = .ok (.iconst 0, 1) := by decide +kernel
theorem d_X_compute_100 : decode c_X_compute 100 = .ok (.ireturn, 1) := by decide +kernel
theorem d_X_compute_101 : decode c_X_compute 101 = .ok (.iload_n 3, 1) := by decide +kernel
theorem d_X_compute_102 : decode c_X_compute 102 = .ok (.bipush 14, 2) := by decide +kernel
theorem d_X_compute_104 : decode c_X_compute 104 = .ok (.ishl, 1) := by decide +kernel
theorem d_X_compute_105 : decode c_X_compute 105 = .ok (.ireturn, 1) := by decide +kernel
theorem d_X_derive_0 : decode c_X_derive 0 = .ok (.aload_n 0, 1) := by decide +kernel
theorem d_X_derive_1 : decode c_X_derive 1 = .ok (.getfield 24, 3) := by decide +kernel
theorem d_X_derive_4 : decode c_X_derive 4 = .ok (.aload_n 3, 1) := by decide +kernel
theorem d_X_derive_5 : decode c_X_derive 5 = .ok (.invokevirtual 93, 3) := by decide +kernel
theorem d_X_derive_8 : decode c_X_derive 8 = .ok (.iload_n 1, 1) := by decide +kernel
theorem d_X_derive_9 : decode c_X_derive 9 = .ok (.tableswitch 180 19 28 #[55, 68, 109, 129, 180, 180, 180, 144, 180, 169], 55) := by decide +kernel
theorem d_X_derive_64 : decode c_X_derive 64 = .ok (.aload_n 0, 1) := by decide +kernel
theorem d_X_derive_65 : decode c_X_derive 65 = .ok (.aload_n 3, 1) := by decide +kernel
theorem d_X_derive_66 : decode c_X_derive 66 = .ok (.aload 4, 2) := by decide +kernel
theorem d_X_derive_68 : decode c_X_derive 68 = .ok (.getfield 62, 3) := by decide +kernel
theorem d_X_derive_71 : decode c_X_derive 71 = .ok (.invokevirtual 158, 3) := by decide +kernel
theorem d_X_derive_74 : decode c_X_derive 74 = .ok (.goto 115, 3) := by decide +kernel
theorem d_X_derive_77 : decode c_X_derive 77 = .ok (.aload_n 0, 1) := by decide +kernel
theorem d_X_derive_78 : decode c_X_derive 78 = .ok (.getfield 24, 3) := by decide +kernel
theorem d_X_derive_81 : decode c_X_derive 81 = .ok (.aload 4, 2) := by decide +kernel
theorem d_X_derive_83 : decode c_X_derive 83 = .ok (.getfield 62, 3) := by decide +kernel
theorem d_X_derive_86 : decode c_X_derive 86 = .ok (.invokevirtual 162, 3) := by decide +kernel
theorem d_X_derive_89 : decode c_X_derive 89 = .ok (.aload_n 0, 1) := by decide +kernel
theorem d_X_derive_90 : decode c_X_derive 90 = .ok (.getfield 24, 3) := by decide +kernel
theorem d_X_derive_93 : decode c_X_derive 93 = .ok (.aload_n 3, 1) := by decide +kernel
theorem d_X_derive_94 : decode c_X_derive 94 = .ok (.getfield 68, 3) := by decide +kernel
theorem d_X_derive_97 : decode c_X_derive 97 = .ok (.ifCond .eq 14, 3) := by decide +kernel
theorem d_X_derive_100 : decode c_X_derive 100 = .ok (.aload_n 3, 1) := by decide +kernel
theorem d_X_derive_101 : decode c_X_derive 101 = .ok (.invokevirtual 97, 3) := by decide +kernel
theorem d_X_derive_104 : decode c_X_derive 104 = .ok (.ifCond .ne 7, 3) := by decide +kernel
theorem d_X_derive_107 : decode c_X_derive 107 = .ok (.iconst 1, 1) := by decide +kernel
theorem d_X_derive_108 : decode c_X_derive 108 = .ok (.goto 4, 3) := by decide +kernel
theorem d_X_derive_111 : decode c_X_derive 111 = .ok (.iconst 0, 1) := by decide +kernel
theorem d_X_derive_112 : decode c_X_derive 112 = .ok (.putfield 68, 3) := by decide +kernel
theorem d_X_derive_115 : decode c_X_derive 115 = .ok (.goto 74, 3) := by decide +kernel
theorem d_X_derive_118 : decode c_X_derive 118 = .ok (.aload_n 0, 1) := by decide +kernel
theorem d_X_derive_119 : decode c_X_derive 119 = .ok (.getfield 24, 3) := by decide +kernel
theorem d_X_derive_122 : decode c_X_derive 122 = .ok (.aload_n 3, 1) := by decide +kernel
theorem d_X_derive_123 : decode c_X_derive 123 = .ok (.getfield 62, 3) := by decide +kernel
theorem d_X_derive_126 : decode c_X_derive 126 = .ok (.aload 4, 2) := by decide +kernel
theorem d_X_derive_128 : decode c_X_derive 128 = .ok (.getfield 62, 3) := by decide +kernel
theorem d_X_derive_131 : decode c_X_derive 131 = .ok (.iadd, 1) := by decide +kernel
theorem d_X_derive_132 : decode c_X_derive 132 = .ok (.invokevirtual 165, 3) := by decide +kernel
theorem d_X_derive_135 : decode c_X_derive 135 = .ok (.goto 54, 3) := by decide +kernel
theorem d_X_derive_138 : decode c_X_derive 138 = .ok (.aload_n 0, 1) := by decide +kernel
theorem d_X_derive_139 : decode c_X_derive 139 = .ok (.getfield 24, 3) := by decide +kernel
theorem d_X_derive_142 : decode c_X_derive 142 = .ok (.aload 4, 2) := by decide +kernel
theorem d_X_derive_144 : decode c_X_derive 144 = .ok (.getfield 62, 3) := by decide +kernel
theorem d_X_derive_147 : decode c_X_derive 147 = .ok (.invokevirtual 165, 3) := by decide +kernel
theorem d_X_derive_150 : decode c_X_derive 150 = .ok (.goto 39, 3) := by decide +kernel
theorem d_X_derive_153 : decode c_X_derive 153 = .ok (.aload_n 0, 1) := by decide +kernel
theorem d_X_derive_154 : decode c_X_derive 154 = .ok (.getfield 24, 3) := by decide +kernel
theorem d_X_derive_157 : decode c_X_derive 157 = .ok (.aload 4, 2) := by decide +kernel
theorem d_X_derive_159 : decode c_X_derive 159 = .ok (.invokevirtual 93, 3) := by decide +kernel
theorem d_X_derive_162 : decode c_X_derive 162 = .ok (.aload_n 0, 1) := by decide +kernel
theorem d_X_derive_163 : decode c_X_derive 163 = .ok (.getfield 24, 3) := by decide +kernel
theorem d_X_derive_166 : decode c_X_derive 166 = .ok (.aload_n 3, 1) := by decide +kernel
theorem d_X_derive_167 : decode c_X_derive 167 = .ok (.aload 4, 2) := by decide +kernel
theorem d_X_derive_169 : decode c_X_derive 169 = .ok (.invokestatic 168, 3) := by decide +kernel
theorem d_X_derive_172 : decode c_X_derive 172 = .ok (.putfield 68, 3) := by decide +kernel
theorem d_X_derive_175 : decode c_X_derive 175 = .ok (.goto 14, 3) := by decide +kernel
theorem d_X_derive_178 : decode c_X_derive 178 = .ok (.aload_n 0, 1) := by decide +kernel
theorem d_X_derive_179 : decode c_X_derive 179 = .ok (.getfield 24, 3) := by decide +kernel
theorem d_X_derive_182 : decode c_X_derive 182 = .ok (.iconst 0, 1) := by decide +kernel
theorem d_X_derive_183 : decode c_X_derive 183 = .ok (.putfield 68, 3) := by decide +kernel
theorem d_X_derive_186 : decode c_X_derive 186 = .ok (.goto 3, 3) := by decide +kernel
theorem d_X_derive_189 : decode c_X_derive 189 = .ok (.aload_n 0, 1) := by decide +kernel
theorem d_X_derive_190 : decode c_X_derive 190 = .ok (.iload_n 2, 1) := by decide +kernel
theorem d_X_derive_191 : decode c_X_derive 191 = .ok (.invokevirtual 172, 3) := by decide +kernel
theorem d_X_derive_194 : decode c_X_derive 194 = .ok (.return_, 1) := by decide +kernel
theorem d_X_narrow_0 : decode c_X_narrow 0 = .ok (.aload_n 1, 1) := by decide +kernel
theorem d_X_narrow_1 : decode c_X_narrow 1 = .ok (.getfield 62, 3) := by decide +kernel
theorem d_X_narrow_4 : decode c_X_narrow 4 = .ok (.i2l, 1) := by decide +kernel
theorem d_X_narrow_5 : decode c_X_narrow 5 = .ok (.ldc2_w 104, 3) := by decide +kernel
theorem d_X_narrow_8 : decode c_X_narrow 8 = .ok (.land, 1) := by decide +kernel
theorem d_X_narrow_9 : decode c_X_narrow 9 = .ok (.lstore_n 3, 1) := by decide +kernel
theorem d_X_narrow_10 : decode c_X_narrow 10 = .ok (.aload_n 0, 1) := by decide +kernel
theorem d_X_narrow_11 : decode c_X_narrow 11 = .ok (.getfield 24, 3) := by decide +kernel
theorem d_X_narrow_14 : decode c_X_narrow 14 = .ok (.lload_n 3, 1) := by decide +kernel
theorem d_X_narrow_15 : decode c_X_narrow 15 = .ok (.lload_n 3, 1) := by decide +kernel
theorem d_X_narrow_16 : decode c_X_narrow 16 = .ok (.iload_n 2, 1) := by decide +kernel
theorem d_X_narrow_17 : decode c_X_narrow 17 = .ok (.i2l, 1) := by decide +kernel
theorem d_X_narrow_18 : decode c_X_narrow 18 = .ok (.ldc2_w 104, 3) := by decide +kernel
theorem d_X_narrow_21 : decode c_X_narrow 21 = .ok (.land, 1) := by decide +kernel
theorem d_X_narrow_22 : decode c_X_narrow 22 = .ok (.ladd, 1) := by decide +kernel
theorem d_X_narrow_23 : decode c_X_narrow 23 = .ok (.invokevirtual 175, 3) := by decide +kernel
theorem d_X_narrow_26 : decode c_X_narrow 26 = .ok (.aload_n 0, 1) := by decide +kernel
theorem d_X_narrow_27 : decode c_X_narrow 27 = .ok (.getfield 24, 3) := by decide +kernel
theorem d_X_narrow_30 : decode c_X_narrow 30 = .ok (.aload_n 1, 1) := by decide +kernel
theorem d_X_narrow_31 : decode c_X_narrow 31 = .ok (.getfield 68, 3) := by decide +kernel
theorem d_X_narrow_34 : decode c_X_narrow 34 = .ok (.ifCond .eq 44, 3) := by decide +kernel
theorem d_X_narrow_37 : decode c_X_narrow 37 = .ok (.aload_n 1, 1) := by decide +kernel
theorem d_X_narrow_38 : decode c_X_narrow 38 = .ok (.invokevirtual 97, 3) := by decide +kernel
theorem d_X_narrow_41 : decode c_X_narrow 41 = .ok (.ifCond .ne 37, 3) := by decide +kernel
theorem d_X_narrow_44 : decode c_X_narrow 44 = .ok (.aload_n 0, 1) := by decide +kernel
theorem d_X_narrow_45 : decode c_X_narrow 45 = .ok (.getfield 24, 3) := by decide +kernel
theorem d_X_narrow_48 : decode c_X_narrow 48 = .ok (.invokevirtual 72, 3) := by decide +kernel
theorem d_X_narrow_51 : decode c_X_narrow 51 = .ok (.aload_n 1, 1) := by decide +kernel
theorem d_X_narrow_52 : decode c_X_narrow 52 = .ok (.invokevirtual 72, 3) := by decide +kernel
theorem d_X_narrow_55 : decode c_X_narrow 55 = .ok (.lcmp, 1) := by decide +kernel
theorem d_X_narrow_56 : decode c_X_narrow 56 = .ok (.ifCond .lt 22, 3) := by decide +kernel
theorem d_X_narrow_59 : decode c_X_narrow 59 = .ok (.aload_n 0, 1) := by decide +kernel
theorem d_X_narrow_60 : decode c_X_narrow 60 = .ok (.getfield 24, 3) := by decide +kernel
theorem d_X_narrow_63 : decode c_X_narrow 63 = .ok (.invokevirtual 76, 3) := by decide +kernel
theorem d_X_narrow_66 : decode c_X_narrow 66 = .ok (.aload_n 1, 1) := by decide +kernel
theorem d_X_narrow_67 : decode c_X_narrow 67 = .ok (.invokevirtual 76, 3) := by decide +kernel
theorem d_X_narrow_70 : decode c_X_narrow 70 = .ok (.lcmp, 1) := by decide +kernel
theorem d_X_narrow_71 : decode c_X_narrow 71 = .ok (.ifCond .gt 7, 3) := by decide +kernel
theorem d_X_narrow_74 : decode c_X_narrow 74 = .ok (.iconst 1, 1) := by decide +kernel
theorem d_X_narrow_75 : decode c_X_narrow 75 = .ok (.goto 4, 3) := by decide +kernel
theorem d_X_narrow_78 : decode c_X_narrow 78 = .ok (.iconst 0, 1) := by decide +kernel
theorem d_X_narrow_79 : decode c_X_narrow 79 = .ok (.putfield 68, 3) := by decide +kernel
theorem d_X_narrow_82 : decode c_X_narrow 82 = .ok (.return_, 1) := by decide +kernel
theorem d_X_mayBuild_0 : decode c_X_mayBuild 0 = .ok (.aload_n 0, 1) := by decide +kernel
theorem d_X_mayBuild_1 : decode c_X_mayBuild 1 = .ok (.getfield 68, 3) := by decide +kernel
theorem d_X_mayBuild_4 : decode c_X_mayBuild 4 = .ok (.ifCond .eq 68, 3) := by decide +kernel
theorem d_X_mayBuild_7 : decode c_X_mayBuild 7 = .ok (.aload_n 0, 1) := by decide +kernel
theorem d_X_mayBuild_8 : decode c_X_mayBuild 8 = .ok (.invokevirtual 97, 3) := by decide +kernel
theorem d_X_mayBuild_11 : decode c_X_mayBuild 11 = .ok (.ifCond .ne 61, 3) := by decide +kernel
theorem d_X_mayBuild_14 : decode c_X_mayBuild 14 = .ok (.aload_n 1, 1) := by decide +kernel
theorem d_X_mayBuild_15 : decode c_X_mayBuild 15 = .ok (.invokevirtual 97, 3) := by decide +kernel
theorem d_X_mayBuild_18 : decode c_X_mayBuild 18 = .ok (.ifCond .ne 54, 3) := by decide +kernel
theorem d_X_mayBuild_21 : decode c_X_mayBuild 21 = .ok (.aload_n 1, 1) := by decide +kernel
theorem d_X_mayBuild_22 : decode c_X_mayBuild 22 = .ok (.invokevirtual 72, 3) := by decide +kernel
theorem d_X_mayBuild_25 : decode c_X_mayBuild 25 = .ok (.aload_n 0, 1) := by decide +kernel
theorem d_X_mayBuild_26 : decode c_X_mayBuild 26 = .ok (.invokevirtual 72, 3) := by decide +kernel
theorem d_X_mayBuild_29 : decode c_X_mayBuild 29 = .ok (.lcmp, 1) := by decide +kernel
theorem d_X_mayBuild_30 : decode c_X_mayBuild 30 = .ok (.ifCond .lt 42, 3) := by decide +kernel
theorem d_X_mayBuild_33 : decode c_X_mayBuild 33 = .ok (.aload_n 1, 1) := by decide +kernel
theorem d_X_mayBuild_34 : decode c_X_mayBuild 34 = .ok (.invokevirtual 72, 3) := by decide +kernel
theorem d_X_mayBuild_37 : decode c_X_mayBuild 37 = .ok (.aload_n 1, 1) := by decide +kernel
theorem d_X_mayBuild_38 : decode c_X_mayBuild 38 = .ok (.invokevirtual 76, 3) := by decide +kernel
theorem d_X_mayBuild_41 : decode c_X_mayBuild 41 = .ok (.lcmp, 1) := by decide +kernel
theorem d_X_mayBuild_42 : decode c_X_mayBuild 42 = .ok (.ifCond .gt 30, 3) := by decide +kernel
theorem d_X_mayBuild_45 : decode c_X_mayBuild 45 = .ok (.aload_n 1, 1) := by decide +kernel
theorem d_X_mayBuild_46 : decode c_X_mayBuild 46 = .ok (.invokevirtual 76, 3) := by decide +kernel
theorem d_X_mayBuild_49 : decode c_X_mayBuild 49 = .ok (.aload_n 0, 1) := by decide +kernel
theorem d_X_mayBuild_50 : decode c_X_mayBuild 50 = .ok (.invokevirtual 76, 3) := by decide +kernel
theorem d_X_mayBuild_53 : decode c_X_mayBuild 53 = .ok (.lcmp, 1) := by decide +kernel
theorem d_X_mayBuild_54 : decode c_X_mayBuild 54 = .ok (.ifCond .gt 18, 3) := by decide +kernel
theorem d_X_mayBuild_57 : decode c_X_mayBuild 57 = .ok (.aload_n 0, 1) := by decide +kernel
theorem d_X_mayBuild_58 : decode c_X_mayBuild 58 = .ok (.aload_n 1, 1) := by decide +kernel
theorem d_X_mayBuild_59 : decode c_X_mayBuild 59 = .ok (.invokevirtual 179, 3) := by decide +kernel
theorem d_X_mayBuild_62 : decode c_X_mayBuild 62 = .ok (.invokevirtual 101, 3) := by decide +kernel
theorem d_X_mayBuild_65 : decode c_X_mayBuild 65 = .ok (.ifCond .eq 7, 3) := by decide +kernel
theorem d_X_mayBuild_68 : decode c_X_mayBuild 68 = .ok (.iconst 1, 1) := by decide +kernel
theorem d_X_mayBuild_69 : decode c_X_mayBuild 69 = .ok (.goto 4, 3) := by decide +kernel
theorem d_X_mayBuild_72 : decode c_X_mayBuild 72 = .ok (.iconst 0, 1) := by decide +kernel
theorem d_X_mayBuild_73 : decode c_X_mayBuild 73 = .ok (.ireturn, 1) := by decide +kernel
theorem d_X_tell_0 : decode c_X_tell 0 = .ok (.iload_n 1, 1) := by decide +kernel
theorem d_X_tell_1 : decode c_X_tell 1 = .ok (.tableswitch 93 0 6 #[43, 49, 60, 65, 70, 83, 88], 43) := by decide +kernel
theorem d_X_tell_44 : decode c_X_tell 44 = .ok (.aload_n 0, 1) := by decide +kernel
theorem d_X_tell_45 : decode c_X_tell 45 = .ok (.invokevirtual 72, 3) := by decide +kernel
theorem d_X_tell_48 : decode c_X_tell 48 = .ok (.l2i, 1) := by decide +kernel
theorem d_X_tell_49 : decode c_X_tell 49 = .ok (.ireturn, 1) := by decide +kernel
theorem d_X_tell_50 : decode c_X_tell 50 = .ok (.aload_n 0, 1) := by decide +kernel
theorem d_X_tell_51 : decode c_X_tell 51 = .ok (.invokevirtual 76, 3) := by decide +kernel
theorem d_X_tell_54 : decode c_X_tell 54 = .ok (.aload_n 0, 1) := by decide +kernel
theorem d_X_tell_55 : decode c_X_tell 55 = .ok (.invokevirtual 72, 3) := by decide +kernel
theorem d_X_tell_58 : decode c_X_tell 58 = .ok (.lsub, 1) := by decide +kernel
theorem d_X_tell_59 : decode c_X_tell 59 = .ok (.l2i, 1) := by decide +kernel
theorem d_X_tell_60 : decode c_X_tell 60 = .ok (.ireturn, 1) := by decide +kernel
theorem d_X_tell_61 : decode c_X_tell 61 = .ok (.aload_n 0, 1) := by decide +kernel
theorem d_X_tell_62 : decode c_X_tell 62 = .ok (.invokevirtual 179, 3) := by decide +kernel
theorem d_X_tell_65 : decode c_X_tell 65 = .ok (.ireturn, 1) := by decide +kernel
theorem d_X_tell_66 : decode c_X_tell 66 = .ok (.aload_n 0, 1) := by decide +kernel
theorem d_X_tell_67 : decode c_X_tell 67 = .ok (.invokevirtual 182, 3) := by decide +kernel
theorem d_X_tell_70 : decode c_X_tell 70 = .ok (.ireturn, 1) := by decide +kernel
theorem d_X_tell_71 : decode c_X_tell 71 = .ok (.aload_n 0, 1) := by decide +kernel
theorem d_X_tell_72 : decode c_X_tell 72 = .ok (.getfield 68, 3) := by decide +kernel
theorem d_X_tell_75 : decode c_X_tell 75 = .ok (.ifCond .eq 7, 3) := by decide +kernel
theorem d_X_tell_78 : decode c_X_tell 78 = .ok (.iconst 1, 1) := by decide +kernel
theorem d_X_tell_79 : decode c_X_tell 79 = .ok (.goto 4, 3) := by decide +kernel
theorem d_X_tell_82 : decode c_X_tell 82 = .ok (.iconst 0, 1) := by decide +kernel
theorem d_X_tell_83 : decode c_X_tell 83 = .ok (.ireturn, 1) := by decide +kernel
theorem d_X_tell_84 : decode c_X_tell 84 = .ok (.aload_n 0, 1) := by decide +kernel
theorem d_X_tell_85 : decode c_X_tell 85 = .ok (.getfield 62, 3) := by decide +kernel
theorem d_X_tell_88 : decode c_X_tell 88 = .ok (.ireturn, 1) := by decide +kernel
theorem d_X_tell_89 : decode c_X_tell 89 = .ok (.aload_n 0, 1) := by decide +kernel
theorem d_X_tell_90 : decode c_X_tell 90 = .ok (.getfield 65, 3) := by decide +kernel
theorem d_X_tell_93 : decode c_X_tell 93 = .ok (.ireturn, 1) := by decide +kernel
theorem d_X_tell_94 : decode c_X_tell 94 = .ok (.iconst 0, 1) := by decide +kernel
theorem d_X_tell_95 : decode c_X_tell 95 = .ok (.ireturn, 1) := by decide +kernel
theorem d_X_load_0 : decode c_X_load 0 = .ok (.aload_n 0, 1) := by decide +kernel
theorem d_X_load_1 : decode c_X_load 1 = .ok (.getfield 19, 3) := by decide +kernel
theorem d_X_load_4 : decode c_X_load 4 = .ok (.iload_n 2, 1) := by decide +kernel
theorem d_X_load_5 : decode c_X_load 5 = .ok (.aaload, 1) := by decide +kernel
theorem d_X_load_6 : decode c_X_load 6 = .ok (.getfield 62, 3) := by decide +kernel
theorem d_X_load_9 : decode c_X_load 9 = .ok (.iload_n 3, 1) := by decide +kernel
theorem d_X_load_10 : decode c_X_load 10 = .ok (.iadd, 1) := by decide +kernel
theorem d_X_load_11 : decode c_X_load 11 = .ok (.istore 4, 2) := by decide +kernel
theorem d_X_load_13 : decode c_X_load 13 = .ok (.aload_n 0, 1) := by decide +kernel
theorem d_X_load_14 : decode c_X_load 14 = .ok (.iload_n 2, 1) := by decide +kernel
theorem d_X_load_15 : decode c_X_load 15 = .ok (.iconst 2, 1) := by decide +kernel
theorem d_X_load_16 : decode c_X_load 16 = .ok (.iconst 4, 1) := by decide +kernel
theorem d_X_load_17 : decode c_X_load 17 = .ok (.iload 4, 2) := by decide +kernel
theorem d_X_load_19 : decode c_X_load 19 = .ok (.invokevirtual 82, 3) := by decide +kernel
theorem d_X_load_22 : decode c_X_load 22 = .ok (.istore 5, 2) := by decide +kernel
theorem d_X_load_24 : decode c_X_load 24 = .ok (.iload 5, 2) := by decide +kernel
theorem d_X_load_26 : decode c_X_load 26 = .ok (.ifCond .ne 17, 3) := by decide +kernel
theorem d_X_load_29 : decode c_X_load 29 = .ok (.aload_n 0, 1) := by decide +kernel
theorem d_X_load_30 : decode c_X_load 30 = .ok (.iload_n 1, 1) := by decide +kernel
theorem d_X_load_31 : decode c_X_load 31 = .ok (.aload_n 0, 1) := by decide +kernel
theorem d_X_load_32 : decode c_X_load 32 = .ok (.getfield 9, 3) := by decide +kernel
theorem d_X_load_35 : decode c_X_load 35 = .ok (.iload 4, 2) := by decide +kernel
theorem d_X_load_37 : decode c_X_load 37 = .ok (.iconst 2, 1) := by decide +kernel
theorem d_X_load_38 : decode c_X_load 38 = .ok (.iushr, 1) := by decide +kernel
theorem d_X_load_39 : decode c_X_load 39 = .ok (.iaload, 1) := by decide +kernel
theorem d_X_load_40 : decode c_X_load 40 = .ok (.invokevirtual 79, 3) := by decide +kernel
theorem d_X_load_43 : decode c_X_load 43 = .ok (.iload 5, 2) := by decide +kernel
theorem d_X_load_45 : decode c_X_load 45 = .ok (.ireturn, 1) := by decide +kernel
theorem d_X_store_0 : decode c_X_store 0 = .ok (.aload_n 0, 1) := by decide +kernel
theorem d_X_store_1 : decode c_X_store 1 = .ok (.getfield 19, 3) := by decide +kernel
theorem d_X_store_4 : decode c_X_store 4 = .ok (.iload_n 1, 1) := by decide +kernel
theorem d_X_store_5 : decode c_X_store 5 = .ok (.aaload, 1) := by decide +kernel
theorem d_X_store_6 : decode c_X_store 6 = .ok (.getfield 62, 3) := by decide +kernel
theorem d_X_store_9 : decode c_X_store 9 = .ok (.iload_n 3, 1) := by decide +kernel
theorem d_X_store_10 : decode c_X_store 10 = .ok (.iadd, 1) := by decide +kernel
theorem d_X_store_11 : decode c_X_store 11 = .ok (.istore 4, 2) := by decide +kernel
theorem d_X_store_13 : decode c_X_store 13 = .ok (.aload_n 0, 1) := by decide +kernel
theorem d_X_store_14 : decode c_X_store 14 = .ok (.iload_n 1, 1) := by decide +kernel
theorem d_X_store_15 : decode c_X_store 15 = .ok (.iconst 4, 1) := by decide +kernel
theorem d_X_store_16 : decode c_X_store 16 = .ok (.iconst 4, 1) := by decide +kernel
theorem d_X_store_17 : decode c_X_store 17 = .ok (.iload 4, 2) := by decide +kernel
theorem d_X_store_19 : decode c_X_store 19 = .ok (.invokevirtual 82, 3) := by decide +kernel
theorem d_X_store_22 : decode c_X_store 22 = .ok (.istore 5, 2) := by decide +kernel
theorem d_X_store_24 : decode c_X_store 24 = .ok (.iload 5, 2) := by decide +kernel
theorem d_X_store_26 : decode c_X_store 26 = .ok (.ifCond .ne 20, 3) := by decide +kernel
theorem d_X_store_29 : decode c_X_store 29 = .ok (.aload_n 0, 1) := by decide +kernel
theorem d_X_store_30 : decode c_X_store 30 = .ok (.iload 4, 2) := by decide +kernel
theorem d_X_store_32 : decode c_X_store 32 = .ok (.iconst 2, 1) := by decide +kernel
theorem d_X_store_33 : decode c_X_store 33 = .ok (.iushr, 1) := by decide +kernel
theorem d_X_store_34 : decode c_X_store 34 = .ok (.aload_n 0, 1) := by decide +kernel
theorem d_X_store_35 : decode c_X_store 35 = .ok (.getfield 19, 3) := by decide +kernel
theorem d_X_store_38 : decode c_X_store 38 = .ok (.iload_n 2, 1) := by decide +kernel
theorem d_X_store_39 : decode c_X_store 39 = .ok (.aaload, 1) := by decide +kernel
theorem d_X_store_40 : decode c_X_store 40 = .ok (.getfield 62, 3) := by decide +kernel
theorem d_X_store_43 : decode c_X_store 43 = .ok (.invokevirtual 52, 3) := by decide +kernel
theorem d_X_store_46 : decode c_X_store 46 = .ok (.iload 5, 2) := by decide +kernel
theorem d_X_store_48 : decode c_X_store 48 = .ok (.ireturn, 1) := by decide +kernel
theorem d_X_loadCapability_0 : decode c_X_loadCapability 0 = .ok (.aload_n 0, 1) := by decide +kernel
theorem d_X_loadCapability_1 : decode c_X_loadCapability 1 = .ok (.getfield 19, 3) := by decide +kernel
theorem d_X_loadCapability_4 : decode c_X_loadCapability 4 = .ok (.iload_n 2, 1) := by decide +kernel
theorem d_X_loadCapability_5 : decode c_X_loadCapability 5 = .ok (.aaload, 1) := by decide +kernel
theorem d_X_loadCapability_6 : decode c_X_loadCapability 6 = .ok (.getfield 62, 3) := by decide +kernel
theorem d_X_loadCapability_9 : decode c_X_loadCapability 9 = .ok (.iload_n 3, 1) := by decide +kernel
theorem d_X_loadCapability_10 : decode c_X_loadCapability 10 = .ok (.iadd, 1) := by decide +kernel
theorem d_X_loadCapability_11 : decode c_X_loadCapability 11 = .ok (.istore 4, 2) := by decide +kernel
theorem d_X_loadCapability_13 : decode c_X_loadCapability 13 = .ok (.aload_n 0, 1) := by decide +kernel
theorem d_X_loadCapability_14 : decode c_X_loadCapability 14 = .ok (.iload_n 2, 1) := by decide +kernel
theorem d_X_loadCapability_15 : decode c_X_loadCapability 15 = .ok (.iconst 2, 1) := by decide +kernel
theorem d_X_loadCapability_16 : decode c_X_loadCapability 16 = .ok (.bipush 8, 2) := by decide +kernel
theorem d_X_loadCapability_18 : decode c_X_loadCapability 18 = .ok (.iload 4, 2) := by decide +kernel
theorem d_X_loadCapability_20 : decode c_X_loadCapability 20 = .ok (.invokevirtual 82, 3) := by decide +kernel
theorem d_X_loadCapability_23 : decode c_X_loadCapability 23 = .ok (.istore 5, 2) := by decide +kernel
theorem d_X_loadCapability_25 : decode c_X_loadCapability 25 = .ok (.iload 5, 2) := by decide +kernel
theorem d_X_loadCapability_27 : decode c_X_loadCapability 27 = .ok (.ifCond .ne 84, 3) := by decide +kernel
theorem d_X_loadCapability_30 : decode c_X_loadCapability 30 = .ok (.iload 4, 2) := by decide +kernel
theorem d_X_loadCapability_32 : decode c_X_loadCapability 32 = .ok (.iconst 3, 1) := by decide +kernel
theorem d_X_loadCapability_33 : decode c_X_loadCapability 33 = .ok (.iushr, 1) := by decide +kernel
theorem d_X_loadCapability_34 : decode c_X_loadCapability 34 = .ok (.istore 6, 2) := by decide +kernel
theorem d_X_loadCapability_36 : decode c_X_loadCapability 36 = .ok (.aload_n 0, 1) := by decide +kernel
theorem d_X_loadCapability_37 : decode c_X_loadCapability 37 = .ok (.getfield 24, 3) := by decide +kernel
theorem d_X_loadCapability_40 : decode c_X_loadCapability 40 = .ok (.aload_n 0, 1) := by decide +kernel
theorem d_X_loadCapability_41 : decode c_X_loadCapability 41 = .ok (.getfield 9, 3) := by decide +kernel
theorem d_X_loadCapability_44 : decode c_X_loadCapability 44 = .ok (.iconst 2, 1) := by decide +kernel
theorem d_X_loadCapability_45 : decode c_X_loadCapability 45 = .ok (.iload 6, 2) := by decide +kernel
theorem d_X_loadCapability_47 : decode c_X_loadCapability 47 = .ok (.imul, 1) := by decide +kernel
theorem d_X_loadCapability_48 : decode c_X_loadCapability 48 = .ok (.iaload, 1) := by decide +kernel
theorem d_X_loadCapability_49 : decode c_X_loadCapability 49 = .ok (.putfield 62, 3) := by decide +kernel
theorem d_X_loadCapability_52 : decode c_X_loadCapability 52 = .ok (.aload_n 0, 1) := by decide +kernel
theorem d_X_loadCapability_53 : decode c_X_loadCapability 53 = .ok (.getfield 24, 3) := by decide +kernel
theorem d_X_loadCapability_56 : decode c_X_loadCapability 56 = .ok (.aload_n 0, 1) := by decide +kernel
theorem d_X_loadCapability_57 : decode c_X_loadCapability 57 = .ok (.getfield 9, 3) := by decide +kernel
theorem d_X_loadCapability_60 : decode c_X_loadCapability 60 = .ok (.iconst 2, 1) := by decide +kernel
theorem d_X_loadCapability_61 : decode c_X_loadCapability 61 = .ok (.iload 6, 2) := by decide +kernel
theorem d_X_loadCapability_63 : decode c_X_loadCapability 63 = .ok (.imul, 1) := by decide +kernel
theorem d_X_loadCapability_64 : decode c_X_loadCapability 64 = .ok (.iconst 1, 1) := by decide +kernel
theorem d_X_loadCapability_65 : decode c_X_loadCapability 65 = .ok (.iadd, 1) := by decide +kernel
theorem d_X_loadCapability_66 : decode c_X_loadCapability 66 = .ok (.iaload, 1) := by decide +kernel
theorem d_X_loadCapability_67 : decode c_X_loadCapability 67 = .ok (.putfield 65, 3) := by decide +kernel
theorem d_X_loadCapability_70 : decode c_X_loadCapability 70 = .ok (.aload_n 0, 1) := by decide +kernel
theorem d_X_loadCapability_71 : decode c_X_loadCapability 71 = .ok (.getfield 24, 3) := by decide +kernel
