theorem d_X_loadCapability_74 : decode c_X_loadCapability 74 = .ok (.aload_n 0, 1) := by decide +kernel
theorem d_X_loadCapability_75 : decode c_X_loadCapability 75 = .ok (.getfield 13, 3) := by decide +kernel
theorem d_X_loadCapability_78 : decode c_X_loadCapability 78 = .ok (.iload 6, 2) := by decide +kernel
theorem d_X_loadCapability_80 : decode c_X_loadCapability 80 = .ok (.baload, 1) := by decide +kernel
theorem d_X_loadCapability_81 : decode c_X_loadCapability 81 = .ok (.ifCond .eq 21, 3) := by decide +kernel
theorem d_X_loadCapability_84 : decode c_X_loadCapability 84 = .ok (.aload_n 0, 1) := by decide +kernel
theorem d_X_loadCapability_85 : decode c_X_loadCapability 85 = .ok (.getfield 19, 3) := by decide +kernel
theorem d_X_loadCapability_88 : decode c_X_loadCapability 88 = .ok (.iload_n 2, 1) := by decide +kernel
theorem d_X_loadCapability_89 : decode c_X_loadCapability 89 = .ok (.aaload, 1) := by decide +kernel
theorem d_X_loadCapability_90 : decode c_X_loadCapability 90 = .ok (.bipush 8, 2) := by decide +kernel
theorem d_X_loadCapability_92 : decode c_X_loadCapability 92 = .ok (.invokevirtual 101, 3) := by decide +kernel
theorem d_X_loadCapability_95 : decode c_X_loadCapability 95 = .ok (.ifCond .eq 7, 3) := by decide +kernel
theorem d_X_loadCapability_98 : decode c_X_loadCapability 98 = .ok (.iconst 1, 1) := by decide +kernel
theorem d_X_loadCapability_99 : decode c_X_loadCapability 99 = .ok (.goto 4, 3) := by decide +kernel
theorem d_X_loadCapability_102 : decode c_X_loadCapability 102 = .ok (.iconst 0, 1) := by decide +kernel
theorem d_X_loadCapability_103 : decode c_X_loadCapability 103 = .ok (.putfield 68, 3) := by decide +kernel
theorem d_X_loadCapability_106 : decode c_X_loadCapability 106 = .ok (.aload_n 0, 1) := by decide +kernel
theorem d_X_loadCapability_107 : decode c_X_loadCapability 107 = .ok (.iload_n 1, 1) := by decide +kernel
theorem d_X_loadCapability_108 : decode c_X_loadCapability 108 = .ok (.invokevirtual 172, 3) := by decide +kernel
theorem d_X_loadCapability_111 : decode c_X_loadCapability 111 = .ok (.iload 5, 2) := by decide +kernel
theorem d_X_loadCapability_113 : decode c_X_loadCapability 113 = .ok (.ireturn, 1) := by decide +kernel
theorem d_X_storeCapability_0 : decode c_X_storeCapability 0 = .ok (.aload_n 0, 1) := by decide +kernel
theorem d_X_storeCapability_1 : decode c_X_storeCapability 1 = .ok (.getfield 19, 3) := by decide +kernel
theorem d_X_storeCapability_4 : decode c_X_storeCapability 4 = .ok (.iload_n 2, 1) := by decide +kernel
theorem d_X_storeCapability_5 : decode c_X_storeCapability 5 = .ok (.aaload, 1) := by decide +kernel
theorem d_X_storeCapability_6 : decode c_X_storeCapability 6 = .ok (.astore 4, 2) := by decide +kernel
theorem d_X_storeCapability_8 : decode c_X_storeCapability 8 = .ok (.aload_n 0, 1) := by decide +kernel
theorem d_X_storeCapability_9 : decode c_X_storeCapability 9 = .ok (.getfield 19, 3) := by decide +kernel
theorem d_X_storeCapability_12 : decode c_X_storeCapability 12 = .ok (.iload_n 1, 1) := by decide +kernel
theorem d_X_storeCapability_13 : decode c_X_storeCapability 13 = .ok (.aaload, 1) := by decide +kernel
theorem d_X_storeCapability_14 : decode c_X_storeCapability 14 = .ok (.getfield 62, 3) := by decide +kernel
theorem d_X_storeCapability_17 : decode c_X_storeCapability 17 = .ok (.iload_n 3, 1) := by decide +kernel
theorem d_X_storeCapability_18 : decode c_X_storeCapability 18 = .ok (.iadd, 1) := by decide +kernel
theorem d_X_storeCapability_19 : decode c_X_storeCapability 19 = .ok (.istore 5, 2) := by decide +kernel
theorem d_X_storeCapability_21 : decode c_X_storeCapability 21 = .ok (.aload_n 0, 1) := by decide +kernel
theorem d_X_storeCapability_22 : decode c_X_storeCapability 22 = .ok (.iload_n 1, 1) := by decide +kernel
theorem d_X_storeCapability_23 : decode c_X_storeCapability 23 = .ok (.aload 4, 2) := by decide +kernel
theorem d_X_storeCapability_25 : decode c_X_storeCapability 25 = .ok (.getfield 68, 3) := by decide +kernel
theorem d_X_storeCapability_28 : decode c_X_storeCapability 28 = .ok (.ifCond .eq 8, 3) := by decide +kernel
theorem d_X_storeCapability_31 : decode c_X_storeCapability 31 = .ok (.bipush 20, 2) := by decide +kernel
theorem d_X_storeCapability_33 : decode c_X_storeCapability 33 = .ok (.goto 4, 3) := by decide +kernel
theorem d_X_storeCapability_36 : decode c_X_storeCapability 36 = .ok (.iconst 4, 1) := by decide +kernel
theorem d_X_storeCapability_37 : decode c_X_storeCapability 37 = .ok (.bipush 8, 2) := by decide +kernel
theorem d_X_storeCapability_39 : decode c_X_storeCapability 39 = .ok (.iload 5, 2) := by decide +kernel
theorem d_X_storeCapability_41 : decode c_X_storeCapability 41 = .ok (.invokevirtual 82, 3) := by decide +kernel
theorem d_X_storeCapability_44 : decode c_X_storeCapability 44 = .ok (.istore 6, 2) := by decide +kernel
theorem d_X_storeCapability_46 : decode c_X_storeCapability 46 = .ok (.iload 6, 2) := by decide +kernel
theorem d_X_storeCapability_48 : decode c_X_storeCapability 48 = .ok (.ifCond .ne 51, 3) := by decide +kernel
theorem d_X_storeCapability_51 : decode c_X_storeCapability 51 = .ok (.iload 5, 2) := by decide +kernel
theorem d_X_storeCapability_53 : decode c_X_storeCapability 53 = .ok (.iconst 3, 1) := by decide +kernel
theorem d_X_storeCapability_54 : decode c_X_storeCapability 54 = .ok (.iushr, 1) := by decide +kernel
theorem d_X_storeCapability_55 : decode c_X_storeCapability 55 = .ok (.istore 7, 2) := by decide +kernel
theorem d_X_storeCapability_57 : decode c_X_storeCapability 57 = .ok (.aload_n 0, 1) := by decide +kernel
theorem d_X_storeCapability_58 : decode c_X_storeCapability 58 = .ok (.getfield 9, 3) := by decide +kernel
theorem d_X_storeCapability_61 : decode c_X_storeCapability 61 = .ok (.iconst 2, 1) := by decide +kernel
theorem d_X_storeCapability_62 : decode c_X_storeCapability 62 = .ok (.iload 7, 2) := by decide +kernel
theorem d_X_storeCapability_64 : decode c_X_storeCapability 64 = .ok (.imul, 1) := by decide +kernel
theorem d_X_storeCapability_65 : decode c_X_storeCapability 65 = .ok (.aload 4, 2) := by decide +kernel
theorem d_X_storeCapability_67 : decode c_X_storeCapability 67 = .ok (.getfield 62, 3) := by decide +kernel
theorem d_X_storeCapability_70 : decode c_X_storeCapability 70 = .ok (.iastore, 1) := by decide +kernel
theorem d_X_storeCapability_71 : decode c_X_storeCapability 71 = .ok (.aload_n 0, 1) := by decide +kernel
theorem d_X_storeCapability_72 : decode c_X_storeCapability 72 = .ok (.getfield 9, 3) := by decide +kernel
theorem d_X_storeCapability_75 : decode c_X_storeCapability 75 = .ok (.iconst 2, 1) := by decide +kernel
theorem d_X_storeCapability_76 : decode c_X_storeCapability 76 = .ok (.iload 7, 2) := by decide +kernel
theorem d_X_storeCapability_78 : decode c_X_storeCapability 78 = .ok (.imul, 1) := by decide +kernel
theorem d_X_storeCapability_79 : decode c_X_storeCapability 79 = .ok (.iconst 1, 1) := by decide +kernel
theorem d_X_storeCapability_80 : decode c_X_storeCapability 80 = .ok (.iadd, 1) := by decide +kernel
theorem d_X_storeCapability_81 : decode c_X_storeCapability 81 = .ok (.aload 4, 2) := by decide +kernel
theorem d_X_storeCapability_83 : decode c_X_storeCapability 83 = .ok (.getfield 65, 3) := by decide +kernel
theorem d_X_storeCapability_86 : decode c_X_storeCapability 86 = .ok (.iastore, 1) := by decide +kernel
theorem d_X_storeCapability_87 : decode c_X_storeCapability 87 = .ok (.aload_n 0, 1) := by decide +kernel
theorem d_X_storeCapability_88 : decode c_X_storeCapability 88 = .ok (.getfield 13, 3) := by decide +kernel
theorem d_X_storeCapability_91 : decode c_X_storeCapability 91 = .ok (.iload 7, 2) := by decide +kernel
theorem d_X_storeCapability_93 : decode c_X_storeCapability 93 = .ok (.aload 4, 2) := by decide +kernel
theorem d_X_storeCapability_95 : decode c_X_storeCapability 95 = .ok (.getfield 68, 3) := by decide +kernel
theorem d_X_storeCapability_98 : decode c_X_storeCapability 98 = .ok (.bastore, 1) := by decide +kernel
theorem d_X_storeCapability_99 : decode c_X_storeCapability 99 = .ok (.iload 6, 2) := by decide +kernel
theorem d_X_storeCapability_101 : decode c_X_storeCapability 101 = .ok (.ireturn, 1) := by decide +kernel
theorem d_X_jump_0 : decode c_X_jump 0 = .ok (.aload_n 0, 1) := by decide +kernel
theorem d_X_jump_1 : decode c_X_jump 1 = .ok (.getfield 19, 3) := by decide +kernel
theorem d_X_jump_4 : decode c_X_jump 4 = .ok (.iload_n 2, 1) := by decide +kernel
theorem d_X_jump_5 : decode c_X_jump 5 = .ok (.aaload, 1) := by decide +kernel
theorem d_X_jump_6 : decode c_X_jump 6 = .ok (.astore_n 3, 1) := by decide +kernel
theorem d_X_jump_7 : decode c_X_jump 7 = .ok (.aload_n 3, 1) := by decide +kernel
theorem d_X_jump_8 : decode c_X_jump 8 = .ok (.getfield 68, 3) := by decide +kernel
theorem d_X_jump_11 : decode c_X_jump 11 = .ok (.ifCond .ne 9, 3) := by decide +kernel
theorem d_X_jump_14 : decode c_X_jump 14 = .ok (.iload_n 2, 1) := by decide +kernel
theorem d_X_jump_15 : decode c_X_jump 15 = .ok (.iconst 1, 1) := by decide +kernel
theorem d_X_jump_16 : decode c_X_jump 16 = .ok (.invokestatic 106, 3) := by decide +kernel
theorem d_X_jump_19 : decode c_X_jump 19 = .ok (.ireturn, 1) := by decide +kernel
theorem d_X_jump_20 : decode c_X_jump 20 = .ok (.aload_n 3, 1) := by decide +kernel
theorem d_X_jump_21 : decode c_X_jump 21 = .ok (.invokevirtual 97, 3) := by decide +kernel
theorem d_X_jump_24 : decode c_X_jump 24 = .ok (.ifCond .eq 17, 3) := by decide +kernel
theorem d_X_jump_27 : decode c_X_jump 27 = .ok (.aload_n 3, 1) := by decide +kernel
theorem d_X_jump_28 : decode c_X_jump 28 = .ok (.invokevirtual 182, 3) := by decide +kernel
theorem d_X_jump_31 : decode c_X_jump 31 = .ok (.iconst 1, 1) := by decide +kernel
theorem d_X_jump_32 : decode c_X_jump 32 = .ok (.if_icmp .eq 9, 3) := by decide +kernel
theorem d_X_jump_35 : decode c_X_jump 35 = .ok (.iload_n 2, 1) := by decide +kernel
theorem d_X_jump_36 : decode c_X_jump 36 = .ok (.iconst 2, 1) := by decide +kernel
theorem d_X_jump_37 : decode c_X_jump 37 = .ok (.invokestatic 106, 3) := by decide +kernel
theorem d_X_jump_40 : decode c_X_jump 40 = .ok (.ireturn, 1) := by decide +kernel
theorem d_X_jump_41 : decode c_X_jump 41 = .ok (.aload_n 3, 1) := by decide +kernel
theorem d_X_jump_42 : decode c_X_jump 42 = .ok (.iconst 1, 1) := by decide +kernel
theorem d_X_jump_43 : decode c_X_jump 43 = .ok (.invokevirtual 101, 3) := by decide +kernel
theorem d_X_jump_46 : decode c_X_jump 46 = .ok (.ifCond .ne 9, 3) := by decide +kernel
theorem d_X_jump_49 : decode c_X_jump 49 = .ok (.iload_n 2, 1) := by decide +kernel
theorem d_X_jump_50 : decode c_X_jump 50 = .ok (.iconst 3, 1) := by decide +kernel
theorem d_X_jump_51 : decode c_X_jump 51 = .ok (.invokestatic 106, 3) := by decide +kernel
theorem d_X_jump_54 : decode c_X_jump 54 = .ok (.ireturn, 1) := by decide +kernel
theorem d_X_jump_55 : decode c_X_jump 55 = .ok (.aload_n 0, 1) := by decide +kernel
theorem d_X_jump_56 : decode c_X_jump 56 = .ok (.getfield 24, 3) := by decide +kernel
theorem d_X_jump_59 : decode c_X_jump 59 = .ok (.aload_n 3, 1) := by decide +kernel
theorem d_X_jump_60 : decode c_X_jump 60 = .ok (.invokevirtual 93, 3) := by decide +kernel
theorem d_X_jump_63 : decode c_X_jump 63 = .ok (.aload_n 0, 1) := by decide +kernel
theorem d_X_jump_64 : decode c_X_jump 64 = .ok (.getfield 24, 3) := by decide +kernel
theorem d_X_jump_67 : decode c_X_jump 67 = .ok (.iconst 0, 1) := by decide +kernel
theorem d_X_jump_68 : decode c_X_jump 68 = .ok (.invokevirtual 185, 3) := by decide +kernel
theorem d_X_jump_71 : decode c_X_jump 71 = .ok (.aload_n 0, 1) := by decide +kernel
theorem d_X_jump_72 : decode c_X_jump 72 = .ok (.iload_n 1, 1) := by decide +kernel
theorem d_X_jump_73 : decode c_X_jump 73 = .ok (.invokevirtual 128, 3) := by decide +kernel
theorem d_X_jump_76 : decode c_X_jump 76 = .ok (.aload_n 0, 1) := by decide +kernel
theorem d_X_jump_77 : decode c_X_jump 77 = .ok (.getfield 41, 3) := by decide +kernel
theorem d_X_jump_80 : decode c_X_jump 80 = .ok (.aload_n 0, 1) := by decide +kernel
theorem d_X_jump_81 : decode c_X_jump 81 = .ok (.getfield 24, 3) := by decide +kernel
theorem d_X_jump_84 : decode c_X_jump 84 = .ok (.invokevirtual 93, 3) := by decide +kernel
theorem d_X_jump_87 : decode c_X_jump 87 = .ok (.iconst 0, 1) := by decide +kernel
theorem d_X_jump_88 : decode c_X_jump 88 = .ok (.ireturn, 1) := by decide +kernel
theorem d_X_seal_0 : decode c_X_seal 0 = .ok (.aload_n 0, 1) := by decide +kernel
theorem d_X_seal_1 : decode c_X_seal 1 = .ok (.getfield 19, 3) := by decide +kernel
theorem d_X_seal_4 : decode c_X_seal 4 = .ok (.iload_n 2, 1) := by decide +kernel
theorem d_X_seal_5 : decode c_X_seal 5 = .ok (.aaload, 1) := by decide +kernel
theorem d_X_seal_6 : decode c_X_seal 6 = .ok (.astore 4, 2) := by decide +kernel
theorem d_X_seal_8 : decode c_X_seal 8 = .ok (.aload 4, 2) := by decide +kernel
theorem d_X_seal_10 : decode c_X_seal 10 = .ok (.getfield 68, 3) := by decide +kernel
theorem d_X_seal_13 : decode c_X_seal 13 = .ok (.ifCond .ne 9, 3) := by decide +kernel
theorem d_X_seal_16 : decode c_X_seal 16 = .ok (.iload_n 2, 1) := by decide +kernel
theorem d_X_seal_17 : decode c_X_seal 17 = .ok (.iconst 1, 1) := by decide +kernel
theorem d_X_seal_18 : decode c_X_seal 18 = .ok (.invokestatic 106, 3) := by decide +kernel
theorem d_X_seal_21 : decode c_X_seal 21 = .ok (.ireturn, 1) := by decide +kernel
theorem d_X_seal_22 : decode c_X_seal 22 = .ok (.aload 4, 2) := by decide +kernel
theorem d_X_seal_24 : decode c_X_seal 24 = .ok (.invokevirtual 97, 3) := by decide +kernel
theorem d_X_seal_27 : decode c_X_seal 27 = .ok (.ifCond .eq 9, 3) := by decide +kernel
theorem d_X_seal_30 : decode c_X_seal 30 = .ok (.iload_n 2, 1) := by decide +kernel
theorem d_X_seal_31 : decode c_X_seal 31 = .ok (.iconst 2, 1) := by decide +kernel
theorem d_X_seal_32 : decode c_X_seal 32 = .ok (.invokestatic 106, 3) := by decide +kernel
theorem d_X_seal_35 : decode c_X_seal 35 = .ok (.ireturn, 1) := by decide +kernel
theorem d_X_seal_36 : decode c_X_seal 36 = .ok (.aload_n 0, 1) := by decide +kernel
theorem d_X_seal_37 : decode c_X_seal 37 = .ok (.getfield 19, 3) := by decide +kernel
theorem d_X_seal_40 : decode c_X_seal 40 = .ok (.iload_n 3, 1) := by decide +kernel
theorem d_X_seal_41 : decode c_X_seal 41 = .ok (.aaload, 1) := by decide +kernel
theorem d_X_seal_42 : decode c_X_seal 42 = .ok (.getfield 62, 3) := by decide +kernel
theorem d_X_seal_45 : decode c_X_seal 45 = .ok (.istore 5, 2) := by decide +kernel
theorem d_X_seal_47 : decode c_X_seal 47 = .ok (.aload_n 0, 1) := by decide +kernel
theorem d_X_seal_48 : decode c_X_seal 48 = .ok (.iload_n 3, 1) := by decide +kernel
theorem d_X_seal_49 : decode c_X_seal 49 = .ok (.bipush 32, 2) := by decide +kernel
theorem d_X_seal_51 : decode c_X_seal 51 = .ok (.iconst 1, 1) := by decide +kernel
theorem d_X_seal_52 : decode c_X_seal 52 = .ok (.iload 5, 2) := by decide +kernel
theorem d_X_seal_54 : decode c_X_seal 54 = .ok (.invokevirtual 82, 3) := by decide +kernel
theorem d_X_seal_57 : decode c_X_seal 57 = .ok (.istore 6, 2) := by decide +kernel
theorem d_X_seal_59 : decode c_X_seal 59 = .ok (.iload 6, 2) := by decide +kernel
theorem d_X_seal_61 : decode c_X_seal 61 = .ok (.ifCond .eq 6, 3) := by decide +kernel
theorem d_X_seal_64 : decode c_X_seal 64 = .ok (.iload 6, 2) := by decide +kernel
theorem d_X_seal_66 : decode c_X_seal 66 = .ok (.ireturn, 1) := by decide +kernel
theorem d_X_seal_67 : decode c_X_seal 67 = .ok (.iload 5, 2) := by decide +kernel
theorem d_X_seal_69 : decode c_X_seal 69 = .ok (.iconst 2, 1) := by decide +kernel
theorem d_X_seal_70 : decode c_X_seal 70 = .ok (.if_icmp .lt 10, 3) := by decide +kernel
theorem d_X_seal_73 : decode c_X_seal 73 = .ok (.iload 5, 2) := by decide +kernel
theorem d_X_seal_75 : decode c_X_seal 75 = .ok (.bipush 15, 2) := by decide +kernel
theorem d_X_seal_77 : decode c_X_seal 77 = .ok (.if_icmp .le 10, 3) := by decide +kernel
theorem d_X_seal_80 : decode c_X_seal 80 = .ok (.iload_n 3, 1) := by decide +kernel
theorem d_X_seal_81 : decode c_X_seal 81 = .ok (.bipush 7, 2) := by decide +kernel
theorem d_X_seal_83 : decode c_X_seal 83 = .ok (.invokestatic 106, 3) := by decide +kernel
theorem d_X_seal_86 : decode c_X_seal 86 = .ok (.ireturn, 1) := by decide +kernel
theorem d_X_seal_87 : decode c_X_seal 87 = .ok (.aload_n 0, 1) := by decide +kernel
theorem d_X_seal_88 : decode c_X_seal 88 = .ok (.iload_n 1, 1) := by decide +kernel
theorem d_X_seal_89 : decode c_X_seal 89 = .ok (.aload 4, 2) := by decide +kernel
theorem d_X_seal_91 : decode c_X_seal 91 = .ok (.iload 5, 2) := by decide +kernel
theorem d_X_seal_93 : decode c_X_seal 93 = .ok (.invokevirtual 188, 3) := by decide +kernel
theorem d_X_seal_96 : decode c_X_seal 96 = .ok (.iconst 0, 1) := by decide +kernel
theorem d_X_seal_97 : decode c_X_seal 97 = .ok (.ireturn, 1) := by decide +kernel
theorem d_X_unseal_0 : decode c_X_unseal 0 = .ok (.aload_n 0, 1) := by decide +kernel
theorem d_X_unseal_1 : decode c_X_unseal 1 = .ok (.getfield 19, 3) := by decide +kernel
theorem d_X_unseal_4 : decode c_X_unseal 4 = .ok (.iload_n 2, 1) := by decide +kernel
theorem d_X_unseal_5 : decode c_X_unseal 5 = .ok (.aaload, 1) := by decide +kernel
theorem d_X_unseal_6 : decode c_X_unseal 6 = .ok (.astore 4, 2) := by decide +kernel
theorem d_X_unseal_8 : decode c_X_unseal 8 = .ok (.aload 4, 2) := by decide +kernel
theorem d_X_unseal_10 : decode c_X_unseal 10 = .ok (.getfield 68, 3) := by decide +kernel
theorem d_X_unseal_13 : decode c_X_unseal 13 = .ok (.ifCond .ne 9, 3) := by decide +kernel
theorem d_X_unseal_16 : decode c_X_unseal 16 = .ok (.iload_n 2, 1) := by decide +kernel
theorem d_X_unseal_17 : decode c_X_unseal 17 = .ok (.iconst 1, 1) := by decide +kernel
theorem d_X_unseal_18 : decode c_X_unseal 18 = .ok (.invokestatic 106, 3) := by decide +kernel
theorem d_X_unseal_21 : decode c_X_unseal 21 = .ok (.ireturn, 1) := by decide +kernel
theorem d_X_unseal_22 : decode c_X_unseal 22 = .ok (.aload 4, 2) := by decide +kernel
theorem d_X_unseal_24 : decode c_X_unseal 24 = .ok (.invokevirtual 97, 3) := by decide +kernel
theorem d_X_unseal_27 : decode c_X_unseal 27 = .ok (.ifCond .eq 12, 3) := by decide +kernel
theorem d_X_unseal_30 : decode c_X_unseal 30 = .ok (.aload 4, 2) := by decide +kernel
theorem d_X_unseal_32 : decode c_X_unseal 32 = .ok (.invokevirtual 182, 3) := by decide +kernel
theorem d_X_unseal_35 : decode c_X_unseal 35 = .ok (.iconst 1, 1) := by decide +kernel
theorem d_X_unseal_36 : decode c_X_unseal 36 = .ok (.if_icmp .ne 9, 3) := by decide +kernel
theorem d_X_unseal_39 : decode c_X_unseal 39 = .ok (.iload_n 2, 1) := by decide +kernel
theorem d_X_unseal_40 : decode c_X_unseal 40 = .ok (.iconst 2, 1) := by decide +kernel
theorem d_X_unseal_41 : decode c_X_unseal 41 = .ok (.invokestatic 106, 3) := by decide +kernel
theorem d_X_unseal_44 : decode c_X_unseal 44 = .ok (.ireturn, 1) := by decide +kernel
theorem d_X_unseal_45 : decode c_X_unseal 45 = .ok (.aload_n 0, 1) := by decide +kernel
theorem d_X_unseal_46 : decode c_X_unseal 46 = .ok (.getfield 19, 3) := by decide +kernel
theorem d_X_unseal_49 : decode c_X_unseal 49 = .ok (.iload_n 3, 1) := by decide +kernel
theorem d_X_unseal_50 : decode c_X_unseal 50 = .ok (.aaload, 1) := by decide +kernel
theorem d_X_unseal_51 : decode c_X_unseal 51 = .ok (.getfield 62, 3) := by decide +kernel
theorem d_X_unseal_54 : decode c_X_unseal 54 = .ok (.istore 5, 2) := by decide +kernel
theorem d_X_unseal_56 : decode c_X_unseal 56 = .ok (.aload_n 0, 1) := by decide +kernel
theorem d_X_unseal_57 : decode c_X_unseal 57 = .ok (.iload_n 3, 1) := by decide +kernel
theorem d_X_unseal_58 : decode c_X_unseal 58 = .ok (.bipush 64, 2) := by decide +kernel
theorem d_X_unseal_60 : decode c_X_unseal 60 = .ok (.iconst 1, 1) := by decide +kernel
theorem d_X_unseal_61 : decode c_X_unseal 61 = .ok (.iload 5, 2) := by decide +kernel
theorem d_X_unseal_63 : decode c_X_unseal 63 = .ok (.invokevirtual 82, 3) := by decide +kernel
theorem d_X_unseal_66 : decode c_X_unseal 66 = .ok (.istore 6, 2) := by decide +kernel
theorem d_X_unseal_68 : decode c_X_unseal 68 = .ok (.iload 6, 2) := by decide +kernel
theorem d_X_unseal_70 : decode c_X_unseal 70 = .ok (.ifCond .eq 6, 3) := by decide +kernel
theorem d_X_unseal_73 : decode c_X_unseal 73 = .ok (.iload 6, 2) := by decide +kernel
theorem d_X_unseal_75 : decode c_X_unseal 75 = .ok (.ireturn, 1) := by decide +kernel
theorem d_X_unseal_76 : decode c_X_unseal 76 = .ok (.iload 5, 2) := by decide +kernel
theorem d_X_unseal_78 : decode c_X_unseal 78 = .ok (.aload 4, 2) := by decide +kernel
theorem d_X_unseal_80 : decode c_X_unseal 80 = .ok (.invokevirtual 182, 3) := by decide +kernel
theorem d_X_unseal_83 : decode c_X_unseal 83 = .ok (.if_icmp .eq 10, 3) := by decide +kernel
theorem d_X_unseal_86 : decode c_X_unseal 86 = .ok (.iload_n 3, 1) := by decide +kernel
theorem d_X_unseal_87 : decode c_X_unseal 87 = .ok (.bipush 7, 2) := by decide +kernel
theorem d_X_unseal_89 : decode c_X_unseal 89 = .ok (.invokestatic 106, 3) := by decide +kernel
theorem d_X_unseal_92 : decode c_X_unseal 92 = .ok (.ireturn, 1) := by decide +kernel
theorem d_X_unseal_93 : decode c_X_unseal 93 = .ok (.aload_n 0, 1) := by decide +kernel
theorem d_X_unseal_94 : decode c_X_unseal 94 = .ok (.iload_n 1, 1) := by decide +kernel
theorem d_X_unseal_95 : decode c_X_unseal 95 = .ok (.aload 4, 2) := by decide +kernel
theorem d_X_unseal_97 : decode c_X_unseal 97 = .ok (.iconst 0, 1) := by decide +kernel
theorem d_X_unseal_98 : decode c_X_unseal 98 = .ok (.invokevirtual 188, 3) := by decide +kernel
theorem d_X_unseal_101 : decode c_X_unseal 101 = .ok (.iconst 0, 1) := by decide +kernel
theorem d_X_unseal_102 : decode c_X_unseal 102 = .ok (.ireturn, 1) := by decide +kernel
theorem d_X_swap_0 : decode c_X_swap 0 = .ok (.aload_n 0, 1) := by decide +kernel
theorem d_X_swap_1 : decode c_X_swap 1 = .ok (.getfield 41, 3) := by decide +kernel
theorem d_X_swap_4 : decode c_X_swap 4 = .ok (.sipush 128, 3) := by decide +kernel
theorem d_X_swap_7 : decode c_X_swap 7 = .ok (.invokevirtual 101, 3) := by decide +kernel
theorem d_X_swap_10 : decode c_X_swap 10 = .ok (.ifCond .ne 10, 3) := by decide +kernel
theorem d_X_swap_13 : decode c_X_swap 13 = .ok (.bipush 8, 2) := by decide +kernel
theorem d_X_swap_15 : decode c_X_swap 15 = .ok (.iconst 3, 1) := by decide +kernel
theorem d_X_swap_16 : decode c_X_swap 16 = .ok (.invokestatic 106, 3) := by decide +kernel
theorem d_X_swap_19 : decode c_X_swap 19 = .ok (.ireturn, 1) := by decide +kernel
theorem d_X_swap_20 : decode c_X_swap 20 = .ok (.iload_n 3, 1) := by decide +kernel
theorem d_X_swap_21 : decode c_X_swap 21 = .ok (.ifCond .lt 8, 3) := by decide +kernel
theorem d_X_swap_24 : decode c_X_swap 24 = .ok (.iload_n 3, 1) := by decide +kernel
theorem d_X_swap_25 : decode c_X_swap 25 = .ok (.iconst 2, 1) := by decide +kernel
theorem d_X_swap_26 : decode c_X_swap 26 = .ok (.if_icmp .le 11, 3) := by decide +kernel
theorem d_X_swap_29 : decode c_X_swap 29 = .ok (.bipush 8, 2) := by decide +kernel
theorem d_X_swap_31 : decode c_X_swap 31 = .ok (.bipush 8, 2) := by decide +kernel
theorem d_X_swap_33 : decode c_X_swap 33 = .ok (.invokestatic 106, 3) := by decide +kernel
theorem d_X_swap_36 : decode c_X_swap 36 = .ok (.ireturn, 1) := by decide +kernel
theorem d_X_swap_37 : decode c_X_swap 37 = .ok (.aload_n 0, 1) := by decide +kernel
theorem d_X_swap_38 : decode c_X_swap 38 = .ok (.getfield 19, 3) := by decide +kernel
theorem d_X_swap_41 : decode c_X_swap 41 = .ok (.bipush 9, 2) := by decide +kernel
theorem d_X_swap_43 : decode c_X_swap 43 = .ok (.iload_n 3, 1) := by decide +kernel
theorem d_X_swap_44 : decode c_X_swap 44 = .ok (.iadd, 1) := by decide +kernel
theorem d_X_swap_45 : decode c_X_swap 45 = .ok (.aaload, 1) := by decide +kernel
theorem d_X_swap_46 : decode c_X_swap 46 = .ok (.astore 4, 2) := by decide +kernel
theorem d_X_swap_48 : decode c_X_swap 48 = .ok (.aload_n 0, 1) := by decide +kernel
theorem d_X_swap_49 : decode c_X_swap 49 = .ok (.getfield 24, 3) := by decide +kernel
theorem d_X_swap_52 : decode c_X_swap 52 = .ok (.aload 4, 2) := by decide +kernel
theorem d_X_swap_54 : decode c_X_swap 54 = .ok (.invokevirtual 93, 3) := by decide +kernel
theorem d_X_swap_57 : decode c_X_swap 57 = .ok (.iload_n 2, 1) := by decide +kernel
theorem d_X_swap_58 : decode c_X_swap 58 = .ok (.ifCond .eq 14, 3) := by decide +kernel
theorem d_X_swap_61 : decode c_X_swap 61 = .ok (.aload 4, 2) := by decide +kernel
theorem d_X_swap_63 : decode c_X_swap 63 = .ok (.aload_n 0, 1) := by decide +kernel
theorem d_X_swap_64 : decode c_X_swap 64 = .ok (.getfield 19, 3) := by decide +kernel
theorem d_X_swap_67 : decode c_X_swap 67 = .ok (.iload_n 2, 1) := by decide +kernel
theorem d_X_swap_68 : decode c_X_swap 68 = .ok (.aaload, 1) := by decide +kernel
theorem d_X_swap_69 : decode c_X_swap 69 = .ok (.invokevirtual 93, 3) := by decide +kernel
theorem d_X_swap_72 : decode c_X_swap 72 = .ok (.aload_n 0, 1) := by decide +kernel
theorem d_X_swap_73 : decode c_X_swap 73 = .ok (.iload_n 1, 1) := by decide +kernel
theorem d_X_swap_74 : decode c_X_swap 74 = .ok (.invokevirtual 172, 3) := by decide +kernel
theorem d_X_swap_77 : decode c_X_swap 77 = .ok (.iconst 0, 1) := by decide +kernel
theorem d_X_swap_78 : decode c_X_swap 78 = .ok (.ireturn, 1) := by decide +kernel
theorem d_X_returnFromTrap_0 : decode c_X_returnFromTrap 0 = .ok (.aload_n 0, 1) := by decide +kernel
theorem d_X_returnFromTrap_1 : decode c_X_returnFromTrap 1 = .ok (.getfield 41, 3) := by decide +kernel
theorem d_X_returnFromTrap_4 : decode c_X_returnFromTrap 4 = .ok (.sipush 128, 3) := by decide +kernel
theorem d_X_returnFromTrap_7 : decode c_X_returnFromTrap 7 = .ok (.invokevirtual 101, 3) := by decide +kernel
theorem d_X_returnFromTrap_10 : decode c_X_returnFromTrap 10 = .ok (.ifCond .ne 10, 3) := by decide +kernel
theorem d_X_returnFromTrap_13 : decode c_X_returnFromTrap 13 = .ok (.bipush 8, 2) := by decide +kernel
theorem d_X_returnFromTrap_15 : decode c_X_returnFromTrap 15 = .ok (.iconst 3, 1) := by decide +kernel
theorem d_X_returnFromTrap_16 : decode c_X_returnFromTrap 16 = .ok (.invokestatic 106, 3) := by decide +kernel
theorem d_X_returnFromTrap_19 : decode c_X_returnFromTrap 19 = .ok (.ireturn, 1) := by decide +kernel
theorem d_X_returnFromTrap_20 : decode c_X_returnFromTrap 20 = .ok (.aload_n 0, 1) := by decide +kernel
theorem d_X_returnFromTrap_21 : decode c_X_returnFromTrap 21 = .ok (.getfield 41, 3) := by decide +kernel
theorem d_X_returnFromTrap_24 : decode c_X_returnFromTrap 24 = .ok (.aload_n 0, 1) := by decide +kernel
theorem d_X_returnFromTrap_25 : decode c_X_returnFromTrap 25 = .ok (.getfield 19, 3) := by decide +kernel
theorem d_X_returnFromTrap_28 : decode c_X_returnFromTrap 28 = .ok (.bipush 10, 2) := by decide +kernel
theorem d_X_returnFromTrap_30 : decode c_X_returnFromTrap 30 = .ok (.aaload, 1) := by decide +kernel
theorem d_X_returnFromTrap_31 : decode c_X_returnFromTrap 31 = .ok (.invokevirtual 93, 3) := by decide +kernel
theorem d_X_returnFromTrap_34 : decode c_X_returnFromTrap 34 = .ok (.aload_n 0, 1) := by decide +kernel
theorem d_X_returnFromTrap_35 : decode c_X_returnFromTrap 35 = .ok (.getfield 41, 3) := by decide +kernel
theorem d_X_returnFromTrap_38 : decode c_X_returnFromTrap 38 = .ok (.invokevirtual 182, 3) := by decide +kernel
theorem d_X_returnFromTrap_41 : decode c_X_returnFromTrap 41 = .ok (.iconst 1, 1) := by decide +kernel
theorem d_X_returnFromTrap_42 : decode c_X_returnFromTrap 42 = .ok (.if_icmp .ne 11, 3) := by decide +kernel
theorem d_X_returnFromTrap_45 : decode c_X_returnFromTrap 45 = .ok (.aload_n 0, 1) := by decide +kernel
theorem d_X_returnFromTrap_46 : decode c_X_returnFromTrap 46 = .ok (.getfield 41, 3) := by decide +kernel
