theorem d_K_init_0 : decode c_K_init 0 = .ok (.aload_n 0, 1) := by decide +kernel
theorem d_K_init_1 : decode c_K_init 1 = .ok (.invokespecial 5, 3) := by decide +kernel
theorem d_K_init_4 : decode c_K_init 4 = .ok (.aload_n 0, 1) := by decide +kernel
theorem d_K_init_5 : decode c_K_init 5 = .ok (.iconst 0, 1) := by decide +kernel
theorem d_K_init_6 : decode c_K_init 6 = .ok (.putfield 11, 3) := by decide +kernel
theorem d_K_init_9 : decode c_K_init 9 = .ok (.aload_n 0, 1) := by decide +kernel
theorem d_K_init_10 : decode c_K_init 10 = .ok (.iconst 0, 1) := by decide +kernel
theorem d_K_init_11 : decode c_K_init 11 = .ok (.putfield 15, 3) := by decide +kernel
theorem d_K_init_14 : decode c_K_init 14 = .ok (.aload_n 0, 1) := by decide +kernel
theorem d_K_init_15 : decode c_K_init 15 = .ok (.iconst 0, 1) := by decide +kernel
theorem d_K_init_16 : decode c_K_init 16 = .ok (.putfield 19, 3) := by decide +kernel
theorem d_K_init_19 : decode c_K_init 19 = .ok (.return_, 1) := by decide +kernel
theorem d_K_copy_0 : decode c_K_copy 0 = .ok (.aload_n 0, 1) := by decide +kernel
theorem d_K_copy_1 : decode c_K_copy 1 = .ok (.aload_n 1, 1) := by decide +kernel
theorem d_K_copy_2 : decode c_K_copy 2 = .ok (.getfield 11, 3) := by decide +kernel
theorem d_K_copy_5 : decode c_K_copy 5 = .ok (.putfield 11, 3) := by decide +kernel
theorem d_K_copy_8 : decode c_K_copy 8 = .ok (.aload_n 0, 1) := by decide +kernel
theorem d_K_copy_9 : decode c_K_copy 9 = .ok (.aload_n 1, 1) := by decide +kernel
theorem d_K_copy_10 : decode c_K_copy 10 = .ok (.getfield 15, 3) := by decide +kernel
theorem d_K_copy_13 : decode c_K_copy 13 = .ok (.putfield 15, 3) := by decide +kernel
theorem d_K_copy_16 : decode c_K_copy 16 = .ok (.aload_n 0, 1) := by decide +kernel
theorem d_K_copy_17 : decode c_K_copy 17 = .ok (.aload_n 1, 1) := by decide +kernel
theorem d_K_copy_18 : decode c_K_copy 18 = .ok (.getfield 19, 3) := by decide +kernel
theorem d_K_copy_21 : decode c_K_copy 21 = .ok (.putfield 19, 3) := by decide +kernel
theorem d_K_copy_24 : decode c_K_copy 24 = .ok (.return_, 1) := by decide +kernel
theorem d_K_becomeNumber_0 : decode c_K_becomeNumber 0 = .ok (.aload_n 0, 1) := by decide +kernel
theorem d_K_becomeNumber_1 : decode c_K_becomeNumber 1 = .ok (.iconst 0, 1) := by decide +kernel
theorem d_K_becomeNumber_2 : decode c_K_becomeNumber 2 = .ok (.putfield 11, 3) := by decide +kernel
theorem d_K_becomeNumber_5 : decode c_K_becomeNumber 5 = .ok (.aload_n 0, 1) := by decide +kernel
theorem d_K_becomeNumber_6 : decode c_K_becomeNumber 6 = .ok (.iconst 0, 1) := by decide +kernel
theorem d_K_becomeNumber_7 : decode c_K_becomeNumber 7 = .ok (.putfield 15, 3) := by decide +kernel
theorem d_K_becomeNumber_10 : decode c_K_becomeNumber 10 = .ok (.aload_n 0, 1) := by decide +kernel
theorem d_K_becomeNumber_11 : decode c_K_becomeNumber 11 = .ok (.iload_n 1, 1) := by decide +kernel
theorem d_K_becomeNumber_12 : decode c_K_becomeNumber 12 = .ok (.putfield 19, 3) := by decide +kernel
theorem d_K_becomeNumber_15 : decode c_K_becomeNumber 15 = .ok (.return_, 1) := by decide +kernel
theorem d_K_becomeRoot_0 : decode c_K_becomeRoot 0 = .ok (.aload_n 0, 1) := by decide +kernel
theorem d_K_becomeRoot_1 : decode c_K_becomeRoot 1 = .ok (.iconst 1, 1) := by decide +kernel
theorem d_K_becomeRoot_2 : decode c_K_becomeRoot 2 = .ok (.putfield 11, 3) := by decide +kernel
theorem d_K_becomeRoot_5 : decode c_K_becomeRoot 5 = .ok (.aload_n 0, 1) := by decide +kernel
theorem d_K_becomeRoot_6 : decode c_K_becomeRoot 6 = .ok (.sipush 255, 3) := by decide +kernel
theorem d_K_becomeRoot_9 : decode c_K_becomeRoot 9 = .ok (.putfield 15, 3) := by decide +kernel
theorem d_K_becomeRoot_12 : decode c_K_becomeRoot 12 = .ok (.aload_n 0, 1) := by decide +kernel
theorem d_K_becomeRoot_13 : decode c_K_becomeRoot 13 = .ok (.lconst 0, 1) := by decide +kernel
theorem d_K_becomeRoot_14 : decode c_K_becomeRoot 14 = .ok (.ldc2_w 22, 3) := by decide +kernel
theorem d_K_becomeRoot_17 : decode c_K_becomeRoot 17 = .ok (.invokevirtual 24, 3) := by decide +kernel
theorem d_K_becomeRoot_20 : decode c_K_becomeRoot 20 = .ok (.aload_n 0, 1) := by decide +kernel
theorem d_K_becomeRoot_21 : decode c_K_becomeRoot 21 = .ok (.iload_n 1, 1) := by decide +kernel
theorem d_K_becomeRoot_22 : decode c_K_becomeRoot 22 = .ok (.putfield 19, 3) := by decide +kernel
theorem d_K_becomeRoot_25 : decode c_K_becomeRoot 25 = .ok (.return_, 1) := by decide +kernel
theorem d_K_permissions_0 : decode c_K_permissions 0 = .ok (.aload_n 0, 1) := by decide +kernel
theorem d_K_permissions_1 : decode c_K_permissions 1 = .ok (.getfield 15, 3) := by decide +kernel
theorem d_K_permissions_4 : decode c_K_permissions 4 = .ok (.sipush 255, 3) := by decide +kernel
theorem d_K_permissions_7 : decode c_K_permissions 7 = .ok (.iand, 1) := by decide +kernel
theorem d_K_permissions_8 : decode c_K_permissions 8 = .ok (.ireturn, 1) := by decide +kernel
theorem d_K_permits_0 : decode c_K_permits 0 = .ok (.aload_n 0, 1) := by decide +kernel
theorem d_K_permits_1 : decode c_K_permits 1 = .ok (.invokevirtual 28, 3) := by decide +kernel
theorem d_K_permits_4 : decode c_K_permits 4 = .ok (.iload_n 1, 1) := by decide +kernel
theorem d_K_permits_5 : decode c_K_permits 5 = .ok (.iand, 1) := by decide +kernel
theorem d_K_permits_6 : decode c_K_permits 6 = .ok (.iload_n 1, 1) := by decide +kernel
theorem d_K_permits_7 : decode c_K_permits 7 = .ok (.if_icmp .ne 7, 3) := by decide +kernel
theorem d_K_permits_10 : decode c_K_permits 10 = .ok (.iconst 1, 1) := by decide +kernel
theorem d_K_permits_11 : decode c_K_permits 11 = .ok (.goto 4, 3) := by decide +kernel
theorem d_K_permits_14 : decode c_K_permits 14 = .ok (.iconst 0, 1) := by decide +kernel
theorem d_K_permits_15 : decode c_K_permits 15 = .ok (.ireturn, 1) := by decide +kernel
theorem d_K_keepPermissions_0 : decode c_K_keepPermissions 0 = .ok (.aload_n 0, 1) := by decide +kernel
theorem d_K_keepPermissions_1 : decode c_K_keepPermissions 1 = .ok (.dup, 1) := by decide +kernel
theorem d_K_keepPermissions_2 : decode c_K_keepPermissions 2 = .ok (.getfield 15, 3) := by decide +kernel
theorem d_K_keepPermissions_5 : decode c_K_keepPermissions 5 = .ok (.iload_n 1, 1) := by decide +kernel
theorem d_K_keepPermissions_6 : decode c_K_keepPermissions 6 = .ok (.sipush (-256), 3) := by decide +kernel
theorem d_K_keepPermissions_9 : decode c_K_keepPermissions 9 = .ok (.ior, 1) := by decide +kernel
theorem d_K_keepPermissions_10 : decode c_K_keepPermissions 10 = .ok (.iand, 1) := by decide +kernel
theorem d_K_keepPermissions_11 : decode c_K_keepPermissions 11 = .ok (.putfield 15, 3) := by decide +kernel
theorem d_K_keepPermissions_14 : decode c_K_keepPermissions 14 = .ok (.return_, 1) := by decide +kernel
theorem d_K_type_0 : decode c_K_type 0 = .ok (.aload_n 0, 1) := by decide +kernel
theorem d_K_type_1 : decode c_K_type 1 = .ok (.getfield 15, 3) := by decide +kernel
theorem d_K_type_4 : decode c_K_type 4 = .ok (.bipush 8, 2) := by decide +kernel
theorem d_K_type_6 : decode c_K_type 6 = .ok (.iushr, 1) := by decide +kernel
theorem d_K_type_7 : decode c_K_type 7 = .ok (.bipush 15, 2) := by decide +kernel
theorem d_K_type_9 : decode c_K_type 9 = .ok (.iand, 1) := by decide +kernel
theorem d_K_type_10 : decode c_K_type 10 = .ok (.ireturn, 1) := by decide +kernel
theorem d_K_isSealed_0 : decode c_K_isSealed 0 = .ok (.aload_n 0, 1) := by decide +kernel
theorem d_K_isSealed_1 : decode c_K_isSealed 1 = .ok (.invokevirtual 32, 3) := by decide +kernel
theorem d_K_isSealed_4 : decode c_K_isSealed 4 = .ok (.ifCond .eq 7, 3) := by decide +kernel
theorem d_K_isSealed_7 : decode c_K_isSealed 7 = .ok (.iconst 1, 1) := by decide +kernel
theorem d_K_isSealed_8 : decode c_K_isSealed 8 = .ok (.goto 4, 3) := by decide +kernel
theorem d_K_isSealed_11 : decode c_K_isSealed 11 = .ok (.iconst 0, 1) := by decide +kernel
theorem d_K_isSealed_12 : decode c_K_isSealed 12 = .ok (.ireturn, 1) := by decide +kernel
theorem d_K_setType_0 : decode c_K_setType 0 = .ok (.aload_n 0, 1) := by decide +kernel
theorem d_K_setType_1 : decode c_K_setType 1 = .ok (.aload_n 0, 1) := by decide +kernel
theorem d_K_setType_2 : decode c_K_setType 2 = .ok (.getfield 15, 3) := by decide +kernel
theorem d_K_setType_5 : decode c_K_setType 5 = .ok (.sipush (-3841), 3) := by decide +kernel
theorem d_K_setType_8 : decode c_K_setType 8 = .ok (.iand, 1) := by decide +kernel
theorem d_K_setType_9 : decode c_K_setType 9 = .ok (.iload_n 1, 1) := by decide +kernel
theorem d_K_setType_10 : decode c_K_setType 10 = .ok (.bipush 8, 2) := by decide +kernel
theorem d_K_setType_12 : decode c_K_setType 12 = .ok (.ishl, 1) := by decide +kernel
theorem d_K_setType_13 : decode c_K_setType 13 = .ok (.ior, 1) := by decide +kernel
theorem d_K_setType_14 : decode c_K_setType 14 = .ok (.putfield 15, 3) := by decide +kernel
theorem d_K_setType_17 : decode c_K_setType 17 = .ok (.return_, 1) := by decide +kernel
theorem d_K_move_0 : decode c_K_move 0 = .ok (.aload_n 0, 1) := by decide +kernel
theorem d_K_move_1 : decode c_K_move 1 = .ok (.invokevirtual 35, 3) := by decide +kernel
theorem d_K_move_4 : decode c_K_move 4 = .ok (.lstore_n 2, 1) := by decide +kernel
theorem d_K_move_5 : decode c_K_move 5 = .ok (.aload_n 0, 1) := by decide +kernel
theorem d_K_move_6 : decode c_K_move 6 = .ok (.invokevirtual 39, 3) := by decide +kernel
theorem d_K_move_9 : decode c_K_move 9 = .ok (.lstore 4, 2) := by decide +kernel
theorem d_K_move_11 : decode c_K_move 11 = .ok (.aload_n 0, 1) := by decide +kernel
theorem d_K_move_12 : decode c_K_move 12 = .ok (.iload_n 1, 1) := by decide +kernel
theorem d_K_move_13 : decode c_K_move 13 = .ok (.putfield 19, 3) := by decide +kernel
theorem d_K_move_16 : decode c_K_move 16 = .ok (.aload_n 0, 1) := by decide +kernel
theorem d_K_move_17 : decode c_K_move 17 = .ok (.invokevirtual 42, 3) := by decide +kernel
theorem d_K_move_20 : decode c_K_move 20 = .ok (.ifCond .ne 22, 3) := by decide +kernel
theorem d_K_move_23 : decode c_K_move 23 = .ok (.aload_n 0, 1) := by decide +kernel
theorem d_K_move_24 : decode c_K_move 24 = .ok (.invokevirtual 35, 3) := by decide +kernel
theorem d_K_move_27 : decode c_K_move 27 = .ok (.lload_n 2, 1) := by decide +kernel
theorem d_K_move_28 : decode c_K_move 28 = .ok (.lcmp, 1) := by decide +kernel
theorem d_K_move_29 : decode c_K_move 29 = .ok (.ifCond .ne 13, 3) := by decide +kernel
theorem d_K_move_32 : decode c_K_move 32 = .ok (.aload_n 0, 1) := by decide +kernel
theorem d_K_move_33 : decode c_K_move 33 = .ok (.invokevirtual 39, 3) := by decide +kernel
theorem d_K_move_36 : decode c_K_move 36 = .ok (.lload 4, 2) := by decide +kernel
theorem d_K_move_38 : decode c_K_move 38 = .ok (.lcmp, 1) := by decide +kernel
theorem d_K_move_39 : decode c_K_move 39 = .ok (.ifCond .eq 8, 3) := by decide +kernel
theorem d_K_move_42 : decode c_K_move 42 = .ok (.aload_n 0, 1) := by decide +kernel
theorem d_K_move_43 : decode c_K_move 43 = .ok (.iconst 0, 1) := by decide +kernel
theorem d_K_move_44 : decode c_K_move 44 = .ok (.putfield 11, 3) := by decide +kernel
theorem d_K_move_47 : decode c_K_move 47 = .ok (.return_, 1) := by decide +kernel
theorem d_K_bound_0 : decode c_K_bound 0 = .ok (.iconst 0, 1) := by decide +kernel
theorem d_K_bound_1 : decode c_K_bound 1 = .ok (.istore 5, 2) := by decide +kernel
theorem d_K_bound_3 : decode c_K_bound 3 = .ok (.iload 5, 2) := by decide +kernel
theorem d_K_bound_5 : decode c_K_bound 5 = .ok (.bipush 31, 2) := by decide +kernel
theorem d_K_bound_7 : decode c_K_bound 7 = .ok (.if_icmp .ge 27, 3) := by decide +kernel
theorem d_K_bound_10 : decode c_K_bound 10 = .ok (.lload_n 3, 1) := by decide +kernel
theorem d_K_bound_11 : decode c_K_bound 11 = .ok (.iload 5, 2) := by decide +kernel
theorem d_K_bound_13 : decode c_K_bound 13 = .ok (.invokestatic 46, 3) := by decide +kernel
theorem d_K_bound_16 : decode c_K_bound 16 = .ok (.lload_n 1, 1) := by decide +kernel
theorem d_K_bound_17 : decode c_K_bound 17 = .ok (.iload 5, 2) := by decide +kernel
theorem d_K_bound_19 : decode c_K_bound 19 = .ok (.lshr, 1) := by decide +kernel
theorem d_K_bound_20 : decode c_K_bound 20 = .ok (.lsub, 1) := by decide +kernel
theorem d_K_bound_21 : decode c_K_bound 21 = .ok (.ldc2_w 50, 3) := by decide +kernel
theorem d_K_bound_24 : decode c_K_bound 24 = .ok (.lcmp, 1) := by decide +kernel
theorem d_K_bound_25 : decode c_K_bound 25 = .ok (.ifCond .le 9, 3) := by decide +kernel
theorem d_K_bound_28 : decode c_K_bound 28 = .ok (.iinc 5 1, 3) := by decide +kernel
theorem d_K_bound_31 : decode c_K_bound 31 = .ok (.goto (-28), 3) := by decide +kernel
theorem d_K_bound_34 : decode c_K_bound 34 = .ok (.lload_n 1, 1) := by decide +kernel
theorem d_K_bound_35 : decode c_K_bound 35 = .ok (.iload 5, 2) := by decide +kernel
theorem d_K_bound_37 : decode c_K_bound 37 = .ok (.lshr, 1) := by decide +kernel
theorem d_K_bound_38 : decode c_K_bound 38 = .ok (.l2i, 1) := by decide +kernel
theorem d_K_bound_39 : decode c_K_bound 39 = .ok (.bipush 127, 2) := by decide +kernel
theorem d_K_bound_41 : decode c_K_bound 41 = .ok (.iand, 1) := by decide +kernel
theorem d_K_bound_42 : decode c_K_bound 42 = .ok (.istore 6, 2) := by decide +kernel
theorem d_K_bound_44 : decode c_K_bound 44 = .ok (.lload_n 3, 1) := by decide +kernel
theorem d_K_bound_45 : decode c_K_bound 45 = .ok (.iload 5, 2) := by decide +kernel
theorem d_K_bound_47 : decode c_K_bound 47 = .ok (.invokestatic 46, 3) := by decide +kernel
theorem d_K_bound_50 : decode c_K_bound 50 = .ok (.l2i, 1) := by decide +kernel
theorem d_K_bound_51 : decode c_K_bound 51 = .ok (.bipush 127, 2) := by decide +kernel
theorem d_K_bound_53 : decode c_K_bound 53 = .ok (.iand, 1) := by decide +kernel
theorem d_K_bound_54 : decode c_K_bound 54 = .ok (.istore 7, 2) := by decide +kernel
theorem d_K_bound_56 : decode c_K_bound 56 = .ok (.aload_n 0, 1) := by decide +kernel
theorem d_K_bound_57 : decode c_K_bound 57 = .ok (.aload_n 0, 1) := by decide +kernel
theorem d_K_bound_58 : decode c_K_bound 58 = .ok (.getfield 15, 3) := by decide +kernel
theorem d_K_bound_61 : decode c_K_bound 61 = .ok (.sipush 4095, 3) := by decide +kernel
theorem d_K_bound_64 : decode c_K_bound 64 = .ok (.iand, 1) := by decide +kernel
theorem d_K_bound_65 : decode c_K_bound 65 = .ok (.iload 5, 2) := by decide +kernel
theorem d_K_bound_67 : decode c_K_bound 67 = .ok (.bipush 12, 2) := by decide +kernel
theorem d_K_bound_69 : decode c_K_bound 69 = .ok (.ishl, 1) := by decide +kernel
theorem d_K_bound_70 : decode c_K_bound 70 = .ok (.ior, 1) := by decide +kernel
theorem d_K_bound_71 : decode c_K_bound 71 = .ok (.iload 6, 2) := by decide +kernel
theorem d_K_bound_73 : decode c_K_bound 73 = .ok (.bipush 17, 2) := by decide +kernel
theorem d_K_bound_75 : decode c_K_bound 75 = .ok (.ishl, 1) := by decide +kernel
theorem d_K_bound_76 : decode c_K_bound 76 = .ok (.ior, 1) := by decide +kernel
theorem d_K_bound_77 : decode c_K_bound 77 = .ok (.iload 7, 2) := by decide +kernel
theorem d_K_bound_79 : decode c_K_bound 79 = .ok (.bipush 24, 2) := by decide +kernel
theorem d_K_bound_81 : decode c_K_bound 81 = .ok (.ishl, 1) := by decide +kernel
theorem d_K_bound_82 : decode c_K_bound 82 = .ok (.ior, 1) := by decide +kernel
theorem d_K_bound_83 : decode c_K_bound 83 = .ok (.putfield 15, 3) := by decide +kernel
theorem d_K_bound_86 : decode c_K_bound 86 = .ok (.return_, 1) := by decide +kernel
theorem d_K_unitsUp_0 : decode c_K_unitsUp 0 = .ok (.lload_n 0, 1) := by decide +kernel
theorem d_K_unitsUp_1 : decode c_K_unitsUp 1 = .ok (.lconst 1, 1) := by decide +kernel
theorem d_K_unitsUp_2 : decode c_K_unitsUp 2 = .ok (.iload_n 2, 1) := by decide +kernel
theorem d_K_unitsUp_3 : decode c_K_unitsUp 3 = .ok (.lshl, 1) := by decide +kernel
theorem d_K_unitsUp_4 : decode c_K_unitsUp 4 = .ok (.ladd, 1) := by decide +kernel
theorem d_K_unitsUp_5 : decode c_K_unitsUp 5 = .ok (.lconst 1, 1) := by decide +kernel
theorem d_K_unitsUp_6 : decode c_K_unitsUp 6 = .ok (.lsub, 1) := by decide +kernel
theorem d_K_unitsUp_7 : decode c_K_unitsUp 7 = .ok (.iload_n 2, 1) := by decide +kernel
theorem d_K_unitsUp_8 : decode c_K_unitsUp 8 = .ok (.lshr, 1) := by decide +kernel
theorem d_K_unitsUp_9 : decode c_K_unitsUp 9 = .ok (.lreturn, 1) := by decide +kernel
theorem d_K_lowerBound_0 : decode c_K_lowerBound 0 = .ok (.aload_n 0, 1) := by decide +kernel
theorem d_K_lowerBound_1 : decode c_K_lowerBound 1 = .ok (.getfield 15, 3) := by decide +kernel
theorem d_K_lowerBound_4 : decode c_K_lowerBound 4 = .ok (.bipush 12, 2) := by decide +kernel
theorem d_K_lowerBound_6 : decode c_K_lowerBound 6 = .ok (.iushr, 1) := by decide +kernel
theorem d_K_lowerBound_7 : decode c_K_lowerBound 7 = .ok (.bipush 31, 2) := by decide +kernel
theorem d_K_lowerBound_9 : decode c_K_lowerBound 9 = .ok (.iand, 1) := by decide +kernel
theorem d_K_lowerBound_10 : decode c_K_lowerBound 10 = .ok (.istore_n 1, 1) := by decide +kernel
theorem d_K_lowerBound_11 : decode c_K_lowerBound 11 = .ok (.aload_n 0, 1) := by decide +kernel
theorem d_K_lowerBound_12 : decode c_K_lowerBound 12 = .ok (.getfield 15, 3) := by decide +kernel
theorem d_K_lowerBound_15 : decode c_K_lowerBound 15 = .ok (.bipush 17, 2) := by decide +kernel
theorem d_K_lowerBound_17 : decode c_K_lowerBound 17 = .ok (.iushr, 1) := by decide +kernel
theorem d_K_lowerBound_18 : decode c_K_lowerBound 18 = .ok (.bipush 127, 2) := by decide +kernel
theorem d_K_lowerBound_20 : decode c_K_lowerBound 20 = .ok (.iand, 1) := by decide +kernel
theorem d_K_lowerBound_21 : decode c_K_lowerBound 21 = .ok (.istore_n 2, 1) := by decide +kernel
theorem d_K_lowerBound_22 : decode c_K_lowerBound 22 = .ok (.aload_n 0, 1) := by decide +kernel
theorem d_K_lowerBound_23 : decode c_K_lowerBound 23 = .ok (.getfield 19, 3) := by decide +kernel
theorem d_K_lowerBound_26 : decode c_K_lowerBound 26 = .ok (.i2l, 1) := by decide +kernel
theorem d_K_lowerBound_27 : decode c_K_lowerBound 27 = .ok (.ldc2_w 52, 3) := by decide +kernel
theorem d_K_lowerBound_30 : decode c_K_lowerBound 30 = .ok (.land, 1) := by decide +kernel
theorem d_K_lowerBound_31 : decode c_K_lowerBound 31 = .ok (.iload_n 1, 1) := by decide +kernel
theorem d_K_lowerBound_32 : decode c_K_lowerBound 32 = .ok (.lshr, 1) := by decide +kernel
theorem d_K_lowerBound_33 : decode c_K_lowerBound 33 = .ok (.lstore_n 3, 1) := by decide +kernel
theorem d_K_lowerBound_34 : decode c_K_lowerBound 34 = .ok (.lload_n 3, 1) := by decide +kernel
theorem d_K_lowerBound_35 : decode c_K_lowerBound 35 = .ok (.lload_n 3, 1) := by decide +kernel
theorem d_K_lowerBound_36 : decode c_K_lowerBound 36 = .ok (.iload_n 2, 1) := by decide +kernel
theorem d_K_lowerBound_37 : decode c_K_lowerBound 37 = .ok (.i2l, 1) := by decide +kernel
theorem d_K_lowerBound_38 : decode c_K_lowerBound 38 = .ok (.lsub, 1) := by decide +kernel
theorem d_K_lowerBound_39 : decode c_K_lowerBound 39 = .ok (.ldc2_w 54, 3) := by decide +kernel
theorem d_K_lowerBound_42 : decode c_K_lowerBound 42 = .ok (.ladd, 1) := by decide +kernel
theorem d_K_lowerBound_43 : decode c_K_lowerBound 43 = .ok (.ldc2_w 56, 3) := by decide +kernel
theorem d_K_lowerBound_46 : decode c_K_lowerBound 46 = .ok (.land, 1) := by decide +kernel
theorem d_K_lowerBound_47 : decode c_K_lowerBound 47 = .ok (.lsub, 1) := by decide +kernel
theorem d_K_lowerBound_48 : decode c_K_lowerBound 48 = .ok (.lstore 5, 2) := by decide +kernel
theorem d_K_lowerBound_50 : decode c_K_lowerBound 50 = .ok (.lload 5, 2) := by decide +kernel
theorem d_K_lowerBound_52 : decode c_K_lowerBound 52 = .ok (.ldc2_w 54, 3) := by decide +kernel
theorem d_K_lowerBound_55 : decode c_K_lowerBound 55 = .ok (.ladd, 1) := by decide +kernel
theorem d_K_lowerBound_56 : decode c_K_lowerBound 56 = .ok (.iload_n 1, 1) := by decide +kernel
theorem d_K_lowerBound_57 : decode c_K_lowerBound 57 = .ok (.lshl, 1) := by decide +kernel
theorem d_K_lowerBound_58 : decode c_K_lowerBound 58 = .ok (.lreturn, 1) := by decide +kernel
theorem d_K_upperBound_0 : decode c_K_upperBound 0 = .ok (.aload_n 0, 1) := by decide +kernel
theorem d_K_upperBound_1 : decode c_K_upperBound 1 = .ok (.getfield 15, 3) := by decide +kernel
theorem d_K_upperBound_4 : decode c_K_upperBound 4 = .ok (.bipush 12, 2) := by decide +kernel
theorem d_K_upperBound_6 : decode c_K_upperBound 6 = .ok (.iushr, 1) := by decide +kernel
theorem d_K_upperBound_7 : decode c_K_upperBound 7 = .ok (.bipush 31, 2) := by decide +kernel
theorem d_K_upperBound_9 : decode c_K_upperBound 9 = .ok (.iand, 1) := by decide +kernel
theorem d_K_upperBound_10 : decode c_K_upperBound 10 = .ok (.istore_n 1, 1) := by decide +kernel
theorem d_K_upperBound_11 : decode c_K_upperBound 11 = .ok (.aload_n 0, 1) := by decide +kernel
theorem d_K_upperBound_12 : decode c_K_upperBound 12 = .ok (.getfield 15, 3) := by decide +kernel
theorem d_K_upperBound_15 : decode c_K_upperBound 15 = .ok (.bipush 17, 2) := by decide +kernel
theorem d_K_upperBound_17 : decode c_K_upperBound 17 = .ok (.iushr, 1) := by decide +kernel
theorem d_K_upperBound_18 : decode c_K_upperBound 18 = .ok (.bipush 127, 2) := by decide +kernel
theorem d_K_upperBound_20 : decode c_K_upperBound 20 = .ok (.iand, 1) := by decide +kernel
theorem d_K_upperBound_21 : decode c_K_upperBound 21 = .ok (.istore_n 2, 1) := by decide +kernel
theorem d_K_upperBound_22 : decode c_K_upperBound 22 = .ok (.aload_n 0, 1) := by decide +kernel
theorem d_K_upperBound_23 : decode c_K_upperBound 23 = .ok (.getfield 15, 3) := by decide +kernel
theorem d_K_upperBound_26 : decode c_K_upperBound 26 = .ok (.bipush 24, 2) := by decide +kernel
theorem d_K_upperBound_28 : decode c_K_upperBound 28 = .ok (.iushr, 1) := by decide +kernel
theorem d_K_upperBound_29 : decode c_K_upperBound 29 = .ok (.bipush 127, 2) := by decide +kernel
theorem d_K_upperBound_31 : decode c_K_upperBound 31 = .ok (.iand, 1) := by decide +kernel
theorem d_K_upperBound_32 : decode c_K_upperBound 32 = .ok (.istore_n 3, 1) := by decide +kernel
theorem d_K_upperBound_33 : decode c_K_upperBound 33 = .ok (.iload_n 3, 1) := by decide +kernel
theorem d_K_upperBound_34 : decode c_K_upperBound 34 = .ok (.iload_n 2, 1) := by decide +kernel
theorem d_K_upperBound_35 : decode c_K_upperBound 35 = .ok (.isub, 1) := by decide +kernel
theorem d_K_upperBound_36 : decode c_K_upperBound 36 = .ok (.bipush 16, 2) := by decide +kernel
theorem d_K_upperBound_38 : decode c_K_upperBound 38 = .ok (.iadd, 1) := by decide +kernel
theorem d_K_upperBound_39 : decode c_K_upperBound 39 = .ok (.bipush 127, 2) := by decide +kernel
theorem d_K_upperBound_41 : decode c_K_upperBound 41 = .ok (.iand, 1) := by decide +kernel
theorem d_K_upperBound_42 : decode c_K_upperBound 42 = .ok (.bipush 16, 2) := by decide +kernel
theorem d_K_upperBound_44 : decode c_K_upperBound 44 = .ok (.isub, 1) := by decide +kernel
theorem d_K_upperBound_45 : decode c_K_upperBound 45 = .ok (.i2l, 1) := by decide +kernel
theorem d_K_upperBound_46 : decode c_K_upperBound 46 = .ok (.lstore 4, 2) := by decide +kernel
theorem d_K_upperBound_48 : decode c_K_upperBound 48 = .ok (.aload_n 0, 1) := by decide +kernel
theorem d_K_upperBound_49 : decode c_K_upperBound 49 = .ok (.invokevirtual 35, 3) := by decide +kernel
theorem d_K_upperBound_52 : decode c_K_upperBound 52 = .ok (.lload 4, 2) := by decide +kernel
theorem d_K_upperBound_54 : decode c_K_upperBound 54 = .ok (.iload_n 1, 1) := by decide +kernel
theorem d_K_upperBound_55 : decode c_K_upperBound 55 = .ok (.lshl, 1) := by decide +kernel
theorem d_K_upperBound_56 : decode c_K_upperBound 56 = .ok (.ladd, 1) := by decide +kernel
theorem d_K_upperBound_57 : decode c_K_upperBound 57 = .ok (.lreturn, 1) := by decide +kernel
