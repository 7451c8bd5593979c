theorem d_M_init_0 : decode c_M_init 0 = .ok (.aload_n 0, 1) := by decide +kernel
theorem d_M_init_1 : decode c_M_init 1 = .ok (.invokespecial 1, 3) := by decide +kernel
theorem d_M_init_4 : decode c_M_init 4 = .ok (.aload_n 0, 1) := by decide +kernel
theorem d_M_init_5 : decode c_M_init 5 = .ok (.bipush 12, 2) := by decide +kernel
theorem d_M_init_7 : decode c_M_init 7 = .ok (.newarray .int, 2) := by decide +kernel
theorem d_M_init_9 : decode c_M_init 9 = .ok (.putfield 7, 3) := by decide +kernel
theorem d_M_init_12 : decode c_M_init 12 = .ok (.aload_n 0, 1) := by decide +kernel
theorem d_M_init_13 : decode c_M_init 13 = .ok (.bipush 12, 2) := by decide +kernel
theorem d_M_init_15 : decode c_M_init 15 = .ok (.newarray .int, 2) := by decide +kernel
theorem d_M_init_17 : decode c_M_init 17 = .ok (.putfield 13, 3) := by decide +kernel
theorem d_M_init_20 : decode c_M_init 20 = .ok (.aload_n 0, 1) := by decide +kernel
theorem d_M_init_21 : decode c_M_init 21 = .ok (.bipush 12, 2) := by decide +kernel
theorem d_M_init_23 : decode c_M_init 23 = .ok (.newarray .boolean, 2) := by decide +kernel
theorem d_M_init_25 : decode c_M_init 25 = .ok (.putfield 16, 3) := by decide +kernel
theorem d_M_init_28 : decode c_M_init 28 = .ok (.aload_n 0, 1) := by decide +kernel
theorem d_M_init_29 : decode c_M_init 29 = .ok (.sipush 256, 3) := by decide +kernel
theorem d_M_init_32 : decode c_M_init 32 = .ok (.newarray .int, 2) := by decide +kernel
theorem d_M_init_34 : decode c_M_init 34 = .ok (.putfield 20, 3) := by decide +kernel
theorem d_M_init_37 : decode c_M_init 37 = .ok (.aload_n 0, 1) := by decide +kernel
theorem d_M_init_38 : decode c_M_init 38 = .ok (.sipush 128, 3) := by decide +kernel
theorem d_M_init_41 : decode c_M_init 41 = .ok (.newarray .boolean, 2) := by decide +kernel
theorem d_M_init_43 : decode c_M_init 43 = .ok (.putfield 23, 3) := by decide +kernel
theorem d_M_init_46 : decode c_M_init 46 = .ok (.aload_n 0, 1) := by decide +kernel
theorem d_M_init_47 : decode c_M_init 47 = .ok (.iconst 1, 1) := by decide +kernel
theorem d_M_init_48 : decode c_M_init 48 = .ok (.iconst 0, 1) := by decide +kernel
theorem d_M_init_49 : decode c_M_init 49 = .ok (.invokevirtual 26, 3) := by decide +kernel
theorem d_M_init_52 : decode c_M_init 52 = .ok (.aload_n 0, 1) := by decide +kernel
theorem d_M_init_53 : decode c_M_init 53 = .ok (.bipush 8, 2) := by decide +kernel
theorem d_M_init_55 : decode c_M_init 55 = .ok (.iconst 0, 1) := by decide +kernel
theorem d_M_init_56 : decode c_M_init 56 = .ok (.invokevirtual 26, 3) := by decide +kernel
theorem d_M_init_59 : decode c_M_init 59 = .ok (.return_, 1) := by decide +kernel
theorem d_M_first_0 : decode c_M_first 0 = .ok (.aload_n 0, 1) := by decide +kernel
theorem d_M_first_1 : decode c_M_first 1 = .ok (.getfield 7, 3) := by decide +kernel
theorem d_M_first_4 : decode c_M_first 4 = .ok (.iload_n 1, 1) := by decide +kernel
theorem d_M_first_5 : decode c_M_first 5 = .ok (.iload_n 2, 1) := by decide +kernel
theorem d_M_first_6 : decode c_M_first 6 = .ok (.iastore, 1) := by decide +kernel
theorem d_M_first_7 : decode c_M_first 7 = .ok (.aload_n 0, 1) := by decide +kernel
theorem d_M_first_8 : decode c_M_first 8 = .ok (.getfield 13, 3) := by decide +kernel
theorem d_M_first_11 : decode c_M_first 11 = .ok (.iload_n 1, 1) := by decide +kernel
theorem d_M_first_12 : decode c_M_first 12 = .ok (.sipush 255, 3) := by decide +kernel
theorem d_M_first_15 : decode c_M_first 15 = .ok (.lconst 0, 1) := by decide +kernel
theorem d_M_first_16 : decode c_M_first 16 = .ok (.ldc2_w 30, 3) := by decide +kernel
theorem d_M_first_19 : decode c_M_first 19 = .ok (.invokestatic 32, 3) := by decide +kernel
theorem d_M_first_22 : decode c_M_first 22 = .ok (.iastore, 1) := by decide +kernel
theorem d_M_first_23 : decode c_M_first 23 = .ok (.aload_n 0, 1) := by decide +kernel
theorem d_M_first_24 : decode c_M_first 24 = .ok (.getfield 16, 3) := by decide +kernel
theorem d_M_first_27 : decode c_M_first 27 = .ok (.iload_n 1, 1) := by decide +kernel
theorem d_M_first_28 : decode c_M_first 28 = .ok (.iconst 1, 1) := by decide +kernel
theorem d_M_first_29 : decode c_M_first 29 = .ok (.bastore, 1) := by decide +kernel
theorem d_M_first_30 : decode c_M_first 30 = .ok (.return_, 1) := by decide +kernel
theorem d_M_type_0 : decode c_M_type 0 = .ok (.iload_n 0, 1) := by decide +kernel
theorem d_M_type_1 : decode c_M_type 1 = .ok (.bipush 8, 2) := by decide +kernel
theorem d_M_type_3 : decode c_M_type 3 = .ok (.ishr, 1) := by decide +kernel
theorem d_M_type_4 : decode c_M_type 4 = .ok (.bipush 15, 2) := by decide +kernel
theorem d_M_type_6 : decode c_M_type 6 = .ok (.iand, 1) := by decide +kernel
theorem d_M_type_7 : decode c_M_type 7 = .ok (.ireturn, 1) := by decide +kernel
theorem d_M_unit_0 : decode c_M_unit 0 = .ok (.lconst 1, 1) := by decide +kernel
theorem d_M_unit_1 : decode c_M_unit 1 = .ok (.iload_n 0, 1) := by decide +kernel
theorem d_M_unit_2 : decode c_M_unit 2 = .ok (.bipush 12, 2) := by decide +kernel
theorem d_M_unit_4 : decode c_M_unit 4 = .ok (.ishr, 1) := by decide +kernel
theorem d_M_unit_5 : decode c_M_unit 5 = .ok (.bipush 31, 2) := by decide +kernel
theorem d_M_unit_7 : decode c_M_unit 7 = .ok (.iand, 1) := by decide +kernel
theorem d_M_unit_8 : decode c_M_unit 8 = .ok (.lshl, 1) := by decide +kernel
theorem d_M_unit_9 : decode c_M_unit 9 = .ok (.lreturn, 1) := by decide +kernel
theorem d_M_unsigned_0 : decode c_M_unsigned 0 = .ok (.iload_n 0, 1) := by decide +kernel
theorem d_M_unsigned_1 : decode c_M_unsigned 1 = .ok (.ifCond .ge 12, 3) := by decide +kernel
theorem d_M_unsigned_4 : decode c_M_unsigned 4 = .ok (.iload_n 0, 1) := by decide +kernel
theorem d_M_unsigned_5 : decode c_M_unsigned 5 = .ok (.i2l, 1) := by decide +kernel
theorem d_M_unsigned_6 : decode c_M_unsigned 6 = .ok (.ldc2_w 36, 3) := by decide +kernel
theorem d_M_unsigned_9 : decode c_M_unsigned 9 = .ok (.ladd, 1) := by decide +kernel
theorem d_M_unsigned_10 : decode c_M_unsigned 10 = .ok (.goto 5, 3) := by decide +kernel
theorem d_M_unsigned_13 : decode c_M_unsigned 13 = .ok (.iload_n 0, 1) := by decide +kernel
theorem d_M_unsigned_14 : decode c_M_unsigned 14 = .ok (.i2l, 1) := by decide +kernel
theorem d_M_unsigned_15 : decode c_M_unsigned 15 = .ok (.lreturn, 1) := by decide +kernel
theorem d_M_rest_0 : decode c_M_rest 0 = .ok (.lload_n 0, 1) := by decide +kernel
theorem d_M_rest_1 : decode c_M_rest 1 = .ok (.lload_n 2, 1) := by decide +kernel
theorem d_M_rest_2 : decode c_M_rest 2 = .ok (.lrem, 1) := by decide +kernel
theorem d_M_rest_3 : decode c_M_rest 3 = .ok (.lstore 4, 2) := by decide +kernel
theorem d_M_rest_5 : decode c_M_rest 5 = .ok (.lload 4, 2) := by decide +kernel
theorem d_M_rest_7 : decode c_M_rest 7 = .ok (.lconst 0, 1) := by decide +kernel
theorem d_M_rest_8 : decode c_M_rest 8 = .ok (.lcmp, 1) := by decide +kernel
theorem d_M_rest_9 : decode c_M_rest 9 = .ok (.ifCond .ge 10, 3) := by decide +kernel
theorem d_M_rest_12 : decode c_M_rest 12 = .ok (.lload 4, 2) := by decide +kernel
theorem d_M_rest_14 : decode c_M_rest 14 = .ok (.lload_n 2, 1) := by decide +kernel
theorem d_M_rest_15 : decode c_M_rest 15 = .ok (.ladd, 1) := by decide +kernel
theorem d_M_rest_16 : decode c_M_rest 16 = .ok (.goto 5, 3) := by decide +kernel
theorem d_M_rest_19 : decode c_M_rest 19 = .ok (.lload 4, 2) := by decide +kernel
theorem d_M_rest_21 : decode c_M_rest 21 = .ok (.lreturn, 1) := by decide +kernel
theorem d_M_window_0 : decode c_M_window 0 = .ok (.iload_n 0, 1) := by decide +kernel
theorem d_M_window_1 : decode c_M_window 1 = .ok (.invokestatic 38, 3) := by decide +kernel
theorem d_M_window_4 : decode c_M_window 4 = .ok (.lstore_n 2, 1) := by decide +kernel
theorem d_M_window_5 : decode c_M_window 5 = .ok (.iload_n 1, 1) := by decide +kernel
theorem d_M_window_6 : decode c_M_window 6 = .ok (.invokestatic 42, 3) := by decide +kernel
theorem d_M_window_9 : decode c_M_window 9 = .ok (.lload_n 2, 1) := by decide +kernel
theorem d_M_window_10 : decode c_M_window 10 = .ok (.ldiv, 1) := by decide +kernel
theorem d_M_window_11 : decode c_M_window 11 = .ok (.lload_n 2, 1) := by decide +kernel
theorem d_M_window_12 : decode c_M_window 12 = .ok (.lmul, 1) := by decide +kernel
theorem d_M_window_13 : decode c_M_window 13 = .ok (.lstore 4, 2) := by decide +kernel
theorem d_M_window_15 : decode c_M_window 15 = .ok (.iload_n 0, 1) := by decide +kernel
theorem d_M_window_16 : decode c_M_window 16 = .ok (.bipush 17, 2) := by decide +kernel
theorem d_M_window_18 : decode c_M_window 18 = .ok (.ishr, 1) := by decide +kernel
theorem d_M_window_19 : decode c_M_window 19 = .ok (.bipush 127, 2) := by decide +kernel
theorem d_M_window_21 : decode c_M_window 21 = .ok (.iand, 1) := by decide +kernel
theorem d_M_window_22 : decode c_M_window 22 = .ok (.bipush 16, 2) := by decide +kernel
theorem d_M_window_24 : decode c_M_window 24 = .ok (.isub, 1) := by decide +kernel
theorem d_M_window_25 : decode c_M_window 25 = .ok (.i2l, 1) := by decide +kernel
theorem d_M_window_26 : decode c_M_window 26 = .ok (.lstore 6, 2) := by decide +kernel
theorem d_M_window_28 : decode c_M_window 28 = .ok (.lload 4, 2) := by decide +kernel
theorem d_M_window_30 : decode c_M_window 30 = .ok (.lload 4, 2) := by decide +kernel
theorem d_M_window_32 : decode c_M_window 32 = .ok (.lload 6, 2) := by decide +kernel
theorem d_M_window_34 : decode c_M_window 34 = .ok (.lload_n 2, 1) := by decide +kernel
theorem d_M_window_35 : decode c_M_window 35 = .ok (.lmul, 1) := by decide +kernel
theorem d_M_window_36 : decode c_M_window 36 = .ok (.lsub, 1) := by decide +kernel
theorem d_M_window_37 : decode c_M_window 37 = .ok (.ldc2_w 45, 3) := by decide +kernel
theorem d_M_window_40 : decode c_M_window 40 = .ok (.lload_n 2, 1) := by decide +kernel
theorem d_M_window_41 : decode c_M_window 41 = .ok (.lmul, 1) := by decide +kernel
theorem d_M_window_42 : decode c_M_window 42 = .ok (.invokestatic 47, 3) := by decide +kernel
theorem d_M_window_45 : decode c_M_window 45 = .ok (.lsub, 1) := by decide +kernel
theorem d_M_window_46 : decode c_M_window 46 = .ok (.lreturn, 1) := by decide +kernel
theorem d_M_baseOf_0 : decode c_M_baseOf 0 = .ok (.iload_n 0, 1) := by decide +kernel
theorem d_M_baseOf_1 : decode c_M_baseOf 1 = .ok (.iload_n 1, 1) := by decide +kernel
theorem d_M_baseOf_2 : decode c_M_baseOf 2 = .ok (.invokestatic 51, 3) := by decide +kernel
theorem d_M_baseOf_5 : decode c_M_baseOf 5 = .ok (.lstore_n 2, 1) := by decide +kernel
theorem d_M_baseOf_6 : decode c_M_baseOf 6 = .ok (.iload_n 0, 1) := by decide +kernel
theorem d_M_baseOf_7 : decode c_M_baseOf 7 = .ok (.invokestatic 38, 3) := by decide +kernel
theorem d_M_baseOf_10 : decode c_M_baseOf 10 = .ok (.lstore 4, 2) := by decide +kernel
theorem d_M_baseOf_12 : decode c_M_baseOf 12 = .ok (.lload_n 2, 1) := by decide +kernel
theorem d_M_baseOf_13 : decode c_M_baseOf 13 = .ok (.iload_n 0, 1) := by decide +kernel
theorem d_M_baseOf_14 : decode c_M_baseOf 14 = .ok (.bipush 17, 2) := by decide +kernel
theorem d_M_baseOf_16 : decode c_M_baseOf 16 = .ok (.ishr, 1) := by decide +kernel
theorem d_M_baseOf_17 : decode c_M_baseOf 17 = .ok (.bipush 127, 2) := by decide +kernel
theorem d_M_baseOf_19 : decode c_M_baseOf 19 = .ok (.iand, 1) := by decide +kernel
theorem d_M_baseOf_20 : decode c_M_baseOf 20 = .ok (.i2l, 1) := by decide +kernel
theorem d_M_baseOf_21 : decode c_M_baseOf 21 = .ok (.lload 4, 2) := by decide +kernel
theorem d_M_baseOf_23 : decode c_M_baseOf 23 = .ok (.lmul, 1) := by decide +kernel
theorem d_M_baseOf_24 : decode c_M_baseOf 24 = .ok (.lload_n 2, 1) := by decide +kernel
theorem d_M_baseOf_25 : decode c_M_baseOf 25 = .ok (.lsub, 1) := by decide +kernel
theorem d_M_baseOf_26 : decode c_M_baseOf 26 = .ok (.ldc2_w 45, 3) := by decide +kernel
theorem d_M_baseOf_29 : decode c_M_baseOf 29 = .ok (.lload 4, 2) := by decide +kernel
theorem d_M_baseOf_31 : decode c_M_baseOf 31 = .ok (.lmul, 1) := by decide +kernel
theorem d_M_baseOf_32 : decode c_M_baseOf 32 = .ok (.invokestatic 47, 3) := by decide +kernel
theorem d_M_baseOf_35 : decode c_M_baseOf 35 = .ok (.ladd, 1) := by decide +kernel
theorem d_M_baseOf_36 : decode c_M_baseOf 36 = .ok (.lreturn, 1) := by decide +kernel
theorem d_M_topOf_0 : decode c_M_topOf 0 = .ok (.iload_n 0, 1) := by decide +kernel
theorem d_M_topOf_1 : decode c_M_topOf 1 = .ok (.iload_n 1, 1) := by decide +kernel
theorem d_M_topOf_2 : decode c_M_topOf 2 = .ok (.invokestatic 51, 3) := by decide +kernel
theorem d_M_topOf_5 : decode c_M_topOf 5 = .ok (.lstore_n 2, 1) := by decide +kernel
theorem d_M_topOf_6 : decode c_M_topOf 6 = .ok (.iload_n 0, 1) := by decide +kernel
theorem d_M_topOf_7 : decode c_M_topOf 7 = .ok (.invokestatic 38, 3) := by decide +kernel
theorem d_M_topOf_10 : decode c_M_topOf 10 = .ok (.lstore 4, 2) := by decide +kernel
theorem d_M_topOf_12 : decode c_M_topOf 12 = .ok (.lload_n 2, 1) := by decide +kernel
theorem d_M_topOf_13 : decode c_M_topOf 13 = .ok (.iload_n 0, 1) := by decide +kernel
theorem d_M_topOf_14 : decode c_M_topOf 14 = .ok (.bipush 24, 2) := by decide +kernel
theorem d_M_topOf_16 : decode c_M_topOf 16 = .ok (.ishr, 1) := by decide +kernel
theorem d_M_topOf_17 : decode c_M_topOf 17 = .ok (.bipush 127, 2) := by decide +kernel
theorem d_M_topOf_19 : decode c_M_topOf 19 = .ok (.iand, 1) := by decide +kernel
theorem d_M_topOf_20 : decode c_M_topOf 20 = .ok (.i2l, 1) := by decide +kernel
theorem d_M_topOf_21 : decode c_M_topOf 21 = .ok (.lload 4, 2) := by decide +kernel
theorem d_M_topOf_23 : decode c_M_topOf 23 = .ok (.lmul, 1) := by decide +kernel
theorem d_M_topOf_24 : decode c_M_topOf 24 = .ok (.lload_n 2, 1) := by decide +kernel
theorem d_M_topOf_25 : decode c_M_topOf 25 = .ok (.lsub, 1) := by decide +kernel
theorem d_M_topOf_26 : decode c_M_topOf 26 = .ok (.ldc2_w 45, 3) := by decide +kernel
theorem d_M_topOf_29 : decode c_M_topOf 29 = .ok (.lload 4, 2) := by decide +kernel
theorem d_M_topOf_31 : decode c_M_topOf 31 = .ok (.lmul, 1) := by decide +kernel
theorem d_M_topOf_32 : decode c_M_topOf 32 = .ok (.invokestatic 47, 3) := by decide +kernel
theorem d_M_topOf_35 : decode c_M_topOf 35 = .ok (.ladd, 1) := by decide +kernel
theorem d_M_topOf_36 : decode c_M_topOf 36 = .ok (.lreturn, 1) := by decide +kernel
theorem d_M_bounded_0 : decode c_M_bounded 0 = .ok (.iconst 0, 1) := by decide +kernel
theorem d_M_bounded_1 : decode c_M_bounded 1 = .ok (.istore 5, 2) := by decide +kernel
theorem d_M_bounded_3 : decode c_M_bounded 3 = .ok (.iload 5, 2) := by decide +kernel
theorem d_M_bounded_5 : decode c_M_bounded 5 = .ok (.bipush 31, 2) := by decide +kernel
theorem d_M_bounded_7 : decode c_M_bounded 7 = .ok (.if_icmp .ge 36, 3) := by decide +kernel
theorem d_M_bounded_10 : decode c_M_bounded 10 = .ok (.lload_n 3, 1) := by decide +kernel
theorem d_M_bounded_11 : decode c_M_bounded 11 = .ok (.lconst 1, 1) := by decide +kernel
theorem d_M_bounded_12 : decode c_M_bounded 12 = .ok (.iload 5, 2) := by decide +kernel
theorem d_M_bounded_14 : decode c_M_bounded 14 = .ok (.lshl, 1) := by decide +kernel
theorem d_M_bounded_15 : decode c_M_bounded 15 = .ok (.ladd, 1) := by decide +kernel
theorem d_M_bounded_16 : decode c_M_bounded 16 = .ok (.lconst 1, 1) := by decide +kernel
theorem d_M_bounded_17 : decode c_M_bounded 17 = .ok (.lsub, 1) := by decide +kernel
theorem d_M_bounded_18 : decode c_M_bounded 18 = .ok (.lconst 1, 1) := by decide +kernel
theorem d_M_bounded_19 : decode c_M_bounded 19 = .ok (.iload 5, 2) := by decide +kernel
theorem d_M_bounded_21 : decode c_M_bounded 21 = .ok (.lshl, 1) := by decide +kernel
theorem d_M_bounded_22 : decode c_M_bounded 22 = .ok (.ldiv, 1) := by decide +kernel
theorem d_M_bounded_23 : decode c_M_bounded 23 = .ok (.lload_n 1, 1) := by decide +kernel
theorem d_M_bounded_24 : decode c_M_bounded 24 = .ok (.lconst 1, 1) := by decide +kernel
theorem d_M_bounded_25 : decode c_M_bounded 25 = .ok (.iload 5, 2) := by decide +kernel
theorem d_M_bounded_27 : decode c_M_bounded 27 = .ok (.lshl, 1) := by decide +kernel
theorem d_M_bounded_28 : decode c_M_bounded 28 = .ok (.ldiv, 1) := by decide +kernel
theorem d_M_bounded_29 : decode c_M_bounded 29 = .ok (.lsub, 1) := by decide +kernel
theorem d_M_bounded_30 : decode c_M_bounded 30 = .ok (.ldc2_w 55, 3) := by decide +kernel
theorem d_M_bounded_33 : decode c_M_bounded 33 = .ok (.lcmp, 1) := by decide +kernel
theorem d_M_bounded_34 : decode c_M_bounded 34 = .ok (.ifCond .le 9, 3) := by decide +kernel
theorem d_M_bounded_37 : decode c_M_bounded 37 = .ok (.iinc 5 1, 3) := by decide +kernel
theorem d_M_bounded_40 : decode c_M_bounded 40 = .ok (.goto (-37), 3) := by decide +kernel
theorem d_M_bounded_43 : decode c_M_bounded 43 = .ok (.lload_n 1, 1) := by decide +kernel
theorem d_M_bounded_44 : decode c_M_bounded 44 = .ok (.lconst 1, 1) := by decide +kernel
theorem d_M_bounded_45 : decode c_M_bounded 45 = .ok (.iload 5, 2) := by decide +kernel
theorem d_M_bounded_47 : decode c_M_bounded 47 = .ok (.lshl, 1) := by decide +kernel
theorem d_M_bounded_48 : decode c_M_bounded 48 = .ok (.ldiv, 1) := by decide +kernel
theorem d_M_bounded_49 : decode c_M_bounded 49 = .ok (.lstore 6, 2) := by decide +kernel
theorem d_M_bounded_51 : decode c_M_bounded 51 = .ok (.lload_n 3, 1) := by decide +kernel
theorem d_M_bounded_52 : decode c_M_bounded 52 = .ok (.lconst 1, 1) := by decide +kernel
theorem d_M_bounded_53 : decode c_M_bounded 53 = .ok (.iload 5, 2) := by decide +kernel
theorem d_M_bounded_55 : decode c_M_bounded 55 = .ok (.lshl, 1) := by decide +kernel
theorem d_M_bounded_56 : decode c_M_bounded 56 = .ok (.ladd, 1) := by decide +kernel
theorem d_M_bounded_57 : decode c_M_bounded 57 = .ok (.lconst 1, 1) := by decide +kernel
theorem d_M_bounded_58 : decode c_M_bounded 58 = .ok (.lsub, 1) := by decide +kernel
theorem d_M_bounded_59 : decode c_M_bounded 59 = .ok (.lconst 1, 1) := by decide +kernel
theorem d_M_bounded_60 : decode c_M_bounded 60 = .ok (.iload 5, 2) := by decide +kernel
theorem d_M_bounded_62 : decode c_M_bounded 62 = .ok (.lshl, 1) := by decide +kernel
theorem d_M_bounded_63 : decode c_M_bounded 63 = .ok (.ldiv, 1) := by decide +kernel
theorem d_M_bounded_64 : decode c_M_bounded 64 = .ok (.lstore 8, 2) := by decide +kernel
theorem d_M_bounded_66 : decode c_M_bounded 66 = .ok (.iload_n 0, 1) := by decide +kernel
theorem d_M_bounded_67 : decode c_M_bounded 67 = .ok (.sipush 4095, 3) := by decide +kernel
theorem d_M_bounded_70 : decode c_M_bounded 70 = .ok (.iand, 1) := by decide +kernel
theorem d_M_bounded_71 : decode c_M_bounded 71 = .ok (.iload 5, 2) := by decide +kernel
theorem d_M_bounded_73 : decode c_M_bounded 73 = .ok (.bipush 12, 2) := by decide +kernel
theorem d_M_bounded_75 : decode c_M_bounded 75 = .ok (.ishl, 1) := by decide +kernel
theorem d_M_bounded_76 : decode c_M_bounded 76 = .ok (.ior, 1) := by decide +kernel
theorem d_M_bounded_77 : decode c_M_bounded 77 = .ok (.lload 6, 2) := by decide +kernel
theorem d_M_bounded_79 : decode c_M_bounded 79 = .ok (.ldc2_w 45, 3) := by decide +kernel
theorem d_M_bounded_82 : decode c_M_bounded 82 = .ok (.lrem, 1) := by decide +kernel
theorem d_M_bounded_83 : decode c_M_bounded 83 = .ok (.l2i, 1) := by decide +kernel
theorem d_M_bounded_84 : decode c_M_bounded 84 = .ok (.bipush 17, 2) := by decide +kernel
theorem d_M_bounded_86 : decode c_M_bounded 86 = .ok (.ishl, 1) := by decide +kernel
theorem d_M_bounded_87 : decode c_M_bounded 87 = .ok (.ior, 1) := by decide +kernel
theorem d_M_bounded_88 : decode c_M_bounded 88 = .ok (.lload 8, 2) := by decide +kernel
theorem d_M_bounded_90 : decode c_M_bounded 90 = .ok (.ldc2_w 45, 3) := by decide +kernel
theorem d_M_bounded_93 : decode c_M_bounded 93 = .ok (.lrem, 1) := by decide +kernel
theorem d_M_bounded_94 : decode c_M_bounded 94 = .ok (.l2i, 1) := by decide +kernel
theorem d_M_bounded_95 : decode c_M_bounded 95 = .ok (.bipush 24, 2) := by decide +kernel
theorem d_M_bounded_97 : decode c_M_bounded 97 = .ok (.ishl, 1) := by decide +kernel
theorem d_M_bounded_98 : decode c_M_bounded 98 = .ok (.ior, 1) := by decide +kernel
theorem d_M_bounded_99 : decode c_M_bounded 99 = .ok (.ireturn, 1) := by decide +kernel
theorem d_M_has_0 : decode c_M_has 0 = .ok (.aload_n 0, 1) := by decide +kernel
theorem d_M_has_1 : decode c_M_has 1 = .ok (.getfield 13, 3) := by decide +kernel
theorem d_M_has_4 : decode c_M_has 4 = .ok (.iload_n 1, 1) := by decide +kernel
theorem d_M_has_5 : decode c_M_has 5 = .ok (.iaload, 1) := by decide +kernel
theorem d_M_has_6 : decode c_M_has 6 = .ok (.iload_n 2, 1) := by decide +kernel
theorem d_M_has_7 : decode c_M_has 7 = .ok (.iand, 1) := by decide +kernel
theorem d_M_has_8 : decode c_M_has 8 = .ok (.iload_n 2, 1) := by decide +kernel
theorem d_M_has_9 : decode c_M_has 9 = .ok (.if_icmp .ne 7, 3) := by decide +kernel
theorem d_M_has_12 : decode c_M_has 12 = .ok (.iconst 1, 1) := by decide +kernel
theorem d_M_has_13 : decode c_M_has 13 = .ok (.goto 4, 3) := by decide +kernel
theorem d_M_has_16 : decode c_M_has 16 = .ok (.iconst 0, 1) := by decide +kernel
theorem d_M_has_17 : decode c_M_has 17 = .ok (.ireturn, 1) := by decide +kernel
theorem d_M_check_0 : decode c_M_check 0 = .ok (.iload 4, 2) := by decide +kernel
theorem d_M_check_2 : decode c_M_check 2 = .ok (.invokestatic 42, 3) := by decide +kernel
theorem d_M_check_5 : decode c_M_check 5 = .ok (.lstore 5, 2) := by decide +kernel
theorem d_M_check_7 : decode c_M_check 7 = .ok (.aload_n 0, 1) := by decide +kernel
theorem d_M_check_8 : decode c_M_check 8 = .ok (.getfield 16, 3) := by decide +kernel
theorem d_M_check_11 : decode c_M_check 11 = .ok (.iload_n 1, 1) := by decide +kernel
theorem d_M_check_12 : decode c_M_check 12 = .ok (.baload, 1) := by decide +kernel
theorem d_M_check_13 : decode c_M_check 13 = .ok (.ifCond .ne 5, 3) := by decide +kernel
theorem d_M_check_16 : decode c_M_check 16 = .ok (.iconst 1, 1) := by decide +kernel
theorem d_M_check_17 : decode c_M_check 17 = .ok (.ireturn, 1) := by decide +kernel
theorem d_M_check_18 : decode c_M_check 18 = .ok (.aload_n 0, 1) := by decide +kernel
theorem d_M_check_19 : decode c_M_check 19 = .ok (.getfield 13, 3) := by decide +kernel
theorem d_M_check_22 : decode c_M_check 22 = .ok (.iload_n 1, 1) := by decide +kernel
theorem d_M_check_23 : decode c_M_check 23 = .ok (.iaload, 1) := by decide +kernel
theorem d_M_check_24 : decode c_M_check 24 = .ok (.invokestatic 57, 3) := by decide +kernel
theorem d_M_check_27 : decode c_M_check 27 = .ok (.ifCond .eq 5, 3) := by decide +kernel
theorem d_M_check_30 : decode c_M_check 30 = .ok (.iconst 2, 1) := by decide +kernel
theorem d_M_check_31 : decode c_M_check 31 = .ok (.ireturn, 1) := by decide +kernel
theorem d_M_check_32 : decode c_M_check 32 = .ok (.aload_n 0, 1) := by decide +kernel
theorem d_M_check_33 : decode c_M_check 33 = .ok (.iload_n 1, 1) := by decide +kernel
theorem d_M_check_34 : decode c_M_check 34 = .ok (.iload_n 2, 1) := by decide +kernel
theorem d_M_check_35 : decode c_M_check 35 = .ok (.invokevirtual 61, 3) := by decide +kernel
theorem d_M_check_38 : decode c_M_check 38 = .ok (.ifCond .ne 5, 3) := by decide +kernel
theorem d_M_check_41 : decode c_M_check 41 = .ok (.iconst 3, 1) := by decide +kernel
theorem d_M_check_42 : decode c_M_check 42 = .ok (.ireturn, 1) := by decide +kernel
theorem d_M_check_43 : decode c_M_check 43 = .ok (.lload 5, 2) := by decide +kernel
theorem d_M_check_45 : decode c_M_check 45 = .ok (.iload_n 3, 1) := by decide +kernel
theorem d_M_check_46 : decode c_M_check 46 = .ok (.i2l, 1) := by decide +kernel
theorem d_M_check_47 : decode c_M_check 47 = .ok (.lrem, 1) := by decide +kernel
theorem d_M_check_48 : decode c_M_check 48 = .ok (.lconst 0, 1) := by decide +kernel
theorem d_M_check_49 : decode c_M_check 49 = .ok (.lcmp, 1) := by decide +kernel
theorem d_M_check_50 : decode c_M_check 50 = .ok (.ifCond .eq 5, 3) := by decide +kernel
theorem d_M_check_53 : decode c_M_check 53 = .ok (.iconst 4, 1) := by decide +kernel
theorem d_M_check_54 : decode c_M_check 54 = .ok (.ireturn, 1) := by decide +kernel
theorem d_M_check_55 : decode c_M_check 55 = .ok (.lload 5, 2) := by decide +kernel
theorem d_M_check_57 : decode c_M_check 57 = .ok (.aload_n 0, 1) := by decide +kernel
theorem d_M_check_58 : decode c_M_check 58 = .ok (.getfield 13, 3) := by decide +kernel
theorem d_M_check_61 : decode c_M_check 61 = .ok (.iload_n 1, 1) := by decide +kernel
theorem d_M_check_62 : decode c_M_check 62 = .ok (.iaload, 1) := by decide +kernel
theorem d_M_check_63 : decode c_M_check 63 = .ok (.aload_n 0, 1) := by decide +kernel
theorem d_M_check_64 : decode c_M_check 64 = .ok (.getfield 7, 3) := by decide +kernel
theorem d_M_check_67 : decode c_M_check 67 = .ok (.iload_n 1, 1) := by decide +kernel
theorem d_M_check_68 : decode c_M_check 68 = .ok (.iaload, 1) := by decide +kernel
theorem d_M_check_69 : decode c_M_check 69 = .ok (.invokestatic 65, 3) := by decide +kernel
theorem d_M_check_72 : decode c_M_check 72 = .ok (.lcmp, 1) := by decide +kernel
theorem d_M_check_73 : decode c_M_check 73 = .ok (.ifCond .lt 27, 3) := by decide +kernel
theorem d_M_check_76 : decode c_M_check 76 = .ok (.lload 5, 2) := by decide +kernel
theorem d_M_check_78 : decode c_M_check 78 = .ok (.iload_n 3, 1) := by decide +kernel
theorem d_M_check_79 : decode c_M_check 79 = .ok (.i2l, 1) := by decide +kernel
theorem d_M_check_80 : decode c_M_check 80 = .ok (.ladd, 1) := by decide +kernel
theorem d_M_check_81 : decode c_M_check 81 = .ok (.aload_n 0, 1) := by decide +kernel
theorem d_M_check_82 : decode c_M_check 82 = .ok (.getfield 13, 3) := by decide +kernel
theorem d_M_check_85 : decode c_M_check 85 = .ok (.iload_n 1, 1) := by decide +kernel
theorem d_M_check_86 : decode c_M_check 86 = .ok (.iaload, 1) := by decide +kernel
