theorem d_M_check_87 : decode c_M_check 87 = .ok (.aload_n 0, 1) := by decide +kernel
theorem d_M_check_88 : decode c_M_check 88 = .ok (.getfield 7, 3) := by decide +kernel
theorem d_M_check_91 : decode c_M_check 91 = .ok (.iload_n 1, 1) := by decide +kernel
theorem d_M_check_92 : decode c_M_check 92 = .ok (.iaload, 1) := by decide +kernel
theorem d_M_check_93 : decode c_M_check 93 = .ok (.invokestatic 68, 3) := by decide +kernel
theorem d_M_check_96 : decode c_M_check 96 = .ok (.lcmp, 1) := by decide +kernel
theorem d_M_check_97 : decode c_M_check 97 = .ok (.ifCond .le 5, 3) := by decide +kernel
theorem d_M_check_100 : decode c_M_check 100 = .ok (.iconst 5, 1) := by decide +kernel
theorem d_M_check_101 : decode c_M_check 101 = .ok (.ireturn, 1) := by decide +kernel
theorem d_M_check_102 : decode c_M_check 102 = .ok (.lload 5, 2) := by decide +kernel
theorem d_M_check_104 : decode c_M_check 104 = .ok (.iload_n 3, 1) := by decide +kernel
theorem d_M_check_105 : decode c_M_check 105 = .ok (.i2l, 1) := by decide +kernel
theorem d_M_check_106 : decode c_M_check 106 = .ok (.ladd, 1) := by decide +kernel
theorem d_M_check_107 : decode c_M_check 107 = .ok (.ldc2_w 30, 3) := by decide +kernel
theorem d_M_check_110 : decode c_M_check 110 = .ok (.lcmp, 1) := by decide +kernel
theorem d_M_check_111 : decode c_M_check 111 = .ok (.ifCond .le 8, 3) := by decide +kernel
theorem d_M_check_114 : decode c_M_check 114 = .ok (.bipush 6, 2) := by decide +kernel
theorem d_M_check_116 : decode c_M_check 116 = .ok (.goto 4, 3) := by decide +kernel
theorem d_M_check_119 : decode c_M_check 119 = .ok (.iconst 0, 1) := by decide +kernel
theorem d_M_check_120 : decode c_M_check 120 = .ok (.ireturn, 1) := by decide +kernel
theorem d_M_of_0 : decode c_M_of 0 = .ok (.iload_n 1, 1) := by decide +kernel
theorem d_M_of_1 : decode c_M_of 1 = .ok (.ifCond .ne 7, 3) := by decide +kernel
theorem d_M_of_4 : decode c_M_of 4 = .ok (.iconst 0, 1) := by decide +kernel
theorem d_M_of_5 : decode c_M_of 5 = .ok (.goto 9, 3) := by decide +kernel
theorem d_M_of_8 : decode c_M_of 8 = .ok (.iload_n 1, 1) := by decide +kernel
theorem d_M_of_9 : decode c_M_of 9 = .ok (.bipush 16, 2) := by decide +kernel
theorem d_M_of_11 : decode c_M_of 11 = .ok (.iload_n 0, 1) := by decide +kernel
theorem d_M_of_12 : decode c_M_of 12 = .ok (.imul, 1) := by decide +kernel
theorem d_M_of_13 : decode c_M_of 13 = .ok (.iadd, 1) := by decide +kernel
theorem d_M_of_14 : decode c_M_of 14 = .ok (.ireturn, 1) := by decide +kernel
theorem d_M_take_0 : decode c_M_take 0 = .ok (.aload_n 0, 1) := by decide +kernel
theorem d_M_take_1 : decode c_M_take 1 = .ok (.aload_n 0, 1) := by decide +kernel
theorem d_M_take_2 : decode c_M_take 2 = .ok (.getfield 7, 3) := by decide +kernel
theorem d_M_take_5 : decode c_M_take 5 = .ok (.iload_n 1, 1) := by decide +kernel
theorem d_M_take_6 : decode c_M_take 6 = .ok (.iaload, 1) := by decide +kernel
theorem d_M_take_7 : decode c_M_take 7 = .ok (.putfield 71, 3) := by decide +kernel
theorem d_M_take_10 : decode c_M_take 10 = .ok (.aload_n 0, 1) := by decide +kernel
theorem d_M_take_11 : decode c_M_take 11 = .ok (.aload_n 0, 1) := by decide +kernel
theorem d_M_take_12 : decode c_M_take 12 = .ok (.getfield 13, 3) := by decide +kernel
theorem d_M_take_15 : decode c_M_take 15 = .ok (.iload_n 1, 1) := by decide +kernel
theorem d_M_take_16 : decode c_M_take 16 = .ok (.iaload, 1) := by decide +kernel
theorem d_M_take_17 : decode c_M_take 17 = .ok (.putfield 75, 3) := by decide +kernel
theorem d_M_take_20 : decode c_M_take 20 = .ok (.aload_n 0, 1) := by decide +kernel
theorem d_M_take_21 : decode c_M_take 21 = .ok (.aload_n 0, 1) := by decide +kernel
theorem d_M_take_22 : decode c_M_take 22 = .ok (.getfield 16, 3) := by decide +kernel
theorem d_M_take_25 : decode c_M_take 25 = .ok (.iload_n 1, 1) := by decide +kernel
theorem d_M_take_26 : decode c_M_take 26 = .ok (.baload, 1) := by decide +kernel
theorem d_M_take_27 : decode c_M_take 27 = .ok (.putfield 78, 3) := by decide +kernel
theorem d_M_take_30 : decode c_M_take 30 = .ok (.return_, 1) := by decide +kernel
theorem d_M_number_0 : decode c_M_number 0 = .ok (.aload_n 0, 1) := by decide +kernel
theorem d_M_number_1 : decode c_M_number 1 = .ok (.iload_n 1, 1) := by decide +kernel
theorem d_M_number_2 : decode c_M_number 2 = .ok (.putfield 71, 3) := by decide +kernel
theorem d_M_number_5 : decode c_M_number 5 = .ok (.aload_n 0, 1) := by decide +kernel
theorem d_M_number_6 : decode c_M_number 6 = .ok (.iconst 0, 1) := by decide +kernel
theorem d_M_number_7 : decode c_M_number 7 = .ok (.putfield 75, 3) := by decide +kernel
theorem d_M_number_10 : decode c_M_number 10 = .ok (.aload_n 0, 1) := by decide +kernel
theorem d_M_number_11 : decode c_M_number 11 = .ok (.iconst 0, 1) := by decide +kernel
theorem d_M_number_12 : decode c_M_number 12 = .ok (.putfield 78, 3) := by decide +kernel
theorem d_M_number_15 : decode c_M_number 15 = .ok (.return_, 1) := by decide +kernel
theorem d_M_move_0 : decode c_M_move 0 = .ok (.aload_n 0, 1) := by decide +kernel
theorem d_M_move_1 : decode c_M_move 1 = .ok (.getfield 75, 3) := by decide +kernel
theorem d_M_move_4 : decode c_M_move 4 = .ok (.aload_n 0, 1) := by decide +kernel
theorem d_M_move_5 : decode c_M_move 5 = .ok (.getfield 71, 3) := by decide +kernel
theorem d_M_move_8 : decode c_M_move 8 = .ok (.invokestatic 65, 3) := by decide +kernel
theorem d_M_move_11 : decode c_M_move 11 = .ok (.lstore_n 2, 1) := by decide +kernel
theorem d_M_move_12 : decode c_M_move 12 = .ok (.aload_n 0, 1) := by decide +kernel
theorem d_M_move_13 : decode c_M_move 13 = .ok (.getfield 75, 3) := by decide +kernel
theorem d_M_move_16 : decode c_M_move 16 = .ok (.aload_n 0, 1) := by decide +kernel
theorem d_M_move_17 : decode c_M_move 17 = .ok (.getfield 71, 3) := by decide +kernel
theorem d_M_move_20 : decode c_M_move 20 = .ok (.invokestatic 68, 3) := by decide +kernel
theorem d_M_move_23 : decode c_M_move 23 = .ok (.lstore 4, 2) := by decide +kernel
theorem d_M_move_25 : decode c_M_move 25 = .ok (.aload_n 0, 1) := by decide +kernel
theorem d_M_move_26 : decode c_M_move 26 = .ok (.iload_n 1, 1) := by decide +kernel
theorem d_M_move_27 : decode c_M_move 27 = .ok (.putfield 71, 3) := by decide +kernel
theorem d_M_move_30 : decode c_M_move 30 = .ok (.aload_n 0, 1) := by decide +kernel
theorem d_M_move_31 : decode c_M_move 31 = .ok (.aload_n 0, 1) := by decide +kernel
theorem d_M_move_32 : decode c_M_move 32 = .ok (.getfield 78, 3) := by decide +kernel
theorem d_M_move_35 : decode c_M_move 35 = .ok (.ifCond .eq 44, 3) := by decide +kernel
theorem d_M_move_38 : decode c_M_move 38 = .ok (.aload_n 0, 1) := by decide +kernel
theorem d_M_move_39 : decode c_M_move 39 = .ok (.getfield 75, 3) := by decide +kernel
theorem d_M_move_42 : decode c_M_move 42 = .ok (.invokestatic 57, 3) := by decide +kernel
theorem d_M_move_45 : decode c_M_move 45 = .ok (.ifCond .ne 34, 3) := by decide +kernel
theorem d_M_move_48 : decode c_M_move 48 = .ok (.aload_n 0, 1) := by decide +kernel
theorem d_M_move_49 : decode c_M_move 49 = .ok (.getfield 75, 3) := by decide +kernel
theorem d_M_move_52 : decode c_M_move 52 = .ok (.iload_n 1, 1) := by decide +kernel
theorem d_M_move_53 : decode c_M_move 53 = .ok (.invokestatic 65, 3) := by decide +kernel
theorem d_M_move_56 : decode c_M_move 56 = .ok (.lload_n 2, 1) := by decide +kernel
theorem d_M_move_57 : decode c_M_move 57 = .ok (.lcmp, 1) := by decide +kernel
theorem d_M_move_58 : decode c_M_move 58 = .ok (.ifCond .ne 21, 3) := by decide +kernel
theorem d_M_move_61 : decode c_M_move 61 = .ok (.aload_n 0, 1) := by decide +kernel
theorem d_M_move_62 : decode c_M_move 62 = .ok (.getfield 75, 3) := by decide +kernel
theorem d_M_move_65 : decode c_M_move 65 = .ok (.iload_n 1, 1) := by decide +kernel
theorem d_M_move_66 : decode c_M_move 66 = .ok (.invokestatic 68, 3) := by decide +kernel
theorem d_M_move_69 : decode c_M_move 69 = .ok (.lload 4, 2) := by decide +kernel
theorem d_M_move_71 : decode c_M_move 71 = .ok (.lcmp, 1) := by decide +kernel
theorem d_M_move_72 : decode c_M_move 72 = .ok (.ifCond .ne 7, 3) := by decide +kernel
theorem d_M_move_75 : decode c_M_move 75 = .ok (.iconst 1, 1) := by decide +kernel
theorem d_M_move_76 : decode c_M_move 76 = .ok (.goto 4, 3) := by decide +kernel
theorem d_M_move_79 : decode c_M_move 79 = .ok (.iconst 0, 1) := by decide +kernel
theorem d_M_move_80 : decode c_M_move 80 = .ok (.putfield 78, 3) := by decide +kernel
theorem d_M_move_83 : decode c_M_move 83 = .ok (.return_, 1) := by decide +kernel
theorem d_M_typed_0 : decode c_M_typed 0 = .ok (.aload_n 0, 1) := by decide +kernel
theorem d_M_typed_1 : decode c_M_typed 1 = .ok (.iload_n 1, 1) := by decide +kernel
theorem d_M_typed_2 : decode c_M_typed 2 = .ok (.sipush (-3841), 3) := by decide +kernel
theorem d_M_typed_5 : decode c_M_typed 5 = .ok (.iand, 1) := by decide +kernel
theorem d_M_typed_6 : decode c_M_typed 6 = .ok (.iload_n 2, 1) := by decide +kernel
theorem d_M_typed_7 : decode c_M_typed 7 = .ok (.bipush 8, 2) := by decide +kernel
theorem d_M_typed_9 : decode c_M_typed 9 = .ok (.ishl, 1) := by decide +kernel
theorem d_M_typed_10 : decode c_M_typed 10 = .ok (.ior, 1) := by decide +kernel
theorem d_M_typed_11 : decode c_M_typed 11 = .ok (.putfield 75, 3) := by decide +kernel
theorem d_M_typed_14 : decode c_M_typed 14 = .ok (.return_, 1) := by decide +kernel
theorem d_M_put_0 : decode c_M_put 0 = .ok (.iload_n 1, 1) := by decide +kernel
theorem d_M_put_1 : decode c_M_put 1 = .ok (.ifCond .le 33, 3) := by decide +kernel
theorem d_M_put_4 : decode c_M_put 4 = .ok (.aload_n 0, 1) := by decide +kernel
theorem d_M_put_5 : decode c_M_put 5 = .ok (.getfield 7, 3) := by decide +kernel
theorem d_M_put_8 : decode c_M_put 8 = .ok (.iload_n 1, 1) := by decide +kernel
theorem d_M_put_9 : decode c_M_put 9 = .ok (.aload_n 0, 1) := by decide +kernel
theorem d_M_put_10 : decode c_M_put 10 = .ok (.getfield 71, 3) := by decide +kernel
theorem d_M_put_13 : decode c_M_put 13 = .ok (.iastore, 1) := by decide +kernel
theorem d_M_put_14 : decode c_M_put 14 = .ok (.aload_n 0, 1) := by decide +kernel
theorem d_M_put_15 : decode c_M_put 15 = .ok (.getfield 13, 3) := by decide +kernel
theorem d_M_put_18 : decode c_M_put 18 = .ok (.iload_n 1, 1) := by decide +kernel
theorem d_M_put_19 : decode c_M_put 19 = .ok (.aload_n 0, 1) := by decide +kernel
theorem d_M_put_20 : decode c_M_put 20 = .ok (.getfield 75, 3) := by decide +kernel
theorem d_M_put_23 : decode c_M_put 23 = .ok (.iastore, 1) := by decide +kernel
theorem d_M_put_24 : decode c_M_put 24 = .ok (.aload_n 0, 1) := by decide +kernel
theorem d_M_put_25 : decode c_M_put 25 = .ok (.getfield 16, 3) := by decide +kernel
theorem d_M_put_28 : decode c_M_put 28 = .ok (.iload_n 1, 1) := by decide +kernel
theorem d_M_put_29 : decode c_M_put 29 = .ok (.aload_n 0, 1) := by decide +kernel
theorem d_M_put_30 : decode c_M_put 30 = .ok (.getfield 78, 3) := by decide +kernel
theorem d_M_put_33 : decode c_M_put 33 = .ok (.bastore, 1) := by decide +kernel
theorem d_M_put_34 : decode c_M_put 34 = .ok (.return_, 1) := by decide +kernel
theorem d_M_go_0 : decode c_M_go 0 = .ok (.aload_n 0, 1) := by decide +kernel
theorem d_M_go_1 : decode c_M_go 1 = .ok (.bipush 8, 2) := by decide +kernel
theorem d_M_go_3 : decode c_M_go 3 = .ok (.invokevirtual 82, 3) := by decide +kernel
theorem d_M_go_6 : decode c_M_go 6 = .ok (.aload_n 0, 1) := by decide +kernel
theorem d_M_go_7 : decode c_M_go 7 = .ok (.aload_n 0, 1) := by decide +kernel
theorem d_M_go_8 : decode c_M_go 8 = .ok (.getfield 7, 3) := by decide +kernel
theorem d_M_go_11 : decode c_M_go 11 = .ok (.bipush 8, 2) := by decide +kernel
theorem d_M_go_13 : decode c_M_go 13 = .ok (.iaload, 1) := by decide +kernel
theorem d_M_go_14 : decode c_M_go 14 = .ok (.iload_n 1, 1) := by decide +kernel
theorem d_M_go_15 : decode c_M_go 15 = .ok (.iadd, 1) := by decide +kernel
theorem d_M_go_16 : decode c_M_go 16 = .ok (.invokevirtual 86, 3) := by decide +kernel
theorem d_M_go_19 : decode c_M_go 19 = .ok (.aload_n 0, 1) := by decide +kernel
theorem d_M_go_20 : decode c_M_go 20 = .ok (.bipush 8, 2) := by decide +kernel
theorem d_M_go_22 : decode c_M_go 22 = .ok (.invokevirtual 89, 3) := by decide +kernel
theorem d_M_go_25 : decode c_M_go 25 = .ok (.return_, 1) := by decide +kernel
theorem d_M_link_0 : decode c_M_link 0 = .ok (.aload_n 0, 1) := by decide +kernel
theorem d_M_link_1 : decode c_M_link 1 = .ok (.bipush 8, 2) := by decide +kernel
theorem d_M_link_3 : decode c_M_link 3 = .ok (.invokevirtual 82, 3) := by decide +kernel
theorem d_M_link_6 : decode c_M_link 6 = .ok (.aload_n 0, 1) := by decide +kernel
theorem d_M_link_7 : decode c_M_link 7 = .ok (.aload_n 0, 1) := by decide +kernel
theorem d_M_link_8 : decode c_M_link 8 = .ok (.getfield 7, 3) := by decide +kernel
theorem d_M_link_11 : decode c_M_link 11 = .ok (.bipush 8, 2) := by decide +kernel
theorem d_M_link_13 : decode c_M_link 13 = .ok (.iaload, 1) := by decide +kernel
theorem d_M_link_14 : decode c_M_link 14 = .ok (.iconst 4, 1) := by decide +kernel
theorem d_M_link_15 : decode c_M_link 15 = .ok (.iadd, 1) := by decide +kernel
theorem d_M_link_16 : decode c_M_link 16 = .ok (.invokevirtual 86, 3) := by decide +kernel
theorem d_M_link_19 : decode c_M_link 19 = .ok (.aload_n 0, 1) := by decide +kernel
theorem d_M_link_20 : decode c_M_link 20 = .ok (.aload_n 0, 1) := by decide +kernel
theorem d_M_link_21 : decode c_M_link 21 = .ok (.getfield 75, 3) := by decide +kernel
theorem d_M_link_24 : decode c_M_link 24 = .ok (.iconst 1, 1) := by decide +kernel
theorem d_M_link_25 : decode c_M_link 25 = .ok (.invokevirtual 92, 3) := by decide +kernel
theorem d_M_link_28 : decode c_M_link 28 = .ok (.return_, 1) := by decide +kernel
theorem d_M_trapOf_0 : decode c_M_trapOf 0 = .ok (.aload_n 0, 1) := by decide +kernel
theorem d_M_trapOf_1 : decode c_M_trapOf 1 = .ok (.getfield 7, 3) := by decide +kernel
theorem d_M_trapOf_4 : decode c_M_trapOf 4 = .ok (.iload_n 2, 1) := by decide +kernel
theorem d_M_trapOf_5 : decode c_M_trapOf 5 = .ok (.iaload, 1) := by decide +kernel
theorem d_M_trapOf_6 : decode c_M_trapOf 6 = .ok (.istore 5, 2) := by decide +kernel
theorem d_M_trapOf_8 : decode c_M_trapOf 8 = .ok (.aload_n 0, 1) := by decide +kernel
theorem d_M_trapOf_9 : decode c_M_trapOf 9 = .ok (.getfield 7, 3) := by decide +kernel
theorem d_M_trapOf_12 : decode c_M_trapOf 12 = .ok (.iload_n 3, 1) := by decide +kernel
theorem d_M_trapOf_13 : decode c_M_trapOf 13 = .ok (.iaload, 1) := by decide +kernel
theorem d_M_trapOf_14 : decode c_M_trapOf 14 = .ok (.istore 6, 2) := by decide +kernel
theorem d_M_trapOf_16 : decode c_M_trapOf 16 = .ok (.iload_n 1, 1) := by decide +kernel
theorem d_M_trapOf_17 : decode c_M_trapOf 17 = .ok (.bipush 11, 2) := by decide +kernel
theorem d_M_trapOf_19 : decode c_M_trapOf 19 = .ok (.if_icmp .eq 9, 3) := by decide +kernel
theorem d_M_trapOf_22 : decode c_M_trapOf 22 = .ok (.iload_n 1, 1) := by decide +kernel
theorem d_M_trapOf_23 : decode c_M_trapOf 23 = .ok (.bipush 13, 2) := by decide +kernel
theorem d_M_trapOf_25 : decode c_M_trapOf 25 = .ok (.if_icmp .ne 31, 3) := by decide +kernel
theorem d_M_trapOf_28 : decode c_M_trapOf 28 = .ok (.iload_n 2, 1) := by decide +kernel
theorem d_M_trapOf_29 : decode c_M_trapOf 29 = .ok (.aload_n 0, 1) := by decide +kernel
theorem d_M_trapOf_30 : decode c_M_trapOf 30 = .ok (.iload_n 2, 1) := by decide +kernel
theorem d_M_trapOf_31 : decode c_M_trapOf 31 = .ok (.iconst 2, 1) := by decide +kernel
theorem d_M_trapOf_32 : decode c_M_trapOf 32 = .ok (.iload_n 1, 1) := by decide +kernel
theorem d_M_trapOf_33 : decode c_M_trapOf 33 = .ok (.bipush 11, 2) := by decide +kernel
theorem d_M_trapOf_35 : decode c_M_trapOf 35 = .ok (.if_icmp .ne 7, 3) := by decide +kernel
theorem d_M_trapOf_38 : decode c_M_trapOf 38 = .ok (.iconst 4, 1) := by decide +kernel
theorem d_M_trapOf_39 : decode c_M_trapOf 39 = .ok (.goto 5, 3) := by decide +kernel
theorem d_M_trapOf_42 : decode c_M_trapOf 42 = .ok (.bipush 8, 2) := by decide +kernel
theorem d_M_trapOf_44 : decode c_M_trapOf 44 = .ok (.iload 5, 2) := by decide +kernel
theorem d_M_trapOf_46 : decode c_M_trapOf 46 = .ok (.iload 4, 2) := by decide +kernel
theorem d_M_trapOf_48 : decode c_M_trapOf 48 = .ok (.iadd, 1) := by decide +kernel
theorem d_M_trapOf_49 : decode c_M_trapOf 49 = .ok (.invokevirtual 95, 3) := by decide +kernel
theorem d_M_trapOf_52 : decode c_M_trapOf 52 = .ok (.invokestatic 99, 3) := by decide +kernel
theorem d_M_trapOf_55 : decode c_M_trapOf 55 = .ok (.ireturn, 1) := by decide +kernel
theorem d_M_trapOf_56 : decode c_M_trapOf 56 = .ok (.iload_n 1, 1) := by decide +kernel
theorem d_M_trapOf_57 : decode c_M_trapOf 57 = .ok (.bipush 12, 2) := by decide +kernel
theorem d_M_trapOf_59 : decode c_M_trapOf 59 = .ok (.if_icmp .eq 9, 3) := by decide +kernel
theorem d_M_trapOf_62 : decode c_M_trapOf 62 = .ok (.iload_n 1, 1) := by decide +kernel
theorem d_M_trapOf_63 : decode c_M_trapOf 63 = .ok (.bipush 14, 2) := by decide +kernel
theorem d_M_trapOf_65 : decode c_M_trapOf 65 = .ok (.if_icmp .ne 51, 3) := by decide +kernel
theorem d_M_trapOf_68 : decode c_M_trapOf 68 = .ok (.iload_n 2, 1) := by decide +kernel
theorem d_M_trapOf_69 : decode c_M_trapOf 69 = .ok (.aload_n 0, 1) := by decide +kernel
theorem d_M_trapOf_70 : decode c_M_trapOf 70 = .ok (.iload_n 2, 1) := by decide +kernel
theorem d_M_trapOf_71 : decode c_M_trapOf 71 = .ok (.iload_n 1, 1) := by decide +kernel
theorem d_M_trapOf_72 : decode c_M_trapOf 72 = .ok (.bipush 14, 2) := by decide +kernel
theorem d_M_trapOf_74 : decode c_M_trapOf 74 = .ok (.if_icmp .ne 17, 3) := by decide +kernel
theorem d_M_trapOf_77 : decode c_M_trapOf 77 = .ok (.aload_n 0, 1) := by decide +kernel
theorem d_M_trapOf_78 : decode c_M_trapOf 78 = .ok (.getfield 16, 3) := by decide +kernel
theorem d_M_trapOf_81 : decode c_M_trapOf 81 = .ok (.iload_n 3, 1) := by decide +kernel
theorem d_M_trapOf_82 : decode c_M_trapOf 82 = .ok (.baload, 1) := by decide +kernel
theorem d_M_trapOf_83 : decode c_M_trapOf 83 = .ok (.ifCond .eq 8, 3) := by decide +kernel
theorem d_M_trapOf_86 : decode c_M_trapOf 86 = .ok (.bipush 20, 2) := by decide +kernel
theorem d_M_trapOf_88 : decode c_M_trapOf 88 = .ok (.goto 4, 3) := by decide +kernel
theorem d_M_trapOf_91 : decode c_M_trapOf 91 = .ok (.iconst 4, 1) := by decide +kernel
theorem d_M_trapOf_92 : decode c_M_trapOf 92 = .ok (.iload_n 1, 1) := by decide +kernel
theorem d_M_trapOf_93 : decode c_M_trapOf 93 = .ok (.bipush 12, 2) := by decide +kernel
theorem d_M_trapOf_95 : decode c_M_trapOf 95 = .ok (.if_icmp .ne 7, 3) := by decide +kernel
theorem d_M_trapOf_98 : decode c_M_trapOf 98 = .ok (.iconst 4, 1) := by decide +kernel
theorem d_M_trapOf_99 : decode c_M_trapOf 99 = .ok (.goto 5, 3) := by decide +kernel
theorem d_M_trapOf_102 : decode c_M_trapOf 102 = .ok (.bipush 8, 2) := by decide +kernel
theorem d_M_trapOf_104 : decode c_M_trapOf 104 = .ok (.iload 5, 2) := by decide +kernel
theorem d_M_trapOf_106 : decode c_M_trapOf 106 = .ok (.iload 4, 2) := by decide +kernel
theorem d_M_trapOf_108 : decode c_M_trapOf 108 = .ok (.iadd, 1) := by decide +kernel
theorem d_M_trapOf_109 : decode c_M_trapOf 109 = .ok (.invokevirtual 95, 3) := by decide +kernel
theorem d_M_trapOf_112 : decode c_M_trapOf 112 = .ok (.invokestatic 99, 3) := by decide +kernel
theorem d_M_trapOf_115 : decode c_M_trapOf 115 = .ok (.ireturn, 1) := by decide +kernel
theorem d_M_trapOf_116 : decode c_M_trapOf 116 = .ok (.iload_n 1, 1) := by decide +kernel
theorem d_M_trapOf_117 : decode c_M_trapOf 117 = .ok (.bipush 18, 2) := by decide +kernel
theorem d_M_trapOf_119 : decode c_M_trapOf 119 = .ok (.if_icmp .ne 52, 3) := by decide +kernel
theorem d_M_trapOf_122 : decode c_M_trapOf 122 = .ok (.iload_n 2, 1) := by decide +kernel
theorem d_M_trapOf_123 : decode c_M_trapOf 123 = .ok (.aload_n 0, 1) := by decide +kernel
theorem d_M_trapOf_124 : decode c_M_trapOf 124 = .ok (.getfield 16, 3) := by decide +kernel
theorem d_M_trapOf_127 : decode c_M_trapOf 127 = .ok (.iload_n 2, 1) := by decide +kernel
theorem d_M_trapOf_128 : decode c_M_trapOf 128 = .ok (.baload, 1) := by decide +kernel
theorem d_M_trapOf_129 : decode c_M_trapOf 129 = .ok (.ifCond .ne 7, 3) := by decide +kernel
theorem d_M_trapOf_132 : decode c_M_trapOf 132 = .ok (.iconst 1, 1) := by decide +kernel
theorem d_M_trapOf_133 : decode c_M_trapOf 133 = .ok (.goto 34, 3) := by decide +kernel
theorem d_M_trapOf_136 : decode c_M_trapOf 136 = .ok (.aload_n 0, 1) := by decide +kernel
theorem d_M_trapOf_137 : decode c_M_trapOf 137 = .ok (.getfield 13, 3) := by decide +kernel
theorem d_M_trapOf_140 : decode c_M_trapOf 140 = .ok (.iload_n 2, 1) := by decide +kernel
theorem d_M_trapOf_141 : decode c_M_trapOf 141 = .ok (.iaload, 1) := by decide +kernel
theorem d_M_trapOf_142 : decode c_M_trapOf 142 = .ok (.invokestatic 57, 3) := by decide +kernel
theorem d_M_trapOf_145 : decode c_M_trapOf 145 = .ok (.iconst 1, 1) := by decide +kernel
theorem d_M_trapOf_146 : decode c_M_trapOf 146 = .ok (.if_icmp .le 7, 3) := by decide +kernel
theorem d_M_trapOf_149 : decode c_M_trapOf 149 = .ok (.iconst 2, 1) := by decide +kernel
theorem d_M_trapOf_150 : decode c_M_trapOf 150 = .ok (.goto 17, 3) := by decide +kernel
theorem d_M_trapOf_153 : decode c_M_trapOf 153 = .ok (.aload_n 0, 1) := by decide +kernel
theorem d_M_trapOf_154 : decode c_M_trapOf 154 = .ok (.iload_n 2, 1) := by decide +kernel
theorem d_M_trapOf_155 : decode c_M_trapOf 155 = .ok (.iconst 1, 1) := by decide +kernel
theorem d_M_trapOf_156 : decode c_M_trapOf 156 = .ok (.invokevirtual 61, 3) := by decide +kernel
theorem d_M_trapOf_159 : decode c_M_trapOf 159 = .ok (.ifCond .ne 7, 3) := by decide +kernel
theorem d_M_trapOf_162 : decode c_M_trapOf 162 = .ok (.iconst 3, 1) := by decide +kernel
theorem d_M_trapOf_163 : decode c_M_trapOf 163 = .ok (.goto 4, 3) := by decide +kernel
theorem d_M_trapOf_166 : decode c_M_trapOf 166 = .ok (.iconst 0, 1) := by decide +kernel
theorem d_M_trapOf_167 : decode c_M_trapOf 167 = .ok (.invokestatic 99, 3) := by decide +kernel
theorem d_M_trapOf_170 : decode c_M_trapOf 170 = .ok (.ireturn, 1) := by decide +kernel
theorem d_M_trapOf_171 : decode c_M_trapOf 171 = .ok (.iload_n 1, 1) := by decide +kernel
theorem d_M_trapOf_172 : decode c_M_trapOf 172 = .ok (.bipush 23, 2) := by decide +kernel
theorem d_M_trapOf_174 : decode c_M_trapOf 174 = .ok (.if_icmp .eq 9, 3) := by decide +kernel
theorem d_M_trapOf_177 : decode c_M_trapOf 177 = .ok (.iload_n 1, 1) := by decide +kernel
theorem d_M_trapOf_178 : decode c_M_trapOf 178 = .ok (.bipush 24, 2) := by decide +kernel
theorem d_M_trapOf_180 : decode c_M_trapOf 180 = .ok (.if_icmp .ne 23, 3) := by decide +kernel
theorem d_M_trapOf_183 : decode c_M_trapOf 183 = .ok (.aload_n 0, 1) := by decide +kernel
theorem d_M_trapOf_184 : decode c_M_trapOf 184 = .ok (.iload_n 1, 1) := by decide +kernel
theorem d_M_trapOf_185 : decode c_M_trapOf 185 = .ok (.bipush 23, 2) := by decide +kernel
theorem d_M_trapOf_187 : decode c_M_trapOf 187 = .ok (.if_icmp .ne 7, 3) := by decide +kernel
theorem d_M_trapOf_190 : decode c_M_trapOf 190 = .ok (.iconst 1, 1) := by decide +kernel
theorem d_M_trapOf_191 : decode c_M_trapOf 191 = .ok (.goto 4, 3) := by decide +kernel
theorem d_M_trapOf_194 : decode c_M_trapOf 194 = .ok (.iconst 0, 1) := by decide +kernel
theorem d_M_trapOf_195 : decode c_M_trapOf 195 = .ok (.iload_n 2, 1) := by decide +kernel
theorem d_M_trapOf_196 : decode c_M_trapOf 196 = .ok (.iload_n 3, 1) := by decide +kernel
theorem d_M_trapOf_197 : decode c_M_trapOf 197 = .ok (.iload 6, 2) := by decide +kernel
theorem d_M_trapOf_199 : decode c_M_trapOf 199 = .ok (.invokevirtual 103, 3) := by decide +kernel
theorem d_M_trapOf_202 : decode c_M_trapOf 202 = .ok (.ireturn, 1) := by decide +kernel
theorem d_M_trapOf_203 : decode c_M_trapOf 203 = .ok (.iload_n 1, 1) := by decide +kernel
theorem d_M_trapOf_204 : decode c_M_trapOf 204 = .ok (.bipush 29, 2) := by decide +kernel
theorem d_M_trapOf_206 : decode c_M_trapOf 206 = .ok (.if_icmp .ne 42, 3) := by decide +kernel
theorem d_M_trapOf_209 : decode c_M_trapOf 209 = .ok (.bipush 8, 2) := by decide +kernel
theorem d_M_trapOf_211 : decode c_M_trapOf 211 = .ok (.aload_n 0, 1) := by decide +kernel
theorem d_M_trapOf_212 : decode c_M_trapOf 212 = .ok (.bipush 8, 2) := by decide +kernel
theorem d_M_trapOf_214 : decode c_M_trapOf 214 = .ok (.sipush 128, 3) := by decide +kernel
theorem d_M_trapOf_217 : decode c_M_trapOf 217 = .ok (.invokevirtual 61, 3) := by decide +kernel
theorem d_M_trapOf_220 : decode c_M_trapOf 220 = .ok (.ifCond .ne 7, 3) := by decide +kernel
theorem d_M_trapOf_223 : decode c_M_trapOf 223 = .ok (.iconst 3, 1) := by decide +kernel
theorem d_M_trapOf_224 : decode c_M_trapOf 224 = .ok (.goto 20, 3) := by decide +kernel
theorem d_M_trapOf_227 : decode c_M_trapOf 227 = .ok (.iload 4, 2) := by decide +kernel
theorem d_M_trapOf_229 : decode c_M_trapOf 229 = .ok (.ifCond .lt 9, 3) := by decide +kernel
theorem d_M_trapOf_232 : decode c_M_trapOf 232 = .ok (.iload 4, 2) := by decide +kernel
theorem d_M_trapOf_234 : decode c_M_trapOf 234 = .ok (.iconst 2, 1) := by decide +kernel
theorem d_M_trapOf_235 : decode c_M_trapOf 235 = .ok (.if_icmp .le 8, 3) := by decide +kernel
theorem d_M_trapOf_238 : decode c_M_trapOf 238 = .ok (.bipush 8, 2) := by decide +kernel
theorem d_M_trapOf_240 : decode c_M_trapOf 240 = .ok (.goto 4, 3) := by decide +kernel
theorem d_M_trapOf_243 : decode c_M_trapOf 243 = .ok (.iconst 0, 1) := by decide +kernel
theorem d_M_trapOf_244 : decode c_M_trapOf 244 = .ok (.invokestatic 99, 3) := by decide +kernel
theorem d_M_trapOf_247 : decode c_M_trapOf 247 = .ok (.ireturn, 1) := by decide +kernel
theorem d_M_trapOf_248 : decode c_M_trapOf 248 = .ok (.iload_n 1, 1) := by decide +kernel
theorem d_M_trapOf_249 : decode c_M_trapOf 249 = .ok (.bipush 31, 2) := by decide +kernel
theorem d_M_trapOf_251 : decode c_M_trapOf 251 = .ok (.if_icmp .ne 26, 3) := by decide +kernel
