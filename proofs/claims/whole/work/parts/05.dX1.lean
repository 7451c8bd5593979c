theorem d_X_init_0 : decode c_X_init 0 = .ok (.aload_n 0, 1) := by decide +kernel
theorem d_X_init_1 : decode c_X_init 1 = .ok (.invokespecial 1, 3) := by decide +kernel
theorem d_X_init_4 : decode c_X_init 4 = .ok (.aload_n 0, 1) := by decide +kernel
theorem d_X_init_5 : decode c_X_init 5 = .ok (.sipush 256, 3) := by decide +kernel
theorem d_X_init_8 : decode c_X_init 8 = .ok (.newarray .int, 2) := by decide +kernel
theorem d_X_init_10 : decode c_X_init 10 = .ok (.putfield 9, 3) := by decide +kernel
theorem d_X_init_13 : decode c_X_init 13 = .ok (.aload_n 0, 1) := by decide +kernel
theorem d_X_init_14 : decode c_X_init 14 = .ok (.sipush 128, 3) := by decide +kernel
theorem d_X_init_17 : decode c_X_init 17 = .ok (.newarray .boolean, 2) := by decide +kernel
theorem d_X_init_19 : decode c_X_init 19 = .ok (.putfield 13, 3) := by decide +kernel
theorem d_X_init_22 : decode c_X_init 22 = .ok (.aload_n 0, 1) := by decide +kernel
theorem d_X_init_23 : decode c_X_init 23 = .ok (.bipush 12, 2) := by decide +kernel
theorem d_X_init_25 : decode c_X_init 25 = .ok (.anewarray 17, 3) := by decide +kernel
theorem d_X_init_28 : decode c_X_init 28 = .ok (.putfield 19, 3) := by decide +kernel
theorem d_X_init_31 : decode c_X_init 31 = .ok (.aload_n 0, 1) := by decide +kernel
theorem d_X_init_32 : decode c_X_init 32 = .ok (.new 17, 3) := by decide +kernel
theorem d_X_init_35 : decode c_X_init 35 = .ok (.dup, 1) := by decide +kernel
theorem d_X_init_36 : decode c_X_init 36 = .ok (.invokespecial 23, 3) := by decide +kernel
theorem d_X_init_39 : decode c_X_init 39 = .ok (.putfield 24, 3) := by decide +kernel
theorem d_X_init_42 : decode c_X_init 42 = .ok (.aload_n 0, 1) := by decide +kernel
theorem d_X_init_43 : decode c_X_init 43 = .ok (.iconst 0, 1) := by decide +kernel
theorem d_X_init_44 : decode c_X_init 44 = .ok (.putfield 28, 3) := by decide +kernel
theorem d_X_init_47 : decode c_X_init 47 = .ok (.aload_n 0, 1) := by decide +kernel
theorem d_X_init_48 : decode c_X_init 48 = .ok (.iconst 0, 1) := by decide +kernel
theorem d_X_init_49 : decode c_X_init 49 = .ok (.putfield 32, 3) := by decide +kernel
theorem d_X_init_52 : decode c_X_init 52 = .ok (.aload_n 0, 1) := by decide +kernel
theorem d_X_init_53 : decode c_X_init 53 = .ok (.iconst 0, 1) := by decide +kernel
theorem d_X_init_54 : decode c_X_init 54 = .ok (.putfield 35, 3) := by decide +kernel
theorem d_X_init_57 : decode c_X_init 57 = .ok (.aload_n 0, 1) := by decide +kernel
theorem d_X_init_58 : decode c_X_init 58 = .ok (.iconst 0, 1) := by decide +kernel
theorem d_X_init_59 : decode c_X_init 59 = .ok (.putfield 38, 3) := by decide +kernel
theorem d_X_init_62 : decode c_X_init 62 = .ok (.iconst 0, 1) := by decide +kernel
theorem d_X_init_63 : decode c_X_init 63 = .ok (.istore_n 1, 1) := by decide +kernel
theorem d_X_init_64 : decode c_X_init 64 = .ok (.iload_n 1, 1) := by decide +kernel
theorem d_X_init_65 : decode c_X_init 65 = .ok (.bipush 12, 2) := by decide +kernel
theorem d_X_init_67 : decode c_X_init 67 = .ok (.if_icmp .ge 22, 3) := by decide +kernel
theorem d_X_init_70 : decode c_X_init 70 = .ok (.aload_n 0, 1) := by decide +kernel
theorem d_X_init_71 : decode c_X_init 71 = .ok (.getfield 19, 3) := by decide +kernel
theorem d_X_init_74 : decode c_X_init 74 = .ok (.iload_n 1, 1) := by decide +kernel
theorem d_X_init_75 : decode c_X_init 75 = .ok (.new 17, 3) := by decide +kernel
theorem d_X_init_78 : decode c_X_init 78 = .ok (.dup, 1) := by decide +kernel
theorem d_X_init_79 : decode c_X_init 79 = .ok (.invokespecial 23, 3) := by decide +kernel
theorem d_X_init_82 : decode c_X_init 82 = .ok (.aastore, 1) := by decide +kernel
theorem d_X_init_83 : decode c_X_init 83 = .ok (.iinc 1 1, 3) := by decide +kernel
theorem d_X_init_86 : decode c_X_init 86 = .ok (.goto (-22), 3) := by decide +kernel
theorem d_X_init_89 : decode c_X_init 89 = .ok (.aload_n 0, 1) := by decide +kernel
theorem d_X_init_90 : decode c_X_init 90 = .ok (.aload_n 0, 1) := by decide +kernel
theorem d_X_init_91 : decode c_X_init 91 = .ok (.getfield 19, 3) := by decide +kernel
theorem d_X_init_94 : decode c_X_init 94 = .ok (.bipush 8, 2) := by decide +kernel
theorem d_X_init_96 : decode c_X_init 96 = .ok (.aaload, 1) := by decide +kernel
theorem d_X_init_97 : decode c_X_init 97 = .ok (.putfield 41, 3) := by decide +kernel
theorem d_X_init_100 : decode c_X_init 100 = .ok (.aload_n 0, 1) := by decide +kernel
theorem d_X_init_101 : decode c_X_init 101 = .ok (.getfield 19, 3) := by decide +kernel
theorem d_X_init_104 : decode c_X_init 104 = .ok (.iconst 1, 1) := by decide +kernel
theorem d_X_init_105 : decode c_X_init 105 = .ok (.aaload, 1) := by decide +kernel
theorem d_X_init_106 : decode c_X_init 106 = .ok (.iconst 0, 1) := by decide +kernel
theorem d_X_init_107 : decode c_X_init 107 = .ok (.invokevirtual 44, 3) := by decide +kernel
theorem d_X_init_110 : decode c_X_init 110 = .ok (.aload_n 0, 1) := by decide +kernel
theorem d_X_init_111 : decode c_X_init 111 = .ok (.getfield 41, 3) := by decide +kernel
theorem d_X_init_114 : decode c_X_init 114 = .ok (.iconst 0, 1) := by decide +kernel
theorem d_X_init_115 : decode c_X_init 115 = .ok (.invokevirtual 44, 3) := by decide +kernel
theorem d_X_init_118 : decode c_X_init 118 = .ok (.return_, 1) := by decide +kernel
theorem d_X_poke_0 : decode c_X_poke 0 = .ok (.iload_n 1, 1) := by decide +kernel
theorem d_X_poke_1 : decode c_X_poke 1 = .ok (.invokestatic 48, 3) := by decide +kernel
theorem d_X_poke_4 : decode c_X_poke 4 = .ok (.ifCond .ne 5, 3) := by decide +kernel
theorem d_X_poke_7 : decode c_X_poke 7 = .ok (.iconst 0, 1) := by decide +kernel
theorem d_X_poke_8 : decode c_X_poke 8 = .ok (.ireturn, 1) := by decide +kernel
theorem d_X_poke_9 : decode c_X_poke 9 = .ok (.aload_n 0, 1) := by decide +kernel
theorem d_X_poke_10 : decode c_X_poke 10 = .ok (.iload_n 1, 1) := by decide +kernel
theorem d_X_poke_11 : decode c_X_poke 11 = .ok (.iload_n 2, 1) := by decide +kernel
theorem d_X_poke_12 : decode c_X_poke 12 = .ok (.invokevirtual 52, 3) := by decide +kernel
theorem d_X_poke_15 : decode c_X_poke 15 = .ok (.iconst 1, 1) := by decide +kernel
theorem d_X_poke_16 : decode c_X_poke 16 = .ok (.ireturn, 1) := by decide +kernel
theorem d_X_peek_0 : decode c_X_peek 0 = .ok (.iload_n 1, 1) := by decide +kernel
theorem d_X_peek_1 : decode c_X_peek 1 = .ok (.invokestatic 48, 3) := by decide +kernel
theorem d_X_peek_4 : decode c_X_peek 4 = .ok (.ifCond .eq 12, 3) := by decide +kernel
theorem d_X_peek_7 : decode c_X_peek 7 = .ok (.aload_n 0, 1) := by decide +kernel
theorem d_X_peek_8 : decode c_X_peek 8 = .ok (.getfield 9, 3) := by decide +kernel
theorem d_X_peek_11 : decode c_X_peek 11 = .ok (.iload_n 1, 1) := by decide +kernel
theorem d_X_peek_12 : decode c_X_peek 12 = .ok (.iaload, 1) := by decide +kernel
theorem d_X_peek_13 : decode c_X_peek 13 = .ok (.goto 4, 3) := by decide +kernel
theorem d_X_peek_16 : decode c_X_peek 16 = .ok (.iconst 0, 1) := by decide +kernel
theorem d_X_peek_17 : decode c_X_peek 17 = .ok (.ireturn, 1) := by decide +kernel
theorem d_X_tagged_0 : decode c_X_tagged 0 = .ok (.iload_n 1, 1) := by decide +kernel
theorem d_X_tagged_1 : decode c_X_tagged 1 = .ok (.ifCond .lt 23, 3) := by decide +kernel
theorem d_X_tagged_4 : decode c_X_tagged 4 = .ok (.iload_n 1, 1) := by decide +kernel
theorem d_X_tagged_5 : decode c_X_tagged 5 = .ok (.sipush 128, 3) := by decide +kernel
theorem d_X_tagged_8 : decode c_X_tagged 8 = .ok (.if_icmp .ge 16, 3) := by decide +kernel
theorem d_X_tagged_11 : decode c_X_tagged 11 = .ok (.aload_n 0, 1) := by decide +kernel
theorem d_X_tagged_12 : decode c_X_tagged 12 = .ok (.getfield 13, 3) := by decide +kernel
theorem d_X_tagged_15 : decode c_X_tagged 15 = .ok (.iload_n 1, 1) := by decide +kernel
theorem d_X_tagged_16 : decode c_X_tagged 16 = .ok (.baload, 1) := by decide +kernel
theorem d_X_tagged_17 : decode c_X_tagged 17 = .ok (.ifCond .eq 7, 3) := by decide +kernel
theorem d_X_tagged_20 : decode c_X_tagged 20 = .ok (.iconst 1, 1) := by decide +kernel
theorem d_X_tagged_21 : decode c_X_tagged 21 = .ok (.goto 4, 3) := by decide +kernel
theorem d_X_tagged_24 : decode c_X_tagged 24 = .ok (.iconst 0, 1) := by decide +kernel
theorem d_X_tagged_25 : decode c_X_tagged 25 = .ok (.ireturn, 1) := by decide +kernel
theorem d_X_run_0 : decode c_X_run 0 = .ok (.iload_n 1, 1) := by decide +kernel
theorem d_X_run_1 : decode c_X_run 1 = .ok (.ifCond .lt 9, 3) := by decide +kernel
theorem d_X_run_4 : decode c_X_run 4 = .ok (.iload_n 1, 1) := by decide +kernel
theorem d_X_run_5 : decode c_X_run 5 = .ok (.bipush 100, 2) := by decide +kernel
theorem d_X_run_7 : decode c_X_run 7 = .ok (.if_icmp .le 5, 3) := by decide +kernel
theorem d_X_run_10 : decode c_X_run 10 = .ok (.iconst (-1), 1) := by decide +kernel
theorem d_X_run_11 : decode c_X_run 11 = .ok (.ireturn, 1) := by decide +kernel
theorem d_X_run_12 : decode c_X_run 12 = .ok (.iconst 0, 1) := by decide +kernel
theorem d_X_run_13 : decode c_X_run 13 = .ok (.istore_n 2, 1) := by decide +kernel
theorem d_X_run_14 : decode c_X_run 14 = .ok (.iload_n 2, 1) := by decide +kernel
theorem d_X_run_15 : decode c_X_run 15 = .ok (.iload_n 1, 1) := by decide +kernel
theorem d_X_run_16 : decode c_X_run 16 = .ok (.if_icmp .ge 20, 3) := by decide +kernel
theorem d_X_run_19 : decode c_X_run 19 = .ok (.aload_n 0, 1) := by decide +kernel
theorem d_X_run_20 : decode c_X_run 20 = .ok (.getfield 28, 3) := by decide +kernel
theorem d_X_run_23 : decode c_X_run 23 = .ok (.ifCond .ne 13, 3) := by decide +kernel
theorem d_X_run_26 : decode c_X_run 26 = .ok (.aload_n 0, 1) := by decide +kernel
theorem d_X_run_27 : decode c_X_run 27 = .ok (.invokevirtual 56, 3) := by decide +kernel
theorem d_X_run_30 : decode c_X_run 30 = .ok (.iinc 2 1, 3) := by decide +kernel
theorem d_X_run_33 : decode c_X_run 33 = .ok (.goto (-19), 3) := by decide +kernel
theorem d_X_run_36 : decode c_X_run 36 = .ok (.iload_n 2, 1) := by decide +kernel
theorem d_X_run_37 : decode c_X_run 37 = .ok (.ireturn, 1) := by decide +kernel
theorem d_X_state_0 : decode c_X_state 0 = .ok (.aload_n 0, 1) := by decide +kernel
theorem d_X_state_1 : decode c_X_state 1 = .ok (.getfield 28, 3) := by decide +kernel
theorem d_X_state_4 : decode c_X_state 4 = .ok (.ireturn, 1) := by decide +kernel
theorem d_X_wake_0 : decode c_X_wake 0 = .ok (.aload_n 0, 1) := by decide +kernel
theorem d_X_wake_1 : decode c_X_wake 1 = .ok (.getfield 28, 3) := by decide +kernel
theorem d_X_wake_4 : decode c_X_wake 4 = .ok (.ifCond .eq 10, 3) := by decide +kernel
theorem d_X_wake_7 : decode c_X_wake 7 = .ok (.iload_n 1, 1) := by decide +kernel
theorem d_X_wake_8 : decode c_X_wake 8 = .ok (.invokestatic 48, 3) := by decide +kernel
theorem d_X_wake_11 : decode c_X_wake 11 = .ok (.ifCond .ne 5, 3) := by decide +kernel
theorem d_X_wake_14 : decode c_X_wake 14 = .ok (.iconst 0, 1) := by decide +kernel
theorem d_X_wake_15 : decode c_X_wake 15 = .ok (.ireturn, 1) := by decide +kernel
theorem d_X_wake_16 : decode c_X_wake 16 = .ok (.aload_n 0, 1) := by decide +kernel
theorem d_X_wake_17 : decode c_X_wake 17 = .ok (.iconst 0, 1) := by decide +kernel
theorem d_X_wake_18 : decode c_X_wake 18 = .ok (.putfield 28, 3) := by decide +kernel
theorem d_X_wake_21 : decode c_X_wake 21 = .ok (.aload_n 0, 1) := by decide +kernel
theorem d_X_wake_22 : decode c_X_wake 22 = .ok (.getfield 41, 3) := by decide +kernel
theorem d_X_wake_25 : decode c_X_wake 25 = .ok (.iconst 4, 1) := by decide +kernel
theorem d_X_wake_26 : decode c_X_wake 26 = .ok (.iload_n 1, 1) := by decide +kernel
theorem d_X_wake_27 : decode c_X_wake 27 = .ok (.imul, 1) := by decide +kernel
theorem d_X_wake_28 : decode c_X_wake 28 = .ok (.invokevirtual 44, 3) := by decide +kernel
theorem d_X_wake_31 : decode c_X_wake 31 = .ok (.iconst 1, 1) := by decide +kernel
theorem d_X_wake_32 : decode c_X_wake 32 = .ok (.ireturn, 1) := by decide +kernel
theorem d_X_cause_0 : decode c_X_cause 0 = .ok (.aload_n 0, 1) := by decide +kernel
theorem d_X_cause_1 : decode c_X_cause 1 = .ok (.getfield 32, 3) := by decide +kernel
theorem d_X_cause_4 : decode c_X_cause 4 = .ok (.ireturn, 1) := by decide +kernel
theorem d_X_steps_0 : decode c_X_steps 0 = .ok (.aload_n 0, 1) := by decide +kernel
theorem d_X_steps_1 : decode c_X_steps 1 = .ok (.getfield 35, 3) := by decide +kernel
theorem d_X_steps_4 : decode c_X_steps 4 = .ok (.ireturn, 1) := by decide +kernel
theorem d_X_traps_0 : decode c_X_traps 0 = .ok (.aload_n 0, 1) := by decide +kernel
theorem d_X_traps_1 : decode c_X_traps 1 = .ok (.getfield 38, 3) := by decide +kernel
theorem d_X_traps_4 : decode c_X_traps 4 = .ok (.ireturn, 1) := by decide +kernel
theorem d_X_register_0 : decode c_X_register 0 = .ok (.iload_n 1, 1) := by decide +kernel
theorem d_X_register_1 : decode c_X_register 1 = .ok (.invokestatic 59, 3) := by decide +kernel
theorem d_X_register_4 : decode c_X_register 4 = .ok (.ifCond .ne 5, 3) := by decide +kernel
theorem d_X_register_7 : decode c_X_register 7 = .ok (.iconst (-1), 1) := by decide +kernel
theorem d_X_register_8 : decode c_X_register 8 = .ok (.ireturn, 1) := by decide +kernel
theorem d_X_register_9 : decode c_X_register 9 = .ok (.iload_n 2, 1) := by decide +kernel
theorem d_X_register_10 : decode c_X_register 10 = .ok (.tableswitch 64 0 2 #[26, 36, 46], 26) := by decide +kernel
theorem d_X_register_36 : decode c_X_register 36 = .ok (.aload_n 0, 1) := by decide +kernel
theorem d_X_register_37 : decode c_X_register 37 = .ok (.getfield 19, 3) := by decide +kernel
theorem d_X_register_40 : decode c_X_register 40 = .ok (.iload_n 1, 1) := by decide +kernel
theorem d_X_register_41 : decode c_X_register 41 = .ok (.aaload, 1) := by decide +kernel
theorem d_X_register_42 : decode c_X_register 42 = .ok (.getfield 62, 3) := by decide +kernel
theorem d_X_register_45 : decode c_X_register 45 = .ok (.ireturn, 1) := by decide +kernel
theorem d_X_register_46 : decode c_X_register 46 = .ok (.aload_n 0, 1) := by decide +kernel
theorem d_X_register_47 : decode c_X_register 47 = .ok (.getfield 19, 3) := by decide +kernel
theorem d_X_register_50 : decode c_X_register 50 = .ok (.iload_n 1, 1) := by decide +kernel
theorem d_X_register_51 : decode c_X_register 51 = .ok (.aaload, 1) := by decide +kernel
theorem d_X_register_52 : decode c_X_register 52 = .ok (.getfield 65, 3) := by decide +kernel
theorem d_X_register_55 : decode c_X_register 55 = .ok (.ireturn, 1) := by decide +kernel
theorem d_X_register_56 : decode c_X_register 56 = .ok (.aload_n 0, 1) := by decide +kernel
theorem d_X_register_57 : decode c_X_register 57 = .ok (.getfield 19, 3) := by decide +kernel
theorem d_X_register_60 : decode c_X_register 60 = .ok (.iload_n 1, 1) := by decide +kernel
theorem d_X_register_61 : decode c_X_register 61 = .ok (.aaload, 1) := by decide +kernel
theorem d_X_register_62 : decode c_X_register 62 = .ok (.getfield 68, 3) := by decide +kernel
theorem d_X_register_65 : decode c_X_register 65 = .ok (.ifCond .eq 7, 3) := by decide +kernel
theorem d_X_register_68 : decode c_X_register 68 = .ok (.iconst 1, 1) := by decide +kernel
theorem d_X_register_69 : decode c_X_register 69 = .ok (.goto 4, 3) := by decide +kernel
theorem d_X_register_72 : decode c_X_register 72 = .ok (.iconst 0, 1) := by decide +kernel
theorem d_X_register_73 : decode c_X_register 73 = .ok (.ireturn, 1) := by decide +kernel
theorem d_X_register_74 : decode c_X_register 74 = .ok (.iconst (-1), 1) := by decide +kernel
theorem d_X_register_75 : decode c_X_register 75 = .ok (.ireturn, 1) := by decide +kernel
theorem d_X_base_0 : decode c_X_base 0 = .ok (.iload_n 1, 1) := by decide +kernel
theorem d_X_base_1 : decode c_X_base 1 = .ok (.invokestatic 59, 3) := by decide +kernel
theorem d_X_base_4 : decode c_X_base 4 = .ok (.ifCond .eq 15, 3) := by decide +kernel
theorem d_X_base_7 : decode c_X_base 7 = .ok (.aload_n 0, 1) := by decide +kernel
theorem d_X_base_8 : decode c_X_base 8 = .ok (.getfield 19, 3) := by decide +kernel
theorem d_X_base_11 : decode c_X_base 11 = .ok (.iload_n 1, 1) := by decide +kernel
theorem d_X_base_12 : decode c_X_base 12 = .ok (.aaload, 1) := by decide +kernel
theorem d_X_base_13 : decode c_X_base 13 = .ok (.invokevirtual 72, 3) := by decide +kernel
theorem d_X_base_16 : decode c_X_base 16 = .ok (.goto 4, 3) := by decide +kernel
theorem d_X_base_19 : decode c_X_base 19 = .ok (.lconst 0, 1) := by decide +kernel
theorem d_X_base_20 : decode c_X_base 20 = .ok (.lreturn, 1) := by decide +kernel
theorem d_X_top_0 : decode c_X_top 0 = .ok (.iload_n 1, 1) := by decide +kernel
theorem d_X_top_1 : decode c_X_top 1 = .ok (.invokestatic 59, 3) := by decide +kernel
theorem d_X_top_4 : decode c_X_top 4 = .ok (.ifCond .eq 15, 3) := by decide +kernel
theorem d_X_top_7 : decode c_X_top 7 = .ok (.aload_n 0, 1) := by decide +kernel
theorem d_X_top_8 : decode c_X_top 8 = .ok (.getfield 19, 3) := by decide +kernel
theorem d_X_top_11 : decode c_X_top 11 = .ok (.iload_n 1, 1) := by decide +kernel
theorem d_X_top_12 : decode c_X_top 12 = .ok (.aaload, 1) := by decide +kernel
theorem d_X_top_13 : decode c_X_top 13 = .ok (.invokevirtual 76, 3) := by decide +kernel
theorem d_X_top_16 : decode c_X_top 16 = .ok (.goto 4, 3) := by decide +kernel
theorem d_X_top_19 : decode c_X_top 19 = .ok (.lconst 0, 1) := by decide +kernel
theorem d_X_top_20 : decode c_X_top 20 = .ok (.lreturn, 1) := by decide +kernel
theorem d_X_give_0 : decode c_X_give 0 = .ok (.iload_n 1, 1) := by decide +kernel
theorem d_X_give_1 : decode c_X_give 1 = .ok (.iconst 1, 1) := by decide +kernel
theorem d_X_give_2 : decode c_X_give 2 = .ok (.if_icmp .lt 9, 3) := by decide +kernel
theorem d_X_give_5 : decode c_X_give 5 = .ok (.iload_n 1, 1) := by decide +kernel
theorem d_X_give_6 : decode c_X_give 6 = .ok (.bipush 8, 2) := by decide +kernel
theorem d_X_give_8 : decode c_X_give 8 = .ok (.if_icmp .lt 5, 3) := by decide +kernel
theorem d_X_give_11 : decode c_X_give 11 = .ok (.iconst 0, 1) := by decide +kernel
theorem d_X_give_12 : decode c_X_give 12 = .ok (.ireturn, 1) := by decide +kernel
theorem d_X_give_13 : decode c_X_give 13 = .ok (.aload_n 0, 1) := by decide +kernel
theorem d_X_give_14 : decode c_X_give 14 = .ok (.iload_n 1, 1) := by decide +kernel
theorem d_X_give_15 : decode c_X_give 15 = .ok (.iload_n 2, 1) := by decide +kernel
theorem d_X_give_16 : decode c_X_give 16 = .ok (.invokevirtual 79, 3) := by decide +kernel
theorem d_X_give_19 : decode c_X_give 19 = .ok (.iconst 1, 1) := by decide +kernel
theorem d_X_give_20 : decode c_X_give 20 = .ok (.ireturn, 1) := by decide +kernel
theorem d_X_isWord_0 : decode c_X_isWord 0 = .ok (.iload_n 0, 1) := by decide +kernel
theorem d_X_isWord_1 : decode c_X_isWord 1 = .ok (.ifCond .lt 14, 3) := by decide +kernel
theorem d_X_isWord_4 : decode c_X_isWord 4 = .ok (.iload_n 0, 1) := by decide +kernel
theorem d_X_isWord_5 : decode c_X_isWord 5 = .ok (.sipush 256, 3) := by decide +kernel
theorem d_X_isWord_8 : decode c_X_isWord 8 = .ok (.if_icmp .ge 7, 3) := by decide +kernel
theorem d_X_isWord_11 : decode c_X_isWord 11 = .ok (.iconst 1, 1) := by decide +kernel
theorem d_X_isWord_12 : decode c_X_isWord 12 = .ok (.goto 4, 3) := by decide +kernel
theorem d_X_isWord_15 : decode c_X_isWord 15 = .ok (.iconst 0, 1) := by decide +kernel
theorem d_X_isWord_16 : decode c_X_isWord 16 = .ok (.ireturn, 1) := by decide +kernel
theorem d_X_isRegister_0 : decode c_X_isRegister 0 = .ok (.iload_n 0, 1) := by decide +kernel
theorem d_X_isRegister_1 : decode c_X_isRegister 1 = .ok (.ifCond .lt 13, 3) := by decide +kernel
theorem d_X_isRegister_4 : decode c_X_isRegister 4 = .ok (.iload_n 0, 1) := by decide +kernel
theorem d_X_isRegister_5 : decode c_X_isRegister 5 = .ok (.bipush 12, 2) := by decide +kernel
theorem d_X_isRegister_7 : decode c_X_isRegister 7 = .ok (.if_icmp .ge 7, 3) := by decide +kernel
theorem d_X_isRegister_10 : decode c_X_isRegister 10 = .ok (.iconst 1, 1) := by decide +kernel
theorem d_X_isRegister_11 : decode c_X_isRegister 11 = .ok (.goto 4, 3) := by decide +kernel
theorem d_X_isRegister_14 : decode c_X_isRegister 14 = .ok (.iconst 0, 1) := by decide +kernel
theorem d_X_isRegister_15 : decode c_X_isRegister 15 = .ok (.ireturn, 1) := by decide +kernel
theorem d_X_makeStep_0 : decode c_X_makeStep 0 = .ok (.aload_n 0, 1) := by decide +kernel
theorem d_X_makeStep_1 : decode c_X_makeStep 1 = .ok (.dup, 1) := by decide +kernel
theorem d_X_makeStep_2 : decode c_X_makeStep 2 = .ok (.getfield 35, 3) := by decide +kernel
theorem d_X_makeStep_5 : decode c_X_makeStep 5 = .ok (.iconst 1, 1) := by decide +kernel
theorem d_X_makeStep_6 : decode c_X_makeStep 6 = .ok (.iadd, 1) := by decide +kernel
theorem d_X_makeStep_7 : decode c_X_makeStep 7 = .ok (.putfield 35, 3) := by decide +kernel
theorem d_X_makeStep_10 : decode c_X_makeStep 10 = .ok (.aload_n 0, 1) := by decide +kernel
theorem d_X_makeStep_11 : decode c_X_makeStep 11 = .ok (.bipush 8, 2) := by decide +kernel
theorem d_X_makeStep_13 : decode c_X_makeStep 13 = .ok (.iconst 1, 1) := by decide +kernel
theorem d_X_makeStep_14 : decode c_X_makeStep 14 = .ok (.iconst 4, 1) := by decide +kernel
theorem d_X_makeStep_15 : decode c_X_makeStep 15 = .ok (.aload_n 0, 1) := by decide +kernel
theorem d_X_makeStep_16 : decode c_X_makeStep 16 = .ok (.getfield 41, 3) := by decide +kernel
theorem d_X_makeStep_19 : decode c_X_makeStep 19 = .ok (.getfield 62, 3) := by decide +kernel
theorem d_X_makeStep_22 : decode c_X_makeStep 22 = .ok (.invokevirtual 82, 3) := by decide +kernel
theorem d_X_makeStep_25 : decode c_X_makeStep 25 = .ok (.istore_n 1, 1) := by decide +kernel
theorem d_X_makeStep_26 : decode c_X_makeStep 26 = .ok (.iload_n 1, 1) := by decide +kernel
theorem d_X_makeStep_27 : decode c_X_makeStep 27 = .ok (.ifCond .ne 22, 3) := by decide +kernel
theorem d_X_makeStep_30 : decode c_X_makeStep 30 = .ok (.aload_n 0, 1) := by decide +kernel
theorem d_X_makeStep_31 : decode c_X_makeStep 31 = .ok (.aload_n 0, 1) := by decide +kernel
theorem d_X_makeStep_32 : decode c_X_makeStep 32 = .ok (.getfield 9, 3) := by decide +kernel
theorem d_X_makeStep_35 : decode c_X_makeStep 35 = .ok (.aload_n 0, 1) := by decide +kernel
theorem d_X_makeStep_36 : decode c_X_makeStep 36 = .ok (.getfield 41, 3) := by decide +kernel
theorem d_X_makeStep_39 : decode c_X_makeStep 39 = .ok (.getfield 62, 3) := by decide +kernel
theorem d_X_makeStep_42 : decode c_X_makeStep 42 = .ok (.iconst 2, 1) := by decide +kernel
theorem d_X_makeStep_43 : decode c_X_makeStep 43 = .ok (.iushr, 1) := by decide +kernel
theorem d_X_makeStep_44 : decode c_X_makeStep 44 = .ok (.iaload, 1) := by decide +kernel
theorem d_X_makeStep_45 : decode c_X_makeStep 45 = .ok (.invokevirtual 86, 3) := by decide +kernel
theorem d_X_makeStep_48 : decode c_X_makeStep 48 = .ok (.istore_n 1, 1) := by decide +kernel
theorem d_X_makeStep_49 : decode c_X_makeStep 49 = .ok (.iload_n 1, 1) := by decide +kernel
theorem d_X_makeStep_50 : decode c_X_makeStep 50 = .ok (.ifCond .eq 8, 3) := by decide +kernel
theorem d_X_makeStep_53 : decode c_X_makeStep 53 = .ok (.aload_n 0, 1) := by decide +kernel
theorem d_X_makeStep_54 : decode c_X_makeStep 54 = .ok (.iload_n 1, 1) := by decide +kernel
theorem d_X_makeStep_55 : decode c_X_makeStep 55 = .ok (.invokevirtual 90, 3) := by decide +kernel
theorem d_X_makeStep_58 : decode c_X_makeStep 58 = .ok (.return_, 1) := by decide +kernel
theorem d_X_enterTrap_0 : decode c_X_enterTrap 0 = .ok (.aload_n 0, 1) := by decide +kernel
theorem d_X_enterTrap_1 : decode c_X_enterTrap 1 = .ok (.dup, 1) := by decide +kernel
theorem d_X_enterTrap_2 : decode c_X_enterTrap 2 = .ok (.getfield 38, 3) := by decide +kernel
theorem d_X_enterTrap_5 : decode c_X_enterTrap 5 = .ok (.iconst 1, 1) := by decide +kernel
theorem d_X_enterTrap_6 : decode c_X_enterTrap 6 = .ok (.iadd, 1) := by decide +kernel
theorem d_X_enterTrap_7 : decode c_X_enterTrap 7 = .ok (.putfield 38, 3) := by decide +kernel
theorem d_X_enterTrap_10 : decode c_X_enterTrap 10 = .ok (.aload_n 0, 1) := by decide +kernel
theorem d_X_enterTrap_11 : decode c_X_enterTrap 11 = .ok (.iload_n 1, 1) := by decide +kernel
theorem d_X_enterTrap_12 : decode c_X_enterTrap 12 = .ok (.putfield 32, 3) := by decide +kernel
theorem d_X_enterTrap_15 : decode c_X_enterTrap 15 = .ok (.aload_n 0, 1) := by decide +kernel
theorem d_X_enterTrap_16 : decode c_X_enterTrap 16 = .ok (.getfield 19, 3) := by decide +kernel
theorem d_X_enterTrap_19 : decode c_X_enterTrap 19 = .ok (.bipush 10, 2) := by decide +kernel
theorem d_X_enterTrap_21 : decode c_X_enterTrap 21 = .ok (.aaload, 1) := by decide +kernel
theorem d_X_enterTrap_22 : decode c_X_enterTrap 22 = .ok (.aload_n 0, 1) := by decide +kernel
theorem d_X_enterTrap_23 : decode c_X_enterTrap 23 = .ok (.getfield 41, 3) := by decide +kernel
theorem d_X_enterTrap_26 : decode c_X_enterTrap 26 = .ok (.invokevirtual 93, 3) := by decide +kernel
theorem d_X_enterTrap_29 : decode c_X_enterTrap 29 = .ok (.aload_n 0, 1) := by decide +kernel
theorem d_X_enterTrap_30 : decode c_X_enterTrap 30 = .ok (.getfield 19, 3) := by decide +kernel
theorem d_X_enterTrap_33 : decode c_X_enterTrap 33 = .ok (.bipush 9, 2) := by decide +kernel
theorem d_X_enterTrap_35 : decode c_X_enterTrap 35 = .ok (.aaload, 1) := by decide +kernel
theorem d_X_enterTrap_36 : decode c_X_enterTrap 36 = .ok (.astore_n 2, 1) := by decide +kernel
theorem d_X_enterTrap_37 : decode c_X_enterTrap 37 = .ok (.aload_n 2, 1) := by decide +kernel
theorem d_X_enterTrap_38 : decode c_X_enterTrap 38 = .ok (.getfield 68, 3) := by decide +kernel
theorem d_X_enterTrap_41 : decode c_X_enterTrap 41 = .ok (.ifCond .eq 29, 3) := by decide +kernel
theorem d_X_enterTrap_44 : decode c_X_enterTrap 44 = .ok (.aload_n 2, 1) := by decide +kernel
theorem d_X_enterTrap_45 : decode c_X_enterTrap 45 = .ok (.invokevirtual 97, 3) := by decide +kernel
theorem d_X_enterTrap_48 : decode c_X_enterTrap 48 = .ok (.ifCond .ne 22, 3) := by decide +kernel
theorem d_X_enterTrap_51 : decode c_X_enterTrap 51 = .ok (.aload_n 2, 1) := by decide +kernel
theorem d_X_enterTrap_52 : decode c_X_enterTrap 52 = .ok (.iconst 1, 1) := by decide +kernel
theorem d_X_enterTrap_53 : decode c_X_enterTrap 53 = .ok (.invokevirtual 101, 3) := by decide +kernel
theorem d_X_enterTrap_56 : decode c_X_enterTrap 56 = .ok (.ifCond .eq 14, 3) := by decide +kernel
theorem d_X_enterTrap_59 : decode c_X_enterTrap 59 = .ok (.aload_n 0, 1) := by decide +kernel
