theorem d_M_rule_48 : decode c_M_rule 48 = .ok (.return_, 1) := by decide +kernel
theorem d_M_rule_49 : decode c_M_rule 49 = .ok (.aload_n 0, 1) := by decide +kernel
theorem d_M_rule_50 : decode c_M_rule 50 = .ok (.getfield 7, 3) := by decide +kernel
theorem d_M_rule_53 : decode c_M_rule 53 = .ok (.iload_n 3, 1) := by decide +kernel
theorem d_M_rule_54 : decode c_M_rule 54 = .ok (.iaload, 1) := by decide +kernel
theorem d_M_rule_55 : decode c_M_rule 55 = .ok (.istore 5, 2) := by decide +kernel
theorem d_M_rule_57 : decode c_M_rule 57 = .ok (.aload_n 0, 1) := by decide +kernel
theorem d_M_rule_58 : decode c_M_rule 58 = .ok (.getfield 13, 3) := by decide +kernel
theorem d_M_rule_61 : decode c_M_rule 61 = .ok (.iload_n 3, 1) := by decide +kernel
theorem d_M_rule_62 : decode c_M_rule 62 = .ok (.iaload, 1) := by decide +kernel
theorem d_M_rule_63 : decode c_M_rule 63 = .ok (.istore 6, 2) := by decide +kernel
theorem d_M_rule_65 : decode c_M_rule 65 = .ok (.aload_n 0, 1) := by decide +kernel
theorem d_M_rule_66 : decode c_M_rule 66 = .ok (.getfield 16, 3) := by decide +kernel
theorem d_M_rule_69 : decode c_M_rule 69 = .ok (.iload_n 3, 1) := by decide +kernel
theorem d_M_rule_70 : decode c_M_rule 70 = .ok (.baload, 1) := by decide +kernel
theorem d_M_rule_71 : decode c_M_rule 71 = .ok (.istore 7, 2) := by decide +kernel
theorem d_M_rule_73 : decode c_M_rule 73 = .ok (.aload_n 0, 1) := by decide +kernel
theorem d_M_rule_74 : decode c_M_rule 74 = .ok (.bipush 9, 2) := by decide +kernel
theorem d_M_rule_76 : decode c_M_rule 76 = .ok (.iload 4, 2) := by decide +kernel
theorem d_M_rule_78 : decode c_M_rule 78 = .ok (.iadd, 1) := by decide +kernel
theorem d_M_rule_79 : decode c_M_rule 79 = .ok (.invokevirtual 82, 3) := by decide +kernel
theorem d_M_rule_82 : decode c_M_rule 82 = .ok (.aload_n 0, 1) := by decide +kernel
theorem d_M_rule_83 : decode c_M_rule 83 = .ok (.iload_n 2, 1) := by decide +kernel
theorem d_M_rule_84 : decode c_M_rule 84 = .ok (.invokevirtual 89, 3) := by decide +kernel
theorem d_M_rule_87 : decode c_M_rule 87 = .ok (.iload_n 3, 1) := by decide +kernel
theorem d_M_rule_88 : decode c_M_rule 88 = .ok (.ifCond .eq 30, 3) := by decide +kernel
theorem d_M_rule_91 : decode c_M_rule 91 = .ok (.aload_n 0, 1) := by decide +kernel
theorem d_M_rule_92 : decode c_M_rule 92 = .ok (.iload 5, 2) := by decide +kernel
theorem d_M_rule_94 : decode c_M_rule 94 = .ok (.putfield 71, 3) := by decide +kernel
theorem d_M_rule_97 : decode c_M_rule 97 = .ok (.aload_n 0, 1) := by decide +kernel
theorem d_M_rule_98 : decode c_M_rule 98 = .ok (.iload 6, 2) := by decide +kernel
theorem d_M_rule_100 : decode c_M_rule 100 = .ok (.putfield 75, 3) := by decide +kernel
theorem d_M_rule_103 : decode c_M_rule 103 = .ok (.aload_n 0, 1) := by decide +kernel
theorem d_M_rule_104 : decode c_M_rule 104 = .ok (.iload 7, 2) := by decide +kernel
theorem d_M_rule_106 : decode c_M_rule 106 = .ok (.putfield 78, 3) := by decide +kernel
theorem d_M_rule_109 : decode c_M_rule 109 = .ok (.aload_n 0, 1) := by decide +kernel
theorem d_M_rule_110 : decode c_M_rule 110 = .ok (.bipush 9, 2) := by decide +kernel
theorem d_M_rule_112 : decode c_M_rule 112 = .ok (.iload 4, 2) := by decide +kernel
theorem d_M_rule_114 : decode c_M_rule 114 = .ok (.iadd, 1) := by decide +kernel
theorem d_M_rule_115 : decode c_M_rule 115 = .ok (.invokevirtual 89, 3) := by decide +kernel
theorem d_M_rule_118 : decode c_M_rule 118 = .ok (.aload_n 0, 1) := by decide +kernel
theorem d_M_rule_119 : decode c_M_rule 119 = .ok (.iconst 4, 1) := by decide +kernel
theorem d_M_rule_120 : decode c_M_rule 120 = .ok (.invokevirtual 131, 3) := by decide +kernel
theorem d_M_rule_123 : decode c_M_rule 123 = .ok (.return_, 1) := by decide +kernel
theorem d_M_poke_0 : decode c_M_poke 0 = .ok (.iload_n 1, 1) := by decide +kernel
theorem d_M_poke_1 : decode c_M_poke 1 = .ok (.ifCond .lt 10, 3) := by decide +kernel
theorem d_M_poke_4 : decode c_M_poke 4 = .ok (.iload_n 1, 1) := by decide +kernel
theorem d_M_poke_5 : decode c_M_poke 5 = .ok (.sipush 255, 3) := by decide +kernel
theorem d_M_poke_8 : decode c_M_poke 8 = .ok (.if_icmp .le 5, 3) := by decide +kernel
theorem d_M_poke_11 : decode c_M_poke 11 = .ok (.iconst 0, 1) := by decide +kernel
theorem d_M_poke_12 : decode c_M_poke 12 = .ok (.ireturn, 1) := by decide +kernel
theorem d_M_poke_13 : decode c_M_poke 13 = .ok (.aload_n 0, 1) := by decide +kernel
theorem d_M_poke_14 : decode c_M_poke 14 = .ok (.getfield 20, 3) := by decide +kernel
theorem d_M_poke_17 : decode c_M_poke 17 = .ok (.iload_n 1, 1) := by decide +kernel
theorem d_M_poke_18 : decode c_M_poke 18 = .ok (.iload_n 2, 1) := by decide +kernel
theorem d_M_poke_19 : decode c_M_poke 19 = .ok (.iastore, 1) := by decide +kernel
theorem d_M_poke_20 : decode c_M_poke 20 = .ok (.aload_n 0, 1) := by decide +kernel
theorem d_M_poke_21 : decode c_M_poke 21 = .ok (.getfield 23, 3) := by decide +kernel
theorem d_M_poke_24 : decode c_M_poke 24 = .ok (.iload_n 1, 1) := by decide +kernel
theorem d_M_poke_25 : decode c_M_poke 25 = .ok (.iconst 2, 1) := by decide +kernel
theorem d_M_poke_26 : decode c_M_poke 26 = .ok (.idiv, 1) := by decide +kernel
theorem d_M_poke_27 : decode c_M_poke 27 = .ok (.iconst 0, 1) := by decide +kernel
theorem d_M_poke_28 : decode c_M_poke 28 = .ok (.bastore, 1) := by decide +kernel
theorem d_M_poke_29 : decode c_M_poke 29 = .ok (.iconst 1, 1) := by decide +kernel
theorem d_M_poke_30 : decode c_M_poke 30 = .ok (.ireturn, 1) := by decide +kernel
theorem d_M_peek_0 : decode c_M_peek 0 = .ok (.iload_n 1, 1) := by decide +kernel
theorem d_M_peek_1 : decode c_M_peek 1 = .ok (.ifCond .lt 10, 3) := by decide +kernel
theorem d_M_peek_4 : decode c_M_peek 4 = .ok (.iload_n 1, 1) := by decide +kernel
theorem d_M_peek_5 : decode c_M_peek 5 = .ok (.sipush 255, 3) := by decide +kernel
theorem d_M_peek_8 : decode c_M_peek 8 = .ok (.if_icmp .le 7, 3) := by decide +kernel
theorem d_M_peek_11 : decode c_M_peek 11 = .ok (.iconst 0, 1) := by decide +kernel
theorem d_M_peek_12 : decode c_M_peek 12 = .ok (.goto 9, 3) := by decide +kernel
theorem d_M_peek_15 : decode c_M_peek 15 = .ok (.aload_n 0, 1) := by decide +kernel
theorem d_M_peek_16 : decode c_M_peek 16 = .ok (.getfield 20, 3) := by decide +kernel
theorem d_M_peek_19 : decode c_M_peek 19 = .ok (.iload_n 1, 1) := by decide +kernel
theorem d_M_peek_20 : decode c_M_peek 20 = .ok (.iaload, 1) := by decide +kernel
theorem d_M_peek_21 : decode c_M_peek 21 = .ok (.ireturn, 1) := by decide +kernel
theorem d_M_tagged_0 : decode c_M_tagged 0 = .ok (.iload_n 1, 1) := by decide +kernel
theorem d_M_tagged_1 : decode c_M_tagged 1 = .ok (.ifCond .lt 23, 3) := by decide +kernel
theorem d_M_tagged_4 : decode c_M_tagged 4 = .ok (.iload_n 1, 1) := by decide +kernel
theorem d_M_tagged_5 : decode c_M_tagged 5 = .ok (.sipush 128, 3) := by decide +kernel
theorem d_M_tagged_8 : decode c_M_tagged 8 = .ok (.if_icmp .ge 16, 3) := by decide +kernel
theorem d_M_tagged_11 : decode c_M_tagged 11 = .ok (.aload_n 0, 1) := by decide +kernel
theorem d_M_tagged_12 : decode c_M_tagged 12 = .ok (.getfield 23, 3) := by decide +kernel
theorem d_M_tagged_15 : decode c_M_tagged 15 = .ok (.iload_n 1, 1) := by decide +kernel
theorem d_M_tagged_16 : decode c_M_tagged 16 = .ok (.baload, 1) := by decide +kernel
theorem d_M_tagged_17 : decode c_M_tagged 17 = .ok (.ifCond .eq 7, 3) := by decide +kernel
theorem d_M_tagged_20 : decode c_M_tagged 20 = .ok (.iconst 1, 1) := by decide +kernel
theorem d_M_tagged_21 : decode c_M_tagged 21 = .ok (.goto 4, 3) := by decide +kernel
theorem d_M_tagged_24 : decode c_M_tagged 24 = .ok (.iconst 0, 1) := by decide +kernel
theorem d_M_tagged_25 : decode c_M_tagged 25 = .ok (.ireturn, 1) := by decide +kernel
theorem d_M_run_0 : decode c_M_run 0 = .ok (.iload_n 1, 1) := by decide +kernel
theorem d_M_run_1 : decode c_M_run 1 = .ok (.ifCond .lt 9, 3) := by decide +kernel
theorem d_M_run_4 : decode c_M_run 4 = .ok (.iload_n 1, 1) := by decide +kernel
theorem d_M_run_5 : decode c_M_run 5 = .ok (.bipush 100, 2) := by decide +kernel
theorem d_M_run_7 : decode c_M_run 7 = .ok (.if_icmp .le 5, 3) := by decide +kernel
theorem d_M_run_10 : decode c_M_run 10 = .ok (.iconst (-1), 1) := by decide +kernel
theorem d_M_run_11 : decode c_M_run 11 = .ok (.ireturn, 1) := by decide +kernel
theorem d_M_run_12 : decode c_M_run 12 = .ok (.iconst 0, 1) := by decide +kernel
theorem d_M_run_13 : decode c_M_run 13 = .ok (.istore_n 2, 1) := by decide +kernel
theorem d_M_run_14 : decode c_M_run 14 = .ok (.iload_n 2, 1) := by decide +kernel
theorem d_M_run_15 : decode c_M_run 15 = .ok (.iload_n 1, 1) := by decide +kernel
theorem d_M_run_16 : decode c_M_run 16 = .ok (.if_icmp .ge 20, 3) := by decide +kernel
theorem d_M_run_19 : decode c_M_run 19 = .ok (.aload_n 0, 1) := by decide +kernel
theorem d_M_run_20 : decode c_M_run 20 = .ok (.getfield 113, 3) := by decide +kernel
theorem d_M_run_23 : decode c_M_run 23 = .ok (.ifCond .ne 13, 3) := by decide +kernel
theorem d_M_run_26 : decode c_M_run 26 = .ok (.aload_n 0, 1) := by decide +kernel
theorem d_M_run_27 : decode c_M_run 27 = .ok (.invokevirtual 157, 3) := by decide +kernel
theorem d_M_run_30 : decode c_M_run 30 = .ok (.iinc 2 1, 3) := by decide +kernel
theorem d_M_run_33 : decode c_M_run 33 = .ok (.goto (-19), 3) := by decide +kernel
theorem d_M_run_36 : decode c_M_run 36 = .ok (.iload_n 2, 1) := by decide +kernel
theorem d_M_run_37 : decode c_M_run 37 = .ok (.ireturn, 1) := by decide +kernel
theorem d_M_state_0 : decode c_M_state 0 = .ok (.aload_n 0, 1) := by decide +kernel
theorem d_M_state_1 : decode c_M_state 1 = .ok (.getfield 113, 3) := by decide +kernel
theorem d_M_state_4 : decode c_M_state 4 = .ok (.ireturn, 1) := by decide +kernel
theorem d_M_wake_0 : decode c_M_wake 0 = .ok (.aload_n 0, 1) := by decide +kernel
theorem d_M_wake_1 : decode c_M_wake 1 = .ok (.getfield 113, 3) := by decide +kernel
theorem d_M_wake_4 : decode c_M_wake 4 = .ok (.ifCond .eq 14, 3) := by decide +kernel
theorem d_M_wake_7 : decode c_M_wake 7 = .ok (.iload_n 1, 1) := by decide +kernel
theorem d_M_wake_8 : decode c_M_wake 8 = .ok (.ifCond .lt 10, 3) := by decide +kernel
theorem d_M_wake_11 : decode c_M_wake 11 = .ok (.iload_n 1, 1) := by decide +kernel
theorem d_M_wake_12 : decode c_M_wake 12 = .ok (.sipush 255, 3) := by decide +kernel
theorem d_M_wake_15 : decode c_M_wake 15 = .ok (.if_icmp .le 5, 3) := by decide +kernel
theorem d_M_wake_18 : decode c_M_wake 18 = .ok (.iconst 0, 1) := by decide +kernel
theorem d_M_wake_19 : decode c_M_wake 19 = .ok (.ireturn, 1) := by decide +kernel
theorem d_M_wake_20 : decode c_M_wake 20 = .ok (.aload_n 0, 1) := by decide +kernel
theorem d_M_wake_21 : decode c_M_wake 21 = .ok (.iconst 0, 1) := by decide +kernel
theorem d_M_wake_22 : decode c_M_wake 22 = .ok (.putfield 113, 3) := by decide +kernel
theorem d_M_wake_25 : decode c_M_wake 25 = .ok (.aload_n 0, 1) := by decide +kernel
theorem d_M_wake_26 : decode c_M_wake 26 = .ok (.bipush 8, 2) := by decide +kernel
theorem d_M_wake_28 : decode c_M_wake 28 = .ok (.iconst 4, 1) := by decide +kernel
theorem d_M_wake_29 : decode c_M_wake 29 = .ok (.iload_n 1, 1) := by decide +kernel
theorem d_M_wake_30 : decode c_M_wake 30 = .ok (.imul, 1) := by decide +kernel
theorem d_M_wake_31 : decode c_M_wake 31 = .ok (.invokevirtual 26, 3) := by decide +kernel
theorem d_M_wake_34 : decode c_M_wake 34 = .ok (.iconst 1, 1) := by decide +kernel
theorem d_M_wake_35 : decode c_M_wake 35 = .ok (.ireturn, 1) := by decide +kernel
theorem d_M_cause_0 : decode c_M_cause 0 = .ok (.aload_n 0, 1) := by decide +kernel
theorem d_M_cause_1 : decode c_M_cause 1 = .ok (.getfield 107, 3) := by decide +kernel
theorem d_M_cause_4 : decode c_M_cause 4 = .ok (.ireturn, 1) := by decide +kernel
theorem d_M_steps_0 : decode c_M_steps 0 = .ok (.aload_n 0, 1) := by decide +kernel
theorem d_M_steps_1 : decode c_M_steps 1 = .ok (.getfield 116, 3) := by decide +kernel
theorem d_M_steps_4 : decode c_M_steps 4 = .ok (.ireturn, 1) := by decide +kernel
theorem d_M_traps_0 : decode c_M_traps 0 = .ok (.aload_n 0, 1) := by decide +kernel
theorem d_M_traps_1 : decode c_M_traps 1 = .ok (.getfield 110, 3) := by decide +kernel
theorem d_M_traps_4 : decode c_M_traps 4 = .ok (.ireturn, 1) := by decide +kernel
theorem d_M_isRegister_0 : decode c_M_isRegister 0 = .ok (.iload_n 0, 1) := by decide +kernel
theorem d_M_isRegister_1 : decode c_M_isRegister 1 = .ok (.ifCond .lt 13, 3) := by decide +kernel
theorem d_M_isRegister_4 : decode c_M_isRegister 4 = .ok (.iload_n 0, 1) := by decide +kernel
theorem d_M_isRegister_5 : decode c_M_isRegister 5 = .ok (.bipush 11, 2) := by decide +kernel
theorem d_M_isRegister_7 : decode c_M_isRegister 7 = .ok (.if_icmp .gt 7, 3) := by decide +kernel
theorem d_M_isRegister_10 : decode c_M_isRegister 10 = .ok (.iconst 1, 1) := by decide +kernel
theorem d_M_isRegister_11 : decode c_M_isRegister 11 = .ok (.goto 4, 3) := by decide +kernel
theorem d_M_isRegister_14 : decode c_M_isRegister 14 = .ok (.iconst 0, 1) := by decide +kernel
theorem d_M_isRegister_15 : decode c_M_isRegister 15 = .ok (.ireturn, 1) := by decide +kernel
theorem d_M_register_0 : decode c_M_register 0 = .ok (.iload_n 1, 1) := by decide +kernel
theorem d_M_register_1 : decode c_M_register 1 = .ok (.invokestatic 160, 3) := by decide +kernel
theorem d_M_register_4 : decode c_M_register 4 = .ok (.ifCond .eq 12, 3) := by decide +kernel
theorem d_M_register_7 : decode c_M_register 7 = .ok (.iload_n 2, 1) := by decide +kernel
theorem d_M_register_8 : decode c_M_register 8 = .ok (.ifCond .lt 8, 3) := by decide +kernel
theorem d_M_register_11 : decode c_M_register 11 = .ok (.iload_n 2, 1) := by decide +kernel
theorem d_M_register_12 : decode c_M_register 12 = .ok (.iconst 2, 1) := by decide +kernel
theorem d_M_register_13 : decode c_M_register 13 = .ok (.if_icmp .le 5, 3) := by decide +kernel
theorem d_M_register_16 : decode c_M_register 16 = .ok (.iconst (-1), 1) := by decide +kernel
theorem d_M_register_17 : decode c_M_register 17 = .ok (.ireturn, 1) := by decide +kernel
theorem d_M_register_18 : decode c_M_register 18 = .ok (.iload_n 2, 1) := by decide +kernel
theorem d_M_register_19 : decode c_M_register 19 = .ok (.ifCond .ne 12, 3) := by decide +kernel
theorem d_M_register_22 : decode c_M_register 22 = .ok (.aload_n 0, 1) := by decide +kernel
theorem d_M_register_23 : decode c_M_register 23 = .ok (.getfield 7, 3) := by decide +kernel
theorem d_M_register_26 : decode c_M_register 26 = .ok (.iload_n 1, 1) := by decide +kernel
theorem d_M_register_27 : decode c_M_register 27 = .ok (.iaload, 1) := by decide +kernel
theorem d_M_register_28 : decode c_M_register 28 = .ok (.goto 31, 3) := by decide +kernel
theorem d_M_register_31 : decode c_M_register 31 = .ok (.iload_n 2, 1) := by decide +kernel
theorem d_M_register_32 : decode c_M_register 32 = .ok (.iconst 1, 1) := by decide +kernel
theorem d_M_register_33 : decode c_M_register 33 = .ok (.if_icmp .ne 12, 3) := by decide +kernel
theorem d_M_register_36 : decode c_M_register 36 = .ok (.aload_n 0, 1) := by decide +kernel
theorem d_M_register_37 : decode c_M_register 37 = .ok (.getfield 13, 3) := by decide +kernel
theorem d_M_register_40 : decode c_M_register 40 = .ok (.iload_n 1, 1) := by decide +kernel
theorem d_M_register_41 : decode c_M_register 41 = .ok (.iaload, 1) := by decide +kernel
theorem d_M_register_42 : decode c_M_register 42 = .ok (.goto 17, 3) := by decide +kernel
theorem d_M_register_45 : decode c_M_register 45 = .ok (.aload_n 0, 1) := by decide +kernel
theorem d_M_register_46 : decode c_M_register 46 = .ok (.getfield 16, 3) := by decide +kernel
theorem d_M_register_49 : decode c_M_register 49 = .ok (.iload_n 1, 1) := by decide +kernel
theorem d_M_register_50 : decode c_M_register 50 = .ok (.baload, 1) := by decide +kernel
theorem d_M_register_51 : decode c_M_register 51 = .ok (.ifCond .eq 7, 3) := by decide +kernel
theorem d_M_register_54 : decode c_M_register 54 = .ok (.iconst 1, 1) := by decide +kernel
theorem d_M_register_55 : decode c_M_register 55 = .ok (.goto 4, 3) := by decide +kernel
theorem d_M_register_58 : decode c_M_register 58 = .ok (.iconst 0, 1) := by decide +kernel
theorem d_M_register_59 : decode c_M_register 59 = .ok (.ireturn, 1) := by decide +kernel
theorem d_M_base_0 : decode c_M_base 0 = .ok (.iload_n 1, 1) := by decide +kernel
theorem d_M_base_1 : decode c_M_base 1 = .ok (.invokestatic 160, 3) := by decide +kernel
theorem d_M_base_4 : decode c_M_base 4 = .ok (.ifCond .eq 21, 3) := by decide +kernel
theorem d_M_base_7 : decode c_M_base 7 = .ok (.aload_n 0, 1) := by decide +kernel
theorem d_M_base_8 : decode c_M_base 8 = .ok (.getfield 13, 3) := by decide +kernel
theorem d_M_base_11 : decode c_M_base 11 = .ok (.iload_n 1, 1) := by decide +kernel
theorem d_M_base_12 : decode c_M_base 12 = .ok (.iaload, 1) := by decide +kernel
theorem d_M_base_13 : decode c_M_base 13 = .ok (.aload_n 0, 1) := by decide +kernel
theorem d_M_base_14 : decode c_M_base 14 = .ok (.getfield 7, 3) := by decide +kernel
theorem d_M_base_17 : decode c_M_base 17 = .ok (.iload_n 1, 1) := by decide +kernel
theorem d_M_base_18 : decode c_M_base 18 = .ok (.iaload, 1) := by decide +kernel
theorem d_M_base_19 : decode c_M_base 19 = .ok (.invokestatic 65, 3) := by decide +kernel
theorem d_M_base_22 : decode c_M_base 22 = .ok (.goto 4, 3) := by decide +kernel
theorem d_M_base_25 : decode c_M_base 25 = .ok (.lconst 0, 1) := by decide +kernel
theorem d_M_base_26 : decode c_M_base 26 = .ok (.lreturn, 1) := by decide +kernel
theorem d_M_top_0 : decode c_M_top 0 = .ok (.iload_n 1, 1) := by decide +kernel
theorem d_M_top_1 : decode c_M_top 1 = .ok (.invokestatic 160, 3) := by decide +kernel
theorem d_M_top_4 : decode c_M_top 4 = .ok (.ifCond .eq 21, 3) := by decide +kernel
theorem d_M_top_7 : decode c_M_top 7 = .ok (.aload_n 0, 1) := by decide +kernel
theorem d_M_top_8 : decode c_M_top 8 = .ok (.getfield 13, 3) := by decide +kernel
theorem d_M_top_11 : decode c_M_top 11 = .ok (.iload_n 1, 1) := by decide +kernel
theorem d_M_top_12 : decode c_M_top 12 = .ok (.iaload, 1) := by decide +kernel
theorem d_M_top_13 : decode c_M_top 13 = .ok (.aload_n 0, 1) := by decide +kernel
theorem d_M_top_14 : decode c_M_top 14 = .ok (.getfield 7, 3) := by decide +kernel
theorem d_M_top_17 : decode c_M_top 17 = .ok (.iload_n 1, 1) := by decide +kernel
theorem d_M_top_18 : decode c_M_top 18 = .ok (.iaload, 1) := by decide +kernel
theorem d_M_top_19 : decode c_M_top 19 = .ok (.invokestatic 68, 3) := by decide +kernel
theorem d_M_top_22 : decode c_M_top 22 = .ok (.goto 4, 3) := by decide +kernel
theorem d_M_top_25 : decode c_M_top 25 = .ok (.lconst 0, 1) := by decide +kernel
theorem d_M_top_26 : decode c_M_top 26 = .ok (.lreturn, 1) := by decide +kernel
theorem d_M_give_0 : decode c_M_give 0 = .ok (.iload_n 1, 1) := by decide +kernel
theorem d_M_give_1 : decode c_M_give 1 = .ok (.iconst 1, 1) := by decide +kernel
theorem d_M_give_2 : decode c_M_give 2 = .ok (.if_icmp .lt 9, 3) := by decide +kernel
theorem d_M_give_5 : decode c_M_give 5 = .ok (.iload_n 1, 1) := by decide +kernel
theorem d_M_give_6 : decode c_M_give 6 = .ok (.bipush 7, 2) := by decide +kernel
theorem d_M_give_8 : decode c_M_give 8 = .ok (.if_icmp .le 5, 3) := by decide +kernel
theorem d_M_give_11 : decode c_M_give 11 = .ok (.iconst 0, 1) := by decide +kernel
theorem d_M_give_12 : decode c_M_give 12 = .ok (.ireturn, 1) := by decide +kernel
theorem d_M_give_13 : decode c_M_give 13 = .ok (.aload_n 0, 1) := by decide +kernel
theorem d_M_give_14 : decode c_M_give 14 = .ok (.getfield 7, 3) := by decide +kernel
theorem d_M_give_17 : decode c_M_give 17 = .ok (.iload_n 1, 1) := by decide +kernel
theorem d_M_give_18 : decode c_M_give 18 = .ok (.iload_n 2, 1) := by decide +kernel
theorem d_M_give_19 : decode c_M_give 19 = .ok (.iastore, 1) := by decide +kernel
theorem d_M_give_20 : decode c_M_give 20 = .ok (.aload_n 0, 1) := by decide +kernel
theorem d_M_give_21 : decode c_M_give 21 = .ok (.getfield 13, 3) := by decide +kernel
theorem d_M_give_24 : decode c_M_give 24 = .ok (.iload_n 1, 1) := by decide +kernel
theorem d_M_give_25 : decode c_M_give 25 = .ok (.iconst 0, 1) := by decide +kernel
theorem d_M_give_26 : decode c_M_give 26 = .ok (.iastore, 1) := by decide +kernel
theorem d_M_give_27 : decode c_M_give 27 = .ok (.aload_n 0, 1) := by decide +kernel
theorem d_M_give_28 : decode c_M_give 28 = .ok (.getfield 16, 3) := by decide +kernel
theorem d_M_give_31 : decode c_M_give 31 = .ok (.iload_n 1, 1) := by decide +kernel
theorem d_M_give_32 : decode c_M_give 32 = .ok (.iconst 0, 1) := by decide +kernel
theorem d_M_give_33 : decode c_M_give 33 = .ok (.bastore, 1) := by decide +kernel
theorem d_M_give_34 : decode c_M_give 34 = .ok (.iconst 1, 1) := by decide +kernel
theorem d_M_give_35 : decode c_M_give 35 = .ok (.ireturn, 1) := by decide +kernel
