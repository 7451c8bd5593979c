theorem d_X_returnFromTrap_49 : decode c_X_returnFromTrap 49 = .ok (.iconst 0, 1) := by decide +kernel
theorem d_X_returnFromTrap_50 : decode c_X_returnFromTrap 50 = .ok (.invokevirtual 185, 3) := by decide +kernel
theorem d_X_returnFromTrap_53 : decode c_X_returnFromTrap 53 = .ok (.iconst 0, 1) := by decide +kernel
theorem d_X_returnFromTrap_54 : decode c_X_returnFromTrap 54 = .ok (.ireturn, 1) := by decide +kernel
theorem d_X_branch_0 : decode c_X_branch 0 = .ok (.aload_n 0, 1) := by decide +kernel
theorem d_X_branch_1 : decode c_X_branch 1 = .ok (.getfield 41, 3) := by decide +kernel
theorem d_X_branch_4 : decode c_X_branch 4 = .ok (.aload_n 0, 1) := by decide +kernel
theorem d_X_branch_5 : decode c_X_branch 5 = .ok (.getfield 41, 3) := by decide +kernel
theorem d_X_branch_8 : decode c_X_branch 8 = .ok (.getfield 62, 3) := by decide +kernel
theorem d_X_branch_11 : decode c_X_branch 11 = .ok (.iconst 4, 1) := by decide +kernel
theorem d_X_branch_12 : decode c_X_branch 12 = .ok (.iload_n 1, 1) := by decide +kernel
theorem d_X_branch_13 : decode c_X_branch 13 = .ok (.imul, 1) := by decide +kernel
theorem d_X_branch_14 : decode c_X_branch 14 = .ok (.iadd, 1) := by decide +kernel
theorem d_X_branch_15 : decode c_X_branch 15 = .ok (.invokevirtual 165, 3) := by decide +kernel
theorem d_X_branch_18 : decode c_X_branch 18 = .ok (.iconst 0, 1) := by decide +kernel
theorem d_X_branch_19 : decode c_X_branch 19 = .ok (.ireturn, 1) := by decide +kernel
theorem d_X_writeLink_0 : decode c_X_writeLink 0 = .ok (.iload_n 1, 1) := by decide +kernel
theorem d_X_writeLink_1 : decode c_X_writeLink 1 = .ok (.ifCond .eq 44, 3) := by decide +kernel
theorem d_X_writeLink_4 : decode c_X_writeLink 4 = .ok (.aload_n 0, 1) := by decide +kernel
theorem d_X_writeLink_5 : decode c_X_writeLink 5 = .ok (.getfield 19, 3) := by decide +kernel
theorem d_X_writeLink_8 : decode c_X_writeLink 8 = .ok (.iload_n 1, 1) := by decide +kernel
theorem d_X_writeLink_9 : decode c_X_writeLink 9 = .ok (.aaload, 1) := by decide +kernel
theorem d_X_writeLink_10 : decode c_X_writeLink 10 = .ok (.aload_n 0, 1) := by decide +kernel
theorem d_X_writeLink_11 : decode c_X_writeLink 11 = .ok (.getfield 41, 3) := by decide +kernel
theorem d_X_writeLink_14 : decode c_X_writeLink 14 = .ok (.invokevirtual 93, 3) := by decide +kernel
theorem d_X_writeLink_17 : decode c_X_writeLink 17 = .ok (.aload_n 0, 1) := by decide +kernel
theorem d_X_writeLink_18 : decode c_X_writeLink 18 = .ok (.getfield 19, 3) := by decide +kernel
theorem d_X_writeLink_21 : decode c_X_writeLink 21 = .ok (.iload_n 1, 1) := by decide +kernel
theorem d_X_writeLink_22 : decode c_X_writeLink 22 = .ok (.aaload, 1) := by decide +kernel
theorem d_X_writeLink_23 : decode c_X_writeLink 23 = .ok (.aload_n 0, 1) := by decide +kernel
theorem d_X_writeLink_24 : decode c_X_writeLink 24 = .ok (.getfield 41, 3) := by decide +kernel
theorem d_X_writeLink_27 : decode c_X_writeLink 27 = .ok (.getfield 62, 3) := by decide +kernel
theorem d_X_writeLink_30 : decode c_X_writeLink 30 = .ok (.iconst 4, 1) := by decide +kernel
theorem d_X_writeLink_31 : decode c_X_writeLink 31 = .ok (.iadd, 1) := by decide +kernel
theorem d_X_writeLink_32 : decode c_X_writeLink 32 = .ok (.invokevirtual 165, 3) := by decide +kernel
theorem d_X_writeLink_35 : decode c_X_writeLink 35 = .ok (.aload_n 0, 1) := by decide +kernel
theorem d_X_writeLink_36 : decode c_X_writeLink 36 = .ok (.getfield 19, 3) := by decide +kernel
theorem d_X_writeLink_39 : decode c_X_writeLink 39 = .ok (.iload_n 1, 1) := by decide +kernel
theorem d_X_writeLink_40 : decode c_X_writeLink 40 = .ok (.aaload, 1) := by decide +kernel
theorem d_X_writeLink_41 : decode c_X_writeLink 41 = .ok (.iconst 1, 1) := by decide +kernel
theorem d_X_writeLink_42 : decode c_X_writeLink 42 = .ok (.invokevirtual 185, 3) := by decide +kernel
theorem d_X_writeLink_45 : decode c_X_writeLink 45 = .ok (.return_, 1) := by decide +kernel
theorem d_X_writeWithType_0 : decode c_X_writeWithType 0 = .ok (.aload_n 0, 1) := by decide +kernel
theorem d_X_writeWithType_1 : decode c_X_writeWithType 1 = .ok (.getfield 24, 3) := by decide +kernel
theorem d_X_writeWithType_4 : decode c_X_writeWithType 4 = .ok (.aload_n 2, 1) := by decide +kernel
theorem d_X_writeWithType_5 : decode c_X_writeWithType 5 = .ok (.invokevirtual 93, 3) := by decide +kernel
theorem d_X_writeWithType_8 : decode c_X_writeWithType 8 = .ok (.aload_n 0, 1) := by decide +kernel
theorem d_X_writeWithType_9 : decode c_X_writeWithType 9 = .ok (.getfield 24, 3) := by decide +kernel
theorem d_X_writeWithType_12 : decode c_X_writeWithType 12 = .ok (.iload_n 3, 1) := by decide +kernel
theorem d_X_writeWithType_13 : decode c_X_writeWithType 13 = .ok (.invokevirtual 185, 3) := by decide +kernel
theorem d_X_writeWithType_16 : decode c_X_writeWithType 16 = .ok (.aload_n 0, 1) := by decide +kernel
theorem d_X_writeWithType_17 : decode c_X_writeWithType 17 = .ok (.iload_n 1, 1) := by decide +kernel
theorem d_X_writeWithType_18 : decode c_X_writeWithType 18 = .ok (.invokevirtual 172, 3) := by decide +kernel
theorem d_X_writeWithType_21 : decode c_X_writeWithType 21 = .ok (.return_, 1) := by decide +kernel
theorem d_X_writeMade_0 : decode c_X_writeMade 0 = .ok (.iload_n 1, 1) := by decide +kernel
theorem d_X_writeMade_1 : decode c_X_writeMade 1 = .ok (.ifCond .eq 16, 3) := by decide +kernel
theorem d_X_writeMade_4 : decode c_X_writeMade 4 = .ok (.aload_n 0, 1) := by decide +kernel
theorem d_X_writeMade_5 : decode c_X_writeMade 5 = .ok (.getfield 19, 3) := by decide +kernel
theorem d_X_writeMade_8 : decode c_X_writeMade 8 = .ok (.iload_n 1, 1) := by decide +kernel
theorem d_X_writeMade_9 : decode c_X_writeMade 9 = .ok (.aaload, 1) := by decide +kernel
theorem d_X_writeMade_10 : decode c_X_writeMade 10 = .ok (.aload_n 0, 1) := by decide +kernel
theorem d_X_writeMade_11 : decode c_X_writeMade 11 = .ok (.getfield 24, 3) := by decide +kernel
theorem d_X_writeMade_14 : decode c_X_writeMade 14 = .ok (.invokevirtual 93, 3) := by decide +kernel
theorem d_X_writeMade_17 : decode c_X_writeMade 17 = .ok (.return_, 1) := by decide +kernel
theorem d_X_writeNumber_0 : decode c_X_writeNumber 0 = .ok (.iload_n 1, 1) := by decide +kernel
theorem d_X_writeNumber_1 : decode c_X_writeNumber 1 = .ok (.ifCond .eq 13, 3) := by decide +kernel
theorem d_X_writeNumber_4 : decode c_X_writeNumber 4 = .ok (.aload_n 0, 1) := by decide +kernel
theorem d_X_writeNumber_5 : decode c_X_writeNumber 5 = .ok (.getfield 19, 3) := by decide +kernel
theorem d_X_writeNumber_8 : decode c_X_writeNumber 8 = .ok (.iload_n 1, 1) := by decide +kernel
theorem d_X_writeNumber_9 : decode c_X_writeNumber 9 = .ok (.aaload, 1) := by decide +kernel
theorem d_X_writeNumber_10 : decode c_X_writeNumber 10 = .ok (.iload_n 2, 1) := by decide +kernel
theorem d_X_writeNumber_11 : decode c_X_writeNumber 11 = .ok (.invokevirtual 192, 3) := by decide +kernel
theorem d_X_writeNumber_14 : decode c_X_writeNumber 14 = .ok (.return_, 1) := by decide +kernel
theorem d_X_writeWord_0 : decode c_X_writeWord 0 = .ok (.aload_n 0, 1) := by decide +kernel
theorem d_X_writeWord_1 : decode c_X_writeWord 1 = .ok (.getfield 9, 3) := by decide +kernel
theorem d_X_writeWord_4 : decode c_X_writeWord 4 = .ok (.iload_n 1, 1) := by decide +kernel
theorem d_X_writeWord_5 : decode c_X_writeWord 5 = .ok (.iload_n 2, 1) := by decide +kernel
theorem d_X_writeWord_6 : decode c_X_writeWord 6 = .ok (.iastore, 1) := by decide +kernel
theorem d_X_writeWord_7 : decode c_X_writeWord 7 = .ok (.aload_n 0, 1) := by decide +kernel
theorem d_X_writeWord_8 : decode c_X_writeWord 8 = .ok (.getfield 13, 3) := by decide +kernel
theorem d_X_writeWord_11 : decode c_X_writeWord 11 = .ok (.iload_n 1, 1) := by decide +kernel
theorem d_X_writeWord_12 : decode c_X_writeWord 12 = .ok (.iconst 1, 1) := by decide +kernel
theorem d_X_writeWord_13 : decode c_X_writeWord 13 = .ok (.ishr, 1) := by decide +kernel
theorem d_X_writeWord_14 : decode c_X_writeWord 14 = .ok (.iconst 0, 1) := by decide +kernel
theorem d_X_writeWord_15 : decode c_X_writeWord 15 = .ok (.bastore, 1) := by decide +kernel
theorem d_X_writeWord_16 : decode c_X_writeWord 16 = .ok (.return_, 1) := by decide +kernel
