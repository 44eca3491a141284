theorem d_B_goOver_60 : decode b_B_goOver 60 = .ok (.getfield 29, 3) := by decide +kernel
theorem d_B_goOver_63 : decode b_B_goOver 63 = .ok (.iload_n 1, 1) := by decide +kernel
theorem d_B_goOver_64 : decode b_B_goOver 64 = .ok (.iconst 1, 1) := by decide +kernel
theorem d_B_goOver_65 : decode b_B_goOver 65 = .ok (.bastore, 1) := by decide +kernel
theorem d_B_goOver_66 : decode b_B_goOver 66 = .ok (.iload_n 2, 1) := by decide +kernel
theorem d_B_goOver_67 : decode b_B_goOver 67 = .ok (.ireturn, 1) := by decide +kernel
theorem d_B_renamed_0 : decode b_B_renamed 0 = .ok (.iload_n 0, 1) := by decide +kernel
theorem d_B_renamed_1 : decode b_B_renamed 1 = .ok (.iload_n 1, 1) := by decide +kernel
theorem d_B_renamed_2 : decode b_B_renamed 2 = .ok (.iload_n 2, 1) := by decide +kernel
theorem d_B_renamed_3 : decode b_B_renamed 3 = .ok (.invokestatic 82, 3) := by decide +kernel
theorem d_B_renamed_6 : decode b_B_renamed 6 = .ok (.if_icmp .ne 11, 3) := by decide +kernel
theorem d_B_renamed_9 : decode b_B_renamed 9 = .ok (.iload_n 1, 1) := by decide +kernel
theorem d_B_renamed_10 : decode b_B_renamed 10 = .ok (.iload_n 2, 1) := by decide +kernel
theorem d_B_renamed_11 : decode b_B_renamed 11 = .ok (.invokestatic 142, 3) := by decide +kernel
theorem d_B_renamed_14 : decode b_B_renamed 14 = .ok (.goto 4, 3) := by decide +kernel
theorem d_B_renamed_17 : decode b_B_renamed 17 = .ok (.iload_n 0, 1) := by decide +kernel
theorem d_B_renamed_18 : decode b_B_renamed 18 = .ok (.ireturn, 1) := by decide +kernel
theorem d_B_unite_0 : decode b_B_unite 0 = .ok (.iconst 0, 1) := by decide +kernel
theorem d_B_unite_1 : decode b_B_unite 1 = .ok (.istore_n 3, 1) := by decide +kernel
theorem d_B_unite_2 : decode b_B_unite 2 = .ok (.iload_n 3, 1) := by decide +kernel
theorem d_B_unite_3 : decode b_B_unite 3 = .ok (.iconst 4, 1) := by decide +kernel
theorem d_B_unite_4 : decode b_B_unite 4 = .ok (.aload_n 0, 1) := by decide +kernel
theorem d_B_unite_5 : decode b_B_unite 5 = .ok (.getfield 16, 3) := by decide +kernel
theorem d_B_unite_8 : decode b_B_unite 8 = .ok (.imul, 1) := by decide +kernel
theorem d_B_unite_9 : decode b_B_unite 9 = .ok (.if_icmp .ge 26, 3) := by decide +kernel
theorem d_B_unite_12 : decode b_B_unite 12 = .ok (.aload_n 0, 1) := by decide +kernel
theorem d_B_unite_13 : decode b_B_unite 13 = .ok (.getfield 9, 3) := by decide +kernel
theorem d_B_unite_16 : decode b_B_unite 16 = .ok (.iload_n 3, 1) := by decide +kernel
theorem d_B_unite_17 : decode b_B_unite 17 = .ok (.aload_n 0, 1) := by decide +kernel
theorem d_B_unite_18 : decode b_B_unite 18 = .ok (.getfield 9, 3) := by decide +kernel
theorem d_B_unite_21 : decode b_B_unite 21 = .ok (.iload_n 3, 1) := by decide +kernel
theorem d_B_unite_22 : decode b_B_unite 22 = .ok (.iaload, 1) := by decide +kernel
theorem d_B_unite_23 : decode b_B_unite 23 = .ok (.iload_n 1, 1) := by decide +kernel
theorem d_B_unite_24 : decode b_B_unite 24 = .ok (.iload_n 2, 1) := by decide +kernel
theorem d_B_unite_25 : decode b_B_unite 25 = .ok (.invokestatic 120, 3) := by decide +kernel
theorem d_B_unite_28 : decode b_B_unite 28 = .ok (.iastore, 1) := by decide +kernel
theorem d_B_unite_29 : decode b_B_unite 29 = .ok (.iinc 3 1, 3) := by decide +kernel
theorem d_B_unite_32 : decode b_B_unite 32 = .ok (.goto (-30), 3) := by decide +kernel
theorem d_B_unite_35 : decode b_B_unite 35 = .ok (.return_, 1) := by decide +kernel
theorem d_B_carry_0 : decode b_B_carry 0 = .ok (.iload_n 1, 1) := by decide +kernel
theorem d_B_carry_1 : decode b_B_carry 1 = .ok (.istore_n 3, 1) := by decide +kernel
theorem d_B_carry_2 : decode b_B_carry 2 = .ok (.iload_n 3, 1) := by decide +kernel
theorem d_B_carry_3 : decode b_B_carry 3 = .ok (.iload_n 2, 1) := by decide +kernel
theorem d_B_carry_4 : decode b_B_carry 4 = .ok (.if_icmp .ge 14, 3) := by decide +kernel
theorem d_B_carry_7 : decode b_B_carry 7 = .ok (.aload_n 0, 1) := by decide +kernel
theorem d_B_carry_8 : decode b_B_carry 8 = .ok (.iload_n 3, 1) := by decide +kernel
theorem d_B_carry_9 : decode b_B_carry 9 = .ok (.invokevirtual 145, 3) := by decide +kernel
theorem d_B_carry_12 : decode b_B_carry 12 = .ok (.iinc 3 1, 3) := by decide +kernel
theorem d_B_carry_15 : decode b_B_carry 15 = .ok (.goto (-13), 3) := by decide +kernel
theorem d_B_carry_18 : decode b_B_carry 18 = .ok (.iload_n 1, 1) := by decide +kernel
theorem d_B_carry_19 : decode b_B_carry 19 = .ok (.istore_n 3, 1) := by decide +kernel
theorem d_B_carry_20 : decode b_B_carry 20 = .ok (.iload_n 3, 1) := by decide +kernel
theorem d_B_carry_21 : decode b_B_carry 21 = .ok (.iload_n 2, 1) := by decide +kernel
theorem d_B_carry_22 : decode b_B_carry 22 = .ok (.if_icmp .le 16, 3) := by decide +kernel
theorem d_B_carry_25 : decode b_B_carry 25 = .ok (.aload_n 0, 1) := by decide +kernel
theorem d_B_carry_26 : decode b_B_carry 26 = .ok (.iload_n 3, 1) := by decide +kernel
theorem d_B_carry_27 : decode b_B_carry 27 = .ok (.iconst 1, 1) := by decide +kernel
theorem d_B_carry_28 : decode b_B_carry 28 = .ok (.isub, 1) := by decide +kernel
theorem d_B_carry_29 : decode b_B_carry 29 = .ok (.invokevirtual 145, 3) := by decide +kernel
theorem d_B_carry_32 : decode b_B_carry 32 = .ok (.iinc 3 (-1), 3) := by decide +kernel
theorem d_B_carry_35 : decode b_B_carry 35 = .ok (.goto (-15), 3) := by decide +kernel
theorem d_B_carry_38 : decode b_B_carry 38 = .ok (.return_, 1) := by decide +kernel
theorem d_B_swapWithNext_0 : decode b_B_swapWithNext 0 = .ok (.aload_n 0, 1) := by decide +kernel
theorem d_B_swapWithNext_1 : decode b_B_swapWithNext 1 = .ok (.getfield 13, 3) := by decide +kernel
theorem d_B_swapWithNext_4 : decode b_B_swapWithNext 4 = .ok (.iload_n 1, 1) := by decide +kernel
theorem d_B_swapWithNext_5 : decode b_B_swapWithNext 5 = .ok (.iaload, 1) := by decide +kernel
theorem d_B_swapWithNext_6 : decode b_B_swapWithNext 6 = .ok (.istore_n 2, 1) := by decide +kernel
theorem d_B_swapWithNext_7 : decode b_B_swapWithNext 7 = .ok (.aload_n 0, 1) := by decide +kernel
theorem d_B_swapWithNext_8 : decode b_B_swapWithNext 8 = .ok (.getfield 13, 3) := by decide +kernel
theorem d_B_swapWithNext_11 : decode b_B_swapWithNext 11 = .ok (.iload_n 1, 1) := by decide +kernel
theorem d_B_swapWithNext_12 : decode b_B_swapWithNext 12 = .ok (.aload_n 0, 1) := by decide +kernel
theorem d_B_swapWithNext_13 : decode b_B_swapWithNext 13 = .ok (.getfield 13, 3) := by decide +kernel
theorem d_B_swapWithNext_16 : decode b_B_swapWithNext 16 = .ok (.iload_n 1, 1) := by decide +kernel
theorem d_B_swapWithNext_17 : decode b_B_swapWithNext 17 = .ok (.iconst 1, 1) := by decide +kernel
theorem d_B_swapWithNext_18 : decode b_B_swapWithNext 18 = .ok (.iadd, 1) := by decide +kernel
theorem d_B_swapWithNext_19 : decode b_B_swapWithNext 19 = .ok (.iaload, 1) := by decide +kernel
theorem d_B_swapWithNext_20 : decode b_B_swapWithNext 20 = .ok (.iastore, 1) := by decide +kernel
theorem d_B_swapWithNext_21 : decode b_B_swapWithNext 21 = .ok (.aload_n 0, 1) := by decide +kernel
theorem d_B_swapWithNext_22 : decode b_B_swapWithNext 22 = .ok (.getfield 13, 3) := by decide +kernel
theorem d_B_swapWithNext_25 : decode b_B_swapWithNext 25 = .ok (.iload_n 1, 1) := by decide +kernel
theorem d_B_swapWithNext_26 : decode b_B_swapWithNext 26 = .ok (.iconst 1, 1) := by decide +kernel
theorem d_B_swapWithNext_27 : decode b_B_swapWithNext 27 = .ok (.iadd, 1) := by decide +kernel
theorem d_B_swapWithNext_28 : decode b_B_swapWithNext 28 = .ok (.iload_n 2, 1) := by decide +kernel
theorem d_B_swapWithNext_29 : decode b_B_swapWithNext 29 = .ok (.iastore, 1) := by decide +kernel
theorem d_B_swapWithNext_30 : decode b_B_swapWithNext 30 = .ok (.iconst 4, 1) := by decide +kernel
theorem d_B_swapWithNext_31 : decode b_B_swapWithNext 31 = .ok (.iload_n 1, 1) := by decide +kernel
theorem d_B_swapWithNext_32 : decode b_B_swapWithNext 32 = .ok (.imul, 1) := by decide +kernel
theorem d_B_swapWithNext_33 : decode b_B_swapWithNext 33 = .ok (.istore_n 3, 1) := by decide +kernel
theorem d_B_swapWithNext_34 : decode b_B_swapWithNext 34 = .ok (.iload_n 3, 1) := by decide +kernel
theorem d_B_swapWithNext_35 : decode b_B_swapWithNext 35 = .ok (.iconst 4, 1) := by decide +kernel
theorem d_B_swapWithNext_36 : decode b_B_swapWithNext 36 = .ok (.iload_n 1, 1) := by decide +kernel
theorem d_B_swapWithNext_37 : decode b_B_swapWithNext 37 = .ok (.iconst 1, 1) := by decide +kernel
theorem d_B_swapWithNext_38 : decode b_B_swapWithNext 38 = .ok (.iadd, 1) := by decide +kernel
theorem d_B_swapWithNext_39 : decode b_B_swapWithNext 39 = .ok (.imul, 1) := by decide +kernel
theorem d_B_swapWithNext_40 : decode b_B_swapWithNext 40 = .ok (.if_icmp .ge 41, 3) := by decide +kernel
theorem d_B_swapWithNext_43 : decode b_B_swapWithNext 43 = .ok (.aload_n 0, 1) := by decide +kernel
theorem d_B_swapWithNext_44 : decode b_B_swapWithNext 44 = .ok (.getfield 9, 3) := by decide +kernel
theorem d_B_swapWithNext_47 : decode b_B_swapWithNext 47 = .ok (.iload_n 3, 1) := by decide +kernel
theorem d_B_swapWithNext_48 : decode b_B_swapWithNext 48 = .ok (.iaload, 1) := by decide +kernel
theorem d_B_swapWithNext_49 : decode b_B_swapWithNext 49 = .ok (.istore 4, 2) := by decide +kernel
theorem d_B_swapWithNext_51 : decode b_B_swapWithNext 51 = .ok (.aload_n 0, 1) := by decide +kernel
theorem d_B_swapWithNext_52 : decode b_B_swapWithNext 52 = .ok (.getfield 9, 3) := by decide +kernel
theorem d_B_swapWithNext_55 : decode b_B_swapWithNext 55 = .ok (.iload_n 3, 1) := by decide +kernel
theorem d_B_swapWithNext_56 : decode b_B_swapWithNext 56 = .ok (.aload_n 0, 1) := by decide +kernel
theorem d_B_swapWithNext_57 : decode b_B_swapWithNext 57 = .ok (.getfield 9, 3) := by decide +kernel
theorem d_B_swapWithNext_60 : decode b_B_swapWithNext 60 = .ok (.iload_n 3, 1) := by decide +kernel
theorem d_B_swapWithNext_61 : decode b_B_swapWithNext 61 = .ok (.iconst 4, 1) := by decide +kernel
theorem d_B_swapWithNext_62 : decode b_B_swapWithNext 62 = .ok (.iadd, 1) := by decide +kernel
theorem d_B_swapWithNext_63 : decode b_B_swapWithNext 63 = .ok (.iaload, 1) := by decide +kernel
theorem d_B_swapWithNext_64 : decode b_B_swapWithNext 64 = .ok (.iastore, 1) := by decide +kernel
theorem d_B_swapWithNext_65 : decode b_B_swapWithNext 65 = .ok (.aload_n 0, 1) := by decide +kernel
theorem d_B_swapWithNext_66 : decode b_B_swapWithNext 66 = .ok (.getfield 9, 3) := by decide +kernel
theorem d_B_swapWithNext_69 : decode b_B_swapWithNext 69 = .ok (.iload_n 3, 1) := by decide +kernel
theorem d_B_swapWithNext_70 : decode b_B_swapWithNext 70 = .ok (.iconst 4, 1) := by decide +kernel
theorem d_B_swapWithNext_71 : decode b_B_swapWithNext 71 = .ok (.iadd, 1) := by decide +kernel
theorem d_B_swapWithNext_72 : decode b_B_swapWithNext 72 = .ok (.iload 4, 2) := by decide +kernel
theorem d_B_swapWithNext_74 : decode b_B_swapWithNext 74 = .ok (.iastore, 1) := by decide +kernel
theorem d_B_swapWithNext_75 : decode b_B_swapWithNext 75 = .ok (.iinc 3 1, 3) := by decide +kernel
theorem d_B_swapWithNext_78 : decode b_B_swapWithNext 78 = .ok (.goto (-44), 3) := by decide +kernel
theorem d_B_swapWithNext_81 : decode b_B_swapWithNext 81 = .ok (.return_, 1) := by decide +kernel
theorem d_B_workOut_0 : decode b_B_workOut 0 = .ok (.aload_n 0, 1) := by decide +kernel
theorem d_B_workOut_1 : decode b_B_workOut 1 = .ok (.getfield 50, 3) := by decide +kernel
theorem d_B_workOut_4 : decode b_B_workOut 4 = .ok (.ifCond .eq 4, 3) := by decide +kernel
theorem d_B_workOut_7 : decode b_B_workOut 7 = .ok (.return_, 1) := by decide +kernel
theorem d_B_workOut_8 : decode b_B_workOut 8 = .ok (.aload_n 0, 1) := by decide +kernel
theorem d_B_workOut_9 : decode b_B_workOut 9 = .ok (.getfield 46, 3) := by decide +kernel
theorem d_B_workOut_12 : decode b_B_workOut 12 = .ok (.invokevirtual 149, 3) := by decide +kernel
theorem d_B_workOut_15 : decode b_B_workOut 15 = .ok (.aload_n 0, 1) := by decide +kernel
theorem d_B_workOut_16 : decode b_B_workOut 16 = .ok (.invokevirtual 67, 3) := by decide +kernel
theorem d_B_workOut_19 : decode b_B_workOut 19 = .ok (.ifCond .eq 11, 3) := by decide +kernel
theorem d_B_workOut_22 : decode b_B_workOut 22 = .ok (.aload_n 0, 1) := by decide +kernel
theorem d_B_workOut_23 : decode b_B_workOut 23 = .ok (.invokevirtual 152, 3) := by decide +kernel
theorem d_B_workOut_26 : decode b_B_workOut 26 = .ok (.aload_n 0, 1) := by decide +kernel
theorem d_B_workOut_27 : decode b_B_workOut 27 = .ok (.invokevirtual 155, 3) := by decide +kernel
theorem d_B_workOut_30 : decode b_B_workOut 30 = .ok (.aload_n 0, 1) := by decide +kernel
theorem d_B_workOut_31 : decode b_B_workOut 31 = .ok (.iconst 1, 1) := by decide +kernel
theorem d_B_workOut_32 : decode b_B_workOut 32 = .ok (.putfield 50, 3) := by decide +kernel
theorem d_B_workOut_35 : decode b_B_workOut 35 = .ok (.return_, 1) := by decide +kernel
theorem d_B_tallyStates_0 : decode b_B_tallyStates 0 = .ok (.aload_n 0, 1) := by decide +kernel
theorem d_B_tallyStates_1 : decode b_B_tallyStates 1 = .ok (.getfield 33, 3) := by decide +kernel
theorem d_B_tallyStates_4 : decode b_B_tallyStates 4 = .ok (.iconst 0, 1) := by decide +kernel
theorem d_B_tallyStates_5 : decode b_B_tallyStates 5 = .ok (.invokestatic 134, 3) := by decide +kernel
theorem d_B_tallyStates_8 : decode b_B_tallyStates 8 = .ok (.aload_n 0, 1) := by decide +kernel
theorem d_B_tallyStates_9 : decode b_B_tallyStates 9 = .ok (.getfield 39, 3) := by decide +kernel
theorem d_B_tallyStates_12 : decode b_B_tallyStates 12 = .ok (.aload_n 0, 1) := by decide +kernel
theorem d_B_tallyStates_13 : decode b_B_tallyStates 13 = .ok (.getfield 9, 3) := by decide +kernel
theorem d_B_tallyStates_16 : decode b_B_tallyStates 16 = .ok (.iconst 4, 1) := by decide +kernel
theorem d_B_tallyStates_17 : decode b_B_tallyStates 17 = .ok (.aload_n 0, 1) := by decide +kernel
theorem d_B_tallyStates_18 : decode b_B_tallyStates 18 = .ok (.getfield 16, 3) := by decide +kernel
theorem d_B_tallyStates_21 : decode b_B_tallyStates 21 = .ok (.imul, 1) := by decide +kernel
theorem d_B_tallyStates_22 : decode b_B_tallyStates 22 = .ok (.invokevirtual 109, 3) := by decide +kernel
theorem d_B_tallyStates_25 : decode b_B_tallyStates 25 = .ok (.aload_n 0, 1) := by decide +kernel
theorem d_B_tallyStates_26 : decode b_B_tallyStates 26 = .ok (.getfield 16, 3) := by decide +kernel
theorem d_B_tallyStates_29 : decode b_B_tallyStates 29 = .ok (.ifCond .ne 14, 3) := by decide +kernel
theorem d_B_tallyStates_32 : decode b_B_tallyStates 32 = .ok (.aload_n 0, 1) := by decide +kernel
theorem d_B_tallyStates_33 : decode b_B_tallyStates 33 = .ok (.getfield 20, 3) := by decide +kernel
theorem d_B_tallyStates_36 : decode b_B_tallyStates 36 = .ok (.ifCond .ne 7, 3) := by decide +kernel
theorem d_B_tallyStates_39 : decode b_B_tallyStates 39 = .ok (.iconst 1, 1) := by decide +kernel
theorem d_B_tallyStates_40 : decode b_B_tallyStates 40 = .ok (.goto 4, 3) := by decide +kernel
theorem d_B_tallyStates_43 : decode b_B_tallyStates 43 = .ok (.iconst 0, 1) := by decide +kernel
theorem d_B_tallyStates_44 : decode b_B_tallyStates 44 = .ok (.istore_n 1, 1) := by decide +kernel
theorem d_B_tallyStates_45 : decode b_B_tallyStates 45 = .ok (.aload_n 0, 1) := by decide +kernel
theorem d_B_tallyStates_46 : decode b_B_tallyStates 46 = .ok (.iconst 0, 1) := by decide +kernel
theorem d_B_tallyStates_47 : decode b_B_tallyStates 47 = .ok (.iconst 0, 1) := by decide +kernel
theorem d_B_tallyStates_48 : decode b_B_tallyStates 48 = .ok (.iload_n 1, 1) := by decide +kernel
theorem d_B_tallyStates_49 : decode b_B_tallyStates 49 = .ok (.ifCond .eq 7, 3) := by decide +kernel
theorem d_B_tallyStates_52 : decode b_B_tallyStates 52 = .ok (.iconst 1, 1) := by decide +kernel
theorem d_B_tallyStates_53 : decode b_B_tallyStates 53 = .ok (.goto 7, 3) := by decide +kernel
theorem d_B_tallyStates_56 : decode b_B_tallyStates 56 = .ok (.aload_n 0, 1) := by decide +kernel
theorem d_B_tallyStates_57 : decode b_B_tallyStates 57 = .ok (.getfield 20, 3) := by decide +kernel
theorem d_B_tallyStates_60 : decode b_B_tallyStates 60 = .ok (.invokestatic 158, 3) := by decide +kernel
theorem d_B_tallyStates_63 : decode b_B_tallyStates 63 = .ok (.return_, 1) := by decide +kernel
theorem d_B_tallyFrom_0 : decode b_B_tallyFrom 0 = .ok (.iload_n 1, 1) := by decide +kernel
theorem d_B_tallyFrom_1 : decode b_B_tallyFrom 1 = .ok (.aload_n 0, 1) := by decide +kernel
theorem d_B_tallyFrom_2 : decode b_B_tallyFrom 2 = .ok (.getfield 16, 3) := by decide +kernel
theorem d_B_tallyFrom_5 : decode b_B_tallyFrom 5 = .ok (.if_icmp .lt 19, 3) := by decide +kernel
theorem d_B_tallyFrom_8 : decode b_B_tallyFrom 8 = .ok (.aload_n 0, 1) := by decide +kernel
theorem d_B_tallyFrom_9 : decode b_B_tallyFrom 9 = .ok (.getfield 33, 3) := by decide +kernel
theorem d_B_tallyFrom_12 : decode b_B_tallyFrom 12 = .ok (.iload_n 2, 1) := by decide +kernel
theorem d_B_tallyFrom_13 : decode b_B_tallyFrom 13 = .ok (.bipush 30, 2) := by decide +kernel
theorem d_B_tallyFrom_15 : decode b_B_tallyFrom 15 = .ok (.imul, 1) := by decide +kernel
theorem d_B_tallyFrom_16 : decode b_B_tallyFrom 16 = .ok (.iload_n 3, 1) := by decide +kernel
theorem d_B_tallyFrom_17 : decode b_B_tallyFrom 17 = .ok (.iadd, 1) := by decide +kernel
theorem d_B_tallyFrom_18 : decode b_B_tallyFrom 18 = .ok (.dup2, 1) := by decide +kernel
theorem d_B_tallyFrom_19 : decode b_B_tallyFrom 19 = .ok (.iaload, 1) := by decide +kernel
theorem d_B_tallyFrom_20 : decode b_B_tallyFrom 20 = .ok (.iconst 1, 1) := by decide +kernel
theorem d_B_tallyFrom_21 : decode b_B_tallyFrom 21 = .ok (.iadd, 1) := by decide +kernel
theorem d_B_tallyFrom_22 : decode b_B_tallyFrom 22 = .ok (.iastore, 1) := by decide +kernel
theorem d_B_tallyFrom_23 : decode b_B_tallyFrom 23 = .ok (.return_, 1) := by decide +kernel
theorem d_B_tallyFrom_24 : decode b_B_tallyFrom 24 = .ok (.aload_n 0, 1) := by decide +kernel
theorem d_B_tallyFrom_25 : decode b_B_tallyFrom 25 = .ok (.getfield 23, 3) := by decide +kernel
theorem d_B_tallyFrom_28 : decode b_B_tallyFrom 28 = .ok (.iload_n 1, 1) := by decide +kernel
theorem d_B_tallyFrom_29 : decode b_B_tallyFrom 29 = .ok (.iaload, 1) := by decide +kernel
theorem d_B_tallyFrom_30 : decode b_B_tallyFrom 30 = .ok (.istore 4, 2) := by decide +kernel
theorem d_B_tallyFrom_32 : decode b_B_tallyFrom 32 = .ok (.aload_n 0, 1) := by decide +kernel
theorem d_B_tallyFrom_33 : decode b_B_tallyFrom 33 = .ok (.getfield 39, 3) := by decide +kernel
theorem d_B_tallyFrom_36 : decode b_B_tallyFrom 36 = .ok (.iload 4, 2) := by decide +kernel
theorem d_B_tallyFrom_38 : decode b_B_tallyFrom 38 = .ok (.iconst 1, 1) := by decide +kernel
theorem d_B_tallyFrom_39 : decode b_B_tallyFrom 39 = .ok (.invokevirtual 113, 3) := by decide +kernel
theorem d_B_tallyFrom_42 : decode b_B_tallyFrom 42 = .ok (.istore 5, 2) := by decide +kernel
theorem d_B_tallyFrom_44 : decode b_B_tallyFrom 44 = .ok (.aload_n 0, 1) := by decide +kernel
theorem d_B_tallyFrom_45 : decode b_B_tallyFrom 45 = .ok (.iload_n 1, 1) := by decide +kernel
theorem d_B_tallyFrom_46 : decode b_B_tallyFrom 46 = .ok (.iconst 1, 1) := by decide +kernel
theorem d_B_tallyFrom_47 : decode b_B_tallyFrom 47 = .ok (.iadd, 1) := by decide +kernel
theorem d_B_tallyFrom_48 : decode b_B_tallyFrom 48 = .ok (.iload_n 2, 1) := by decide +kernel
theorem d_B_tallyFrom_49 : decode b_B_tallyFrom 49 = .ok (.iconst 1, 1) := by decide +kernel
theorem d_B_tallyFrom_50 : decode b_B_tallyFrom 50 = .ok (.iadd, 1) := by decide +kernel
theorem d_B_tallyFrom_51 : decode b_B_tallyFrom 51 = .ok (.iload_n 3, 1) := by decide +kernel
theorem d_B_tallyFrom_52 : decode b_B_tallyFrom 52 = .ok (.iload 5, 2) := by decide +kernel
theorem d_B_tallyFrom_54 : decode b_B_tallyFrom 54 = .ok (.iadd, 1) := by decide +kernel
theorem d_B_tallyFrom_55 : decode b_B_tallyFrom 55 = .ok (.invokestatic 158, 3) := by decide +kernel
theorem d_B_tallyFrom_58 : decode b_B_tallyFrom 58 = .ok (.aload_n 0, 1) := by decide +kernel
theorem d_B_tallyFrom_59 : decode b_B_tallyFrom 59 = .ok (.getfield 39, 3) := by decide +kernel
theorem d_B_tallyFrom_62 : decode b_B_tallyFrom 62 = .ok (.iload 4, 2) := by decide +kernel
theorem d_B_tallyFrom_64 : decode b_B_tallyFrom 64 = .ok (.iconst 1, 1) := by decide +kernel
theorem d_B_tallyFrom_65 : decode b_B_tallyFrom 65 = .ok (.invokevirtual 162, 3) := by decide +kernel
theorem d_B_tallyFrom_68 : decode b_B_tallyFrom 68 = .ok (.aload_n 0, 1) := by decide +kernel
theorem d_B_tallyFrom_69 : decode b_B_tallyFrom 69 = .ok (.getfield 39, 3) := by decide +kernel
theorem d_B_tallyFrom_72 : decode b_B_tallyFrom 72 = .ok (.iload 4, 2) := by decide +kernel
theorem d_B_tallyFrom_74 : decode b_B_tallyFrom 74 = .ok (.iconst 0, 1) := by decide +kernel
theorem d_B_tallyFrom_75 : decode b_B_tallyFrom 75 = .ok (.invokevirtual 113, 3) := by decide +kernel
theorem d_B_tallyFrom_78 : decode b_B_tallyFrom 78 = .ok (.istore 6, 2) := by decide +kernel
theorem d_B_tallyFrom_80 : decode b_B_tallyFrom 80 = .ok (.aload_n 0, 1) := by decide +kernel
theorem d_B_tallyFrom_81 : decode b_B_tallyFrom 81 = .ok (.iload_n 1, 1) := by decide +kernel
theorem d_B_tallyFrom_82 : decode b_B_tallyFrom 82 = .ok (.iconst 1, 1) := by decide +kernel
theorem d_B_tallyFrom_83 : decode b_B_tallyFrom 83 = .ok (.iadd, 1) := by decide +kernel
theorem d_B_tallyFrom_84 : decode b_B_tallyFrom 84 = .ok (.iload_n 2, 1) := by decide +kernel
theorem d_B_tallyFrom_85 : decode b_B_tallyFrom 85 = .ok (.iload_n 3, 1) := by decide +kernel
theorem d_B_tallyFrom_86 : decode b_B_tallyFrom 86 = .ok (.iload 6, 2) := by decide +kernel
theorem d_B_tallyFrom_88 : decode b_B_tallyFrom 88 = .ok (.iadd, 1) := by decide +kernel
theorem d_B_tallyFrom_89 : decode b_B_tallyFrom 89 = .ok (.invokestatic 158, 3) := by decide +kernel
theorem d_B_tallyFrom_92 : decode b_B_tallyFrom 92 = .ok (.aload_n 0, 1) := by decide +kernel
theorem d_B_tallyFrom_93 : decode b_B_tallyFrom 93 = .ok (.getfield 39, 3) := by decide +kernel
theorem d_B_tallyFrom_96 : decode b_B_tallyFrom 96 = .ok (.iload 4, 2) := by decide +kernel
theorem d_B_tallyFrom_98 : decode b_B_tallyFrom 98 = .ok (.iconst 0, 1) := by decide +kernel
theorem d_B_tallyFrom_99 : decode b_B_tallyFrom 99 = .ok (.invokevirtual 162, 3) := by decide +kernel
theorem d_B_tallyFrom_102 : decode b_B_tallyFrom 102 = .ok (.return_, 1) := by decide +kernel
theorem d_B_sumTally_0 : decode b_B_sumTally 0 = .ok (.bipush 29, 2) := by decide +kernel
theorem d_B_sumTally_2 : decode b_B_sumTally 2 = .ok (.istore_n 1, 1) := by decide +kernel
theorem d_B_sumTally_3 : decode b_B_sumTally 3 = .ok (.iload_n 1, 1) := by decide +kernel
theorem d_B_sumTally_4 : decode b_B_sumTally 4 = .ok (.iconst 1, 1) := by decide +kernel
theorem d_B_sumTally_5 : decode b_B_sumTally 5 = .ok (.if_icmp .lt 69, 3) := by decide +kernel
theorem d_B_sumTally_8 : decode b_B_sumTally 8 = .ok (.aload_n 0, 1) := by decide +kernel
theorem d_B_sumTally_9 : decode b_B_sumTally 9 = .ok (.getfield 46, 3) := by decide +kernel
theorem d_B_sumTally_12 : decode b_B_sumTally 12 = .ok (.invokevirtual 100, 3) := by decide +kernel
theorem d_B_sumTally_15 : decode b_B_sumTally 15 = .ok (.ifCond .ne 10, 3) := by decide +kernel
theorem d_B_sumTally_18 : decode b_B_sumTally 18 = .ok (.aload_n 0, 1) := by decide +kernel
theorem d_B_sumTally_19 : decode b_B_sumTally 19 = .ok (.getfield 46, 3) := by decide +kernel
theorem d_B_sumTally_22 : decode b_B_sumTally 22 = .ok (.invokevirtual 166, 3) := by decide +kernel
theorem d_B_sumTally_25 : decode b_B_sumTally 25 = .ok (.iconst 0, 1) := by decide +kernel
theorem d_B_sumTally_26 : decode b_B_sumTally 26 = .ok (.istore_n 2, 1) := by decide +kernel
theorem d_B_sumTally_27 : decode b_B_sumTally 27 = .ok (.iload_n 2, 1) := by decide +kernel
theorem d_B_sumTally_28 : decode b_B_sumTally 28 = .ok (.aload_n 0, 1) := by decide +kernel
theorem d_B_sumTally_29 : decode b_B_sumTally 29 = .ok (.getfield 16, 3) := by decide +kernel
theorem d_B_sumTally_32 : decode b_B_sumTally 32 = .ok (.if_icmp .gt 36, 3) := by decide +kernel
theorem d_B_sumTally_35 : decode b_B_sumTally 35 = .ok (.aload_n 0, 1) := by decide +kernel
theorem d_B_sumTally_36 : decode b_B_sumTally 36 = .ok (.getfield 46, 3) := by decide +kernel
theorem d_B_sumTally_39 : decode b_B_sumTally 39 = .ok (.iconst 2, 1) := by decide +kernel
theorem d_B_sumTally_40 : decode b_B_sumTally 40 = .ok (.iload_n 2, 1) := by decide +kernel
theorem d_B_sumTally_41 : decode b_B_sumTally 41 = .ok (.imul, 1) := by decide +kernel
theorem d_B_sumTally_42 : decode b_B_sumTally 42 = .ok (.aload_n 0, 1) := by decide +kernel
theorem d_B_sumTally_43 : decode b_B_sumTally 43 = .ok (.getfield 16, 3) := by decide +kernel
theorem d_B_sumTally_46 : decode b_B_sumTally 46 = .ok (.isub, 1) := by decide +kernel
theorem d_B_sumTally_47 : decode b_B_sumTally 47 = .ok (.aload_n 0, 1) := by decide +kernel
theorem d_B_sumTally_48 : decode b_B_sumTally 48 = .ok (.getfield 33, 3) := by decide +kernel
theorem d_B_sumTally_51 : decode b_B_sumTally 51 = .ok (.iload_n 2, 1) := by decide +kernel
theorem d_B_sumTally_52 : decode b_B_sumTally 52 = .ok (.bipush 30, 2) := by decide +kernel
theorem d_B_sumTally_54 : decode b_B_sumTally 54 = .ok (.imul, 1) := by decide +kernel
theorem d_B_sumTally_55 : decode b_B_sumTally 55 = .ok (.iload_n 1, 1) := by decide +kernel
theorem d_B_sumTally_56 : decode b_B_sumTally 56 = .ok (.iadd, 1) := by decide +kernel
theorem d_B_sumTally_57 : decode b_B_sumTally 57 = .ok (.iaload, 1) := by decide +kernel
theorem d_B_sumTally_58 : decode b_B_sumTally 58 = .ok (.i2l, 1) := by decide +kernel
theorem d_B_sumTally_59 : decode b_B_sumTally 59 = .ok (.invokevirtual 169, 3) := by decide +kernel
theorem d_B_sumTally_62 : decode b_B_sumTally 62 = .ok (.iinc 2 1, 3) := by decide +kernel
theorem d_B_sumTally_65 : decode b_B_sumTally 65 = .ok (.goto (-38), 3) := by decide +kernel
theorem d_B_sumTally_68 : decode b_B_sumTally 68 = .ok (.iinc 1 (-1), 3) := by decide +kernel
theorem d_B_sumTally_71 : decode b_B_sumTally 71 = .ok (.goto (-68), 3) := by decide +kernel
theorem d_B_sumTally_74 : decode b_B_sumTally 74 = .ok (.return_, 1) := by decide +kernel
theorem d_M_init_0 : decode b_M_init 0 = .ok (.aload_n 0, 1) := by decide +kernel
theorem d_M_init_1 : decode b_M_init 1 = .ok (.invokespecial 1, 3) := by decide +kernel
theorem d_M_init_4 : decode b_M_init 4 = .ok (.aload_n 0, 1) := by decide +kernel
theorem d_M_init_5 : decode b_M_init 5 = .ok (.bipush 10, 2) := by decide +kernel
theorem d_M_init_7 : decode b_M_init 7 = .ok (.newarray .int, 2) := by decide +kernel
theorem d_M_init_9 : decode b_M_init 9 = .ok (.putfield 7, 3) := by decide +kernel
theorem d_M_init_12 : decode b_M_init 12 = .ok (.aload_n 0, 1) := by decide +kernel
theorem d_M_init_13 : decode b_M_init 13 = .ok (.bipush 40, 2) := by decide +kernel
theorem d_M_init_15 : decode b_M_init 15 = .ok (.newarray .int, 2) := by decide +kernel
theorem d_M_init_17 : decode b_M_init 17 = .ok (.putfield 13, 3) := by decide +kernel
theorem d_M_init_20 : decode b_M_init 20 = .ok (.aload_n 0, 1) := by decide +kernel
theorem d_M_init_21 : decode b_M_init 21 = .ok (.bipush 40, 2) := by decide +kernel
theorem d_M_init_23 : decode b_M_init 23 = .ok (.newarray .int, 2) := by decide +kernel
theorem d_M_init_25 : decode b_M_init 25 = .ok (.putfield 16, 3) := by decide +kernel
theorem d_M_init_28 : decode b_M_init 28 = .ok (.aload_n 0, 1) := by decide +kernel
theorem d_M_init_29 : decode b_M_init 29 = .ok (.bipush 40, 2) := by decide +kernel
theorem d_M_init_31 : decode b_M_init 31 = .ok (.newarray .boolean, 2) := by decide +kernel
theorem d_M_init_33 : decode b_M_init 33 = .ok (.putfield 19, 3) := by decide +kernel
theorem d_M_init_36 : decode b_M_init 36 = .ok (.aload_n 0, 1) := by decide +kernel
theorem d_M_init_37 : decode b_M_init 37 = .ok (.bipush 10, 2) := by decide +kernel
theorem d_M_init_39 : decode b_M_init 39 = .ok (.newarray .boolean, 2) := by decide +kernel
theorem d_M_init_41 : decode b_M_init 41 = .ok (.putfield 23, 3) := by decide +kernel
theorem d_M_init_44 : decode b_M_init 44 = .ok (.aload_n 0, 1) := by decide +kernel
theorem d_M_init_45 : decode b_M_init 45 = .ok (.sipush 260, 3) := by decide +kernel
theorem d_M_init_48 : decode b_M_init 48 = .ok (.newarray .long, 2) := by decide +kernel
theorem d_M_init_50 : decode b_M_init 50 = .ok (.putfield 26, 3) := by decide +kernel
theorem d_M_init_53 : decode b_M_init 53 = .ok (.aload_n 0, 1) := by decide +kernel
theorem d_M_init_54 : decode b_M_init 54 = .ok (.sipush 672, 3) := by decide +kernel
theorem d_M_init_57 : decode b_M_init 57 = .ok (.newarray .int, 2) := by decide +kernel
theorem d_M_init_59 : decode b_M_init 59 = .ok (.putfield 30, 3) := by decide +kernel
theorem d_M_init_62 : decode b_M_init 62 = .ok (.aload_n 0, 1) := by decide +kernel
theorem d_M_init_63 : decode b_M_init 63 = .ok (.bipush 40, 2) := by decide +kernel
theorem d_M_init_65 : decode b_M_init 65 = .ok (.newarray .long, 2) := by decide +kernel
theorem d_M_init_67 : decode b_M_init 67 = .ok (.putfield 33, 3) := by decide +kernel
theorem d_M_init_70 : decode b_M_init 70 = .ok (.aload_n 0, 1) := by decide +kernel
theorem d_M_init_71 : decode b_M_init 71 = .ok (.iconst 4, 1) := by decide +kernel
theorem d_M_init_72 : decode b_M_init 72 = .ok (.newarray .int, 2) := by decide +kernel
theorem d_M_init_74 : decode b_M_init 74 = .ok (.putfield 36, 3) := by decide +kernel
theorem d_M_init_77 : decode b_M_init 77 = .ok (.return_, 1) := by decide +kernel
theorem d_M_crossing_0 : decode b_M_crossing 0 = .ok (.iload_n 2, 1) := by decide +kernel
theorem d_M_crossing_1 : decode b_M_crossing 1 = .ok (.ifCond .le 47, 3) := by decide +kernel
theorem d_M_crossing_4 : decode b_M_crossing 4 = .ok (.iload_n 2, 1) := by decide +kernel
theorem d_M_crossing_5 : decode b_M_crossing 5 = .ok (.bipush 100, 2) := by decide +kernel
theorem d_M_crossing_7 : decode b_M_crossing 7 = .ok (.if_icmp .ge 41, 3) := by decide +kernel
theorem d_M_crossing_10 : decode b_M_crossing 10 = .ok (.iload_n 3, 1) := by decide +kernel
theorem d_M_crossing_11 : decode b_M_crossing 11 = .ok (.ifCond .le 37, 3) := by decide +kernel
theorem d_M_crossing_14 : decode b_M_crossing 14 = .ok (.iload_n 3, 1) := by decide +kernel
theorem d_M_crossing_15 : decode b_M_crossing 15 = .ok (.bipush 100, 2) := by decide +kernel
theorem d_M_crossing_17 : decode b_M_crossing 17 = .ok (.if_icmp .ge 31, 3) := by decide +kernel
theorem d_M_crossing_20 : decode b_M_crossing 20 = .ok (.iload 4, 2) := by decide +kernel
theorem d_M_crossing_22 : decode b_M_crossing 22 = .ok (.ifCond .le 26, 3) := by decide +kernel
theorem d_M_crossing_25 : decode b_M_crossing 25 = .ok (.iload 4, 2) := by decide +kernel
theorem d_M_crossing_27 : decode b_M_crossing 27 = .ok (.bipush 100, 2) := by decide +kernel
theorem d_M_crossing_29 : decode b_M_crossing 29 = .ok (.if_icmp .ge 19, 3) := by decide +kernel
theorem d_M_crossing_32 : decode b_M_crossing 32 = .ok (.iload 5, 2) := by decide +kernel
theorem d_M_crossing_34 : decode b_M_crossing 34 = .ok (.ifCond .le 14, 3) := by decide +kernel
theorem d_M_crossing_37 : decode b_M_crossing 37 = .ok (.iload 5, 2) := by decide +kernel
theorem d_M_crossing_39 : decode b_M_crossing 39 = .ok (.bipush 100, 2) := by decide +kernel
theorem d_M_crossing_41 : decode b_M_crossing 41 = .ok (.if_icmp .ge 7, 3) := by decide +kernel
theorem d_M_crossing_44 : decode b_M_crossing 44 = .ok (.iconst 1, 1) := by decide +kernel
theorem d_M_crossing_45 : decode b_M_crossing 45 = .ok (.goto 4, 3) := by decide +kernel
theorem d_M_crossing_48 : decode b_M_crossing 48 = .ok (.iconst 0, 1) := by decide +kernel
theorem d_M_crossing_49 : decode b_M_crossing 49 = .ok (.istore 6, 2) := by decide +kernel
theorem d_M_crossing_51 : decode b_M_crossing 51 = .ok (.iload_n 1, 1) := by decide +kernel
theorem d_M_crossing_52 : decode b_M_crossing 52 = .ok (.iconst 1, 1) := by decide +kernel
theorem d_M_crossing_53 : decode b_M_crossing 53 = .ok (.if_icmp .eq 8, 3) := by decide +kernel
theorem d_M_crossing_56 : decode b_M_crossing 56 = .ok (.iload_n 1, 1) := by decide +kernel
theorem d_M_crossing_57 : decode b_M_crossing 57 = .ok (.iconst (-1), 1) := by decide +kernel
theorem d_M_crossing_58 : decode b_M_crossing 58 = .ok (.if_icmp .ne 17, 3) := by decide +kernel
theorem d_M_crossing_61 : decode b_M_crossing 61 = .ok (.iload 6, 2) := by decide +kernel
theorem d_M_crossing_63 : decode b_M_crossing 63 = .ok (.ifCond .eq 12, 3) := by decide +kernel
theorem d_M_crossing_66 : decode b_M_crossing 66 = .ok (.aload_n 0, 1) := by decide +kernel
theorem d_M_crossing_67 : decode b_M_crossing 67 = .ok (.getfield 43, 3) := by decide +kernel
theorem d_M_crossing_70 : decode b_M_crossing 70 = .ok (.bipush 10, 2) := by decide +kernel
theorem d_M_crossing_72 : decode b_M_crossing 72 = .ok (.if_icmp .ne 5, 3) := by decide +kernel
theorem d_M_crossing_75 : decode b_M_crossing 75 = .ok (.iconst (-1), 1) := by decide +kernel
theorem d_M_crossing_76 : decode b_M_crossing 76 = .ok (.ireturn, 1) := by decide +kernel
theorem d_M_crossing_77 : decode b_M_crossing 77 = .ok (.aload_n 0, 1) := by decide +kernel
theorem d_M_crossing_78 : decode b_M_crossing 78 = .ok (.getfield 7, 3) := by decide +kernel
theorem d_M_crossing_81 : decode b_M_crossing 81 = .ok (.aload_n 0, 1) := by decide +kernel
theorem d_M_crossing_82 : decode b_M_crossing 82 = .ok (.getfield 43, 3) := by decide +kernel
theorem d_M_crossing_85 : decode b_M_crossing 85 = .ok (.iload_n 1, 1) := by decide +kernel
theorem d_M_crossing_86 : decode b_M_crossing 86 = .ok (.iastore, 1) := by decide +kernel
theorem d_M_crossing_87 : decode b_M_crossing 87 = .ok (.aload_n 0, 1) := by decide +kernel
theorem d_M_crossing_88 : decode b_M_crossing 88 = .ok (.getfield 13, 3) := by decide +kernel
theorem d_M_crossing_91 : decode b_M_crossing 91 = .ok (.iconst 4, 1) := by decide +kernel
theorem d_M_crossing_92 : decode b_M_crossing 92 = .ok (.aload_n 0, 1) := by decide +kernel
theorem d_M_crossing_93 : decode b_M_crossing 93 = .ok (.getfield 43, 3) := by decide +kernel
theorem d_M_crossing_96 : decode b_M_crossing 96 = .ok (.imul, 1) := by decide +kernel
theorem d_M_crossing_97 : decode b_M_crossing 97 = .ok (.iload_n 2, 1) := by decide +kernel
theorem d_M_crossing_98 : decode b_M_crossing 98 = .ok (.iastore, 1) := by decide +kernel
theorem d_M_crossing_99 : decode b_M_crossing 99 = .ok (.aload_n 0, 1) := by decide +kernel
theorem d_M_crossing_100 : decode b_M_crossing 100 = .ok (.getfield 13, 3) := by decide +kernel
theorem d_M_crossing_103 : decode b_M_crossing 103 = .ok (.iconst 4, 1) := by decide +kernel
theorem d_M_crossing_104 : decode b_M_crossing 104 = .ok (.aload_n 0, 1) := by decide +kernel
theorem d_M_crossing_105 : decode b_M_crossing 105 = .ok (.getfield 43, 3) := by decide +kernel
theorem d_M_crossing_108 : decode b_M_crossing 108 = .ok (.imul, 1) := by decide +kernel
theorem d_M_crossing_109 : decode b_M_crossing 109 = .ok (.iconst 1, 1) := by decide +kernel
theorem d_M_crossing_110 : decode b_M_crossing 110 = .ok (.iadd, 1) := by decide +kernel
theorem d_M_crossing_111 : decode b_M_crossing 111 = .ok (.iload_n 3, 1) := by decide +kernel
theorem d_M_crossing_112 : decode b_M_crossing 112 = .ok (.iastore, 1) := by decide +kernel
theorem d_M_crossing_113 : decode b_M_crossing 113 = .ok (.aload_n 0, 1) := by decide +kernel
theorem d_M_crossing_114 : decode b_M_crossing 114 = .ok (.getfield 13, 3) := by decide +kernel
theorem d_M_crossing_117 : decode b_M_crossing 117 = .ok (.iconst 4, 1) := by decide +kernel
theorem d_M_crossing_118 : decode b_M_crossing 118 = .ok (.aload_n 0, 1) := by decide +kernel
theorem d_M_crossing_119 : decode b_M_crossing 119 = .ok (.getfield 43, 3) := by decide +kernel
theorem d_M_crossing_122 : decode b_M_crossing 122 = .ok (.imul, 1) := by decide +kernel
theorem d_M_crossing_123 : decode b_M_crossing 123 = .ok (.iconst 2, 1) := by decide +kernel
theorem d_M_crossing_124 : decode b_M_crossing 124 = .ok (.iadd, 1) := by decide +kernel
theorem d_M_crossing_125 : decode b_M_crossing 125 = .ok (.iload 4, 2) := by decide +kernel
theorem d_M_crossing_127 : decode b_M_crossing 127 = .ok (.iastore, 1) := by decide +kernel
theorem d_M_crossing_128 : decode b_M_crossing 128 = .ok (.aload_n 0, 1) := by decide +kernel
theorem d_M_crossing_129 : decode b_M_crossing 129 = .ok (.getfield 13, 3) := by decide +kernel
theorem d_M_crossing_132 : decode b_M_crossing 132 = .ok (.iconst 4, 1) := by decide +kernel
theorem d_M_crossing_133 : decode b_M_crossing 133 = .ok (.aload_n 0, 1) := by decide +kernel
theorem d_M_crossing_134 : decode b_M_crossing 134 = .ok (.getfield 43, 3) := by decide +kernel
theorem d_M_crossing_137 : decode b_M_crossing 137 = .ok (.imul, 1) := by decide +kernel
theorem d_M_crossing_138 : decode b_M_crossing 138 = .ok (.iconst 3, 1) := by decide +kernel
theorem d_M_crossing_139 : decode b_M_crossing 139 = .ok (.iadd, 1) := by decide +kernel
theorem d_M_crossing_140 : decode b_M_crossing 140 = .ok (.iload 5, 2) := by decide +kernel
theorem d_M_crossing_142 : decode b_M_crossing 142 = .ok (.iastore, 1) := by decide +kernel
theorem d_M_crossing_143 : decode b_M_crossing 143 = .ok (.aload_n 0, 1) := by decide +kernel
