theorem d_M_change_35 : decode b_M_change 35 = .ok (.iload_n 1, 1) := by decide +kernel
theorem d_M_change_36 : decode b_M_change 36 = .ok (.imul, 1) := by decide +kernel
theorem d_M_change_37 : decode b_M_change 37 = .ok (.iload_n 3, 1) := by decide +kernel
theorem d_M_change_38 : decode b_M_change 38 = .ok (.iadd, 1) := by decide +kernel
theorem d_M_change_39 : decode b_M_change 39 = .ok (.aload_n 0, 1) := by decide +kernel
theorem d_M_change_40 : decode b_M_change 40 = .ok (.getfield 13, 3) := by decide +kernel
theorem d_M_change_43 : decode b_M_change 43 = .ok (.iconst 4, 1) := by decide +kernel
theorem d_M_change_44 : decode b_M_change 44 = .ok (.iload_n 1, 1) := by decide +kernel
theorem d_M_change_45 : decode b_M_change 45 = .ok (.imul, 1) := by decide +kernel
theorem d_M_change_46 : decode b_M_change 46 = .ok (.iload_n 3, 1) := by decide +kernel
theorem d_M_change_47 : decode b_M_change 47 = .ok (.iadd, 1) := by decide +kernel
theorem d_M_change_48 : decode b_M_change 48 = .ok (.iconst 1, 1) := by decide +kernel
theorem d_M_change_49 : decode b_M_change 49 = .ok (.iadd, 1) := by decide +kernel
theorem d_M_change_50 : decode b_M_change 50 = .ok (.iaload, 1) := by decide +kernel
theorem d_M_change_51 : decode b_M_change 51 = .ok (.iastore, 1) := by decide +kernel
theorem d_M_change_52 : decode b_M_change 52 = .ok (.iinc 3 1, 3) := by decide +kernel
theorem d_M_change_55 : decode b_M_change 55 = .ok (.goto (-30), 3) := by decide +kernel
theorem d_M_change_58 : decode b_M_change 58 = .ok (.aload_n 0, 1) := by decide +kernel
theorem d_M_change_59 : decode b_M_change 59 = .ok (.getfield 13, 3) := by decide +kernel
theorem d_M_change_62 : decode b_M_change 62 = .ok (.iconst 4, 1) := by decide +kernel
theorem d_M_change_63 : decode b_M_change 63 = .ok (.iload_n 1, 1) := by decide +kernel
theorem d_M_change_64 : decode b_M_change 64 = .ok (.imul, 1) := by decide +kernel
theorem d_M_change_65 : decode b_M_change 65 = .ok (.iconst 3, 1) := by decide +kernel
theorem d_M_change_66 : decode b_M_change 66 = .ok (.iadd, 1) := by decide +kernel
theorem d_M_change_67 : decode b_M_change 67 = .ok (.iload_n 2, 1) := by decide +kernel
theorem d_M_change_68 : decode b_M_change 68 = .ok (.iastore, 1) := by decide +kernel
theorem d_M_change_69 : decode b_M_change 69 = .ok (.aload_n 0, 1) := by decide +kernel
theorem d_M_change_70 : decode b_M_change 70 = .ok (.getfield 7, 3) := by decide +kernel
theorem d_M_change_73 : decode b_M_change 73 = .ok (.iload_n 1, 1) := by decide +kernel
theorem d_M_change_74 : decode b_M_change 74 = .ok (.aload_n 0, 1) := by decide +kernel
theorem d_M_change_75 : decode b_M_change 75 = .ok (.getfield 7, 3) := by decide +kernel
theorem d_M_change_78 : decode b_M_change 78 = .ok (.iload_n 1, 1) := by decide +kernel
theorem d_M_change_79 : decode b_M_change 79 = .ok (.iaload, 1) := by decide +kernel
theorem d_M_change_80 : decode b_M_change 80 = .ok (.ineg, 1) := by decide +kernel
theorem d_M_change_81 : decode b_M_change 81 = .ok (.iastore, 1) := by decide +kernel
theorem d_M_change_82 : decode b_M_change 82 = .ok (.aload_n 0, 1) := by decide +kernel
theorem d_M_change_83 : decode b_M_change 83 = .ok (.iconst 0, 1) := by decide +kernel
theorem d_M_change_84 : decode b_M_change 84 = .ok (.putfield 46, 3) := by decide +kernel
theorem d_M_change_87 : decode b_M_change 87 = .ok (.iconst 1, 1) := by decide +kernel
theorem d_M_change_88 : decode b_M_change 88 = .ok (.ireturn, 1) := by decide +kernel
theorem d_M_exchange_0 : decode b_M_exchange 0 = .ok (.aload_n 0, 1) := by decide +kernel
theorem d_M_exchange_1 : decode b_M_exchange 1 = .ok (.getfield 7, 3) := by decide +kernel
theorem d_M_exchange_4 : decode b_M_exchange 4 = .ok (.iload_n 1, 1) := by decide +kernel
theorem d_M_exchange_5 : decode b_M_exchange 5 = .ok (.iaload, 1) := by decide +kernel
theorem d_M_exchange_6 : decode b_M_exchange 6 = .ok (.istore_n 2, 1) := by decide +kernel
theorem d_M_exchange_7 : decode b_M_exchange 7 = .ok (.aload_n 0, 1) := by decide +kernel
theorem d_M_exchange_8 : decode b_M_exchange 8 = .ok (.getfield 7, 3) := by decide +kernel
theorem d_M_exchange_11 : decode b_M_exchange 11 = .ok (.iload_n 1, 1) := by decide +kernel
theorem d_M_exchange_12 : decode b_M_exchange 12 = .ok (.aload_n 0, 1) := by decide +kernel
theorem d_M_exchange_13 : decode b_M_exchange 13 = .ok (.getfield 7, 3) := by decide +kernel
theorem d_M_exchange_16 : decode b_M_exchange 16 = .ok (.iload_n 1, 1) := by decide +kernel
theorem d_M_exchange_17 : decode b_M_exchange 17 = .ok (.iconst 1, 1) := by decide +kernel
theorem d_M_exchange_18 : decode b_M_exchange 18 = .ok (.iadd, 1) := by decide +kernel
theorem d_M_exchange_19 : decode b_M_exchange 19 = .ok (.iaload, 1) := by decide +kernel
theorem d_M_exchange_20 : decode b_M_exchange 20 = .ok (.iastore, 1) := by decide +kernel
theorem d_M_exchange_21 : decode b_M_exchange 21 = .ok (.aload_n 0, 1) := by decide +kernel
theorem d_M_exchange_22 : decode b_M_exchange 22 = .ok (.getfield 7, 3) := by decide +kernel
theorem d_M_exchange_25 : decode b_M_exchange 25 = .ok (.iload_n 1, 1) := by decide +kernel
theorem d_M_exchange_26 : decode b_M_exchange 26 = .ok (.iconst 1, 1) := by decide +kernel
theorem d_M_exchange_27 : decode b_M_exchange 27 = .ok (.iadd, 1) := by decide +kernel
theorem d_M_exchange_28 : decode b_M_exchange 28 = .ok (.iload_n 2, 1) := by decide +kernel
theorem d_M_exchange_29 : decode b_M_exchange 29 = .ok (.iastore, 1) := by decide +kernel
theorem d_M_exchange_30 : decode b_M_exchange 30 = .ok (.iconst 0, 1) := by decide +kernel
theorem d_M_exchange_31 : decode b_M_exchange 31 = .ok (.istore_n 3, 1) := by decide +kernel
theorem d_M_exchange_32 : decode b_M_exchange 32 = .ok (.iload_n 3, 1) := by decide +kernel
theorem d_M_exchange_33 : decode b_M_exchange 33 = .ok (.iconst 4, 1) := by decide +kernel
theorem d_M_exchange_34 : decode b_M_exchange 34 = .ok (.if_icmp .ge 57, 3) := by decide +kernel
theorem d_M_exchange_37 : decode b_M_exchange 37 = .ok (.aload_n 0, 1) := by decide +kernel
theorem d_M_exchange_38 : decode b_M_exchange 38 = .ok (.getfield 13, 3) := by decide +kernel
theorem d_M_exchange_41 : decode b_M_exchange 41 = .ok (.iconst 4, 1) := by decide +kernel
theorem d_M_exchange_42 : decode b_M_exchange 42 = .ok (.iload_n 1, 1) := by decide +kernel
theorem d_M_exchange_43 : decode b_M_exchange 43 = .ok (.imul, 1) := by decide +kernel
theorem d_M_exchange_44 : decode b_M_exchange 44 = .ok (.iload_n 3, 1) := by decide +kernel
theorem d_M_exchange_45 : decode b_M_exchange 45 = .ok (.iadd, 1) := by decide +kernel
theorem d_M_exchange_46 : decode b_M_exchange 46 = .ok (.iaload, 1) := by decide +kernel
theorem d_M_exchange_47 : decode b_M_exchange 47 = .ok (.istore 4, 2) := by decide +kernel
theorem d_M_exchange_49 : decode b_M_exchange 49 = .ok (.aload_n 0, 1) := by decide +kernel
theorem d_M_exchange_50 : decode b_M_exchange 50 = .ok (.getfield 13, 3) := by decide +kernel
theorem d_M_exchange_53 : decode b_M_exchange 53 = .ok (.iconst 4, 1) := by decide +kernel
theorem d_M_exchange_54 : decode b_M_exchange 54 = .ok (.iload_n 1, 1) := by decide +kernel
theorem d_M_exchange_55 : decode b_M_exchange 55 = .ok (.imul, 1) := by decide +kernel
theorem d_M_exchange_56 : decode b_M_exchange 56 = .ok (.iload_n 3, 1) := by decide +kernel
theorem d_M_exchange_57 : decode b_M_exchange 57 = .ok (.iadd, 1) := by decide +kernel
theorem d_M_exchange_58 : decode b_M_exchange 58 = .ok (.aload_n 0, 1) := by decide +kernel
theorem d_M_exchange_59 : decode b_M_exchange 59 = .ok (.getfield 13, 3) := by decide +kernel
theorem d_M_exchange_62 : decode b_M_exchange 62 = .ok (.iconst 4, 1) := by decide +kernel
theorem d_M_exchange_63 : decode b_M_exchange 63 = .ok (.iload_n 1, 1) := by decide +kernel
theorem d_M_exchange_64 : decode b_M_exchange 64 = .ok (.imul, 1) := by decide +kernel
theorem d_M_exchange_65 : decode b_M_exchange 65 = .ok (.iconst 4, 1) := by decide +kernel
theorem d_M_exchange_66 : decode b_M_exchange 66 = .ok (.iadd, 1) := by decide +kernel
theorem d_M_exchange_67 : decode b_M_exchange 67 = .ok (.iload_n 3, 1) := by decide +kernel
theorem d_M_exchange_68 : decode b_M_exchange 68 = .ok (.iadd, 1) := by decide +kernel
theorem d_M_exchange_69 : decode b_M_exchange 69 = .ok (.iaload, 1) := by decide +kernel
theorem d_M_exchange_70 : decode b_M_exchange 70 = .ok (.iastore, 1) := by decide +kernel
theorem d_M_exchange_71 : decode b_M_exchange 71 = .ok (.aload_n 0, 1) := by decide +kernel
theorem d_M_exchange_72 : decode b_M_exchange 72 = .ok (.getfield 13, 3) := by decide +kernel
theorem d_M_exchange_75 : decode b_M_exchange 75 = .ok (.iconst 4, 1) := by decide +kernel
theorem d_M_exchange_76 : decode b_M_exchange 76 = .ok (.iload_n 1, 1) := by decide +kernel
theorem d_M_exchange_77 : decode b_M_exchange 77 = .ok (.imul, 1) := by decide +kernel
theorem d_M_exchange_78 : decode b_M_exchange 78 = .ok (.iconst 4, 1) := by decide +kernel
theorem d_M_exchange_79 : decode b_M_exchange 79 = .ok (.iadd, 1) := by decide +kernel
theorem d_M_exchange_80 : decode b_M_exchange 80 = .ok (.iload_n 3, 1) := by decide +kernel
theorem d_M_exchange_81 : decode b_M_exchange 81 = .ok (.iadd, 1) := by decide +kernel
theorem d_M_exchange_82 : decode b_M_exchange 82 = .ok (.iload 4, 2) := by decide +kernel
theorem d_M_exchange_84 : decode b_M_exchange 84 = .ok (.iastore, 1) := by decide +kernel
theorem d_M_exchange_85 : decode b_M_exchange 85 = .ok (.iinc 3 1, 3) := by decide +kernel
theorem d_M_exchange_88 : decode b_M_exchange 88 = .ok (.goto (-56), 3) := by decide +kernel
theorem d_M_exchange_91 : decode b_M_exchange 91 = .ok (.return_, 1) := by decide +kernel
theorem d_M_move_0 : decode b_M_move 0 = .ok (.iload_n 1, 1) := by decide +kernel
theorem d_M_move_1 : decode b_M_move 1 = .ok (.ifCond .lt 23, 3) := by decide +kernel
theorem d_M_move_4 : decode b_M_move 4 = .ok (.iload_n 1, 1) := by decide +kernel
theorem d_M_move_5 : decode b_M_move 5 = .ok (.aload_n 0, 1) := by decide +kernel
theorem d_M_move_6 : decode b_M_move 6 = .ok (.getfield 43, 3) := by decide +kernel
theorem d_M_move_9 : decode b_M_move 9 = .ok (.if_icmp .ge 15, 3) := by decide +kernel
theorem d_M_move_12 : decode b_M_move 12 = .ok (.iload_n 2, 1) := by decide +kernel
theorem d_M_move_13 : decode b_M_move 13 = .ok (.ifCond .lt 11, 3) := by decide +kernel
theorem d_M_move_16 : decode b_M_move 16 = .ok (.iload_n 2, 1) := by decide +kernel
theorem d_M_move_17 : decode b_M_move 17 = .ok (.aload_n 0, 1) := by decide +kernel
theorem d_M_move_18 : decode b_M_move 18 = .ok (.getfield 43, 3) := by decide +kernel
theorem d_M_move_21 : decode b_M_move 21 = .ok (.if_icmp .lt 5, 3) := by decide +kernel
theorem d_M_move_24 : decode b_M_move 24 = .ok (.iconst 0, 1) := by decide +kernel
theorem d_M_move_25 : decode b_M_move 25 = .ok (.ireturn, 1) := by decide +kernel
theorem d_M_move_26 : decode b_M_move 26 = .ok (.iload_n 1, 1) := by decide +kernel
theorem d_M_move_27 : decode b_M_move 27 = .ok (.istore_n 3, 1) := by decide +kernel
theorem d_M_move_28 : decode b_M_move 28 = .ok (.iload_n 3, 1) := by decide +kernel
theorem d_M_move_29 : decode b_M_move 29 = .ok (.iload_n 2, 1) := by decide +kernel
theorem d_M_move_30 : decode b_M_move 30 = .ok (.if_icmp .ge 14, 3) := by decide +kernel
theorem d_M_move_33 : decode b_M_move 33 = .ok (.aload_n 0, 1) := by decide +kernel
theorem d_M_move_34 : decode b_M_move 34 = .ok (.iload_n 3, 1) := by decide +kernel
theorem d_M_move_35 : decode b_M_move 35 = .ok (.invokevirtual 109, 3) := by decide +kernel
theorem d_M_move_38 : decode b_M_move 38 = .ok (.iinc 3 1, 3) := by decide +kernel
theorem d_M_move_41 : decode b_M_move 41 = .ok (.goto (-13), 3) := by decide +kernel
theorem d_M_move_44 : decode b_M_move 44 = .ok (.iload_n 1, 1) := by decide +kernel
theorem d_M_move_45 : decode b_M_move 45 = .ok (.iconst 1, 1) := by decide +kernel
theorem d_M_move_46 : decode b_M_move 46 = .ok (.isub, 1) := by decide +kernel
theorem d_M_move_47 : decode b_M_move 47 = .ok (.istore_n 3, 1) := by decide +kernel
theorem d_M_move_48 : decode b_M_move 48 = .ok (.iload_n 3, 1) := by decide +kernel
theorem d_M_move_49 : decode b_M_move 49 = .ok (.iload_n 2, 1) := by decide +kernel
theorem d_M_move_50 : decode b_M_move 50 = .ok (.if_icmp .lt 14, 3) := by decide +kernel
theorem d_M_move_53 : decode b_M_move 53 = .ok (.aload_n 0, 1) := by decide +kernel
theorem d_M_move_54 : decode b_M_move 54 = .ok (.iload_n 3, 1) := by decide +kernel
theorem d_M_move_55 : decode b_M_move 55 = .ok (.invokevirtual 109, 3) := by decide +kernel
theorem d_M_move_58 : decode b_M_move 58 = .ok (.iinc 3 (-1), 3) := by decide +kernel
theorem d_M_move_61 : decode b_M_move 61 = .ok (.goto (-13), 3) := by decide +kernel
theorem d_M_move_64 : decode b_M_move 64 = .ok (.iconst 1, 1) := by decide +kernel
theorem d_M_move_65 : decode b_M_move 65 = .ok (.ireturn, 1) := by decide +kernel
theorem d_P_init_0 : decode b_P_init 0 = .ok (.aload_n 0, 1) := by decide +kernel
theorem d_P_init_1 : decode b_P_init 1 = .ok (.invokespecial 3, 3) := by decide +kernel
theorem d_P_init_4 : decode b_P_init 4 = .ok (.aload_n 0, 1) := by decide +kernel
theorem d_P_init_5 : decode b_P_init 5 = .ok (.sipush 133, 3) := by decide +kernel
theorem d_P_init_8 : decode b_P_init 8 = .ok (.newarray .long, 2) := by decide +kernel
theorem d_P_init_10 : decode b_P_init 10 = .ok (.putfield 9, 3) := by decide +kernel
theorem d_P_init_13 : decode b_P_init 13 = .ok (.aload_n 0, 1) := by decide +kernel
theorem d_P_init_14 : decode b_P_init 14 = .ok (.sipush 133, 3) := by decide +kernel
theorem d_P_init_17 : decode b_P_init 17 = .ok (.newarray .long, 2) := by decide +kernel
theorem d_P_init_19 : decode b_P_init 19 = .ok (.putfield 15, 3) := by decide +kernel
theorem d_P_init_22 : decode b_P_init 22 = .ok (.return_, 1) := by decide +kernel
theorem d_P_setZero_0 : decode b_P_setZero 0 = .ok (.aload_n 0, 1) := by decide +kernel
theorem d_P_setZero_1 : decode b_P_setZero 1 = .ok (.getfield 9, 3) := by decide +kernel
theorem d_P_setZero_4 : decode b_P_setZero 4 = .ok (.lconst 0, 1) := by decide +kernel
theorem d_P_setZero_5 : decode b_P_setZero 5 = .ok (.invokestatic 18, 3) := by decide +kernel
theorem d_P_setZero_8 : decode b_P_setZero 8 = .ok (.return_, 1) := by decide +kernel
theorem d_P_at_0 : decode b_P_at 0 = .ok (.lload_n 1, 1) := by decide +kernel
theorem d_P_at_1 : decode b_P_at 1 = .ok (.ldc2_w 24, 3) := by decide +kernel
theorem d_P_at_4 : decode b_P_at 4 = .ok (.lcmp, 1) := by decide +kernel
theorem d_P_at_5 : decode b_P_at 5 = .ok (.ifCond .lt 11, 3) := by decide +kernel
theorem d_P_at_8 : decode b_P_at 8 = .ok (.lload_n 1, 1) := by decide +kernel
theorem d_P_at_9 : decode b_P_at 9 = .ok (.ldc2_w 26, 3) := by decide +kernel
theorem d_P_at_12 : decode b_P_at 12 = .ok (.lcmp, 1) := by decide +kernel
theorem d_P_at_13 : decode b_P_at 13 = .ok (.ifCond .le 7, 3) := by decide +kernel
theorem d_P_at_16 : decode b_P_at 16 = .ok (.lconst 0, 1) := by decide +kernel
theorem d_P_at_17 : decode b_P_at 17 = .ok (.goto 13, 3) := by decide +kernel
theorem d_P_at_20 : decode b_P_at 20 = .ok (.aload_n 0, 1) := by decide +kernel
theorem d_P_at_21 : decode b_P_at 21 = .ok (.getfield 9, 3) := by decide +kernel
theorem d_P_at_24 : decode b_P_at 24 = .ok (.lload_n 1, 1) := by decide +kernel
theorem d_P_at_25 : decode b_P_at 25 = .ok (.l2i, 1) := by decide +kernel
theorem d_P_at_26 : decode b_P_at 26 = .ok (.bipush 66, 2) := by decide +kernel
theorem d_P_at_28 : decode b_P_at 28 = .ok (.iadd, 1) := by decide +kernel
theorem d_P_at_29 : decode b_P_at 29 = .ok (.laload, 1) := by decide +kernel
theorem d_P_at_30 : decode b_P_at 30 = .ok (.lreturn, 1) := by decide +kernel
theorem d_P_add_0 : decode b_P_add 0 = .ok (.iload_n 1, 1) := by decide +kernel
theorem d_P_add_1 : decode b_P_add 1 = .ok (.bipush (-66), 2) := by decide +kernel
theorem d_P_add_3 : decode b_P_add 3 = .ok (.if_icmp .lt 22, 3) := by decide +kernel
theorem d_P_add_6 : decode b_P_add 6 = .ok (.iload_n 1, 1) := by decide +kernel
theorem d_P_add_7 : decode b_P_add 7 = .ok (.bipush 66, 2) := by decide +kernel
theorem d_P_add_9 : decode b_P_add 9 = .ok (.if_icmp .gt 16, 3) := by decide +kernel
theorem d_P_add_12 : decode b_P_add 12 = .ok (.aload_n 0, 1) := by decide +kernel
theorem d_P_add_13 : decode b_P_add 13 = .ok (.getfield 9, 3) := by decide +kernel
theorem d_P_add_16 : decode b_P_add 16 = .ok (.iload_n 1, 1) := by decide +kernel
theorem d_P_add_17 : decode b_P_add 17 = .ok (.bipush 66, 2) := by decide +kernel
theorem d_P_add_19 : decode b_P_add 19 = .ok (.iadd, 1) := by decide +kernel
theorem d_P_add_20 : decode b_P_add 20 = .ok (.dup2, 1) := by decide +kernel
theorem d_P_add_21 : decode b_P_add 21 = .ok (.laload, 1) := by decide +kernel
theorem d_P_add_22 : decode b_P_add 22 = .ok (.lload_n 2, 1) := by decide +kernel
theorem d_P_add_23 : decode b_P_add 23 = .ok (.ladd, 1) := by decide +kernel
theorem d_P_add_24 : decode b_P_add 24 = .ok (.lastore, 1) := by decide +kernel
theorem d_P_add_25 : decode b_P_add 25 = .ok (.return_, 1) := by decide +kernel
theorem d_P_timesD_0 : decode b_P_timesD 0 = .ok (.bipush (-66), 2) := by decide +kernel
theorem d_P_timesD_2 : decode b_P_timesD 2 = .ok (.istore_n 1, 1) := by decide +kernel
theorem d_P_timesD_3 : decode b_P_timesD 3 = .ok (.iload_n 1, 1) := by decide +kernel
theorem d_P_timesD_4 : decode b_P_timesD 4 = .ok (.bipush 66, 2) := by decide +kernel
theorem d_P_timesD_6 : decode b_P_timesD 6 = .ok (.if_icmp .gt 36, 3) := by decide +kernel
theorem d_P_timesD_9 : decode b_P_timesD 9 = .ok (.aload_n 0, 1) := by decide +kernel
theorem d_P_timesD_10 : decode b_P_timesD 10 = .ok (.getfield 15, 3) := by decide +kernel
theorem d_P_timesD_13 : decode b_P_timesD 13 = .ok (.iload_n 1, 1) := by decide +kernel
theorem d_P_timesD_14 : decode b_P_timesD 14 = .ok (.bipush 66, 2) := by decide +kernel
theorem d_P_timesD_16 : decode b_P_timesD 16 = .ok (.iadd, 1) := by decide +kernel
theorem d_P_timesD_17 : decode b_P_timesD 17 = .ok (.aload_n 0, 1) := by decide +kernel
theorem d_P_timesD_18 : decode b_P_timesD 18 = .ok (.iload_n 1, 1) := by decide +kernel
theorem d_P_timesD_19 : decode b_P_timesD 19 = .ok (.iconst 2, 1) := by decide +kernel
theorem d_P_timesD_20 : decode b_P_timesD 20 = .ok (.isub, 1) := by decide +kernel
theorem d_P_timesD_21 : decode b_P_timesD 21 = .ok (.i2l, 1) := by decide +kernel
theorem d_P_timesD_22 : decode b_P_timesD 22 = .ok (.invokevirtual 28, 3) := by decide +kernel
theorem d_P_timesD_25 : decode b_P_timesD 25 = .ok (.lneg, 1) := by decide +kernel
theorem d_P_timesD_26 : decode b_P_timesD 26 = .ok (.aload_n 0, 1) := by decide +kernel
theorem d_P_timesD_27 : decode b_P_timesD 27 = .ok (.iload_n 1, 1) := by decide +kernel
theorem d_P_timesD_28 : decode b_P_timesD 28 = .ok (.iconst 2, 1) := by decide +kernel
theorem d_P_timesD_29 : decode b_P_timesD 29 = .ok (.iadd, 1) := by decide +kernel
theorem d_P_timesD_30 : decode b_P_timesD 30 = .ok (.i2l, 1) := by decide +kernel
theorem d_P_timesD_31 : decode b_P_timesD 31 = .ok (.invokevirtual 28, 3) := by decide +kernel
theorem d_P_timesD_34 : decode b_P_timesD 34 = .ok (.lsub, 1) := by decide +kernel
theorem d_P_timesD_35 : decode b_P_timesD 35 = .ok (.lastore, 1) := by decide +kernel
theorem d_P_timesD_36 : decode b_P_timesD 36 = .ok (.iinc 1 1, 3) := by decide +kernel
theorem d_P_timesD_39 : decode b_P_timesD 39 = .ok (.goto (-36), 3) := by decide +kernel
theorem d_P_timesD_42 : decode b_P_timesD 42 = .ok (.aload_n 0, 1) := by decide +kernel
theorem d_P_timesD_43 : decode b_P_timesD 43 = .ok (.getfield 15, 3) := by decide +kernel
theorem d_P_timesD_46 : decode b_P_timesD 46 = .ok (.astore_n 1, 1) := by decide +kernel
theorem d_P_timesD_47 : decode b_P_timesD 47 = .ok (.aload_n 0, 1) := by decide +kernel
theorem d_P_timesD_48 : decode b_P_timesD 48 = .ok (.aload_n 0, 1) := by decide +kernel
theorem d_P_timesD_49 : decode b_P_timesD 49 = .ok (.getfield 9, 3) := by decide +kernel
theorem d_P_timesD_52 : decode b_P_timesD 52 = .ok (.putfield 15, 3) := by decide +kernel
theorem d_P_timesD_55 : decode b_P_timesD 55 = .ok (.aload_n 0, 1) := by decide +kernel
theorem d_P_timesD_56 : decode b_P_timesD 56 = .ok (.aload_n 1, 1) := by decide +kernel
theorem d_P_timesD_57 : decode b_P_timesD 57 = .ok (.putfield 9, 3) := by decide +kernel
theorem d_P_timesD_60 : decode b_P_timesD 60 = .ok (.return_, 1) := by decide +kernel
theorem d_P_isZero_0 : decode b_P_isZero 0 = .ok (.aload_n 0, 1) := by decide +kernel
theorem d_P_isZero_1 : decode b_P_isZero 1 = .ok (.getfield 9, 3) := by decide +kernel
theorem d_P_isZero_4 : decode b_P_isZero 4 = .ok (.aload_n 0, 1) := by decide +kernel
theorem d_P_isZero_5 : decode b_P_isZero 5 = .ok (.invokevirtual 32, 3) := by decide +kernel
theorem d_P_isZero_8 : decode b_P_isZero 8 = .ok (.bipush 66, 2) := by decide +kernel
theorem d_P_isZero_10 : decode b_P_isZero 10 = .ok (.iadd, 1) := by decide +kernel
theorem d_P_isZero_11 : decode b_P_isZero 11 = .ok (.laload, 1) := by decide +kernel
theorem d_P_isZero_12 : decode b_P_isZero 12 = .ok (.lconst 0, 1) := by decide +kernel
theorem d_P_isZero_13 : decode b_P_isZero 13 = .ok (.lcmp, 1) := by decide +kernel
theorem d_P_isZero_14 : decode b_P_isZero 14 = .ok (.ifCond .ne 7, 3) := by decide +kernel
theorem d_P_isZero_17 : decode b_P_isZero 17 = .ok (.iconst 1, 1) := by decide +kernel
theorem d_P_isZero_18 : decode b_P_isZero 18 = .ok (.goto 4, 3) := by decide +kernel
theorem d_P_isZero_21 : decode b_P_isZero 21 = .ok (.iconst 0, 1) := by decide +kernel
theorem d_P_isZero_22 : decode b_P_isZero 22 = .ok (.ireturn, 1) := by decide +kernel
theorem d_P_least_0 : decode b_P_least 0 = .ok (.bipush (-66), 2) := by decide +kernel
theorem d_P_least_2 : decode b_P_least 2 = .ok (.istore_n 1, 1) := by decide +kernel
theorem d_P_least_3 : decode b_P_least 3 = .ok (.iload_n 1, 1) := by decide +kernel
theorem d_P_least_4 : decode b_P_least 4 = .ok (.bipush 66, 2) := by decide +kernel
theorem d_P_least_6 : decode b_P_least 6 = .ok (.if_icmp .gt 25, 3) := by decide +kernel
theorem d_P_least_9 : decode b_P_least 9 = .ok (.aload_n 0, 1) := by decide +kernel
theorem d_P_least_10 : decode b_P_least 10 = .ok (.getfield 9, 3) := by decide +kernel
theorem d_P_least_13 : decode b_P_least 13 = .ok (.iload_n 1, 1) := by decide +kernel
theorem d_P_least_14 : decode b_P_least 14 = .ok (.bipush 66, 2) := by decide +kernel
theorem d_P_least_16 : decode b_P_least 16 = .ok (.iadd, 1) := by decide +kernel
theorem d_P_least_17 : decode b_P_least 17 = .ok (.laload, 1) := by decide +kernel
theorem d_P_least_18 : decode b_P_least 18 = .ok (.lconst 0, 1) := by decide +kernel
theorem d_P_least_19 : decode b_P_least 19 = .ok (.lcmp, 1) := by decide +kernel
theorem d_P_least_20 : decode b_P_least 20 = .ok (.ifCond .eq 5, 3) := by decide +kernel
theorem d_P_least_23 : decode b_P_least 23 = .ok (.iload_n 1, 1) := by decide +kernel
theorem d_P_least_24 : decode b_P_least 24 = .ok (.ireturn, 1) := by decide +kernel
theorem d_P_least_25 : decode b_P_least 25 = .ok (.iinc 1 1, 3) := by decide +kernel
theorem d_P_least_28 : decode b_P_least 28 = .ok (.goto (-25), 3) := by decide +kernel
theorem d_P_least_31 : decode b_P_least 31 = .ok (.iconst 0, 1) := by decide +kernel
theorem d_P_least_32 : decode b_P_least 32 = .ok (.ireturn, 1) := by decide +kernel
theorem d_P_greatest_0 : decode b_P_greatest 0 = .ok (.bipush 66, 2) := by decide +kernel
theorem d_P_greatest_2 : decode b_P_greatest 2 = .ok (.istore_n 1, 1) := by decide +kernel
theorem d_P_greatest_3 : decode b_P_greatest 3 = .ok (.iload_n 1, 1) := by decide +kernel
theorem d_P_greatest_4 : decode b_P_greatest 4 = .ok (.bipush (-66), 2) := by decide +kernel
theorem d_P_greatest_6 : decode b_P_greatest 6 = .ok (.if_icmp .lt 25, 3) := by decide +kernel
theorem d_P_greatest_9 : decode b_P_greatest 9 = .ok (.aload_n 0, 1) := by decide +kernel
theorem d_P_greatest_10 : decode b_P_greatest 10 = .ok (.getfield 9, 3) := by decide +kernel
theorem d_P_greatest_13 : decode b_P_greatest 13 = .ok (.iload_n 1, 1) := by decide +kernel
theorem d_P_greatest_14 : decode b_P_greatest 14 = .ok (.bipush 66, 2) := by decide +kernel
theorem d_P_greatest_16 : decode b_P_greatest 16 = .ok (.iadd, 1) := by decide +kernel
theorem d_P_greatest_17 : decode b_P_greatest 17 = .ok (.laload, 1) := by decide +kernel
theorem d_P_greatest_18 : decode b_P_greatest 18 = .ok (.lconst 0, 1) := by decide +kernel
theorem d_P_greatest_19 : decode b_P_greatest 19 = .ok (.lcmp, 1) := by decide +kernel
theorem d_P_greatest_20 : decode b_P_greatest 20 = .ok (.ifCond .eq 5, 3) := by decide +kernel
theorem d_P_greatest_23 : decode b_P_greatest 23 = .ok (.iload_n 1, 1) := by decide +kernel
theorem d_P_greatest_24 : decode b_P_greatest 24 = .ok (.ireturn, 1) := by decide +kernel
theorem d_P_greatest_25 : decode b_P_greatest 25 = .ok (.iinc 1 (-1), 3) := by decide +kernel
theorem d_P_greatest_28 : decode b_P_greatest 28 = .ok (.goto (-25), 3) := by decide +kernel
theorem d_P_greatest_31 : decode b_P_greatest 31 = .ok (.iconst 0, 1) := by decide +kernel
theorem d_P_greatest_32 : decode b_P_greatest 32 = .ok (.ireturn, 1) := by decide +kernel
theorem d_W_init_0 : decode b_W_init 0 = .ok (.aload_n 0, 1) := by decide +kernel
theorem d_W_init_1 : decode b_W_init 1 = .ok (.invokespecial 3, 3) := by decide +kernel
theorem d_W_init_4 : decode b_W_init 4 = .ok (.aload_n 0, 1) := by decide +kernel
theorem d_W_init_5 : decode b_W_init 5 = .ok (.bipush 40, 2) := by decide +kernel
theorem d_W_init_7 : decode b_W_init 7 = .ok (.newarray .int, 2) := by decide +kernel
theorem d_W_init_9 : decode b_W_init 9 = .ok (.putfield 9, 3) := by decide +kernel
theorem d_W_init_12 : decode b_W_init 12 = .ok (.aload_n 0, 1) := by decide +kernel
theorem d_W_init_13 : decode b_W_init 13 = .ok (.bipush 100, 2) := by decide +kernel
theorem d_W_init_15 : decode b_W_init 15 = .ok (.newarray .int, 2) := by decide +kernel
theorem d_W_init_17 : decode b_W_init 17 = .ok (.putfield 15, 3) := by decide +kernel
theorem d_W_init_20 : decode b_W_init 20 = .ok (.return_, 1) := by decide +kernel
theorem d_W_followLabels_0 : decode b_W_followLabels 0 = .ok (.aload_n 0, 1) := by decide +kernel
theorem d_W_followLabels_1 : decode b_W_followLabels 1 = .ok (.getfield 15, 3) := by decide +kernel
theorem d_W_followLabels_4 : decode b_W_followLabels 4 = .ok (.iconst (-1), 1) := by decide +kernel
theorem d_W_followLabels_5 : decode b_W_followLabels 5 = .ok (.invokestatic 18, 3) := by decide +kernel
theorem d_W_followLabels_8 : decode b_W_followLabels 8 = .ok (.iconst 0, 1) := by decide +kernel
theorem d_W_followLabels_9 : decode b_W_followLabels 9 = .ok (.istore_n 3, 1) := by decide +kernel
theorem d_W_followLabels_10 : decode b_W_followLabels 10 = .ok (.iload_n 3, 1) := by decide +kernel
theorem d_W_followLabels_11 : decode b_W_followLabels 11 = .ok (.iload_n 2, 1) := by decide +kernel
theorem d_W_followLabels_12 : decode b_W_followLabels 12 = .ok (.if_icmp .ge 52, 3) := by decide +kernel
theorem d_W_followLabels_15 : decode b_W_followLabels 15 = .ok (.aload_n 0, 1) := by decide +kernel
theorem d_W_followLabels_16 : decode b_W_followLabels 16 = .ok (.getfield 15, 3) := by decide +kernel
theorem d_W_followLabels_19 : decode b_W_followLabels 19 = .ok (.aload_n 1, 1) := by decide +kernel
theorem d_W_followLabels_20 : decode b_W_followLabels 20 = .ok (.iload_n 3, 1) := by decide +kernel
theorem d_W_followLabels_21 : decode b_W_followLabels 21 = .ok (.iaload, 1) := by decide +kernel
theorem d_W_followLabels_22 : decode b_W_followLabels 22 = .ok (.iaload, 1) := by decide +kernel
theorem d_W_followLabels_23 : decode b_W_followLabels 23 = .ok (.istore 4, 2) := by decide +kernel
theorem d_W_followLabels_25 : decode b_W_followLabels 25 = .ok (.iload 4, 2) := by decide +kernel
theorem d_W_followLabels_27 : decode b_W_followLabels 27 = .ok (.ifCond .ge 15, 3) := by decide +kernel
theorem d_W_followLabels_30 : decode b_W_followLabels 30 = .ok (.aload_n 0, 1) := by decide +kernel
theorem d_W_followLabels_31 : decode b_W_followLabels 31 = .ok (.getfield 15, 3) := by decide +kernel
theorem d_W_followLabels_34 : decode b_W_followLabels 34 = .ok (.aload_n 1, 1) := by decide +kernel
theorem d_W_followLabels_35 : decode b_W_followLabels 35 = .ok (.iload_n 3, 1) := by decide +kernel
theorem d_W_followLabels_36 : decode b_W_followLabels 36 = .ok (.iaload, 1) := by decide +kernel
theorem d_W_followLabels_37 : decode b_W_followLabels 37 = .ok (.iload_n 3, 1) := by decide +kernel
theorem d_W_followLabels_38 : decode b_W_followLabels 38 = .ok (.iastore, 1) := by decide +kernel
theorem d_W_followLabels_39 : decode b_W_followLabels 39 = .ok (.goto 19, 3) := by decide +kernel
theorem d_W_followLabels_42 : decode b_W_followLabels 42 = .ok (.aload_n 0, 1) := by decide +kernel
theorem d_W_followLabels_43 : decode b_W_followLabels 43 = .ok (.getfield 9, 3) := by decide +kernel
theorem d_W_followLabels_46 : decode b_W_followLabels 46 = .ok (.iload 4, 2) := by decide +kernel
theorem d_W_followLabels_48 : decode b_W_followLabels 48 = .ok (.iload_n 3, 1) := by decide +kernel
theorem d_W_followLabels_49 : decode b_W_followLabels 49 = .ok (.iastore, 1) := by decide +kernel
theorem d_W_followLabels_50 : decode b_W_followLabels 50 = .ok (.aload_n 0, 1) := by decide +kernel
theorem d_W_followLabels_51 : decode b_W_followLabels 51 = .ok (.getfield 9, 3) := by decide +kernel
theorem d_W_followLabels_54 : decode b_W_followLabels 54 = .ok (.iload_n 3, 1) := by decide +kernel
theorem d_W_followLabels_55 : decode b_W_followLabels 55 = .ok (.iload 4, 2) := by decide +kernel
theorem d_W_followLabels_57 : decode b_W_followLabels 57 = .ok (.iastore, 1) := by decide +kernel
theorem d_W_followLabels_58 : decode b_W_followLabels 58 = .ok (.iinc 3 1, 3) := by decide +kernel
theorem d_W_followLabels_61 : decode b_W_followLabels 61 = .ok (.goto (-51), 3) := by decide +kernel
theorem d_W_followLabels_64 : decode b_W_followLabels 64 = .ok (.return_, 1) := by decide +kernel
theorem d_W_smooth_0 : decode b_W_smooth 0 = .ok (.iconst 4, 1) := by decide +kernel
theorem d_W_smooth_1 : decode b_W_smooth 1 = .ok (.iload_n 1, 1) := by decide +kernel
theorem d_W_smooth_2 : decode b_W_smooth 2 = .ok (.imul, 1) := by decide +kernel
theorem d_W_smooth_3 : decode b_W_smooth 3 = .ok (.istore_n 3, 1) := by decide +kernel
theorem d_W_smooth_4 : decode b_W_smooth 4 = .ok (.iload_n 2, 1) := by decide +kernel
theorem d_W_smooth_5 : decode b_W_smooth 5 = .ok (.ifCond .eq 23, 3) := by decide +kernel
theorem d_W_smooth_8 : decode b_W_smooth 8 = .ok (.aload_n 0, 1) := by decide +kernel
theorem d_W_smooth_9 : decode b_W_smooth 9 = .ok (.iload_n 3, 1) := by decide +kernel
theorem d_W_smooth_10 : decode b_W_smooth 10 = .ok (.iload_n 3, 1) := by decide +kernel
theorem d_W_smooth_11 : decode b_W_smooth 11 = .ok (.iconst 1, 1) := by decide +kernel
theorem d_W_smooth_12 : decode b_W_smooth 12 = .ok (.iadd, 1) := by decide +kernel
theorem d_W_smooth_13 : decode b_W_smooth 13 = .ok (.invokevirtual 24, 3) := by decide +kernel
theorem d_W_smooth_16 : decode b_W_smooth 16 = .ok (.aload_n 0, 1) := by decide +kernel
theorem d_W_smooth_17 : decode b_W_smooth 17 = .ok (.iload_n 3, 1) := by decide +kernel
theorem d_W_smooth_18 : decode b_W_smooth 18 = .ok (.iconst 2, 1) := by decide +kernel
theorem d_W_smooth_19 : decode b_W_smooth 19 = .ok (.iadd, 1) := by decide +kernel
theorem d_W_smooth_20 : decode b_W_smooth 20 = .ok (.iload_n 3, 1) := by decide +kernel
theorem d_W_smooth_21 : decode b_W_smooth 21 = .ok (.iconst 3, 1) := by decide +kernel
theorem d_W_smooth_22 : decode b_W_smooth 22 = .ok (.iadd, 1) := by decide +kernel
theorem d_W_smooth_23 : decode b_W_smooth 23 = .ok (.invokevirtual 24, 3) := by decide +kernel
theorem d_W_smooth_26 : decode b_W_smooth 26 = .ok (.iadd, 1) := by decide +kernel
theorem d_W_smooth_27 : decode b_W_smooth 27 = .ok (.ireturn, 1) := by decide +kernel
theorem d_W_smooth_28 : decode b_W_smooth 28 = .ok (.aload_n 0, 1) := by decide +kernel
theorem d_W_smooth_29 : decode b_W_smooth 29 = .ok (.iload_n 3, 1) := by decide +kernel
theorem d_W_smooth_30 : decode b_W_smooth 30 = .ok (.iconst 1, 1) := by decide +kernel
theorem d_W_smooth_31 : decode b_W_smooth 31 = .ok (.iadd, 1) := by decide +kernel
theorem d_W_smooth_32 : decode b_W_smooth 32 = .ok (.iload_n 3, 1) := by decide +kernel
theorem d_W_smooth_33 : decode b_W_smooth 33 = .ok (.iconst 2, 1) := by decide +kernel
theorem d_W_smooth_34 : decode b_W_smooth 34 = .ok (.iadd, 1) := by decide +kernel
theorem d_W_smooth_35 : decode b_W_smooth 35 = .ok (.invokevirtual 24, 3) := by decide +kernel
theorem d_W_smooth_38 : decode b_W_smooth 38 = .ok (.aload_n 0, 1) := by decide +kernel
theorem d_W_smooth_39 : decode b_W_smooth 39 = .ok (.iload_n 3, 1) := by decide +kernel
theorem d_W_smooth_40 : decode b_W_smooth 40 = .ok (.iconst 3, 1) := by decide +kernel
theorem d_W_smooth_41 : decode b_W_smooth 41 = .ok (.iadd, 1) := by decide +kernel
theorem d_W_smooth_42 : decode b_W_smooth 42 = .ok (.iload_n 3, 1) := by decide +kernel
theorem d_W_smooth_43 : decode b_W_smooth 43 = .ok (.invokevirtual 24, 3) := by decide +kernel
theorem d_W_smooth_46 : decode b_W_smooth 46 = .ok (.iadd, 1) := by decide +kernel
theorem d_W_smooth_47 : decode b_W_smooth 47 = .ok (.ireturn, 1) := by decide +kernel
theorem d_W_undo_0 : decode b_W_undo 0 = .ok (.iconst 4, 1) := by decide +kernel
theorem d_W_undo_1 : decode b_W_undo 1 = .ok (.iload_n 1, 1) := by decide +kernel
theorem d_W_undo_2 : decode b_W_undo 2 = .ok (.imul, 1) := by decide +kernel
theorem d_W_undo_3 : decode b_W_undo 3 = .ok (.istore_n 3, 1) := by decide +kernel
theorem d_W_undo_4 : decode b_W_undo 4 = .ok (.iload_n 2, 1) := by decide +kernel
theorem d_W_undo_5 : decode b_W_undo 5 = .ok (.ifCond .eq 24, 3) := by decide +kernel
theorem d_W_undo_8 : decode b_W_undo 8 = .ok (.aload_n 0, 1) := by decide +kernel
theorem d_W_undo_9 : decode b_W_undo 9 = .ok (.iload_n 3, 1) := by decide +kernel
theorem d_W_undo_10 : decode b_W_undo 10 = .ok (.iconst 2, 1) := by decide +kernel
theorem d_W_undo_11 : decode b_W_undo 11 = .ok (.iadd, 1) := by decide +kernel
theorem d_W_undo_12 : decode b_W_undo 12 = .ok (.iload_n 3, 1) := by decide +kernel
theorem d_W_undo_13 : decode b_W_undo 13 = .ok (.iconst 3, 1) := by decide +kernel
theorem d_W_undo_14 : decode b_W_undo 14 = .ok (.iadd, 1) := by decide +kernel
theorem d_W_undo_15 : decode b_W_undo 15 = .ok (.invokevirtual 28, 3) := by decide +kernel
theorem d_W_undo_18 : decode b_W_undo 18 = .ok (.aload_n 0, 1) := by decide +kernel
theorem d_W_undo_19 : decode b_W_undo 19 = .ok (.iload_n 3, 1) := by decide +kernel
theorem d_W_undo_20 : decode b_W_undo 20 = .ok (.iload_n 3, 1) := by decide +kernel
theorem d_W_undo_21 : decode b_W_undo 21 = .ok (.iconst 1, 1) := by decide +kernel
theorem d_W_undo_22 : decode b_W_undo 22 = .ok (.iadd, 1) := by decide +kernel
theorem d_W_undo_23 : decode b_W_undo 23 = .ok (.invokevirtual 28, 3) := by decide +kernel
theorem d_W_undo_26 : decode b_W_undo 26 = .ok (.goto 21, 3) := by decide +kernel
theorem d_W_undo_29 : decode b_W_undo 29 = .ok (.aload_n 0, 1) := by decide +kernel
theorem d_W_undo_30 : decode b_W_undo 30 = .ok (.iload_n 3, 1) := by decide +kernel
