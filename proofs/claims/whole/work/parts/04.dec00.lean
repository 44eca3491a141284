theorem d_B_init_0 : decode b_B_init 0 = .ok (.aload_n 0, 1) := by decide +kernel
theorem d_B_init_1 : decode b_B_init 1 = .ok (.invokespecial 3, 3) := by decide +kernel
theorem d_B_init_4 : decode b_B_init 4 = .ok (.aload_n 0, 1) := by decide +kernel
theorem d_B_init_5 : decode b_B_init 5 = .ok (.bipush 40, 2) := by decide +kernel
theorem d_B_init_7 : decode b_B_init 7 = .ok (.newarray .int, 2) := by decide +kernel
theorem d_B_init_9 : decode b_B_init 9 = .ok (.putfield 9, 3) := by decide +kernel
theorem d_B_init_12 : decode b_B_init 12 = .ok (.aload_n 0, 1) := by decide +kernel
theorem d_B_init_13 : decode b_B_init 13 = .ok (.bipush 10, 2) := by decide +kernel
theorem d_B_init_15 : decode b_B_init 15 = .ok (.newarray .int, 2) := by decide +kernel
theorem d_B_init_17 : decode b_B_init 17 = .ok (.putfield 13, 3) := by decide +kernel
theorem d_B_init_20 : decode b_B_init 20 = .ok (.aload_n 0, 1) := by decide +kernel
theorem d_B_init_21 : decode b_B_init 21 = .ok (.iconst 0, 1) := by decide +kernel
theorem d_B_init_22 : decode b_B_init 22 = .ok (.putfield 16, 3) := by decide +kernel
theorem d_B_init_25 : decode b_B_init 25 = .ok (.aload_n 0, 1) := by decide +kernel
theorem d_B_init_26 : decode b_B_init 26 = .ok (.iconst 0, 1) := by decide +kernel
theorem d_B_init_27 : decode b_B_init 27 = .ok (.putfield 20, 3) := by decide +kernel
theorem d_B_init_30 : decode b_B_init 30 = .ok (.aload_n 0, 1) := by decide +kernel
theorem d_B_init_31 : decode b_B_init 31 = .ok (.bipush 10, 2) := by decide +kernel
theorem d_B_init_33 : decode b_B_init 33 = .ok (.newarray .int, 2) := by decide +kernel
theorem d_B_init_35 : decode b_B_init 35 = .ok (.putfield 23, 3) := by decide +kernel
theorem d_B_init_38 : decode b_B_init 38 = .ok (.aload_n 0, 1) := by decide +kernel
theorem d_B_init_39 : decode b_B_init 39 = .ok (.bipush 100, 2) := by decide +kernel
theorem d_B_init_41 : decode b_B_init 41 = .ok (.newarray .int, 2) := by decide +kernel
theorem d_B_init_43 : decode b_B_init 43 = .ok (.putfield 26, 3) := by decide +kernel
theorem d_B_init_46 : decode b_B_init 46 = .ok (.aload_n 0, 1) := by decide +kernel
theorem d_B_init_47 : decode b_B_init 47 = .ok (.bipush 10, 2) := by decide +kernel
theorem d_B_init_49 : decode b_B_init 49 = .ok (.newarray .boolean, 2) := by decide +kernel
theorem d_B_init_51 : decode b_B_init 51 = .ok (.putfield 29, 3) := by decide +kernel
theorem d_B_init_54 : decode b_B_init 54 = .ok (.aload_n 0, 1) := by decide +kernel
theorem d_B_init_55 : decode b_B_init 55 = .ok (.sipush 330, 3) := by decide +kernel
theorem d_B_init_58 : decode b_B_init 58 = .ok (.newarray .int, 2) := by decide +kernel
theorem d_B_init_60 : decode b_B_init 60 = .ok (.putfield 33, 3) := by decide +kernel
theorem d_B_init_63 : decode b_B_init 63 = .ok (.aload_n 0, 1) := by decide +kernel
theorem d_B_init_64 : decode b_B_init 64 = .ok (.new 36, 3) := by decide +kernel
theorem d_B_init_67 : decode b_B_init 67 = .ok (.dup, 1) := by decide +kernel
theorem d_B_init_68 : decode b_B_init 68 = .ok (.invokespecial 38, 3) := by decide +kernel
theorem d_B_init_71 : decode b_B_init 71 = .ok (.putfield 39, 3) := by decide +kernel
theorem d_B_init_74 : decode b_B_init 74 = .ok (.aload_n 0, 1) := by decide +kernel
theorem d_B_init_75 : decode b_B_init 75 = .ok (.new 43, 3) := by decide +kernel
theorem d_B_init_78 : decode b_B_init 78 = .ok (.dup, 1) := by decide +kernel
theorem d_B_init_79 : decode b_B_init 79 = .ok (.invokespecial 45, 3) := by decide +kernel
theorem d_B_init_82 : decode b_B_init 82 = .ok (.putfield 46, 3) := by decide +kernel
theorem d_B_init_85 : decode b_B_init 85 = .ok (.aload_n 0, 1) := by decide +kernel
theorem d_B_init_86 : decode b_B_init 86 = .ok (.iconst 0, 1) := by decide +kernel
theorem d_B_init_87 : decode b_B_init 87 = .ok (.putfield 50, 3) := by decide +kernel
theorem d_B_init_90 : decode b_B_init 90 = .ok (.aload_n 0, 1) := by decide +kernel
theorem d_B_init_91 : decode b_B_init 91 = .ok (.invokevirtual 54, 3) := by decide +kernel
theorem d_B_init_94 : decode b_B_init 94 = .ok (.return_, 1) := by decide +kernel
theorem d_B_crossing_0 : decode b_B_crossing 0 = .ok (.iload_n 1, 1) := by decide +kernel
theorem d_B_crossing_1 : decode b_B_crossing 1 = .ok (.iconst 1, 1) := by decide +kernel
theorem d_B_crossing_2 : decode b_B_crossing 2 = .ok (.if_icmp .eq 10, 3) := by decide +kernel
theorem d_B_crossing_5 : decode b_B_crossing 5 = .ok (.iload_n 1, 1) := by decide +kernel
theorem d_B_crossing_6 : decode b_B_crossing 6 = .ok (.iconst (-1), 1) := by decide +kernel
theorem d_B_crossing_7 : decode b_B_crossing 7 = .ok (.if_icmp .eq 5, 3) := by decide +kernel
theorem d_B_crossing_10 : decode b_B_crossing 10 = .ok (.iconst (-1), 1) := by decide +kernel
theorem d_B_crossing_11 : decode b_B_crossing 11 = .ok (.ireturn, 1) := by decide +kernel
theorem d_B_crossing_12 : decode b_B_crossing 12 = .ok (.iload_n 2, 1) := by decide +kernel
theorem d_B_crossing_13 : decode b_B_crossing 13 = .ok (.invokestatic 57, 3) := by decide +kernel
theorem d_B_crossing_16 : decode b_B_crossing 16 = .ok (.ifCond .eq 26, 3) := by decide +kernel
theorem d_B_crossing_19 : decode b_B_crossing 19 = .ok (.iload_n 3, 1) := by decide +kernel
theorem d_B_crossing_20 : decode b_B_crossing 20 = .ok (.invokestatic 57, 3) := by decide +kernel
theorem d_B_crossing_23 : decode b_B_crossing 23 = .ok (.ifCond .eq 19, 3) := by decide +kernel
theorem d_B_crossing_26 : decode b_B_crossing 26 = .ok (.iload 4, 2) := by decide +kernel
theorem d_B_crossing_28 : decode b_B_crossing 28 = .ok (.invokestatic 57, 3) := by decide +kernel
theorem d_B_crossing_31 : decode b_B_crossing 31 = .ok (.ifCond .eq 11, 3) := by decide +kernel
theorem d_B_crossing_34 : decode b_B_crossing 34 = .ok (.iload 5, 2) := by decide +kernel
theorem d_B_crossing_36 : decode b_B_crossing 36 = .ok (.invokestatic 57, 3) := by decide +kernel
theorem d_B_crossing_39 : decode b_B_crossing 39 = .ok (.ifCond .ne 5, 3) := by decide +kernel
theorem d_B_crossing_42 : decode b_B_crossing 42 = .ok (.iconst (-1), 1) := by decide +kernel
theorem d_B_crossing_43 : decode b_B_crossing 43 = .ok (.ireturn, 1) := by decide +kernel
theorem d_B_crossing_44 : decode b_B_crossing 44 = .ok (.aload_n 0, 1) := by decide +kernel
theorem d_B_crossing_45 : decode b_B_crossing 45 = .ok (.getfield 16, 3) := by decide +kernel
theorem d_B_crossing_48 : decode b_B_crossing 48 = .ok (.bipush 10, 2) := by decide +kernel
theorem d_B_crossing_50 : decode b_B_crossing 50 = .ok (.if_icmp .lt 5, 3) := by decide +kernel
theorem d_B_crossing_53 : decode b_B_crossing 53 = .ok (.iconst (-1), 1) := by decide +kernel
theorem d_B_crossing_54 : decode b_B_crossing 54 = .ok (.ireturn, 1) := by decide +kernel
theorem d_B_crossing_55 : decode b_B_crossing 55 = .ok (.iconst 4, 1) := by decide +kernel
theorem d_B_crossing_56 : decode b_B_crossing 56 = .ok (.aload_n 0, 1) := by decide +kernel
theorem d_B_crossing_57 : decode b_B_crossing 57 = .ok (.getfield 16, 3) := by decide +kernel
theorem d_B_crossing_60 : decode b_B_crossing 60 = .ok (.imul, 1) := by decide +kernel
theorem d_B_crossing_61 : decode b_B_crossing 61 = .ok (.istore 6, 2) := by decide +kernel
theorem d_B_crossing_63 : decode b_B_crossing 63 = .ok (.aload_n 0, 1) := by decide +kernel
theorem d_B_crossing_64 : decode b_B_crossing 64 = .ok (.getfield 9, 3) := by decide +kernel
theorem d_B_crossing_67 : decode b_B_crossing 67 = .ok (.iload 6, 2) := by decide +kernel
theorem d_B_crossing_69 : decode b_B_crossing 69 = .ok (.iload_n 2, 1) := by decide +kernel
theorem d_B_crossing_70 : decode b_B_crossing 70 = .ok (.iastore, 1) := by decide +kernel
theorem d_B_crossing_71 : decode b_B_crossing 71 = .ok (.aload_n 0, 1) := by decide +kernel
theorem d_B_crossing_72 : decode b_B_crossing 72 = .ok (.getfield 9, 3) := by decide +kernel
theorem d_B_crossing_75 : decode b_B_crossing 75 = .ok (.iload 6, 2) := by decide +kernel
theorem d_B_crossing_77 : decode b_B_crossing 77 = .ok (.iconst 1, 1) := by decide +kernel
theorem d_B_crossing_78 : decode b_B_crossing 78 = .ok (.iadd, 1) := by decide +kernel
theorem d_B_crossing_79 : decode b_B_crossing 79 = .ok (.iload_n 3, 1) := by decide +kernel
theorem d_B_crossing_80 : decode b_B_crossing 80 = .ok (.iastore, 1) := by decide +kernel
theorem d_B_crossing_81 : decode b_B_crossing 81 = .ok (.aload_n 0, 1) := by decide +kernel
theorem d_B_crossing_82 : decode b_B_crossing 82 = .ok (.getfield 9, 3) := by decide +kernel
theorem d_B_crossing_85 : decode b_B_crossing 85 = .ok (.iload 6, 2) := by decide +kernel
theorem d_B_crossing_87 : decode b_B_crossing 87 = .ok (.iconst 2, 1) := by decide +kernel
theorem d_B_crossing_88 : decode b_B_crossing 88 = .ok (.iadd, 1) := by decide +kernel
theorem d_B_crossing_89 : decode b_B_crossing 89 = .ok (.iload 4, 2) := by decide +kernel
theorem d_B_crossing_91 : decode b_B_crossing 91 = .ok (.iastore, 1) := by decide +kernel
theorem d_B_crossing_92 : decode b_B_crossing 92 = .ok (.aload_n 0, 1) := by decide +kernel
theorem d_B_crossing_93 : decode b_B_crossing 93 = .ok (.getfield 9, 3) := by decide +kernel
theorem d_B_crossing_96 : decode b_B_crossing 96 = .ok (.iload 6, 2) := by decide +kernel
theorem d_B_crossing_98 : decode b_B_crossing 98 = .ok (.iconst 3, 1) := by decide +kernel
theorem d_B_crossing_99 : decode b_B_crossing 99 = .ok (.iadd, 1) := by decide +kernel
theorem d_B_crossing_100 : decode b_B_crossing 100 = .ok (.iload 5, 2) := by decide +kernel
theorem d_B_crossing_102 : decode b_B_crossing 102 = .ok (.iastore, 1) := by decide +kernel
theorem d_B_crossing_103 : decode b_B_crossing 103 = .ok (.aload_n 0, 1) := by decide +kernel
theorem d_B_crossing_104 : decode b_B_crossing 104 = .ok (.getfield 13, 3) := by decide +kernel
theorem d_B_crossing_107 : decode b_B_crossing 107 = .ok (.aload_n 0, 1) := by decide +kernel
theorem d_B_crossing_108 : decode b_B_crossing 108 = .ok (.getfield 16, 3) := by decide +kernel
theorem d_B_crossing_111 : decode b_B_crossing 111 = .ok (.iload_n 1, 1) := by decide +kernel
theorem d_B_crossing_112 : decode b_B_crossing 112 = .ok (.iastore, 1) := by decide +kernel
theorem d_B_crossing_113 : decode b_B_crossing 113 = .ok (.aload_n 0, 1) := by decide +kernel
theorem d_B_crossing_114 : decode b_B_crossing 114 = .ok (.dup, 1) := by decide +kernel
theorem d_B_crossing_115 : decode b_B_crossing 115 = .ok (.getfield 16, 3) := by decide +kernel
theorem d_B_crossing_118 : decode b_B_crossing 118 = .ok (.iconst 1, 1) := by decide +kernel
theorem d_B_crossing_119 : decode b_B_crossing 119 = .ok (.iadd, 1) := by decide +kernel
theorem d_B_crossing_120 : decode b_B_crossing 120 = .ok (.putfield 16, 3) := by decide +kernel
theorem d_B_crossing_123 : decode b_B_crossing 123 = .ok (.aload_n 0, 1) := by decide +kernel
theorem d_B_crossing_124 : decode b_B_crossing 124 = .ok (.invokevirtual 54, 3) := by decide +kernel
theorem d_B_crossing_127 : decode b_B_crossing 127 = .ok (.aload_n 0, 1) := by decide +kernel
theorem d_B_crossing_128 : decode b_B_crossing 128 = .ok (.getfield 16, 3) := by decide +kernel
theorem d_B_crossing_131 : decode b_B_crossing 131 = .ok (.ireturn, 1) := by decide +kernel
theorem d_B_circles_0 : decode b_B_circles 0 = .ok (.iload_n 1, 1) := by decide +kernel
theorem d_B_circles_1 : decode b_B_circles 1 = .ok (.ifCond .lt 9, 3) := by decide +kernel
theorem d_B_circles_4 : decode b_B_circles 4 = .ok (.iload_n 1, 1) := by decide +kernel
theorem d_B_circles_5 : decode b_B_circles 5 = .ok (.bipush 9, 2) := by decide +kernel
theorem d_B_circles_7 : decode b_B_circles 7 = .ok (.if_icmp .le 5, 3) := by decide +kernel
theorem d_B_circles_10 : decode b_B_circles 10 = .ok (.iconst (-1), 1) := by decide +kernel
theorem d_B_circles_11 : decode b_B_circles 11 = .ok (.ireturn, 1) := by decide +kernel
theorem d_B_circles_12 : decode b_B_circles 12 = .ok (.aload_n 0, 1) := by decide +kernel
theorem d_B_circles_13 : decode b_B_circles 13 = .ok (.getfield 20, 3) := by decide +kernel
theorem d_B_circles_16 : decode b_B_circles 16 = .ok (.istore_n 2, 1) := by decide +kernel
theorem d_B_circles_17 : decode b_B_circles 17 = .ok (.aload_n 0, 1) := by decide +kernel
theorem d_B_circles_18 : decode b_B_circles 18 = .ok (.iload_n 1, 1) := by decide +kernel
theorem d_B_circles_19 : decode b_B_circles 19 = .ok (.putfield 20, 3) := by decide +kernel
theorem d_B_circles_22 : decode b_B_circles 22 = .ok (.aload_n 0, 1) := by decide +kernel
theorem d_B_circles_23 : decode b_B_circles 23 = .ok (.iconst 0, 1) := by decide +kernel
theorem d_B_circles_24 : decode b_B_circles 24 = .ok (.putfield 50, 3) := by decide +kernel
theorem d_B_circles_27 : decode b_B_circles 27 = .ok (.iload_n 2, 1) := by decide +kernel
theorem d_B_circles_28 : decode b_B_circles 28 = .ok (.ireturn, 1) := by decide +kernel
theorem d_B_clear_0 : decode b_B_clear 0 = .ok (.aload_n 0, 1) := by decide +kernel
theorem d_B_clear_1 : decode b_B_clear 1 = .ok (.getfield 16, 3) := by decide +kernel
theorem d_B_clear_4 : decode b_B_clear 4 = .ok (.istore_n 1, 1) := by decide +kernel
theorem d_B_clear_5 : decode b_B_clear 5 = .ok (.aload_n 0, 1) := by decide +kernel
theorem d_B_clear_6 : decode b_B_clear 6 = .ok (.iconst 0, 1) := by decide +kernel
theorem d_B_clear_7 : decode b_B_clear 7 = .ok (.putfield 16, 3) := by decide +kernel
theorem d_B_clear_10 : decode b_B_clear 10 = .ok (.aload_n 0, 1) := by decide +kernel
theorem d_B_clear_11 : decode b_B_clear 11 = .ok (.iconst 0, 1) := by decide +kernel
theorem d_B_clear_12 : decode b_B_clear 12 = .ok (.putfield 20, 3) := by decide +kernel
theorem d_B_clear_15 : decode b_B_clear 15 = .ok (.aload_n 0, 1) := by decide +kernel
theorem d_B_clear_16 : decode b_B_clear 16 = .ok (.invokevirtual 54, 3) := by decide +kernel
theorem d_B_clear_19 : decode b_B_clear 19 = .ok (.iload_n 1, 1) := by decide +kernel
theorem d_B_clear_20 : decode b_B_clear 20 = .ok (.ireturn, 1) := by decide +kernel
theorem d_B_fault_0 : decode b_B_fault 0 = .ok (.aload_n 0, 1) := by decide +kernel
theorem d_B_fault_1 : decode b_B_fault 1 = .ok (.invokevirtual 61, 3) := by decide +kernel
theorem d_B_fault_4 : decode b_B_fault 4 = .ok (.iconst 1, 1) := by decide +kernel
theorem d_B_fault_5 : decode b_B_fault 5 = .ok (.istore_n 1, 1) := by decide +kernel
theorem d_B_fault_6 : decode b_B_fault 6 = .ok (.iload_n 1, 1) := by decide +kernel
theorem d_B_fault_7 : decode b_B_fault 7 = .ok (.bipush 99, 2) := by decide +kernel
theorem d_B_fault_9 : decode b_B_fault 9 = .ok (.if_icmp .gt 30, 3) := by decide +kernel
theorem d_B_fault_12 : decode b_B_fault 12 = .ok (.aload_n 0, 1) := by decide +kernel
theorem d_B_fault_13 : decode b_B_fault 13 = .ok (.getfield 26, 3) := by decide +kernel
theorem d_B_fault_16 : decode b_B_fault 16 = .ok (.iload_n 1, 1) := by decide +kernel
theorem d_B_fault_17 : decode b_B_fault 17 = .ok (.iaload, 1) := by decide +kernel
theorem d_B_fault_18 : decode b_B_fault 18 = .ok (.ifCond .eq 15, 3) := by decide +kernel
theorem d_B_fault_21 : decode b_B_fault 21 = .ok (.aload_n 0, 1) := by decide +kernel
theorem d_B_fault_22 : decode b_B_fault 22 = .ok (.getfield 26, 3) := by decide +kernel
theorem d_B_fault_25 : decode b_B_fault 25 = .ok (.iload_n 1, 1) := by decide +kernel
theorem d_B_fault_26 : decode b_B_fault 26 = .ok (.iaload, 1) := by decide +kernel
theorem d_B_fault_27 : decode b_B_fault 27 = .ok (.iconst 2, 1) := by decide +kernel
theorem d_B_fault_28 : decode b_B_fault 28 = .ok (.if_icmp .eq 5, 3) := by decide +kernel
theorem d_B_fault_31 : decode b_B_fault 31 = .ok (.iload_n 1, 1) := by decide +kernel
theorem d_B_fault_32 : decode b_B_fault 32 = .ok (.ireturn, 1) := by decide +kernel
theorem d_B_fault_33 : decode b_B_fault 33 = .ok (.iinc 1 1, 3) := by decide +kernel
theorem d_B_fault_36 : decode b_B_fault 36 = .ok (.goto (-30), 3) := by decide +kernel
theorem d_B_fault_39 : decode b_B_fault 39 = .ok (.iconst 0, 1) := by decide +kernel
theorem d_B_fault_40 : decode b_B_fault 40 = .ok (.ireturn, 1) := by decide +kernel
theorem d_B_sweep_0 : decode b_B_sweep 0 = .ok (.aload_n 0, 1) := by decide +kernel
theorem d_B_sweep_1 : decode b_B_sweep 1 = .ok (.iload_n 1, 1) := by decide +kernel
theorem d_B_sweep_2 : decode b_B_sweep 2 = .ok (.invokevirtual 64, 3) := by decide +kernel
theorem d_B_sweep_5 : decode b_B_sweep 5 = .ok (.ifCond .eq 10, 3) := by decide +kernel
theorem d_B_sweep_8 : decode b_B_sweep 8 = .ok (.aload_n 0, 1) := by decide +kernel
theorem d_B_sweep_9 : decode b_B_sweep 9 = .ok (.invokevirtual 67, 3) := by decide +kernel
theorem d_B_sweep_12 : decode b_B_sweep 12 = .ok (.ifCond .ne 5, 3) := by decide +kernel
theorem d_B_sweep_15 : decode b_B_sweep 15 = .ok (.iconst (-1), 1) := by decide +kernel
theorem d_B_sweep_16 : decode b_B_sweep 16 = .ok (.ireturn, 1) := by decide +kernel
theorem d_B_sweep_17 : decode b_B_sweep 17 = .ok (.aload_n 0, 1) := by decide +kernel
theorem d_B_sweep_18 : decode b_B_sweep 18 = .ok (.invokevirtual 71, 3) := by decide +kernel
theorem d_B_sweep_21 : decode b_B_sweep 21 = .ok (.iconst 0, 1) := by decide +kernel
theorem d_B_sweep_22 : decode b_B_sweep 22 = .ok (.istore_n 2, 1) := by decide +kernel
theorem d_B_sweep_23 : decode b_B_sweep 23 = .ok (.iconst 0, 1) := by decide +kernel
theorem d_B_sweep_24 : decode b_B_sweep 24 = .ok (.istore_n 3, 1) := by decide +kernel
theorem d_B_sweep_25 : decode b_B_sweep 25 = .ok (.iconst 0, 1) := by decide +kernel
theorem d_B_sweep_26 : decode b_B_sweep 26 = .ok (.istore 4, 2) := by decide +kernel
theorem d_B_sweep_28 : decode b_B_sweep 28 = .ok (.iload 4, 2) := by decide +kernel
theorem d_B_sweep_30 : decode b_B_sweep 30 = .ok (.aload_n 0, 1) := by decide +kernel
theorem d_B_sweep_31 : decode b_B_sweep 31 = .ok (.getfield 16, 3) := by decide +kernel
theorem d_B_sweep_34 : decode b_B_sweep 34 = .ok (.if_icmp .ge 48, 3) := by decide +kernel
theorem d_B_sweep_37 : decode b_B_sweep 37 = .ok (.iload 4, 2) := by decide +kernel
theorem d_B_sweep_39 : decode b_B_sweep 39 = .ok (.ifCond .ne 7, 3) := by decide +kernel
theorem d_B_sweep_42 : decode b_B_sweep 42 = .ok (.iload_n 1, 1) := by decide +kernel
theorem d_B_sweep_43 : decode b_B_sweep 43 = .ok (.goto 7, 3) := by decide +kernel
theorem d_B_sweep_46 : decode b_B_sweep 46 = .ok (.aload_n 0, 1) := by decide +kernel
theorem d_B_sweep_47 : decode b_B_sweep 47 = .ok (.invokevirtual 74, 3) := by decide +kernel
theorem d_B_sweep_50 : decode b_B_sweep 50 = .ok (.istore 5, 2) := by decide +kernel
theorem d_B_sweep_52 : decode b_B_sweep 52 = .ok (.iload_n 2, 1) := by decide +kernel
theorem d_B_sweep_53 : decode b_B_sweep 53 = .ok (.aload_n 0, 1) := by decide +kernel
theorem d_B_sweep_54 : decode b_B_sweep 54 = .ok (.iload 5, 2) := by decide +kernel
theorem d_B_sweep_56 : decode b_B_sweep 56 = .ok (.invokevirtual 78, 3) := by decide +kernel
theorem d_B_sweep_59 : decode b_B_sweep 59 = .ok (.iadd, 1) := by decide +kernel
theorem d_B_sweep_60 : decode b_B_sweep 60 = .ok (.istore_n 2, 1) := by decide +kernel
theorem d_B_sweep_61 : decode b_B_sweep 61 = .ok (.iload_n 3, 1) := by decide +kernel
theorem d_B_sweep_62 : decode b_B_sweep 62 = .ok (.iload_n 2, 1) := by decide +kernel
theorem d_B_sweep_63 : decode b_B_sweep 63 = .ok (.invokestatic 82, 3) := by decide +kernel
theorem d_B_sweep_66 : decode b_B_sweep 66 = .ok (.istore_n 3, 1) := by decide +kernel
theorem d_B_sweep_67 : decode b_B_sweep 67 = .ok (.aload_n 0, 1) := by decide +kernel
theorem d_B_sweep_68 : decode b_B_sweep 68 = .ok (.getfield 23, 3) := by decide +kernel
theorem d_B_sweep_71 : decode b_B_sweep 71 = .ok (.iload 4, 2) := by decide +kernel
theorem d_B_sweep_73 : decode b_B_sweep 73 = .ok (.iload 5, 2) := by decide +kernel
theorem d_B_sweep_75 : decode b_B_sweep 75 = .ok (.iastore, 1) := by decide +kernel
theorem d_B_sweep_76 : decode b_B_sweep 76 = .ok (.iinc 4 1, 3) := by decide +kernel
theorem d_B_sweep_79 : decode b_B_sweep 79 = .ok (.goto (-51), 3) := by decide +kernel
theorem d_B_sweep_82 : decode b_B_sweep 82 = .ok (.aload_n 0, 1) := by decide +kernel
theorem d_B_sweep_83 : decode b_B_sweep 83 = .ok (.iconst 0, 1) := by decide +kernel
theorem d_B_sweep_84 : decode b_B_sweep 84 = .ok (.putfield 50, 3) := by decide +kernel
theorem d_B_sweep_87 : decode b_B_sweep 87 = .ok (.iload_n 3, 1) := by decide +kernel
theorem d_B_sweep_88 : decode b_B_sweep 88 = .ok (.ireturn, 1) := by decide +kernel
theorem d_B_bracket_0 : decode b_B_bracket 0 = .ok (.aload_n 0, 1) := by decide +kernel
theorem d_B_bracket_1 : decode b_B_bracket 1 = .ok (.invokevirtual 88, 3) := by decide +kernel
theorem d_B_bracket_4 : decode b_B_bracket 4 = .ok (.aload_n 0, 1) := by decide +kernel
theorem d_B_bracket_5 : decode b_B_bracket 5 = .ok (.getfield 46, 3) := by decide +kernel
theorem d_B_bracket_8 : decode b_B_bracket 8 = .ok (.iload_n 1, 1) := by decide +kernel
theorem d_B_bracket_9 : decode b_B_bracket 9 = .ok (.i2l, 1) := by decide +kernel
theorem d_B_bracket_10 : decode b_B_bracket 10 = .ok (.invokevirtual 91, 3) := by decide +kernel
theorem d_B_bracket_13 : decode b_B_bracket 13 = .ok (.lreturn, 1) := by decide +kernel
theorem d_B_jones_0 : decode b_B_jones 0 = .ok (.aload_n 0, 1) := by decide +kernel
theorem d_B_jones_1 : decode b_B_jones 1 = .ok (.invokevirtual 88, 3) := by decide +kernel
theorem d_B_jones_4 : decode b_B_jones 4 = .ok (.aload_n 0, 1) := by decide +kernel
theorem d_B_jones_5 : decode b_B_jones 5 = .ok (.invokevirtual 95, 3) := by decide +kernel
theorem d_B_jones_8 : decode b_B_jones 8 = .ok (.istore_n 2, 1) := by decide +kernel
theorem d_B_jones_9 : decode b_B_jones 9 = .ok (.aload_n 0, 1) := by decide +kernel
theorem d_B_jones_10 : decode b_B_jones 10 = .ok (.getfield 46, 3) := by decide +kernel
theorem d_B_jones_13 : decode b_B_jones 13 = .ok (.iload_n 1, 1) := by decide +kernel
theorem d_B_jones_14 : decode b_B_jones 14 = .ok (.i2l, 1) := by decide +kernel
theorem d_B_jones_15 : decode b_B_jones 15 = .ok (.ldc2_w 98, 3) := by decide +kernel
theorem d_B_jones_18 : decode b_B_jones 18 = .ok (.iload_n 2, 1) := by decide +kernel
theorem d_B_jones_19 : decode b_B_jones 19 = .ok (.i2l, 1) := by decide +kernel
theorem d_B_jones_20 : decode b_B_jones 20 = .ok (.lmul, 1) := by decide +kernel
theorem d_B_jones_21 : decode b_B_jones 21 = .ok (.ladd, 1) := by decide +kernel
theorem d_B_jones_22 : decode b_B_jones 22 = .ok (.invokevirtual 91, 3) := by decide +kernel
theorem d_B_jones_25 : decode b_B_jones 25 = .ok (.lstore_n 3, 1) := by decide +kernel
theorem d_B_jones_26 : decode b_B_jones 26 = .ok (.iload_n 2, 1) := by decide +kernel
theorem d_B_jones_27 : decode b_B_jones 27 = .ok (.iconst 1, 1) := by decide +kernel
theorem d_B_jones_28 : decode b_B_jones 28 = .ok (.iand, 1) := by decide +kernel
theorem d_B_jones_29 : decode b_B_jones 29 = .ok (.ifCond .ne 7, 3) := by decide +kernel
theorem d_B_jones_32 : decode b_B_jones 32 = .ok (.lload_n 3, 1) := by decide +kernel
theorem d_B_jones_33 : decode b_B_jones 33 = .ok (.goto 5, 3) := by decide +kernel
theorem d_B_jones_36 : decode b_B_jones 36 = .ok (.lload_n 3, 1) := by decide +kernel
theorem d_B_jones_37 : decode b_B_jones 37 = .ok (.lneg, 1) := by decide +kernel
theorem d_B_jones_38 : decode b_B_jones 38 = .ok (.lreturn, 1) := by decide +kernel
theorem d_B_span_0 : decode b_B_span 0 = .ok (.aload_n 0, 1) := by decide +kernel
theorem d_B_span_1 : decode b_B_span 1 = .ok (.invokevirtual 88, 3) := by decide +kernel
theorem d_B_span_4 : decode b_B_span 4 = .ok (.aload_n 0, 1) := by decide +kernel
theorem d_B_span_5 : decode b_B_span 5 = .ok (.getfield 46, 3) := by decide +kernel
theorem d_B_span_8 : decode b_B_span 8 = .ok (.invokevirtual 100, 3) := by decide +kernel
theorem d_B_span_11 : decode b_B_span 11 = .ok (.ifCond .eq 5, 3) := by decide +kernel
theorem d_B_span_14 : decode b_B_span 14 = .ok (.iconst 0, 1) := by decide +kernel
theorem d_B_span_15 : decode b_B_span 15 = .ok (.ireturn, 1) := by decide +kernel
theorem d_B_span_16 : decode b_B_span 16 = .ok (.iload_n 2, 1) := by decide +kernel
theorem d_B_span_17 : decode b_B_span 17 = .ok (.ifCond .eq 13, 3) := by decide +kernel
theorem d_B_span_20 : decode b_B_span 20 = .ok (.aload_n 0, 1) := by decide +kernel
theorem d_B_span_21 : decode b_B_span 21 = .ok (.getfield 46, 3) := by decide +kernel
theorem d_B_span_24 : decode b_B_span 24 = .ok (.invokevirtual 103, 3) := by decide +kernel
theorem d_B_span_27 : decode b_B_span 27 = .ok (.goto 10, 3) := by decide +kernel
theorem d_B_span_30 : decode b_B_span 30 = .ok (.aload_n 0, 1) := by decide +kernel
theorem d_B_span_31 : decode b_B_span 31 = .ok (.getfield 46, 3) := by decide +kernel
theorem d_B_span_34 : decode b_B_span 34 = .ok (.invokevirtual 106, 3) := by decide +kernel
theorem d_B_span_37 : decode b_B_span 37 = .ok (.istore_n 3, 1) := by decide +kernel
theorem d_B_span_38 : decode b_B_span 38 = .ok (.iload_n 1, 1) := by decide +kernel
theorem d_B_span_39 : decode b_B_span 39 = .ok (.ifCond .eq 14, 3) := by decide +kernel
theorem d_B_span_42 : decode b_B_span 42 = .ok (.iload_n 3, 1) := by decide +kernel
theorem d_B_span_43 : decode b_B_span 43 = .ok (.iconst 3, 1) := by decide +kernel
theorem d_B_span_44 : decode b_B_span 44 = .ok (.aload_n 0, 1) := by decide +kernel
theorem d_B_span_45 : decode b_B_span 45 = .ok (.invokevirtual 95, 3) := by decide +kernel
theorem d_B_span_48 : decode b_B_span 48 = .ok (.imul, 1) := by decide +kernel
theorem d_B_span_49 : decode b_B_span 49 = .ok (.isub, 1) := by decide +kernel
theorem d_B_span_50 : decode b_B_span 50 = .ok (.goto 4, 3) := by decide +kernel
theorem d_B_span_53 : decode b_B_span 53 = .ok (.iload_n 3, 1) := by decide +kernel
theorem d_B_span_54 : decode b_B_span 54 = .ok (.ireturn, 1) := by decide +kernel
theorem d_B_state_0 : decode b_B_state 0 = .ok (.iload_n 1, 1) := by decide +kernel
theorem d_B_state_1 : decode b_B_state 1 = .ok (.ifCond .lt 20, 3) := by decide +kernel
theorem d_B_state_4 : decode b_B_state 4 = .ok (.iload_n 1, 1) := by decide +kernel
theorem d_B_state_5 : decode b_B_state 5 = .ok (.iconst 1, 1) := by decide +kernel
theorem d_B_state_6 : decode b_B_state 6 = .ok (.aload_n 0, 1) := by decide +kernel
theorem d_B_state_7 : decode b_B_state 7 = .ok (.getfield 16, 3) := by decide +kernel
theorem d_B_state_10 : decode b_B_state 10 = .ok (.ishl, 1) := by decide +kernel
theorem d_B_state_11 : decode b_B_state 11 = .ok (.if_icmp .ge 10, 3) := by decide +kernel
theorem d_B_state_14 : decode b_B_state 14 = .ok (.aload_n 0, 1) := by decide +kernel
theorem d_B_state_15 : decode b_B_state 15 = .ok (.invokevirtual 67, 3) := by decide +kernel
theorem d_B_state_18 : decode b_B_state 18 = .ok (.ifCond .ne 5, 3) := by decide +kernel
theorem d_B_state_21 : decode b_B_state 21 = .ok (.iconst (-1), 1) := by decide +kernel
theorem d_B_state_22 : decode b_B_state 22 = .ok (.ireturn, 1) := by decide +kernel
theorem d_B_state_23 : decode b_B_state 23 = .ok (.aload_n 0, 1) := by decide +kernel
theorem d_B_state_24 : decode b_B_state 24 = .ok (.getfield 39, 3) := by decide +kernel
theorem d_B_state_27 : decode b_B_state 27 = .ok (.aload_n 0, 1) := by decide +kernel
theorem d_B_state_28 : decode b_B_state 28 = .ok (.getfield 9, 3) := by decide +kernel
theorem d_B_state_31 : decode b_B_state 31 = .ok (.iconst 4, 1) := by decide +kernel
theorem d_B_state_32 : decode b_B_state 32 = .ok (.aload_n 0, 1) := by decide +kernel
theorem d_B_state_33 : decode b_B_state 33 = .ok (.getfield 16, 3) := by decide +kernel
theorem d_B_state_36 : decode b_B_state 36 = .ok (.imul, 1) := by decide +kernel
theorem d_B_state_37 : decode b_B_state 37 = .ok (.invokevirtual 109, 3) := by decide +kernel
theorem d_B_state_40 : decode b_B_state 40 = .ok (.aload_n 0, 1) := by decide +kernel
theorem d_B_state_41 : decode b_B_state 41 = .ok (.getfield 20, 3) := by decide +kernel
theorem d_B_state_44 : decode b_B_state 44 = .ok (.istore_n 2, 1) := by decide +kernel
theorem d_B_state_45 : decode b_B_state 45 = .ok (.iconst 0, 1) := by decide +kernel
theorem d_B_state_46 : decode b_B_state 46 = .ok (.istore_n 3, 1) := by decide +kernel
theorem d_B_state_47 : decode b_B_state 47 = .ok (.iload_n 3, 1) := by decide +kernel
theorem d_B_state_48 : decode b_B_state 48 = .ok (.aload_n 0, 1) := by decide +kernel
theorem d_B_state_49 : decode b_B_state 49 = .ok (.getfield 16, 3) := by decide +kernel
theorem d_B_state_52 : decode b_B_state 52 = .ok (.if_icmp .ge 37, 3) := by decide +kernel
theorem d_B_state_55 : decode b_B_state 55 = .ok (.iload_n 1, 1) := by decide +kernel
theorem d_B_state_56 : decode b_B_state 56 = .ok (.iload_n 3, 1) := by decide +kernel
theorem d_B_state_57 : decode b_B_state 57 = .ok (.ishr, 1) := by decide +kernel
theorem d_B_state_58 : decode b_B_state 58 = .ok (.iconst 1, 1) := by decide +kernel
theorem d_B_state_59 : decode b_B_state 59 = .ok (.iand, 1) := by decide +kernel
theorem d_B_state_60 : decode b_B_state 60 = .ok (.ifCond .ne 7, 3) := by decide +kernel
theorem d_B_state_63 : decode b_B_state 63 = .ok (.iconst 1, 1) := by decide +kernel
theorem d_B_state_64 : decode b_B_state 64 = .ok (.goto 4, 3) := by decide +kernel
theorem d_B_state_67 : decode b_B_state 67 = .ok (.iconst 0, 1) := by decide +kernel
theorem d_B_state_68 : decode b_B_state 68 = .ok (.istore 4, 2) := by decide +kernel
theorem d_B_state_70 : decode b_B_state 70 = .ok (.iload_n 2, 1) := by decide +kernel
theorem d_B_state_71 : decode b_B_state 71 = .ok (.aload_n 0, 1) := by decide +kernel
theorem d_B_state_72 : decode b_B_state 72 = .ok (.getfield 39, 3) := by decide +kernel
theorem d_B_state_75 : decode b_B_state 75 = .ok (.iload_n 3, 1) := by decide +kernel
theorem d_B_state_76 : decode b_B_state 76 = .ok (.iload 4, 2) := by decide +kernel
theorem d_B_state_78 : decode b_B_state 78 = .ok (.invokevirtual 113, 3) := by decide +kernel
theorem d_B_state_81 : decode b_B_state 81 = .ok (.iadd, 1) := by decide +kernel
theorem d_B_state_82 : decode b_B_state 82 = .ok (.istore_n 2, 1) := by decide +kernel
theorem d_B_state_83 : decode b_B_state 83 = .ok (.iinc 3 1, 3) := by decide +kernel
theorem d_B_state_86 : decode b_B_state 86 = .ok (.goto (-39), 3) := by decide +kernel
theorem d_B_state_89 : decode b_B_state 89 = .ok (.iload_n 2, 1) := by decide +kernel
theorem d_B_state_90 : decode b_B_state 90 = .ok (.ireturn, 1) := by decide +kernel
theorem d_B_look_0 : decode b_B_look 0 = .ok (.iload_n 1, 1) := by decide +kernel
theorem d_B_look_1 : decode b_B_look 1 = .ok (.iconst (-1), 1) := by decide +kernel
theorem d_B_look_2 : decode b_B_look 2 = .ok (.if_icmp .ne 9, 3) := by decide +kernel
theorem d_B_look_5 : decode b_B_look 5 = .ok (.aload_n 0, 1) := by decide +kernel
theorem d_B_look_6 : decode b_B_look 6 = .ok (.iload_n 2, 1) := by decide +kernel
theorem d_B_look_7 : decode b_B_look 7 = .ok (.invokevirtual 117, 3) := by decide +kernel
theorem d_B_look_10 : decode b_B_look 10 = .ok (.ireturn, 1) := by decide +kernel
theorem d_B_look_11 : decode b_B_look 11 = .ok (.aload_n 0, 1) := by decide +kernel
theorem d_B_look_12 : decode b_B_look 12 = .ok (.iload_n 1, 1) := by decide +kernel
theorem d_B_look_13 : decode b_B_look 13 = .ok (.invokevirtual 64, 3) := by decide +kernel
theorem d_B_look_16 : decode b_B_look 16 = .ok (.ifCond .ne 7, 3) := by decide +kernel
theorem d_B_look_19 : decode b_B_look 19 = .ok (.sipush (-1000), 3) := by decide +kernel
theorem d_B_look_22 : decode b_B_look 22 = .ok (.ireturn, 1) := by decide +kernel
theorem d_B_look_23 : decode b_B_look 23 = .ok (.iload_n 2, 1) := by decide +kernel
theorem d_B_look_24 : decode b_B_look 24 = .ok (.ifCond .lt 19, 3) := by decide +kernel
theorem d_B_look_27 : decode b_B_look 27 = .ok (.iload_n 2, 1) := by decide +kernel
theorem d_B_look_28 : decode b_B_look 28 = .ok (.iconst 4, 1) := by decide +kernel
theorem d_B_look_29 : decode b_B_look 29 = .ok (.if_icmp .ge 14, 3) := by decide +kernel
theorem d_B_look_32 : decode b_B_look 32 = .ok (.aload_n 0, 1) := by decide +kernel
theorem d_B_look_33 : decode b_B_look 33 = .ok (.getfield 9, 3) := by decide +kernel
theorem d_B_look_36 : decode b_B_look 36 = .ok (.iconst 4, 1) := by decide +kernel
theorem d_B_look_37 : decode b_B_look 37 = .ok (.iload_n 1, 1) := by decide +kernel
theorem d_B_look_38 : decode b_B_look 38 = .ok (.imul, 1) := by decide +kernel
theorem d_B_look_39 : decode b_B_look 39 = .ok (.iload_n 2, 1) := by decide +kernel
theorem d_B_look_40 : decode b_B_look 40 = .ok (.iadd, 1) := by decide +kernel
theorem d_B_look_41 : decode b_B_look 41 = .ok (.iaload, 1) := by decide +kernel
theorem d_B_look_42 : decode b_B_look 42 = .ok (.ireturn, 1) := by decide +kernel
theorem d_B_look_43 : decode b_B_look 43 = .ok (.iload_n 2, 1) := by decide +kernel
theorem d_B_look_44 : decode b_B_look 44 = .ok (.iconst 4, 1) := by decide +kernel
theorem d_B_look_45 : decode b_B_look 45 = .ok (.if_icmp .ne 12, 3) := by decide +kernel
theorem d_B_look_48 : decode b_B_look 48 = .ok (.aload_n 0, 1) := by decide +kernel
theorem d_B_look_49 : decode b_B_look 49 = .ok (.getfield 13, 3) := by decide +kernel
theorem d_B_look_52 : decode b_B_look 52 = .ok (.iload_n 1, 1) := by decide +kernel
theorem d_B_look_53 : decode b_B_look 53 = .ok (.iaload, 1) := by decide +kernel
theorem d_B_look_54 : decode b_B_look 54 = .ok (.goto 6, 3) := by decide +kernel
theorem d_B_look_57 : decode b_B_look 57 = .ok (.sipush (-1000), 3) := by decide +kernel
theorem d_B_look_60 : decode b_B_look 60 = .ok (.ireturn, 1) := by decide +kernel
theorem d_B_resolve_0 : decode b_B_resolve 0 = .ok (.aload_n 0, 1) := by decide +kernel
theorem d_B_resolve_1 : decode b_B_resolve 1 = .ok (.iload_n 1, 1) := by decide +kernel
theorem d_B_resolve_2 : decode b_B_resolve 2 = .ok (.invokevirtual 64, 3) := by decide +kernel
theorem d_B_resolve_5 : decode b_B_resolve 5 = .ok (.ifCond .eq 10, 3) := by decide +kernel
theorem d_B_resolve_8 : decode b_B_resolve 8 = .ok (.aload_n 0, 1) := by decide +kernel
theorem d_B_resolve_9 : decode b_B_resolve 9 = .ok (.invokevirtual 67, 3) := by decide +kernel
theorem d_B_resolve_12 : decode b_B_resolve 12 = .ok (.ifCond .ne 5, 3) := by decide +kernel
theorem d_B_resolve_15 : decode b_B_resolve 15 = .ok (.iconst 0, 1) := by decide +kernel
theorem d_B_resolve_16 : decode b_B_resolve 16 = .ok (.ireturn, 1) := by decide +kernel
theorem d_B_resolve_17 : decode b_B_resolve 17 = .ok (.iconst 4, 1) := by decide +kernel
theorem d_B_resolve_18 : decode b_B_resolve 18 = .ok (.iload_n 1, 1) := by decide +kernel
theorem d_B_resolve_19 : decode b_B_resolve 19 = .ok (.imul, 1) := by decide +kernel
theorem d_B_resolve_20 : decode b_B_resolve 20 = .ok (.istore_n 3, 1) := by decide +kernel
theorem d_B_resolve_21 : decode b_B_resolve 21 = .ok (.iload_n 2, 1) := by decide +kernel
theorem d_B_resolve_22 : decode b_B_resolve 22 = .ok (.ifCond .eq 7, 3) := by decide +kernel
theorem d_B_resolve_25 : decode b_B_resolve 25 = .ok (.iconst 0, 1) := by decide +kernel
theorem d_B_resolve_26 : decode b_B_resolve 26 = .ok (.goto 4, 3) := by decide +kernel
theorem d_B_resolve_29 : decode b_B_resolve 29 = .ok (.iconst 1, 1) := by decide +kernel
theorem d_B_resolve_30 : decode b_B_resolve 30 = .ok (.istore 4, 2) := by decide +kernel
