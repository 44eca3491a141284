theorem d_M_crossing_144 : decode b_M_crossing 144 = .ok (.dup, 1) := by decide +kernel
theorem d_M_crossing_145 : decode b_M_crossing 145 = .ok (.getfield 43, 3) := by decide +kernel
theorem d_M_crossing_148 : decode b_M_crossing 148 = .ok (.iconst 1, 1) := by decide +kernel
theorem d_M_crossing_149 : decode b_M_crossing 149 = .ok (.iadd, 1) := by decide +kernel
theorem d_M_crossing_150 : decode b_M_crossing 150 = .ok (.putfield 43, 3) := by decide +kernel
theorem d_M_crossing_153 : decode b_M_crossing 153 = .ok (.aload_n 0, 1) := by decide +kernel
theorem d_M_crossing_154 : decode b_M_crossing 154 = .ok (.iconst 0, 1) := by decide +kernel
theorem d_M_crossing_155 : decode b_M_crossing 155 = .ok (.putfield 46, 3) := by decide +kernel
theorem d_M_crossing_158 : decode b_M_crossing 158 = .ok (.aload_n 0, 1) := by decide +kernel
theorem d_M_crossing_159 : decode b_M_crossing 159 = .ok (.getfield 43, 3) := by decide +kernel
theorem d_M_crossing_162 : decode b_M_crossing 162 = .ok (.ireturn, 1) := by decide +kernel
theorem d_M_circles_0 : decode b_M_circles 0 = .ok (.iload_n 1, 1) := by decide +kernel
theorem d_M_circles_1 : decode b_M_circles 1 = .ok (.ifCond .lt 9, 3) := by decide +kernel
theorem d_M_circles_4 : decode b_M_circles 4 = .ok (.iload_n 1, 1) := by decide +kernel
theorem d_M_circles_5 : decode b_M_circles 5 = .ok (.bipush 9, 2) := by decide +kernel
theorem d_M_circles_7 : decode b_M_circles 7 = .ok (.if_icmp .le 5, 3) := by decide +kernel
theorem d_M_circles_10 : decode b_M_circles 10 = .ok (.iconst (-1), 1) := by decide +kernel
theorem d_M_circles_11 : decode b_M_circles 11 = .ok (.ireturn, 1) := by decide +kernel
theorem d_M_circles_12 : decode b_M_circles 12 = .ok (.aload_n 0, 1) := by decide +kernel
theorem d_M_circles_13 : decode b_M_circles 13 = .ok (.getfield 50, 3) := by decide +kernel
theorem d_M_circles_16 : decode b_M_circles 16 = .ok (.istore_n 2, 1) := by decide +kernel
theorem d_M_circles_17 : decode b_M_circles 17 = .ok (.aload_n 0, 1) := by decide +kernel
theorem d_M_circles_18 : decode b_M_circles 18 = .ok (.iload_n 1, 1) := by decide +kernel
theorem d_M_circles_19 : decode b_M_circles 19 = .ok (.putfield 50, 3) := by decide +kernel
theorem d_M_circles_22 : decode b_M_circles 22 = .ok (.aload_n 0, 1) := by decide +kernel
theorem d_M_circles_23 : decode b_M_circles 23 = .ok (.iconst 0, 1) := by decide +kernel
theorem d_M_circles_24 : decode b_M_circles 24 = .ok (.putfield 46, 3) := by decide +kernel
theorem d_M_circles_27 : decode b_M_circles 27 = .ok (.iload_n 2, 1) := by decide +kernel
theorem d_M_circles_28 : decode b_M_circles 28 = .ok (.ireturn, 1) := by decide +kernel
theorem d_M_clear_0 : decode b_M_clear 0 = .ok (.aload_n 0, 1) := by decide +kernel
theorem d_M_clear_1 : decode b_M_clear 1 = .ok (.getfield 43, 3) := by decide +kernel
theorem d_M_clear_4 : decode b_M_clear 4 = .ok (.istore_n 1, 1) := by decide +kernel
theorem d_M_clear_5 : decode b_M_clear 5 = .ok (.aload_n 0, 1) := by decide +kernel
theorem d_M_clear_6 : decode b_M_clear 6 = .ok (.iconst 0, 1) := by decide +kernel
theorem d_M_clear_7 : decode b_M_clear 7 = .ok (.putfield 43, 3) := by decide +kernel
theorem d_M_clear_10 : decode b_M_clear 10 = .ok (.aload_n 0, 1) := by decide +kernel
theorem d_M_clear_11 : decode b_M_clear 11 = .ok (.iconst 0, 1) := by decide +kernel
theorem d_M_clear_12 : decode b_M_clear 12 = .ok (.putfield 50, 3) := by decide +kernel
theorem d_M_clear_15 : decode b_M_clear 15 = .ok (.aload_n 0, 1) := by decide +kernel
theorem d_M_clear_16 : decode b_M_clear 16 = .ok (.iconst 0, 1) := by decide +kernel
theorem d_M_clear_17 : decode b_M_clear 17 = .ok (.putfield 46, 3) := by decide +kernel
theorem d_M_clear_20 : decode b_M_clear 20 = .ok (.iload_n 1, 1) := by decide +kernel
theorem d_M_clear_21 : decode b_M_clear 21 = .ok (.ireturn, 1) := by decide +kernel
theorem d_M_standing_0 : decode b_M_standing 0 = .ok (.iconst 0, 1) := by decide +kernel
theorem d_M_standing_1 : decode b_M_standing 1 = .ok (.istore_n 2, 1) := by decide +kernel
theorem d_M_standing_2 : decode b_M_standing 2 = .ok (.iconst 0, 1) := by decide +kernel
theorem d_M_standing_3 : decode b_M_standing 3 = .ok (.istore_n 3, 1) := by decide +kernel
theorem d_M_standing_4 : decode b_M_standing 4 = .ok (.iload_n 3, 1) := by decide +kernel
theorem d_M_standing_5 : decode b_M_standing 5 = .ok (.iconst 4, 1) := by decide +kernel
theorem d_M_standing_6 : decode b_M_standing 6 = .ok (.aload_n 0, 1) := by decide +kernel
theorem d_M_standing_7 : decode b_M_standing 7 = .ok (.getfield 43, 3) := by decide +kernel
theorem d_M_standing_10 : decode b_M_standing 10 = .ok (.imul, 1) := by decide +kernel
theorem d_M_standing_11 : decode b_M_standing 11 = .ok (.if_icmp .ge 27, 3) := by decide +kernel
theorem d_M_standing_14 : decode b_M_standing 14 = .ok (.iload_n 2, 1) := by decide +kernel
theorem d_M_standing_15 : decode b_M_standing 15 = .ok (.aload_n 0, 1) := by decide +kernel
theorem d_M_standing_16 : decode b_M_standing 16 = .ok (.getfield 13, 3) := by decide +kernel
theorem d_M_standing_19 : decode b_M_standing 19 = .ok (.iload_n 3, 1) := by decide +kernel
theorem d_M_standing_20 : decode b_M_standing 20 = .ok (.iaload, 1) := by decide +kernel
theorem d_M_standing_21 : decode b_M_standing 21 = .ok (.iload_n 1, 1) := by decide +kernel
theorem d_M_standing_22 : decode b_M_standing 22 = .ok (.if_icmp .ne 7, 3) := by decide +kernel
theorem d_M_standing_25 : decode b_M_standing 25 = .ok (.iconst 1, 1) := by decide +kernel
theorem d_M_standing_26 : decode b_M_standing 26 = .ok (.goto 4, 3) := by decide +kernel
theorem d_M_standing_29 : decode b_M_standing 29 = .ok (.iconst 0, 1) := by decide +kernel
theorem d_M_standing_30 : decode b_M_standing 30 = .ok (.iadd, 1) := by decide +kernel
theorem d_M_standing_31 : decode b_M_standing 31 = .ok (.istore_n 2, 1) := by decide +kernel
theorem d_M_standing_32 : decode b_M_standing 32 = .ok (.iinc 3 1, 3) := by decide +kernel
theorem d_M_standing_35 : decode b_M_standing 35 = .ok (.goto (-31), 3) := by decide +kernel
theorem d_M_standing_38 : decode b_M_standing 38 = .ok (.iload_n 2, 1) := by decide +kernel
theorem d_M_standing_39 : decode b_M_standing 39 = .ok (.ireturn, 1) := by decide +kernel
theorem d_M_fault_0 : decode b_M_fault 0 = .ok (.iconst 0, 1) := by decide +kernel
theorem d_M_fault_1 : decode b_M_fault 1 = .ok (.istore_n 1, 1) := by decide +kernel
theorem d_M_fault_2 : decode b_M_fault 2 = .ok (.iconst 0, 1) := by decide +kernel
theorem d_M_fault_3 : decode b_M_fault 3 = .ok (.istore_n 2, 1) := by decide +kernel
theorem d_M_fault_4 : decode b_M_fault 4 = .ok (.iload_n 2, 1) := by decide +kernel
theorem d_M_fault_5 : decode b_M_fault 5 = .ok (.iconst 4, 1) := by decide +kernel
theorem d_M_fault_6 : decode b_M_fault 6 = .ok (.aload_n 0, 1) := by decide +kernel
theorem d_M_fault_7 : decode b_M_fault 7 = .ok (.getfield 43, 3) := by decide +kernel
theorem d_M_fault_10 : decode b_M_fault 10 = .ok (.imul, 1) := by decide +kernel
theorem d_M_fault_11 : decode b_M_fault 11 = .ok (.if_icmp .ge 48, 3) := by decide +kernel
theorem d_M_fault_14 : decode b_M_fault 14 = .ok (.aload_n 0, 1) := by decide +kernel
theorem d_M_fault_15 : decode b_M_fault 15 = .ok (.aload_n 0, 1) := by decide +kernel
theorem d_M_fault_16 : decode b_M_fault 16 = .ok (.getfield 13, 3) := by decide +kernel
theorem d_M_fault_19 : decode b_M_fault 19 = .ok (.iload_n 2, 1) := by decide +kernel
theorem d_M_fault_20 : decode b_M_fault 20 = .ok (.iaload, 1) := by decide +kernel
theorem d_M_fault_21 : decode b_M_fault 21 = .ok (.invokevirtual 53, 3) := by decide +kernel
theorem d_M_fault_24 : decode b_M_fault 24 = .ok (.iconst 2, 1) := by decide +kernel
theorem d_M_fault_25 : decode b_M_fault 25 = .ok (.if_icmp .eq 26, 3) := by decide +kernel
theorem d_M_fault_28 : decode b_M_fault 28 = .ok (.iload_n 1, 1) := by decide +kernel
theorem d_M_fault_29 : decode b_M_fault 29 = .ok (.ifCond .eq 13, 3) := by decide +kernel
theorem d_M_fault_32 : decode b_M_fault 32 = .ok (.aload_n 0, 1) := by decide +kernel
theorem d_M_fault_33 : decode b_M_fault 33 = .ok (.getfield 13, 3) := by decide +kernel
theorem d_M_fault_36 : decode b_M_fault 36 = .ok (.iload_n 2, 1) := by decide +kernel
theorem d_M_fault_37 : decode b_M_fault 37 = .ok (.iaload, 1) := by decide +kernel
theorem d_M_fault_38 : decode b_M_fault 38 = .ok (.iload_n 1, 1) := by decide +kernel
theorem d_M_fault_39 : decode b_M_fault 39 = .ok (.if_icmp .ge 12, 3) := by decide +kernel
theorem d_M_fault_42 : decode b_M_fault 42 = .ok (.aload_n 0, 1) := by decide +kernel
theorem d_M_fault_43 : decode b_M_fault 43 = .ok (.getfield 13, 3) := by decide +kernel
theorem d_M_fault_46 : decode b_M_fault 46 = .ok (.iload_n 2, 1) := by decide +kernel
theorem d_M_fault_47 : decode b_M_fault 47 = .ok (.iaload, 1) := by decide +kernel
theorem d_M_fault_48 : decode b_M_fault 48 = .ok (.goto 4, 3) := by decide +kernel
theorem d_M_fault_51 : decode b_M_fault 51 = .ok (.iload_n 1, 1) := by decide +kernel
theorem d_M_fault_52 : decode b_M_fault 52 = .ok (.istore_n 1, 1) := by decide +kernel
theorem d_M_fault_53 : decode b_M_fault 53 = .ok (.iinc 2 1, 3) := by decide +kernel
theorem d_M_fault_56 : decode b_M_fault 56 = .ok (.goto (-52), 3) := by decide +kernel
theorem d_M_fault_59 : decode b_M_fault 59 = .ok (.iload_n 1, 1) := by decide +kernel
theorem d_M_fault_60 : decode b_M_fault 60 = .ok (.ireturn, 1) := by decide +kernel
theorem d_M_findMates_0 : decode b_M_findMates 0 = .ok (.iconst 0, 1) := by decide +kernel
theorem d_M_findMates_1 : decode b_M_findMates 1 = .ok (.istore_n 1, 1) := by decide +kernel
theorem d_M_findMates_2 : decode b_M_findMates 2 = .ok (.iload_n 1, 1) := by decide +kernel
theorem d_M_findMates_3 : decode b_M_findMates 3 = .ok (.iconst 4, 1) := by decide +kernel
theorem d_M_findMates_4 : decode b_M_findMates 4 = .ok (.aload_n 0, 1) := by decide +kernel
theorem d_M_findMates_5 : decode b_M_findMates 5 = .ok (.getfield 43, 3) := by decide +kernel
theorem d_M_findMates_8 : decode b_M_findMates 8 = .ok (.imul, 1) := by decide +kernel
theorem d_M_findMates_9 : decode b_M_findMates 9 = .ok (.if_icmp .ge 63, 3) := by decide +kernel
theorem d_M_findMates_12 : decode b_M_findMates 12 = .ok (.iconst 0, 1) := by decide +kernel
theorem d_M_findMates_13 : decode b_M_findMates 13 = .ok (.istore_n 2, 1) := by decide +kernel
theorem d_M_findMates_14 : decode b_M_findMates 14 = .ok (.iload_n 2, 1) := by decide +kernel
theorem d_M_findMates_15 : decode b_M_findMates 15 = .ok (.iconst 4, 1) := by decide +kernel
theorem d_M_findMates_16 : decode b_M_findMates 16 = .ok (.aload_n 0, 1) := by decide +kernel
theorem d_M_findMates_17 : decode b_M_findMates 17 = .ok (.getfield 43, 3) := by decide +kernel
theorem d_M_findMates_20 : decode b_M_findMates 20 = .ok (.imul, 1) := by decide +kernel
theorem d_M_findMates_21 : decode b_M_findMates 21 = .ok (.if_icmp .ge 45, 3) := by decide +kernel
theorem d_M_findMates_24 : decode b_M_findMates 24 = .ok (.aload_n 0, 1) := by decide +kernel
theorem d_M_findMates_25 : decode b_M_findMates 25 = .ok (.getfield 16, 3) := by decide +kernel
theorem d_M_findMates_28 : decode b_M_findMates 28 = .ok (.iload_n 1, 1) := by decide +kernel
theorem d_M_findMates_29 : decode b_M_findMates 29 = .ok (.iload_n 1, 1) := by decide +kernel
theorem d_M_findMates_30 : decode b_M_findMates 30 = .ok (.iload_n 2, 1) := by decide +kernel
theorem d_M_findMates_31 : decode b_M_findMates 31 = .ok (.if_icmp .eq 22, 3) := by decide +kernel
theorem d_M_findMates_34 : decode b_M_findMates 34 = .ok (.aload_n 0, 1) := by decide +kernel
theorem d_M_findMates_35 : decode b_M_findMates 35 = .ok (.getfield 13, 3) := by decide +kernel
theorem d_M_findMates_38 : decode b_M_findMates 38 = .ok (.iload_n 1, 1) := by decide +kernel
theorem d_M_findMates_39 : decode b_M_findMates 39 = .ok (.iaload, 1) := by decide +kernel
theorem d_M_findMates_40 : decode b_M_findMates 40 = .ok (.aload_n 0, 1) := by decide +kernel
theorem d_M_findMates_41 : decode b_M_findMates 41 = .ok (.getfield 13, 3) := by decide +kernel
theorem d_M_findMates_44 : decode b_M_findMates 44 = .ok (.iload_n 2, 1) := by decide +kernel
theorem d_M_findMates_45 : decode b_M_findMates 45 = .ok (.iaload, 1) := by decide +kernel
theorem d_M_findMates_46 : decode b_M_findMates 46 = .ok (.if_icmp .ne 7, 3) := by decide +kernel
theorem d_M_findMates_49 : decode b_M_findMates 49 = .ok (.iload_n 2, 1) := by decide +kernel
theorem d_M_findMates_50 : decode b_M_findMates 50 = .ok (.goto 9, 3) := by decide +kernel
theorem d_M_findMates_53 : decode b_M_findMates 53 = .ok (.aload_n 0, 1) := by decide +kernel
theorem d_M_findMates_54 : decode b_M_findMates 54 = .ok (.getfield 16, 3) := by decide +kernel
theorem d_M_findMates_57 : decode b_M_findMates 57 = .ok (.iload_n 1, 1) := by decide +kernel
theorem d_M_findMates_58 : decode b_M_findMates 58 = .ok (.iaload, 1) := by decide +kernel
theorem d_M_findMates_59 : decode b_M_findMates 59 = .ok (.iastore, 1) := by decide +kernel
theorem d_M_findMates_60 : decode b_M_findMates 60 = .ok (.iinc 2 1, 3) := by decide +kernel
theorem d_M_findMates_63 : decode b_M_findMates 63 = .ok (.goto (-49), 3) := by decide +kernel
theorem d_M_findMates_66 : decode b_M_findMates 66 = .ok (.iinc 1 1, 3) := by decide +kernel
theorem d_M_findMates_69 : decode b_M_findMates 69 = .ok (.goto (-67), 3) := by decide +kernel
theorem d_M_findMates_72 : decode b_M_findMates 72 = .ok (.return_, 1) := by decide +kernel
theorem d_M_joined_0 : decode b_M_joined 0 = .ok (.iload_n 0, 1) := by decide +kernel
theorem d_M_joined_1 : decode b_M_joined 1 = .ok (.iconst 4, 1) := by decide +kernel
theorem d_M_joined_2 : decode b_M_joined 2 = .ok (.irem, 1) := by decide +kernel
theorem d_M_joined_3 : decode b_M_joined 3 = .ok (.istore_n 2, 1) := by decide +kernel
theorem d_M_joined_4 : decode b_M_joined 4 = .ok (.iload_n 0, 1) := by decide +kernel
theorem d_M_joined_5 : decode b_M_joined 5 = .ok (.iload_n 2, 1) := by decide +kernel
theorem d_M_joined_6 : decode b_M_joined 6 = .ok (.isub, 1) := by decide +kernel
theorem d_M_joined_7 : decode b_M_joined 7 = .ok (.iload_n 1, 1) := by decide +kernel
theorem d_M_joined_8 : decode b_M_joined 8 = .ok (.ifCond .eq 9, 3) := by decide +kernel
theorem d_M_joined_11 : decode b_M_joined 11 = .ok (.iconst 3, 1) := by decide +kernel
theorem d_M_joined_12 : decode b_M_joined 12 = .ok (.iload_n 2, 1) := by decide +kernel
theorem d_M_joined_13 : decode b_M_joined 13 = .ok (.isub, 1) := by decide +kernel
theorem d_M_joined_14 : decode b_M_joined 14 = .ok (.goto 18, 3) := by decide +kernel
theorem d_M_joined_17 : decode b_M_joined 17 = .ok (.iload_n 2, 1) := by decide +kernel
theorem d_M_joined_18 : decode b_M_joined 18 = .ok (.iconst 2, 1) := by decide +kernel
theorem d_M_joined_19 : decode b_M_joined 19 = .ok (.irem, 1) := by decide +kernel
theorem d_M_joined_20 : decode b_M_joined 20 = .ok (.ifCond .ne 9, 3) := by decide +kernel
theorem d_M_joined_23 : decode b_M_joined 23 = .ok (.iload_n 2, 1) := by decide +kernel
theorem d_M_joined_24 : decode b_M_joined 24 = .ok (.iconst 1, 1) := by decide +kernel
theorem d_M_joined_25 : decode b_M_joined 25 = .ok (.iadd, 1) := by decide +kernel
theorem d_M_joined_26 : decode b_M_joined 26 = .ok (.goto 6, 3) := by decide +kernel
theorem d_M_joined_29 : decode b_M_joined 29 = .ok (.iload_n 2, 1) := by decide +kernel
theorem d_M_joined_30 : decode b_M_joined 30 = .ok (.iconst 1, 1) := by decide +kernel
theorem d_M_joined_31 : decode b_M_joined 31 = .ok (.isub, 1) := by decide +kernel
theorem d_M_joined_32 : decode b_M_joined 32 = .ok (.iadd, 1) := by decide +kernel
theorem d_M_joined_33 : decode b_M_joined 33 = .ok (.ireturn, 1) := by decide +kernel
theorem d_M_ways_0 : decode b_M_ways 0 = .ok (.aload_n 0, 1) := by decide +kernel
theorem d_M_ways_1 : decode b_M_ways 1 = .ok (.getfield 50, 3) := by decide +kernel
theorem d_M_ways_4 : decode b_M_ways 4 = .ok (.istore_n 2, 1) := by decide +kernel
theorem d_M_ways_5 : decode b_M_ways 5 = .ok (.iconst 0, 1) := by decide +kernel
theorem d_M_ways_6 : decode b_M_ways 6 = .ok (.istore_n 3, 1) := by decide +kernel
theorem d_M_ways_7 : decode b_M_ways 7 = .ok (.iload_n 3, 1) := by decide +kernel
theorem d_M_ways_8 : decode b_M_ways 8 = .ok (.iconst 4, 1) := by decide +kernel
theorem d_M_ways_9 : decode b_M_ways 9 = .ok (.aload_n 0, 1) := by decide +kernel
theorem d_M_ways_10 : decode b_M_ways 10 = .ok (.getfield 43, 3) := by decide +kernel
theorem d_M_ways_13 : decode b_M_ways 13 = .ok (.imul, 1) := by decide +kernel
theorem d_M_ways_14 : decode b_M_ways 14 = .ok (.if_icmp .ge 16, 3) := by decide +kernel
theorem d_M_ways_17 : decode b_M_ways 17 = .ok (.aload_n 0, 1) := by decide +kernel
theorem d_M_ways_18 : decode b_M_ways 18 = .ok (.getfield 19, 3) := by decide +kernel
theorem d_M_ways_21 : decode b_M_ways 21 = .ok (.iload_n 3, 1) := by decide +kernel
theorem d_M_ways_22 : decode b_M_ways 22 = .ok (.iconst 0, 1) := by decide +kernel
theorem d_M_ways_23 : decode b_M_ways 23 = .ok (.bastore, 1) := by decide +kernel
theorem d_M_ways_24 : decode b_M_ways 24 = .ok (.iinc 3 1, 3) := by decide +kernel
theorem d_M_ways_27 : decode b_M_ways 27 = .ok (.goto (-20), 3) := by decide +kernel
theorem d_M_ways_30 : decode b_M_ways 30 = .ok (.iconst 0, 1) := by decide +kernel
theorem d_M_ways_31 : decode b_M_ways 31 = .ok (.istore_n 3, 1) := by decide +kernel
theorem d_M_ways_32 : decode b_M_ways 32 = .ok (.iload_n 3, 1) := by decide +kernel
theorem d_M_ways_33 : decode b_M_ways 33 = .ok (.iconst 4, 1) := by decide +kernel
theorem d_M_ways_34 : decode b_M_ways 34 = .ok (.aload_n 0, 1) := by decide +kernel
theorem d_M_ways_35 : decode b_M_ways 35 = .ok (.getfield 43, 3) := by decide +kernel
theorem d_M_ways_38 : decode b_M_ways 38 = .ok (.imul, 1) := by decide +kernel
theorem d_M_ways_39 : decode b_M_ways 39 = .ok (.if_icmp .ge 91, 3) := by decide +kernel
theorem d_M_ways_42 : decode b_M_ways 42 = .ok (.iload_n 2, 1) := by decide +kernel
theorem d_M_ways_43 : decode b_M_ways 43 = .ok (.aload_n 0, 1) := by decide +kernel
theorem d_M_ways_44 : decode b_M_ways 44 = .ok (.getfield 19, 3) := by decide +kernel
theorem d_M_ways_47 : decode b_M_ways 47 = .ok (.iload_n 3, 1) := by decide +kernel
theorem d_M_ways_48 : decode b_M_ways 48 = .ok (.baload, 1) := by decide +kernel
theorem d_M_ways_49 : decode b_M_ways 49 = .ok (.ifCond .eq 7, 3) := by decide +kernel
theorem d_M_ways_52 : decode b_M_ways 52 = .ok (.iconst 0, 1) := by decide +kernel
theorem d_M_ways_53 : decode b_M_ways 53 = .ok (.goto 4, 3) := by decide +kernel
theorem d_M_ways_56 : decode b_M_ways 56 = .ok (.iconst 1, 1) := by decide +kernel
theorem d_M_ways_57 : decode b_M_ways 57 = .ok (.iadd, 1) := by decide +kernel
theorem d_M_ways_58 : decode b_M_ways 58 = .ok (.istore_n 2, 1) := by decide +kernel
theorem d_M_ways_59 : decode b_M_ways 59 = .ok (.iload_n 3, 1) := by decide +kernel
theorem d_M_ways_60 : decode b_M_ways 60 = .ok (.istore 4, 2) := by decide +kernel
theorem d_M_ways_62 : decode b_M_ways 62 = .ok (.aload_n 0, 1) := by decide +kernel
theorem d_M_ways_63 : decode b_M_ways 63 = .ok (.getfield 19, 3) := by decide +kernel
theorem d_M_ways_66 : decode b_M_ways 66 = .ok (.iload 4, 2) := by decide +kernel
theorem d_M_ways_68 : decode b_M_ways 68 = .ok (.baload, 1) := by decide +kernel
theorem d_M_ways_69 : decode b_M_ways 69 = .ok (.ifCond .ne 55, 3) := by decide +kernel
theorem d_M_ways_72 : decode b_M_ways 72 = .ok (.aload_n 0, 1) := by decide +kernel
theorem d_M_ways_73 : decode b_M_ways 73 = .ok (.getfield 19, 3) := by decide +kernel
theorem d_M_ways_76 : decode b_M_ways 76 = .ok (.iload 4, 2) := by decide +kernel
theorem d_M_ways_78 : decode b_M_ways 78 = .ok (.iconst 1, 1) := by decide +kernel
theorem d_M_ways_79 : decode b_M_ways 79 = .ok (.bastore, 1) := by decide +kernel
theorem d_M_ways_80 : decode b_M_ways 80 = .ok (.iload 4, 2) := by decide +kernel
theorem d_M_ways_82 : decode b_M_ways 82 = .ok (.iload_n 1, 1) := by decide +kernel
theorem d_M_ways_83 : decode b_M_ways 83 = .ok (.iload 4, 2) := by decide +kernel
theorem d_M_ways_85 : decode b_M_ways 85 = .ok (.iconst 4, 1) := by decide +kernel
theorem d_M_ways_86 : decode b_M_ways 86 = .ok (.idiv, 1) := by decide +kernel
theorem d_M_ways_87 : decode b_M_ways 87 = .ok (.ishr, 1) := by decide +kernel
theorem d_M_ways_88 : decode b_M_ways 88 = .ok (.iconst 1, 1) := by decide +kernel
theorem d_M_ways_89 : decode b_M_ways 89 = .ok (.iand, 1) := by decide +kernel
theorem d_M_ways_90 : decode b_M_ways 90 = .ok (.iconst 1, 1) := by decide +kernel
theorem d_M_ways_91 : decode b_M_ways 91 = .ok (.if_icmp .ne 7, 3) := by decide +kernel
theorem d_M_ways_94 : decode b_M_ways 94 = .ok (.iconst 1, 1) := by decide +kernel
theorem d_M_ways_95 : decode b_M_ways 95 = .ok (.goto 4, 3) := by decide +kernel
theorem d_M_ways_98 : decode b_M_ways 98 = .ok (.iconst 0, 1) := by decide +kernel
theorem d_M_ways_99 : decode b_M_ways 99 = .ok (.invokestatic 57, 3) := by decide +kernel
theorem d_M_ways_102 : decode b_M_ways 102 = .ok (.istore 5, 2) := by decide +kernel
theorem d_M_ways_104 : decode b_M_ways 104 = .ok (.aload_n 0, 1) := by decide +kernel
theorem d_M_ways_105 : decode b_M_ways 105 = .ok (.getfield 19, 3) := by decide +kernel
theorem d_M_ways_108 : decode b_M_ways 108 = .ok (.iload 5, 2) := by decide +kernel
theorem d_M_ways_110 : decode b_M_ways 110 = .ok (.iconst 1, 1) := by decide +kernel
theorem d_M_ways_111 : decode b_M_ways 111 = .ok (.bastore, 1) := by decide +kernel
theorem d_M_ways_112 : decode b_M_ways 112 = .ok (.aload_n 0, 1) := by decide +kernel
theorem d_M_ways_113 : decode b_M_ways 113 = .ok (.getfield 16, 3) := by decide +kernel
theorem d_M_ways_116 : decode b_M_ways 116 = .ok (.iload 5, 2) := by decide +kernel
theorem d_M_ways_118 : decode b_M_ways 118 = .ok (.iaload, 1) := by decide +kernel
theorem d_M_ways_119 : decode b_M_ways 119 = .ok (.istore 4, 2) := by decide +kernel
theorem d_M_ways_121 : decode b_M_ways 121 = .ok (.goto (-59), 3) := by decide +kernel
theorem d_M_ways_124 : decode b_M_ways 124 = .ok (.iinc 3 1, 3) := by decide +kernel
theorem d_M_ways_127 : decode b_M_ways 127 = .ok (.goto (-95), 3) := by decide +kernel
theorem d_M_ways_130 : decode b_M_ways 130 = .ok (.iload_n 2, 1) := by decide +kernel
theorem d_M_ways_131 : decode b_M_ways 131 = .ok (.ireturn, 1) := by decide +kernel
theorem d_M_state_0 : decode b_M_state 0 = .ok (.aload_n 0, 1) := by decide +kernel
theorem d_M_state_1 : decode b_M_state 1 = .ok (.invokevirtual 61, 3) := by decide +kernel
theorem d_M_state_4 : decode b_M_state 4 = .ok (.ifCond .gt 17, 3) := by decide +kernel
theorem d_M_state_7 : decode b_M_state 7 = .ok (.iload_n 1, 1) := by decide +kernel
theorem d_M_state_8 : decode b_M_state 8 = .ok (.ifCond .lt 13, 3) := by decide +kernel
theorem d_M_state_11 : decode b_M_state 11 = .ok (.iload_n 1, 1) := by decide +kernel
theorem d_M_state_12 : decode b_M_state 12 = .ok (.iconst 1, 1) := by decide +kernel
theorem d_M_state_13 : decode b_M_state 13 = .ok (.aload_n 0, 1) := by decide +kernel
theorem d_M_state_14 : decode b_M_state 14 = .ok (.getfield 43, 3) := by decide +kernel
theorem d_M_state_17 : decode b_M_state 17 = .ok (.ishl, 1) := by decide +kernel
theorem d_M_state_18 : decode b_M_state 18 = .ok (.if_icmp .lt 5, 3) := by decide +kernel
theorem d_M_state_21 : decode b_M_state 21 = .ok (.iconst (-1), 1) := by decide +kernel
theorem d_M_state_22 : decode b_M_state 22 = .ok (.ireturn, 1) := by decide +kernel
theorem d_M_state_23 : decode b_M_state 23 = .ok (.aload_n 0, 1) := by decide +kernel
theorem d_M_state_24 : decode b_M_state 24 = .ok (.invokevirtual 65, 3) := by decide +kernel
theorem d_M_state_27 : decode b_M_state 27 = .ok (.aload_n 0, 1) := by decide +kernel
theorem d_M_state_28 : decode b_M_state 28 = .ok (.iload_n 1, 1) := by decide +kernel
theorem d_M_state_29 : decode b_M_state 29 = .ok (.invokevirtual 68, 3) := by decide +kernel
theorem d_M_state_32 : decode b_M_state 32 = .ok (.ireturn, 1) := by decide +kernel
theorem d_M_bits_0 : decode b_M_bits 0 = .ok (.iconst 0, 1) := by decide +kernel
theorem d_M_bits_1 : decode b_M_bits 1 = .ok (.istore_n 1, 1) := by decide +kernel
theorem d_M_bits_2 : decode b_M_bits 2 = .ok (.iconst 0, 1) := by decide +kernel
theorem d_M_bits_3 : decode b_M_bits 3 = .ok (.istore_n 2, 1) := by decide +kernel
theorem d_M_bits_4 : decode b_M_bits 4 = .ok (.iload_n 2, 1) := by decide +kernel
theorem d_M_bits_5 : decode b_M_bits 5 = .ok (.bipush 10, 2) := by decide +kernel
theorem d_M_bits_7 : decode b_M_bits 7 = .ok (.if_icmp .ge 17, 3) := by decide +kernel
theorem d_M_bits_10 : decode b_M_bits 10 = .ok (.iload_n 1, 1) := by decide +kernel
theorem d_M_bits_11 : decode b_M_bits 11 = .ok (.iload_n 0, 1) := by decide +kernel
theorem d_M_bits_12 : decode b_M_bits 12 = .ok (.iload_n 2, 1) := by decide +kernel
theorem d_M_bits_13 : decode b_M_bits 13 = .ok (.ishr, 1) := by decide +kernel
theorem d_M_bits_14 : decode b_M_bits 14 = .ok (.iconst 1, 1) := by decide +kernel
theorem d_M_bits_15 : decode b_M_bits 15 = .ok (.iand, 1) := by decide +kernel
theorem d_M_bits_16 : decode b_M_bits 16 = .ok (.iadd, 1) := by decide +kernel
theorem d_M_bits_17 : decode b_M_bits 17 = .ok (.istore_n 1, 1) := by decide +kernel
theorem d_M_bits_18 : decode b_M_bits 18 = .ok (.iinc 2 1, 3) := by decide +kernel
theorem d_M_bits_21 : decode b_M_bits 21 = .ok (.goto (-17), 3) := by decide +kernel
theorem d_M_bits_24 : decode b_M_bits 24 = .ok (.iload_n 1, 1) := by decide +kernel
theorem d_M_bits_25 : decode b_M_bits 25 = .ok (.ireturn, 1) := by decide +kernel
theorem d_M_expand_0 : decode b_M_expand 0 = .ok (.iconst 0, 1) := by decide +kernel
theorem d_M_expand_1 : decode b_M_expand 1 = .ok (.istore 4, 2) := by decide +kernel
theorem d_M_expand_3 : decode b_M_expand 3 = .ok (.iload 4, 2) := by decide +kernel
theorem d_M_expand_5 : decode b_M_expand 5 = .ok (.iload_n 3, 1) := by decide +kernel
theorem d_M_expand_6 : decode b_M_expand 6 = .ok (.if_icmp .gt 17, 3) := by decide +kernel
theorem d_M_expand_9 : decode b_M_expand 9 = .ok (.aload_n 0, 1) := by decide +kernel
theorem d_M_expand_10 : decode b_M_expand 10 = .ok (.getfield 33, 3) := by decide +kernel
theorem d_M_expand_13 : decode b_M_expand 13 = .ok (.iload 4, 2) := by decide +kernel
theorem d_M_expand_15 : decode b_M_expand 15 = .ok (.lconst 0, 1) := by decide +kernel
theorem d_M_expand_16 : decode b_M_expand 16 = .ok (.lastore, 1) := by decide +kernel
theorem d_M_expand_17 : decode b_M_expand 17 = .ok (.iinc 4 1, 3) := by decide +kernel
theorem d_M_expand_20 : decode b_M_expand 20 = .ok (.goto (-17), 3) := by decide +kernel
theorem d_M_expand_23 : decode b_M_expand 23 = .ok (.aload_n 0, 1) := by decide +kernel
theorem d_M_expand_24 : decode b_M_expand 24 = .ok (.getfield 33, 3) := by decide +kernel
theorem d_M_expand_27 : decode b_M_expand 27 = .ok (.iconst 0, 1) := by decide +kernel
theorem d_M_expand_28 : decode b_M_expand 28 = .ok (.lconst 1, 1) := by decide +kernel
theorem d_M_expand_29 : decode b_M_expand 29 = .ok (.lastore, 1) := by decide +kernel
theorem d_M_expand_30 : decode b_M_expand 30 = .ok (.iconst 1, 1) := by decide +kernel
theorem d_M_expand_31 : decode b_M_expand 31 = .ok (.istore 4, 2) := by decide +kernel
theorem d_M_expand_33 : decode b_M_expand 33 = .ok (.iload 4, 2) := by decide +kernel
theorem d_M_expand_35 : decode b_M_expand 35 = .ok (.iload_n 3, 1) := by decide +kernel
theorem d_M_expand_36 : decode b_M_expand 36 = .ok (.if_icmp .gt 48, 3) := by decide +kernel
theorem d_M_expand_39 : decode b_M_expand 39 = .ok (.iload 4, 2) := by decide +kernel
theorem d_M_expand_41 : decode b_M_expand 41 = .ok (.istore 5, 2) := by decide +kernel
theorem d_M_expand_43 : decode b_M_expand 43 = .ok (.iload 5, 2) := by decide +kernel
theorem d_M_expand_45 : decode b_M_expand 45 = .ok (.ifCond .le 33, 3) := by decide +kernel
theorem d_M_expand_48 : decode b_M_expand 48 = .ok (.aload_n 0, 1) := by decide +kernel
theorem d_M_expand_49 : decode b_M_expand 49 = .ok (.getfield 33, 3) := by decide +kernel
theorem d_M_expand_52 : decode b_M_expand 52 = .ok (.iload 5, 2) := by decide +kernel
theorem d_M_expand_54 : decode b_M_expand 54 = .ok (.aload_n 0, 1) := by decide +kernel
theorem d_M_expand_55 : decode b_M_expand 55 = .ok (.getfield 33, 3) := by decide +kernel
theorem d_M_expand_58 : decode b_M_expand 58 = .ok (.iload 5, 2) := by decide +kernel
theorem d_M_expand_60 : decode b_M_expand 60 = .ok (.laload, 1) := by decide +kernel
theorem d_M_expand_61 : decode b_M_expand 61 = .ok (.aload_n 0, 1) := by decide +kernel
theorem d_M_expand_62 : decode b_M_expand 62 = .ok (.getfield 33, 3) := by decide +kernel
theorem d_M_expand_65 : decode b_M_expand 65 = .ok (.iload 5, 2) := by decide +kernel
theorem d_M_expand_67 : decode b_M_expand 67 = .ok (.iconst 1, 1) := by decide +kernel
theorem d_M_expand_68 : decode b_M_expand 68 = .ok (.isub, 1) := by decide +kernel
theorem d_M_expand_69 : decode b_M_expand 69 = .ok (.laload, 1) := by decide +kernel
theorem d_M_expand_70 : decode b_M_expand 70 = .ok (.ladd, 1) := by decide +kernel
theorem d_M_expand_71 : decode b_M_expand 71 = .ok (.lastore, 1) := by decide +kernel
theorem d_M_expand_72 : decode b_M_expand 72 = .ok (.iinc 5 (-1), 3) := by decide +kernel
theorem d_M_expand_75 : decode b_M_expand 75 = .ok (.goto (-32), 3) := by decide +kernel
theorem d_M_expand_78 : decode b_M_expand 78 = .ok (.iinc 4 1, 3) := by decide +kernel
theorem d_M_expand_81 : decode b_M_expand 81 = .ok (.goto (-48), 3) := by decide +kernel
theorem d_M_expand_84 : decode b_M_expand 84 = .ok (.iconst 0, 1) := by decide +kernel
theorem d_M_expand_85 : decode b_M_expand 85 = .ok (.istore 4, 2) := by decide +kernel
theorem d_M_expand_87 : decode b_M_expand 87 = .ok (.iload 4, 2) := by decide +kernel
theorem d_M_expand_89 : decode b_M_expand 89 = .ok (.iload_n 3, 1) := by decide +kernel
theorem d_M_expand_90 : decode b_M_expand 90 = .ok (.if_icmp .gt 61, 3) := by decide +kernel
theorem d_M_expand_93 : decode b_M_expand 93 = .ok (.sipush 128, 3) := by decide +kernel
theorem d_M_expand_96 : decode b_M_expand 96 = .ok (.iload_n 2, 1) := by decide +kernel
theorem d_M_expand_97 : decode b_M_expand 97 = .ok (.iadd, 1) := by decide +kernel
theorem d_M_expand_98 : decode b_M_expand 98 = .ok (.iconst 2, 1) := by decide +kernel
theorem d_M_expand_99 : decode b_M_expand 99 = .ok (.iload_n 3, 1) := by decide +kernel
theorem d_M_expand_100 : decode b_M_expand 100 = .ok (.imul, 1) := by decide +kernel
theorem d_M_expand_101 : decode b_M_expand 101 = .ok (.iadd, 1) := by decide +kernel
theorem d_M_expand_102 : decode b_M_expand 102 = .ok (.iconst 4, 1) := by decide +kernel
theorem d_M_expand_103 : decode b_M_expand 103 = .ok (.iload 4, 2) := by decide +kernel
theorem d_M_expand_105 : decode b_M_expand 105 = .ok (.imul, 1) := by decide +kernel
theorem d_M_expand_106 : decode b_M_expand 106 = .ok (.isub, 1) := by decide +kernel
theorem d_M_expand_107 : decode b_M_expand 107 = .ok (.istore 5, 2) := by decide +kernel
theorem d_M_expand_109 : decode b_M_expand 109 = .ok (.aload_n 0, 1) := by decide +kernel
theorem d_M_expand_110 : decode b_M_expand 110 = .ok (.getfield 26, 3) := by decide +kernel
theorem d_M_expand_113 : decode b_M_expand 113 = .ok (.iload 5, 2) := by decide +kernel
theorem d_M_expand_115 : decode b_M_expand 115 = .ok (.aload_n 0, 1) := by decide +kernel
theorem d_M_expand_116 : decode b_M_expand 116 = .ok (.getfield 26, 3) := by decide +kernel
theorem d_M_expand_119 : decode b_M_expand 119 = .ok (.iload 5, 2) := by decide +kernel
theorem d_M_expand_121 : decode b_M_expand 121 = .ok (.laload, 1) := by decide +kernel
theorem d_M_expand_122 : decode b_M_expand 122 = .ok (.iload_n 3, 1) := by decide +kernel
theorem d_M_expand_123 : decode b_M_expand 123 = .ok (.iconst 2, 1) := by decide +kernel
theorem d_M_expand_124 : decode b_M_expand 124 = .ok (.irem, 1) := by decide +kernel
theorem d_M_expand_125 : decode b_M_expand 125 = .ok (.ifCond .ne 7, 3) := by decide +kernel
theorem d_M_expand_128 : decode b_M_expand 128 = .ok (.iload_n 1, 1) := by decide +kernel
theorem d_M_expand_129 : decode b_M_expand 129 = .ok (.goto 5, 3) := by decide +kernel
theorem d_M_expand_132 : decode b_M_expand 132 = .ok (.iload_n 1, 1) := by decide +kernel
theorem d_M_expand_133 : decode b_M_expand 133 = .ok (.ineg, 1) := by decide +kernel
theorem d_M_expand_134 : decode b_M_expand 134 = .ok (.i2l, 1) := by decide +kernel
theorem d_M_expand_135 : decode b_M_expand 135 = .ok (.aload_n 0, 1) := by decide +kernel
theorem d_M_expand_136 : decode b_M_expand 136 = .ok (.getfield 33, 3) := by decide +kernel
theorem d_M_expand_139 : decode b_M_expand 139 = .ok (.iload 4, 2) := by decide +kernel
theorem d_M_expand_141 : decode b_M_expand 141 = .ok (.laload, 1) := by decide +kernel
theorem d_M_expand_142 : decode b_M_expand 142 = .ok (.lmul, 1) := by decide +kernel
theorem d_M_expand_143 : decode b_M_expand 143 = .ok (.ladd, 1) := by decide +kernel
theorem d_M_expand_144 : decode b_M_expand 144 = .ok (.lastore, 1) := by decide +kernel
theorem d_M_expand_145 : decode b_M_expand 145 = .ok (.iinc 4 1, 3) := by decide +kernel
theorem d_M_expand_148 : decode b_M_expand 148 = .ok (.goto (-61), 3) := by decide +kernel
theorem d_M_expand_151 : decode b_M_expand 151 = .ok (.return_, 1) := by decide +kernel
theorem d_M_know_0 : decode b_M_know 0 = .ok (.aload_n 0, 1) := by decide +kernel
theorem d_M_know_1 : decode b_M_know 1 = .ok (.getfield 46, 3) := by decide +kernel
theorem d_M_know_4 : decode b_M_know 4 = .ok (.ifCond .eq 4, 3) := by decide +kernel
theorem d_M_know_7 : decode b_M_know 7 = .ok (.return_, 1) := by decide +kernel
theorem d_M_know_8 : decode b_M_know 8 = .ok (.aload_n 0, 1) := by decide +kernel
theorem d_M_know_9 : decode b_M_know 9 = .ok (.iconst 1, 1) := by decide +kernel
theorem d_M_know_10 : decode b_M_know 10 = .ok (.putfield 46, 3) := by decide +kernel
theorem d_M_know_13 : decode b_M_know 13 = .ok (.iconst 0, 1) := by decide +kernel
theorem d_M_know_14 : decode b_M_know 14 = .ok (.istore_n 1, 1) := by decide +kernel
theorem d_M_know_15 : decode b_M_know 15 = .ok (.iload_n 1, 1) := by decide +kernel
theorem d_M_know_16 : decode b_M_know 16 = .ok (.sipush 260, 3) := by decide +kernel
theorem d_M_know_19 : decode b_M_know 19 = .ok (.if_icmp .ge 16, 3) := by decide +kernel
theorem d_M_know_22 : decode b_M_know 22 = .ok (.aload_n 0, 1) := by decide +kernel
theorem d_M_know_23 : decode b_M_know 23 = .ok (.getfield 26, 3) := by decide +kernel
theorem d_M_know_26 : decode b_M_know 26 = .ok (.iload_n 1, 1) := by decide +kernel
theorem d_M_know_27 : decode b_M_know 27 = .ok (.lconst 0, 1) := by decide +kernel
theorem d_M_know_28 : decode b_M_know 28 = .ok (.lastore, 1) := by decide +kernel
theorem d_M_know_29 : decode b_M_know 29 = .ok (.iinc 1 1, 3) := by decide +kernel
theorem d_M_know_32 : decode b_M_know 32 = .ok (.goto (-17), 3) := by decide +kernel
theorem d_M_know_35 : decode b_M_know 35 = .ok (.aload_n 0, 1) := by decide +kernel
