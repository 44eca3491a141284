theorem d_W_undo_31 : decode b_W_undo 31 = .ok (.iconst 3, 1) := by decide +kernel
theorem d_W_undo_32 : decode b_W_undo 32 = .ok (.iadd, 1) := by decide +kernel
theorem d_W_undo_33 : decode b_W_undo 33 = .ok (.iload_n 3, 1) := by decide +kernel
theorem d_W_undo_34 : decode b_W_undo 34 = .ok (.invokevirtual 28, 3) := by decide +kernel
theorem d_W_undo_37 : decode b_W_undo 37 = .ok (.aload_n 0, 1) := by decide +kernel
theorem d_W_undo_38 : decode b_W_undo 38 = .ok (.iload_n 3, 1) := by decide +kernel
theorem d_W_undo_39 : decode b_W_undo 39 = .ok (.iconst 1, 1) := by decide +kernel
theorem d_W_undo_40 : decode b_W_undo 40 = .ok (.iadd, 1) := by decide +kernel
theorem d_W_undo_41 : decode b_W_undo 41 = .ok (.iload_n 3, 1) := by decide +kernel
theorem d_W_undo_42 : decode b_W_undo 42 = .ok (.iconst 2, 1) := by decide +kernel
theorem d_W_undo_43 : decode b_W_undo 43 = .ok (.iadd, 1) := by decide +kernel
theorem d_W_undo_44 : decode b_W_undo 44 = .ok (.invokevirtual 28, 3) := by decide +kernel
theorem d_W_undo_47 : decode b_W_undo 47 = .ok (.return_, 1) := by decide +kernel
theorem d_W_join_0 : decode b_W_join 0 = .ok (.aload_n 0, 1) := by decide +kernel
theorem d_W_join_1 : decode b_W_join 1 = .ok (.getfield 9, 3) := by decide +kernel
theorem d_W_join_4 : decode b_W_join 4 = .ok (.iload_n 1, 1) := by decide +kernel
theorem d_W_join_5 : decode b_W_join 5 = .ok (.iaload, 1) := by decide +kernel
theorem d_W_join_6 : decode b_W_join 6 = .ok (.iload_n 2, 1) := by decide +kernel
theorem d_W_join_7 : decode b_W_join 7 = .ok (.if_icmp .ne 5, 3) := by decide +kernel
theorem d_W_join_10 : decode b_W_join 10 = .ok (.iconst 1, 1) := by decide +kernel
theorem d_W_join_11 : decode b_W_join 11 = .ok (.ireturn, 1) := by decide +kernel
theorem d_W_join_12 : decode b_W_join 12 = .ok (.aload_n 0, 1) := by decide +kernel
theorem d_W_join_13 : decode b_W_join 13 = .ok (.getfield 9, 3) := by decide +kernel
theorem d_W_join_16 : decode b_W_join 16 = .ok (.iload_n 1, 1) := by decide +kernel
theorem d_W_join_17 : decode b_W_join 17 = .ok (.iaload, 1) := by decide +kernel
theorem d_W_join_18 : decode b_W_join 18 = .ok (.istore_n 3, 1) := by decide +kernel
theorem d_W_join_19 : decode b_W_join 19 = .ok (.aload_n 0, 1) := by decide +kernel
theorem d_W_join_20 : decode b_W_join 20 = .ok (.getfield 9, 3) := by decide +kernel
theorem d_W_join_23 : decode b_W_join 23 = .ok (.iload_n 2, 1) := by decide +kernel
theorem d_W_join_24 : decode b_W_join 24 = .ok (.iaload, 1) := by decide +kernel
theorem d_W_join_25 : decode b_W_join 25 = .ok (.istore 4, 2) := by decide +kernel
theorem d_W_join_27 : decode b_W_join 27 = .ok (.aload_n 0, 1) := by decide +kernel
theorem d_W_join_28 : decode b_W_join 28 = .ok (.getfield 9, 3) := by decide +kernel
theorem d_W_join_31 : decode b_W_join 31 = .ok (.iload_n 3, 1) := by decide +kernel
theorem d_W_join_32 : decode b_W_join 32 = .ok (.iload 4, 2) := by decide +kernel
theorem d_W_join_34 : decode b_W_join 34 = .ok (.iastore, 1) := by decide +kernel
theorem d_W_join_35 : decode b_W_join 35 = .ok (.aload_n 0, 1) := by decide +kernel
theorem d_W_join_36 : decode b_W_join 36 = .ok (.getfield 9, 3) := by decide +kernel
theorem d_W_join_39 : decode b_W_join 39 = .ok (.iload 4, 2) := by decide +kernel
theorem d_W_join_41 : decode b_W_join 41 = .ok (.iload_n 3, 1) := by decide +kernel
theorem d_W_join_42 : decode b_W_join 42 = .ok (.iastore, 1) := by decide +kernel
theorem d_W_join_43 : decode b_W_join 43 = .ok (.iconst 0, 1) := by decide +kernel
theorem d_W_join_44 : decode b_W_join 44 = .ok (.ireturn, 1) := by decide +kernel
theorem d_W_part_0 : decode b_W_part 0 = .ok (.aload_n 0, 1) := by decide +kernel
theorem d_W_part_1 : decode b_W_part 1 = .ok (.getfield 9, 3) := by decide +kernel
theorem d_W_part_4 : decode b_W_part 4 = .ok (.aload_n 0, 1) := by decide +kernel
theorem d_W_part_5 : decode b_W_part 5 = .ok (.getfield 9, 3) := by decide +kernel
theorem d_W_part_8 : decode b_W_part 8 = .ok (.iload_n 1, 1) := by decide +kernel
theorem d_W_part_9 : decode b_W_part 9 = .ok (.iaload, 1) := by decide +kernel
theorem d_W_part_10 : decode b_W_part 10 = .ok (.iload_n 1, 1) := by decide +kernel
theorem d_W_part_11 : decode b_W_part 11 = .ok (.iastore, 1) := by decide +kernel
theorem d_W_part_12 : decode b_W_part 12 = .ok (.aload_n 0, 1) := by decide +kernel
theorem d_W_part_13 : decode b_W_part 13 = .ok (.getfield 9, 3) := by decide +kernel
theorem d_W_part_16 : decode b_W_part 16 = .ok (.aload_n 0, 1) := by decide +kernel
theorem d_W_part_17 : decode b_W_part 17 = .ok (.getfield 9, 3) := by decide +kernel
theorem d_W_part_20 : decode b_W_part 20 = .ok (.iload_n 2, 1) := by decide +kernel
theorem d_W_part_21 : decode b_W_part 21 = .ok (.iaload, 1) := by decide +kernel
theorem d_W_part_22 : decode b_W_part 22 = .ok (.iload_n 2, 1) := by decide +kernel
theorem d_W_part_23 : decode b_W_part 23 = .ok (.iastore, 1) := by decide +kernel
theorem d_W_part_24 : decode b_W_part 24 = .ok (.return_, 1) := by decide +kernel
