theorem d_M_look_17 : decode b_M_look 17 = .ok (.iconst 1, 1) := by decide +kernel
theorem d_M_look_18 : decode b_M_look 18 = .ok (.if_icmp .ne 10, 3) := by decide +kernel
theorem d_M_look_21 : decode b_M_look 21 = .ok (.aload_n 0, 1) := by decide +kernel
theorem d_M_look_22 : decode b_M_look 22 = .ok (.getfield 50, 3) := by decide +kernel
theorem d_M_look_25 : decode b_M_look 25 = .ok (.goto 18, 3) := by decide +kernel
theorem d_M_look_28 : decode b_M_look 28 = .ok (.iload_n 2, 1) := by decide +kernel
theorem d_M_look_29 : decode b_M_look 29 = .ok (.iconst 2, 1) := by decide +kernel
theorem d_M_look_30 : decode b_M_look 30 = .ok (.if_icmp .ne 10, 3) := by decide +kernel
theorem d_M_look_33 : decode b_M_look 33 = .ok (.aload_n 0, 1) := by decide +kernel
theorem d_M_look_34 : decode b_M_look 34 = .ok (.invokevirtual 81, 3) := by decide +kernel
theorem d_M_look_37 : decode b_M_look 37 = .ok (.goto 6, 3) := by decide +kernel
theorem d_M_look_40 : decode b_M_look 40 = .ok (.sipush (-1000), 3) := by decide +kernel
theorem d_M_look_43 : decode b_M_look 43 = .ok (.ireturn, 1) := by decide +kernel
theorem d_M_look_44 : decode b_M_look 44 = .ok (.iload_n 1, 1) := by decide +kernel
theorem d_M_look_45 : decode b_M_look 45 = .ok (.ifCond .lt 20, 3) := by decide +kernel
theorem d_M_look_48 : decode b_M_look 48 = .ok (.iload_n 1, 1) := by decide +kernel
theorem d_M_look_49 : decode b_M_look 49 = .ok (.aload_n 0, 1) := by decide +kernel
theorem d_M_look_50 : decode b_M_look 50 = .ok (.getfield 43, 3) := by decide +kernel
theorem d_M_look_53 : decode b_M_look 53 = .ok (.if_icmp .ge 12, 3) := by decide +kernel
theorem d_M_look_56 : decode b_M_look 56 = .ok (.iload_n 2, 1) := by decide +kernel
theorem d_M_look_57 : decode b_M_look 57 = .ok (.ifCond .lt 8, 3) := by decide +kernel
theorem d_M_look_60 : decode b_M_look 60 = .ok (.iload_n 2, 1) := by decide +kernel
theorem d_M_look_61 : decode b_M_look 61 = .ok (.iconst 4, 1) := by decide +kernel
theorem d_M_look_62 : decode b_M_look 62 = .ok (.if_icmp .le 7, 3) := by decide +kernel
theorem d_M_look_65 : decode b_M_look 65 = .ok (.sipush (-1000), 3) := by decide +kernel
theorem d_M_look_68 : decode b_M_look 68 = .ok (.ireturn, 1) := by decide +kernel
theorem d_M_look_69 : decode b_M_look 69 = .ok (.iload_n 2, 1) := by decide +kernel
theorem d_M_look_70 : decode b_M_look 70 = .ok (.iconst 4, 1) := by decide +kernel
theorem d_M_look_71 : decode b_M_look 71 = .ok (.if_icmp .ne 12, 3) := by decide +kernel
theorem d_M_look_74 : decode b_M_look 74 = .ok (.aload_n 0, 1) := by decide +kernel
theorem d_M_look_75 : decode b_M_look 75 = .ok (.getfield 7, 3) := by decide +kernel
theorem d_M_look_78 : decode b_M_look 78 = .ok (.iload_n 1, 1) := by decide +kernel
theorem d_M_look_79 : decode b_M_look 79 = .ok (.iaload, 1) := by decide +kernel
theorem d_M_look_80 : decode b_M_look 80 = .ok (.goto 13, 3) := by decide +kernel
theorem d_M_look_83 : decode b_M_look 83 = .ok (.aload_n 0, 1) := by decide +kernel
theorem d_M_look_84 : decode b_M_look 84 = .ok (.getfield 13, 3) := by decide +kernel
theorem d_M_look_87 : decode b_M_look 87 = .ok (.iconst 4, 1) := by decide +kernel
theorem d_M_look_88 : decode b_M_look 88 = .ok (.iload_n 1, 1) := by decide +kernel
theorem d_M_look_89 : decode b_M_look 89 = .ok (.imul, 1) := by decide +kernel
theorem d_M_look_90 : decode b_M_look 90 = .ok (.iload_n 2, 1) := by decide +kernel
theorem d_M_look_91 : decode b_M_look 91 = .ok (.iadd, 1) := by decide +kernel
theorem d_M_look_92 : decode b_M_look 92 = .ok (.iaload, 1) := by decide +kernel
theorem d_M_look_93 : decode b_M_look 93 = .ok (.ireturn, 1) := by decide +kernel
theorem d_M_become_0 : decode b_M_become 0 = .ok (.iconst 0, 1) := by decide +kernel
theorem d_M_become_1 : decode b_M_become 1 = .ok (.istore_n 3, 1) := by decide +kernel
theorem d_M_become_2 : decode b_M_become 2 = .ok (.iload_n 3, 1) := by decide +kernel
theorem d_M_become_3 : decode b_M_become 3 = .ok (.iconst 4, 1) := by decide +kernel
theorem d_M_become_4 : decode b_M_become 4 = .ok (.aload_n 0, 1) := by decide +kernel
theorem d_M_become_5 : decode b_M_become 5 = .ok (.getfield 43, 3) := by decide +kernel
theorem d_M_become_8 : decode b_M_become 8 = .ok (.imul, 1) := by decide +kernel
theorem d_M_become_9 : decode b_M_become 9 = .ok (.if_icmp .ge 35, 3) := by decide +kernel
theorem d_M_become_12 : decode b_M_become 12 = .ok (.aload_n 0, 1) := by decide +kernel
theorem d_M_become_13 : decode b_M_become 13 = .ok (.getfield 13, 3) := by decide +kernel
theorem d_M_become_16 : decode b_M_become 16 = .ok (.iload_n 3, 1) := by decide +kernel
theorem d_M_become_17 : decode b_M_become 17 = .ok (.aload_n 0, 1) := by decide +kernel
theorem d_M_become_18 : decode b_M_become 18 = .ok (.getfield 13, 3) := by decide +kernel
theorem d_M_become_21 : decode b_M_become 21 = .ok (.iload_n 3, 1) := by decide +kernel
theorem d_M_become_22 : decode b_M_become 22 = .ok (.iaload, 1) := by decide +kernel
theorem d_M_become_23 : decode b_M_become 23 = .ok (.iload_n 1, 1) := by decide +kernel
theorem d_M_become_24 : decode b_M_become 24 = .ok (.if_icmp .ne 7, 3) := by decide +kernel
theorem d_M_become_27 : decode b_M_become 27 = .ok (.iload_n 2, 1) := by decide +kernel
theorem d_M_become_28 : decode b_M_become 28 = .ok (.goto 9, 3) := by decide +kernel
theorem d_M_become_31 : decode b_M_become 31 = .ok (.aload_n 0, 1) := by decide +kernel
theorem d_M_become_32 : decode b_M_become 32 = .ok (.getfield 13, 3) := by decide +kernel
theorem d_M_become_35 : decode b_M_become 35 = .ok (.iload_n 3, 1) := by decide +kernel
theorem d_M_become_36 : decode b_M_become 36 = .ok (.iaload, 1) := by decide +kernel
theorem d_M_become_37 : decode b_M_become 37 = .ok (.iastore, 1) := by decide +kernel
theorem d_M_become_38 : decode b_M_become 38 = .ok (.iinc 3 1, 3) := by decide +kernel
theorem d_M_become_41 : decode b_M_become 41 = .ok (.goto (-39), 3) := by decide +kernel
theorem d_M_become_44 : decode b_M_become 44 = .ok (.iconst 0, 1) := by decide +kernel
theorem d_M_become_45 : decode b_M_become 45 = .ok (.istore_n 3, 1) := by decide +kernel
theorem d_M_become_46 : decode b_M_become 46 = .ok (.iload_n 3, 1) := by decide +kernel
theorem d_M_become_47 : decode b_M_become 47 = .ok (.iconst 4, 1) := by decide +kernel
theorem d_M_become_48 : decode b_M_become 48 = .ok (.if_icmp .ge 35, 3) := by decide +kernel
theorem d_M_become_51 : decode b_M_become 51 = .ok (.aload_n 0, 1) := by decide +kernel
theorem d_M_become_52 : decode b_M_become 52 = .ok (.getfield 36, 3) := by decide +kernel
theorem d_M_become_55 : decode b_M_become 55 = .ok (.iload_n 3, 1) := by decide +kernel
theorem d_M_become_56 : decode b_M_become 56 = .ok (.aload_n 0, 1) := by decide +kernel
theorem d_M_become_57 : decode b_M_become 57 = .ok (.getfield 36, 3) := by decide +kernel
theorem d_M_become_60 : decode b_M_become 60 = .ok (.iload_n 3, 1) := by decide +kernel
theorem d_M_become_61 : decode b_M_become 61 = .ok (.iaload, 1) := by decide +kernel
theorem d_M_become_62 : decode b_M_become 62 = .ok (.iload_n 1, 1) := by decide +kernel
theorem d_M_become_63 : decode b_M_become 63 = .ok (.if_icmp .ne 7, 3) := by decide +kernel
theorem d_M_become_66 : decode b_M_become 66 = .ok (.iload_n 2, 1) := by decide +kernel
theorem d_M_become_67 : decode b_M_become 67 = .ok (.goto 9, 3) := by decide +kernel
theorem d_M_become_70 : decode b_M_become 70 = .ok (.aload_n 0, 1) := by decide +kernel
theorem d_M_become_71 : decode b_M_become 71 = .ok (.getfield 36, 3) := by decide +kernel
theorem d_M_become_74 : decode b_M_become 74 = .ok (.iload_n 3, 1) := by decide +kernel
theorem d_M_become_75 : decode b_M_become 75 = .ok (.iaload, 1) := by decide +kernel
theorem d_M_become_76 : decode b_M_become 76 = .ok (.iastore, 1) := by decide +kernel
theorem d_M_become_77 : decode b_M_become 77 = .ok (.iinc 3 1, 3) := by decide +kernel
theorem d_M_become_80 : decode b_M_become 80 = .ok (.goto (-34), 3) := by decide +kernel
theorem d_M_become_83 : decode b_M_become 83 = .ok (.return_, 1) := by decide +kernel
theorem d_M_join_0 : decode b_M_join 0 = .ok (.iload_n 1, 1) := by decide +kernel
theorem d_M_join_1 : decode b_M_join 1 = .ok (.iload_n 2, 1) := by decide +kernel
theorem d_M_join_2 : decode b_M_join 2 = .ok (.if_icmp .ne 5, 3) := by decide +kernel
theorem d_M_join_5 : decode b_M_join 5 = .ok (.iconst 1, 1) := by decide +kernel
theorem d_M_join_6 : decode b_M_join 6 = .ok (.ireturn, 1) := by decide +kernel
theorem d_M_join_7 : decode b_M_join 7 = .ok (.aload_n 0, 1) := by decide +kernel
theorem d_M_join_8 : decode b_M_join 8 = .ok (.iload_n 1, 1) := by decide +kernel
theorem d_M_join_9 : decode b_M_join 9 = .ok (.iload_n 2, 1) := by decide +kernel
theorem d_M_join_10 : decode b_M_join 10 = .ok (.if_icmp .ge 7, 3) := by decide +kernel
theorem d_M_join_13 : decode b_M_join 13 = .ok (.iload_n 2, 1) := by decide +kernel
theorem d_M_join_14 : decode b_M_join 14 = .ok (.goto 4, 3) := by decide +kernel
theorem d_M_join_17 : decode b_M_join 17 = .ok (.iload_n 1, 1) := by decide +kernel
theorem d_M_join_18 : decode b_M_join 18 = .ok (.iload_n 1, 1) := by decide +kernel
theorem d_M_join_19 : decode b_M_join 19 = .ok (.iload_n 2, 1) := by decide +kernel
theorem d_M_join_20 : decode b_M_join 20 = .ok (.if_icmp .ge 7, 3) := by decide +kernel
theorem d_M_join_23 : decode b_M_join 23 = .ok (.iload_n 1, 1) := by decide +kernel
theorem d_M_join_24 : decode b_M_join 24 = .ok (.goto 4, 3) := by decide +kernel
theorem d_M_join_27 : decode b_M_join 27 = .ok (.iload_n 2, 1) := by decide +kernel
theorem d_M_join_28 : decode b_M_join 28 = .ok (.invokevirtual 98, 3) := by decide +kernel
theorem d_M_join_31 : decode b_M_join 31 = .ok (.iconst 0, 1) := by decide +kernel
theorem d_M_join_32 : decode b_M_join 32 = .ok (.ireturn, 1) := by decide +kernel
theorem d_M_closing_0 : decode b_M_closing 0 = .ok (.iconst 4, 1) := by decide +kernel
theorem d_M_closing_1 : decode b_M_closing 1 = .ok (.iload_n 1, 1) := by decide +kernel
theorem d_M_closing_2 : decode b_M_closing 2 = .ok (.imul, 1) := by decide +kernel
theorem d_M_closing_3 : decode b_M_closing 3 = .ok (.iload_n 2, 1) := by decide +kernel
theorem d_M_closing_4 : decode b_M_closing 4 = .ok (.ifCond .eq 7, 3) := by decide +kernel
theorem d_M_closing_7 : decode b_M_closing 7 = .ok (.iconst 0, 1) := by decide +kernel
theorem d_M_closing_8 : decode b_M_closing 8 = .ok (.goto 4, 3) := by decide +kernel
theorem d_M_closing_11 : decode b_M_closing 11 = .ok (.iconst 1, 1) := by decide +kernel
theorem d_M_closing_12 : decode b_M_closing 12 = .ok (.iadd, 1) := by decide +kernel
theorem d_M_closing_13 : decode b_M_closing 13 = .ok (.istore_n 3, 1) := by decide +kernel
theorem d_M_closing_14 : decode b_M_closing 14 = .ok (.iconst 4, 1) := by decide +kernel
theorem d_M_closing_15 : decode b_M_closing 15 = .ok (.iload_n 1, 1) := by decide +kernel
theorem d_M_closing_16 : decode b_M_closing 16 = .ok (.imul, 1) := by decide +kernel
theorem d_M_closing_17 : decode b_M_closing 17 = .ok (.iload_n 2, 1) := by decide +kernel
theorem d_M_closing_18 : decode b_M_closing 18 = .ok (.ifCond .eq 7, 3) := by decide +kernel
theorem d_M_closing_21 : decode b_M_closing 21 = .ok (.iconst 1, 1) := by decide +kernel
theorem d_M_closing_22 : decode b_M_closing 22 = .ok (.goto 4, 3) := by decide +kernel
theorem d_M_closing_25 : decode b_M_closing 25 = .ok (.iconst 2, 1) := by decide +kernel
theorem d_M_closing_26 : decode b_M_closing 26 = .ok (.iadd, 1) := by decide +kernel
theorem d_M_closing_27 : decode b_M_closing 27 = .ok (.istore 4, 2) := by decide +kernel
theorem d_M_closing_29 : decode b_M_closing 29 = .ok (.iconst 4, 1) := by decide +kernel
theorem d_M_closing_30 : decode b_M_closing 30 = .ok (.iload_n 1, 1) := by decide +kernel
theorem d_M_closing_31 : decode b_M_closing 31 = .ok (.imul, 1) := by decide +kernel
theorem d_M_closing_32 : decode b_M_closing 32 = .ok (.iload_n 2, 1) := by decide +kernel
theorem d_M_closing_33 : decode b_M_closing 33 = .ok (.ifCond .eq 7, 3) := by decide +kernel
theorem d_M_closing_36 : decode b_M_closing 36 = .ok (.iconst 2, 1) := by decide +kernel
theorem d_M_closing_37 : decode b_M_closing 37 = .ok (.goto 4, 3) := by decide +kernel
theorem d_M_closing_40 : decode b_M_closing 40 = .ok (.iconst 3, 1) := by decide +kernel
theorem d_M_closing_41 : decode b_M_closing 41 = .ok (.iadd, 1) := by decide +kernel
theorem d_M_closing_42 : decode b_M_closing 42 = .ok (.istore 5, 2) := by decide +kernel
theorem d_M_closing_44 : decode b_M_closing 44 = .ok (.iconst 4, 1) := by decide +kernel
theorem d_M_closing_45 : decode b_M_closing 45 = .ok (.iload_n 1, 1) := by decide +kernel
theorem d_M_closing_46 : decode b_M_closing 46 = .ok (.imul, 1) := by decide +kernel
theorem d_M_closing_47 : decode b_M_closing 47 = .ok (.iload_n 2, 1) := by decide +kernel
theorem d_M_closing_48 : decode b_M_closing 48 = .ok (.ifCond .eq 7, 3) := by decide +kernel
theorem d_M_closing_51 : decode b_M_closing 51 = .ok (.iconst 3, 1) := by decide +kernel
theorem d_M_closing_52 : decode b_M_closing 52 = .ok (.goto 4, 3) := by decide +kernel
theorem d_M_closing_55 : decode b_M_closing 55 = .ok (.iconst 0, 1) := by decide +kernel
theorem d_M_closing_56 : decode b_M_closing 56 = .ok (.iadd, 1) := by decide +kernel
theorem d_M_closing_57 : decode b_M_closing 57 = .ok (.istore 6, 2) := by decide +kernel
theorem d_M_closing_59 : decode b_M_closing 59 = .ok (.aload_n 0, 1) := by decide +kernel
theorem d_M_closing_60 : decode b_M_closing 60 = .ok (.getfield 13, 3) := by decide +kernel
theorem d_M_closing_63 : decode b_M_closing 63 = .ok (.iload_n 3, 1) := by decide +kernel
theorem d_M_closing_64 : decode b_M_closing 64 = .ok (.iaload, 1) := by decide +kernel
theorem d_M_closing_65 : decode b_M_closing 65 = .ok (.aload_n 0, 1) := by decide +kernel
theorem d_M_closing_66 : decode b_M_closing 66 = .ok (.getfield 13, 3) := by decide +kernel
theorem d_M_closing_69 : decode b_M_closing 69 = .ok (.iload 4, 2) := by decide +kernel
theorem d_M_closing_71 : decode b_M_closing 71 = .ok (.iaload, 1) := by decide +kernel
theorem d_M_closing_72 : decode b_M_closing 72 = .ok (.if_icmp .ne 7, 3) := by decide +kernel
theorem d_M_closing_75 : decode b_M_closing 75 = .ok (.iconst 1, 1) := by decide +kernel
theorem d_M_closing_76 : decode b_M_closing 76 = .ok (.goto 4, 3) := by decide +kernel
theorem d_M_closing_79 : decode b_M_closing 79 = .ok (.iconst 0, 1) := by decide +kernel
theorem d_M_closing_80 : decode b_M_closing 80 = .ok (.aload_n 0, 1) := by decide +kernel
theorem d_M_closing_81 : decode b_M_closing 81 = .ok (.getfield 13, 3) := by decide +kernel
theorem d_M_closing_84 : decode b_M_closing 84 = .ok (.iload 5, 2) := by decide +kernel
theorem d_M_closing_86 : decode b_M_closing 86 = .ok (.iaload, 1) := by decide +kernel
theorem d_M_closing_87 : decode b_M_closing 87 = .ok (.aload_n 0, 1) := by decide +kernel
theorem d_M_closing_88 : decode b_M_closing 88 = .ok (.getfield 13, 3) := by decide +kernel
theorem d_M_closing_91 : decode b_M_closing 91 = .ok (.iload 6, 2) := by decide +kernel
theorem d_M_closing_93 : decode b_M_closing 93 = .ok (.iaload, 1) := by decide +kernel
theorem d_M_closing_94 : decode b_M_closing 94 = .ok (.if_icmp .ne 7, 3) := by decide +kernel
theorem d_M_closing_97 : decode b_M_closing 97 = .ok (.iconst 1, 1) := by decide +kernel
theorem d_M_closing_98 : decode b_M_closing 98 = .ok (.goto 4, 3) := by decide +kernel
theorem d_M_closing_101 : decode b_M_closing 101 = .ok (.iconst 0, 1) := by decide +kernel
theorem d_M_closing_102 : decode b_M_closing 102 = .ok (.iadd, 1) := by decide +kernel
theorem d_M_closing_103 : decode b_M_closing 103 = .ok (.istore 7, 2) := by decide +kernel
theorem d_M_closing_105 : decode b_M_closing 105 = .ok (.aload_n 0, 1) := by decide +kernel
theorem d_M_closing_106 : decode b_M_closing 106 = .ok (.getfield 13, 3) := by decide +kernel
theorem d_M_closing_109 : decode b_M_closing 109 = .ok (.iload_n 3, 1) := by decide +kernel
theorem d_M_closing_110 : decode b_M_closing 110 = .ok (.iaload, 1) := by decide +kernel
theorem d_M_closing_111 : decode b_M_closing 111 = .ok (.aload_n 0, 1) := by decide +kernel
theorem d_M_closing_112 : decode b_M_closing 112 = .ok (.getfield 13, 3) := by decide +kernel
theorem d_M_closing_115 : decode b_M_closing 115 = .ok (.iload 5, 2) := by decide +kernel
theorem d_M_closing_117 : decode b_M_closing 117 = .ok (.iaload, 1) := by decide +kernel
theorem d_M_closing_118 : decode b_M_closing 118 = .ok (.if_icmp .ne 20, 3) := by decide +kernel
theorem d_M_closing_121 : decode b_M_closing 121 = .ok (.aload_n 0, 1) := by decide +kernel
theorem d_M_closing_122 : decode b_M_closing 122 = .ok (.getfield 13, 3) := by decide +kernel
theorem d_M_closing_125 : decode b_M_closing 125 = .ok (.iload 4, 2) := by decide +kernel
theorem d_M_closing_127 : decode b_M_closing 127 = .ok (.iaload, 1) := by decide +kernel
theorem d_M_closing_128 : decode b_M_closing 128 = .ok (.aload_n 0, 1) := by decide +kernel
theorem d_M_closing_129 : decode b_M_closing 129 = .ok (.getfield 13, 3) := by decide +kernel
theorem d_M_closing_132 : decode b_M_closing 132 = .ok (.iload 6, 2) := by decide +kernel
theorem d_M_closing_134 : decode b_M_closing 134 = .ok (.iaload, 1) := by decide +kernel
theorem d_M_closing_135 : decode b_M_closing 135 = .ok (.if_icmp .eq 36, 3) := by decide +kernel
theorem d_M_closing_138 : decode b_M_closing 138 = .ok (.aload_n 0, 1) := by decide +kernel
theorem d_M_closing_139 : decode b_M_closing 139 = .ok (.getfield 13, 3) := by decide +kernel
theorem d_M_closing_142 : decode b_M_closing 142 = .ok (.iload_n 3, 1) := by decide +kernel
theorem d_M_closing_143 : decode b_M_closing 143 = .ok (.iaload, 1) := by decide +kernel
theorem d_M_closing_144 : decode b_M_closing 144 = .ok (.aload_n 0, 1) := by decide +kernel
theorem d_M_closing_145 : decode b_M_closing 145 = .ok (.getfield 13, 3) := by decide +kernel
theorem d_M_closing_148 : decode b_M_closing 148 = .ok (.iload 6, 2) := by decide +kernel
theorem d_M_closing_150 : decode b_M_closing 150 = .ok (.iaload, 1) := by decide +kernel
theorem d_M_closing_151 : decode b_M_closing 151 = .ok (.if_icmp .ne 24, 3) := by decide +kernel
theorem d_M_closing_154 : decode b_M_closing 154 = .ok (.aload_n 0, 1) := by decide +kernel
theorem d_M_closing_155 : decode b_M_closing 155 = .ok (.getfield 13, 3) := by decide +kernel
theorem d_M_closing_158 : decode b_M_closing 158 = .ok (.iload 4, 2) := by decide +kernel
theorem d_M_closing_160 : decode b_M_closing 160 = .ok (.iaload, 1) := by decide +kernel
theorem d_M_closing_161 : decode b_M_closing 161 = .ok (.aload_n 0, 1) := by decide +kernel
theorem d_M_closing_162 : decode b_M_closing 162 = .ok (.getfield 13, 3) := by decide +kernel
theorem d_M_closing_165 : decode b_M_closing 165 = .ok (.iload 5, 2) := by decide +kernel
theorem d_M_closing_167 : decode b_M_closing 167 = .ok (.iaload, 1) := by decide +kernel
theorem d_M_closing_168 : decode b_M_closing 168 = .ok (.if_icmp .ne 7, 3) := by decide +kernel
theorem d_M_closing_171 : decode b_M_closing 171 = .ok (.iconst 1, 1) := by decide +kernel
theorem d_M_closing_172 : decode b_M_closing 172 = .ok (.goto 4, 3) := by decide +kernel
theorem d_M_closing_175 : decode b_M_closing 175 = .ok (.iconst 0, 1) := by decide +kernel
theorem d_M_closing_176 : decode b_M_closing 176 = .ok (.istore 8, 2) := by decide +kernel
theorem d_M_closing_178 : decode b_M_closing 178 = .ok (.iload 7, 2) := by decide +kernel
theorem d_M_closing_180 : decode b_M_closing 180 = .ok (.ifCond .ne 12, 3) := by decide +kernel
theorem d_M_closing_183 : decode b_M_closing 183 = .ok (.iload 8, 2) := by decide +kernel
theorem d_M_closing_185 : decode b_M_closing 185 = .ok (.ifCond .eq 7, 3) := by decide +kernel
theorem d_M_closing_188 : decode b_M_closing 188 = .ok (.iconst 1, 1) := by decide +kernel
theorem d_M_closing_189 : decode b_M_closing 189 = .ok (.goto 5, 3) := by decide +kernel
theorem d_M_closing_192 : decode b_M_closing 192 = .ok (.iload 7, 2) := by decide +kernel
theorem d_M_closing_194 : decode b_M_closing 194 = .ok (.ireturn, 1) := by decide +kernel
theorem d_M_resolve_0 : decode b_M_resolve 0 = .ok (.iload_n 1, 1) := by decide +kernel
theorem d_M_resolve_1 : decode b_M_resolve 1 = .ok (.ifCond .lt 34, 3) := by decide +kernel
theorem d_M_resolve_4 : decode b_M_resolve 4 = .ok (.iload_n 1, 1) := by decide +kernel
theorem d_M_resolve_5 : decode b_M_resolve 5 = .ok (.aload_n 0, 1) := by decide +kernel
theorem d_M_resolve_6 : decode b_M_resolve 6 = .ok (.getfield 43, 3) := by decide +kernel
theorem d_M_resolve_9 : decode b_M_resolve 9 = .ok (.if_icmp .ge 26, 3) := by decide +kernel
theorem d_M_resolve_12 : decode b_M_resolve 12 = .ok (.aload_n 0, 1) := by decide +kernel
theorem d_M_resolve_13 : decode b_M_resolve 13 = .ok (.invokevirtual 61, 3) := by decide +kernel
theorem d_M_resolve_16 : decode b_M_resolve 16 = .ok (.ifCond .gt 19, 3) := by decide +kernel
theorem d_M_resolve_19 : decode b_M_resolve 19 = .ok (.aload_n 0, 1) := by decide +kernel
theorem d_M_resolve_20 : decode b_M_resolve 20 = .ok (.getfield 50, 3) := by decide +kernel
theorem d_M_resolve_23 : decode b_M_resolve 23 = .ok (.aload_n 0, 1) := by decide +kernel
theorem d_M_resolve_24 : decode b_M_resolve 24 = .ok (.iload_n 1, 1) := by decide +kernel
theorem d_M_resolve_25 : decode b_M_resolve 25 = .ok (.iload_n 2, 1) := by decide +kernel
theorem d_M_resolve_26 : decode b_M_resolve 26 = .ok (.invokevirtual 102, 3) := by decide +kernel
theorem d_M_resolve_29 : decode b_M_resolve 29 = .ok (.iadd, 1) := by decide +kernel
theorem d_M_resolve_30 : decode b_M_resolve 30 = .ok (.bipush 9, 2) := by decide +kernel
theorem d_M_resolve_32 : decode b_M_resolve 32 = .ok (.if_icmp .le 5, 3) := by decide +kernel
theorem d_M_resolve_35 : decode b_M_resolve 35 = .ok (.iconst 0, 1) := by decide +kernel
theorem d_M_resolve_36 : decode b_M_resolve 36 = .ok (.ireturn, 1) := by decide +kernel
theorem d_M_resolve_37 : decode b_M_resolve 37 = .ok (.iconst 0, 1) := by decide +kernel
theorem d_M_resolve_38 : decode b_M_resolve 38 = .ok (.istore_n 3, 1) := by decide +kernel
theorem d_M_resolve_39 : decode b_M_resolve 39 = .ok (.iload_n 3, 1) := by decide +kernel
theorem d_M_resolve_40 : decode b_M_resolve 40 = .ok (.iconst 4, 1) := by decide +kernel
theorem d_M_resolve_41 : decode b_M_resolve 41 = .ok (.if_icmp .ge 25, 3) := by decide +kernel
theorem d_M_resolve_44 : decode b_M_resolve 44 = .ok (.aload_n 0, 1) := by decide +kernel
theorem d_M_resolve_45 : decode b_M_resolve 45 = .ok (.getfield 36, 3) := by decide +kernel
theorem d_M_resolve_48 : decode b_M_resolve 48 = .ok (.iload_n 3, 1) := by decide +kernel
theorem d_M_resolve_49 : decode b_M_resolve 49 = .ok (.aload_n 0, 1) := by decide +kernel
theorem d_M_resolve_50 : decode b_M_resolve 50 = .ok (.getfield 13, 3) := by decide +kernel
theorem d_M_resolve_53 : decode b_M_resolve 53 = .ok (.iconst 4, 1) := by decide +kernel
theorem d_M_resolve_54 : decode b_M_resolve 54 = .ok (.iload_n 1, 1) := by decide +kernel
theorem d_M_resolve_55 : decode b_M_resolve 55 = .ok (.imul, 1) := by decide +kernel
theorem d_M_resolve_56 : decode b_M_resolve 56 = .ok (.iload_n 3, 1) := by decide +kernel
theorem d_M_resolve_57 : decode b_M_resolve 57 = .ok (.iadd, 1) := by decide +kernel
theorem d_M_resolve_58 : decode b_M_resolve 58 = .ok (.iaload, 1) := by decide +kernel
theorem d_M_resolve_59 : decode b_M_resolve 59 = .ok (.iastore, 1) := by decide +kernel
theorem d_M_resolve_60 : decode b_M_resolve 60 = .ok (.iinc 3 1, 3) := by decide +kernel
theorem d_M_resolve_63 : decode b_M_resolve 63 = .ok (.goto (-24), 3) := by decide +kernel
theorem d_M_resolve_66 : decode b_M_resolve 66 = .ok (.aload_n 0, 1) := by decide +kernel
theorem d_M_resolve_67 : decode b_M_resolve 67 = .ok (.dup, 1) := by decide +kernel
theorem d_M_resolve_68 : decode b_M_resolve 68 = .ok (.getfield 43, 3) := by decide +kernel
theorem d_M_resolve_71 : decode b_M_resolve 71 = .ok (.iconst 1, 1) := by decide +kernel
theorem d_M_resolve_72 : decode b_M_resolve 72 = .ok (.isub, 1) := by decide +kernel
theorem d_M_resolve_73 : decode b_M_resolve 73 = .ok (.putfield 43, 3) := by decide +kernel
theorem d_M_resolve_76 : decode b_M_resolve 76 = .ok (.iload_n 1, 1) := by decide +kernel
theorem d_M_resolve_77 : decode b_M_resolve 77 = .ok (.istore_n 3, 1) := by decide +kernel
theorem d_M_resolve_78 : decode b_M_resolve 78 = .ok (.iload_n 3, 1) := by decide +kernel
theorem d_M_resolve_79 : decode b_M_resolve 79 = .ok (.aload_n 0, 1) := by decide +kernel
theorem d_M_resolve_80 : decode b_M_resolve 80 = .ok (.getfield 43, 3) := by decide +kernel
theorem d_M_resolve_83 : decode b_M_resolve 83 = .ok (.if_icmp .ge 62, 3) := by decide +kernel
theorem d_M_resolve_86 : decode b_M_resolve 86 = .ok (.aload_n 0, 1) := by decide +kernel
theorem d_M_resolve_87 : decode b_M_resolve 87 = .ok (.getfield 7, 3) := by decide +kernel
theorem d_M_resolve_90 : decode b_M_resolve 90 = .ok (.iload_n 3, 1) := by decide +kernel
theorem d_M_resolve_91 : decode b_M_resolve 91 = .ok (.aload_n 0, 1) := by decide +kernel
theorem d_M_resolve_92 : decode b_M_resolve 92 = .ok (.getfield 7, 3) := by decide +kernel
theorem d_M_resolve_95 : decode b_M_resolve 95 = .ok (.iload_n 3, 1) := by decide +kernel
theorem d_M_resolve_96 : decode b_M_resolve 96 = .ok (.iconst 1, 1) := by decide +kernel
theorem d_M_resolve_97 : decode b_M_resolve 97 = .ok (.iadd, 1) := by decide +kernel
theorem d_M_resolve_98 : decode b_M_resolve 98 = .ok (.iaload, 1) := by decide +kernel
theorem d_M_resolve_99 : decode b_M_resolve 99 = .ok (.iastore, 1) := by decide +kernel
theorem d_M_resolve_100 : decode b_M_resolve 100 = .ok (.iconst 0, 1) := by decide +kernel
theorem d_M_resolve_101 : decode b_M_resolve 101 = .ok (.istore 4, 2) := by decide +kernel
theorem d_M_resolve_103 : decode b_M_resolve 103 = .ok (.iload 4, 2) := by decide +kernel
theorem d_M_resolve_105 : decode b_M_resolve 105 = .ok (.iconst 4, 1) := by decide +kernel
theorem d_M_resolve_106 : decode b_M_resolve 106 = .ok (.if_icmp .ge 33, 3) := by decide +kernel
theorem d_M_resolve_109 : decode b_M_resolve 109 = .ok (.aload_n 0, 1) := by decide +kernel
theorem d_M_resolve_110 : decode b_M_resolve 110 = .ok (.getfield 13, 3) := by decide +kernel
theorem d_M_resolve_113 : decode b_M_resolve 113 = .ok (.iconst 4, 1) := by decide +kernel
theorem d_M_resolve_114 : decode b_M_resolve 114 = .ok (.iload_n 3, 1) := by decide +kernel
theorem d_M_resolve_115 : decode b_M_resolve 115 = .ok (.imul, 1) := by decide +kernel
theorem d_M_resolve_116 : decode b_M_resolve 116 = .ok (.iload 4, 2) := by decide +kernel
theorem d_M_resolve_118 : decode b_M_resolve 118 = .ok (.iadd, 1) := by decide +kernel
theorem d_M_resolve_119 : decode b_M_resolve 119 = .ok (.aload_n 0, 1) := by decide +kernel
theorem d_M_resolve_120 : decode b_M_resolve 120 = .ok (.getfield 13, 3) := by decide +kernel
theorem d_M_resolve_123 : decode b_M_resolve 123 = .ok (.iconst 4, 1) := by decide +kernel
theorem d_M_resolve_124 : decode b_M_resolve 124 = .ok (.iload_n 3, 1) := by decide +kernel
theorem d_M_resolve_125 : decode b_M_resolve 125 = .ok (.imul, 1) := by decide +kernel
theorem d_M_resolve_126 : decode b_M_resolve 126 = .ok (.iconst 4, 1) := by decide +kernel
theorem d_M_resolve_127 : decode b_M_resolve 127 = .ok (.iadd, 1) := by decide +kernel
theorem d_M_resolve_128 : decode b_M_resolve 128 = .ok (.iload 4, 2) := by decide +kernel
theorem d_M_resolve_130 : decode b_M_resolve 130 = .ok (.iadd, 1) := by decide +kernel
theorem d_M_resolve_131 : decode b_M_resolve 131 = .ok (.iaload, 1) := by decide +kernel
theorem d_M_resolve_132 : decode b_M_resolve 132 = .ok (.iastore, 1) := by decide +kernel
theorem d_M_resolve_133 : decode b_M_resolve 133 = .ok (.iinc 4 1, 3) := by decide +kernel
theorem d_M_resolve_136 : decode b_M_resolve 136 = .ok (.goto (-33), 3) := by decide +kernel
theorem d_M_resolve_139 : decode b_M_resolve 139 = .ok (.iinc 3 1, 3) := by decide +kernel
theorem d_M_resolve_142 : decode b_M_resolve 142 = .ok (.goto (-64), 3) := by decide +kernel
theorem d_M_resolve_145 : decode b_M_resolve 145 = .ok (.aload_n 0, 1) := by decide +kernel
theorem d_M_resolve_146 : decode b_M_resolve 146 = .ok (.dup, 1) := by decide +kernel
theorem d_M_resolve_147 : decode b_M_resolve 147 = .ok (.getfield 50, 3) := by decide +kernel
theorem d_M_resolve_150 : decode b_M_resolve 150 = .ok (.iload_n 2, 1) := by decide +kernel
theorem d_M_resolve_151 : decode b_M_resolve 151 = .ok (.ifCond .eq 22, 3) := by decide +kernel
theorem d_M_resolve_154 : decode b_M_resolve 154 = .ok (.aload_n 0, 1) := by decide +kernel
theorem d_M_resolve_155 : decode b_M_resolve 155 = .ok (.aload_n 0, 1) := by decide +kernel
theorem d_M_resolve_156 : decode b_M_resolve 156 = .ok (.getfield 36, 3) := by decide +kernel
theorem d_M_resolve_159 : decode b_M_resolve 159 = .ok (.iconst 0, 1) := by decide +kernel
theorem d_M_resolve_160 : decode b_M_resolve 160 = .ok (.iaload, 1) := by decide +kernel
theorem d_M_resolve_161 : decode b_M_resolve 161 = .ok (.aload_n 0, 1) := by decide +kernel
theorem d_M_resolve_162 : decode b_M_resolve 162 = .ok (.getfield 36, 3) := by decide +kernel
theorem d_M_resolve_165 : decode b_M_resolve 165 = .ok (.iconst 1, 1) := by decide +kernel
theorem d_M_resolve_166 : decode b_M_resolve 166 = .ok (.iaload, 1) := by decide +kernel
theorem d_M_resolve_167 : decode b_M_resolve 167 = .ok (.invokevirtual 105, 3) := by decide +kernel
theorem d_M_resolve_170 : decode b_M_resolve 170 = .ok (.goto 19, 3) := by decide +kernel
theorem d_M_resolve_173 : decode b_M_resolve 173 = .ok (.aload_n 0, 1) := by decide +kernel
theorem d_M_resolve_174 : decode b_M_resolve 174 = .ok (.aload_n 0, 1) := by decide +kernel
theorem d_M_resolve_175 : decode b_M_resolve 175 = .ok (.getfield 36, 3) := by decide +kernel
theorem d_M_resolve_178 : decode b_M_resolve 178 = .ok (.iconst 1, 1) := by decide +kernel
theorem d_M_resolve_179 : decode b_M_resolve 179 = .ok (.iaload, 1) := by decide +kernel
theorem d_M_resolve_180 : decode b_M_resolve 180 = .ok (.aload_n 0, 1) := by decide +kernel
theorem d_M_resolve_181 : decode b_M_resolve 181 = .ok (.getfield 36, 3) := by decide +kernel
theorem d_M_resolve_184 : decode b_M_resolve 184 = .ok (.iconst 2, 1) := by decide +kernel
theorem d_M_resolve_185 : decode b_M_resolve 185 = .ok (.iaload, 1) := by decide +kernel
theorem d_M_resolve_186 : decode b_M_resolve 186 = .ok (.invokevirtual 105, 3) := by decide +kernel
theorem d_M_resolve_189 : decode b_M_resolve 189 = .ok (.iadd, 1) := by decide +kernel
theorem d_M_resolve_190 : decode b_M_resolve 190 = .ok (.putfield 50, 3) := by decide +kernel
theorem d_M_resolve_193 : decode b_M_resolve 193 = .ok (.aload_n 0, 1) := by decide +kernel
theorem d_M_resolve_194 : decode b_M_resolve 194 = .ok (.dup, 1) := by decide +kernel
theorem d_M_resolve_195 : decode b_M_resolve 195 = .ok (.getfield 50, 3) := by decide +kernel
theorem d_M_resolve_198 : decode b_M_resolve 198 = .ok (.iload_n 2, 1) := by decide +kernel
theorem d_M_resolve_199 : decode b_M_resolve 199 = .ok (.ifCond .eq 22, 3) := by decide +kernel
theorem d_M_resolve_202 : decode b_M_resolve 202 = .ok (.aload_n 0, 1) := by decide +kernel
theorem d_M_resolve_203 : decode b_M_resolve 203 = .ok (.aload_n 0, 1) := by decide +kernel
theorem d_M_resolve_204 : decode b_M_resolve 204 = .ok (.getfield 36, 3) := by decide +kernel
theorem d_M_resolve_207 : decode b_M_resolve 207 = .ok (.iconst 2, 1) := by decide +kernel
theorem d_M_resolve_208 : decode b_M_resolve 208 = .ok (.iaload, 1) := by decide +kernel
theorem d_M_resolve_209 : decode b_M_resolve 209 = .ok (.aload_n 0, 1) := by decide +kernel
theorem d_M_resolve_210 : decode b_M_resolve 210 = .ok (.getfield 36, 3) := by decide +kernel
theorem d_M_resolve_213 : decode b_M_resolve 213 = .ok (.iconst 3, 1) := by decide +kernel
theorem d_M_resolve_214 : decode b_M_resolve 214 = .ok (.iaload, 1) := by decide +kernel
theorem d_M_resolve_215 : decode b_M_resolve 215 = .ok (.invokevirtual 105, 3) := by decide +kernel
theorem d_M_resolve_218 : decode b_M_resolve 218 = .ok (.goto 19, 3) := by decide +kernel
theorem d_M_resolve_221 : decode b_M_resolve 221 = .ok (.aload_n 0, 1) := by decide +kernel
theorem d_M_resolve_222 : decode b_M_resolve 222 = .ok (.aload_n 0, 1) := by decide +kernel
theorem d_M_resolve_223 : decode b_M_resolve 223 = .ok (.getfield 36, 3) := by decide +kernel
theorem d_M_resolve_226 : decode b_M_resolve 226 = .ok (.iconst 3, 1) := by decide +kernel
theorem d_M_resolve_227 : decode b_M_resolve 227 = .ok (.iaload, 1) := by decide +kernel
theorem d_M_resolve_228 : decode b_M_resolve 228 = .ok (.aload_n 0, 1) := by decide +kernel
theorem d_M_resolve_229 : decode b_M_resolve 229 = .ok (.getfield 36, 3) := by decide +kernel
theorem d_M_resolve_232 : decode b_M_resolve 232 = .ok (.iconst 0, 1) := by decide +kernel
theorem d_M_resolve_233 : decode b_M_resolve 233 = .ok (.iaload, 1) := by decide +kernel
theorem d_M_resolve_234 : decode b_M_resolve 234 = .ok (.invokevirtual 105, 3) := by decide +kernel
theorem d_M_resolve_237 : decode b_M_resolve 237 = .ok (.iadd, 1) := by decide +kernel
theorem d_M_resolve_238 : decode b_M_resolve 238 = .ok (.putfield 50, 3) := by decide +kernel
theorem d_M_resolve_241 : decode b_M_resolve 241 = .ok (.aload_n 0, 1) := by decide +kernel
theorem d_M_resolve_242 : decode b_M_resolve 242 = .ok (.iconst 0, 1) := by decide +kernel
theorem d_M_resolve_243 : decode b_M_resolve 243 = .ok (.putfield 46, 3) := by decide +kernel
theorem d_M_resolve_246 : decode b_M_resolve 246 = .ok (.iconst 1, 1) := by decide +kernel
theorem d_M_resolve_247 : decode b_M_resolve 247 = .ok (.ireturn, 1) := by decide +kernel
theorem d_M_change_0 : decode b_M_change 0 = .ok (.iload_n 1, 1) := by decide +kernel
theorem d_M_change_1 : decode b_M_change 1 = .ok (.ifCond .lt 11, 3) := by decide +kernel
theorem d_M_change_4 : decode b_M_change 4 = .ok (.iload_n 1, 1) := by decide +kernel
theorem d_M_change_5 : decode b_M_change 5 = .ok (.aload_n 0, 1) := by decide +kernel
theorem d_M_change_6 : decode b_M_change 6 = .ok (.getfield 43, 3) := by decide +kernel
theorem d_M_change_9 : decode b_M_change 9 = .ok (.if_icmp .lt 5, 3) := by decide +kernel
theorem d_M_change_12 : decode b_M_change 12 = .ok (.iconst 0, 1) := by decide +kernel
theorem d_M_change_13 : decode b_M_change 13 = .ok (.ireturn, 1) := by decide +kernel
theorem d_M_change_14 : decode b_M_change 14 = .ok (.aload_n 0, 1) := by decide +kernel
theorem d_M_change_15 : decode b_M_change 15 = .ok (.getfield 13, 3) := by decide +kernel
theorem d_M_change_18 : decode b_M_change 18 = .ok (.iconst 4, 1) := by decide +kernel
theorem d_M_change_19 : decode b_M_change 19 = .ok (.iload_n 1, 1) := by decide +kernel
theorem d_M_change_20 : decode b_M_change 20 = .ok (.imul, 1) := by decide +kernel
theorem d_M_change_21 : decode b_M_change 21 = .ok (.iaload, 1) := by decide +kernel
theorem d_M_change_22 : decode b_M_change 22 = .ok (.istore_n 2, 1) := by decide +kernel
theorem d_M_change_23 : decode b_M_change 23 = .ok (.iconst 0, 1) := by decide +kernel
theorem d_M_change_24 : decode b_M_change 24 = .ok (.istore_n 3, 1) := by decide +kernel
theorem d_M_change_25 : decode b_M_change 25 = .ok (.iload_n 3, 1) := by decide +kernel
theorem d_M_change_26 : decode b_M_change 26 = .ok (.iconst 3, 1) := by decide +kernel
theorem d_M_change_27 : decode b_M_change 27 = .ok (.if_icmp .ge 31, 3) := by decide +kernel
theorem d_M_change_30 : decode b_M_change 30 = .ok (.aload_n 0, 1) := by decide +kernel
theorem d_M_change_31 : decode b_M_change 31 = .ok (.getfield 13, 3) := by decide +kernel
theorem d_M_change_34 : decode b_M_change 34 = .ok (.iconst 4, 1) := by decide +kernel
