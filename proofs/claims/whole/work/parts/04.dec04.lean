theorem d_M_know_36 : decode b_M_know 36 = .ok (.invokevirtual 61, 3) := by decide +kernel
theorem d_M_know_39 : decode b_M_know 39 = .ok (.ifCond .le 4, 3) := by decide +kernel
theorem d_M_know_42 : decode b_M_know 42 = .ok (.return_, 1) := by decide +kernel
theorem d_M_know_43 : decode b_M_know 43 = .ok (.aload_n 0, 1) := by decide +kernel
theorem d_M_know_44 : decode b_M_know 44 = .ok (.getfield 43, 3) := by decide +kernel
theorem d_M_know_47 : decode b_M_know 47 = .ok (.aload_n 0, 1) := by decide +kernel
theorem d_M_know_48 : decode b_M_know 48 = .ok (.getfield 50, 3) := by decide +kernel
theorem d_M_know_51 : decode b_M_know 51 = .ok (.iadd, 1) := by decide +kernel
theorem d_M_know_52 : decode b_M_know 52 = .ok (.ifCond .ne 13, 3) := by decide +kernel
theorem d_M_know_55 : decode b_M_know 55 = .ok (.aload_n 0, 1) := by decide +kernel
theorem d_M_know_56 : decode b_M_know 56 = .ok (.getfield 26, 3) := by decide +kernel
theorem d_M_know_59 : decode b_M_know 59 = .ok (.sipush 128, 3) := by decide +kernel
theorem d_M_know_62 : decode b_M_know 62 = .ok (.lconst 1, 1) := by decide +kernel
theorem d_M_know_63 : decode b_M_know 63 = .ok (.lastore, 1) := by decide +kernel
theorem d_M_know_64 : decode b_M_know 64 = .ok (.return_, 1) := by decide +kernel
theorem d_M_know_65 : decode b_M_know 65 = .ok (.aload_n 0, 1) := by decide +kernel
theorem d_M_know_66 : decode b_M_know 66 = .ok (.invokevirtual 65, 3) := by decide +kernel
theorem d_M_know_69 : decode b_M_know 69 = .ok (.iconst 0, 1) := by decide +kernel
theorem d_M_know_70 : decode b_M_know 70 = .ok (.istore_n 1, 1) := by decide +kernel
theorem d_M_know_71 : decode b_M_know 71 = .ok (.iload_n 1, 1) := by decide +kernel
theorem d_M_know_72 : decode b_M_know 72 = .ok (.sipush 672, 3) := by decide +kernel
theorem d_M_know_75 : decode b_M_know 75 = .ok (.if_icmp .ge 16, 3) := by decide +kernel
theorem d_M_know_78 : decode b_M_know 78 = .ok (.aload_n 0, 1) := by decide +kernel
theorem d_M_know_79 : decode b_M_know 79 = .ok (.getfield 30, 3) := by decide +kernel
theorem d_M_know_82 : decode b_M_know 82 = .ok (.iload_n 1, 1) := by decide +kernel
theorem d_M_know_83 : decode b_M_know 83 = .ok (.iconst 0, 1) := by decide +kernel
theorem d_M_know_84 : decode b_M_know 84 = .ok (.iastore, 1) := by decide +kernel
theorem d_M_know_85 : decode b_M_know 85 = .ok (.iinc 1 1, 3) := by decide +kernel
theorem d_M_know_88 : decode b_M_know 88 = .ok (.goto (-17), 3) := by decide +kernel
theorem d_M_know_91 : decode b_M_know 91 = .ok (.iconst 0, 1) := by decide +kernel
theorem d_M_know_92 : decode b_M_know 92 = .ok (.istore_n 1, 1) := by decide +kernel
theorem d_M_know_93 : decode b_M_know 93 = .ok (.iload_n 1, 1) := by decide +kernel
theorem d_M_know_94 : decode b_M_know 94 = .ok (.iconst 1, 1) := by decide +kernel
theorem d_M_know_95 : decode b_M_know 95 = .ok (.aload_n 0, 1) := by decide +kernel
theorem d_M_know_96 : decode b_M_know 96 = .ok (.getfield 43, 3) := by decide +kernel
theorem d_M_know_99 : decode b_M_know 99 = .ok (.ishl, 1) := by decide +kernel
theorem d_M_know_100 : decode b_M_know 100 = .ok (.if_icmp .ge 41, 3) := by decide +kernel
theorem d_M_know_103 : decode b_M_know 103 = .ok (.aload_n 0, 1) := by decide +kernel
theorem d_M_know_104 : decode b_M_know 104 = .ok (.getfield 30, 3) := by decide +kernel
theorem d_M_know_107 : decode b_M_know 107 = .ok (.bipush 32, 2) := by decide +kernel
theorem d_M_know_109 : decode b_M_know 109 = .ok (.aload_n 0, 1) := by decide +kernel
theorem d_M_know_110 : decode b_M_know 110 = .ok (.getfield 43, 3) := by decide +kernel
theorem d_M_know_113 : decode b_M_know 113 = .ok (.iconst 2, 1) := by decide +kernel
theorem d_M_know_114 : decode b_M_know 114 = .ok (.iload_n 1, 1) := by decide +kernel
theorem d_M_know_115 : decode b_M_know 115 = .ok (.invokestatic 71, 3) := by decide +kernel
theorem d_M_know_118 : decode b_M_know 118 = .ok (.imul, 1) := by decide +kernel
theorem d_M_know_119 : decode b_M_know 119 = .ok (.isub, 1) := by decide +kernel
theorem d_M_know_120 : decode b_M_know 120 = .ok (.bipush 10, 2) := by decide +kernel
theorem d_M_know_122 : decode b_M_know 122 = .ok (.iadd, 1) := by decide +kernel
theorem d_M_know_123 : decode b_M_know 123 = .ok (.imul, 1) := by decide +kernel
theorem d_M_know_124 : decode b_M_know 124 = .ok (.aload_n 0, 1) := by decide +kernel
theorem d_M_know_125 : decode b_M_know 125 = .ok (.iload_n 1, 1) := by decide +kernel
theorem d_M_know_126 : decode b_M_know 126 = .ok (.invokevirtual 68, 3) := by decide +kernel
theorem d_M_know_129 : decode b_M_know 129 = .ok (.iadd, 1) := by decide +kernel
theorem d_M_know_130 : decode b_M_know 130 = .ok (.dup2, 1) := by decide +kernel
theorem d_M_know_131 : decode b_M_know 131 = .ok (.iaload, 1) := by decide +kernel
theorem d_M_know_132 : decode b_M_know 132 = .ok (.iconst 1, 1) := by decide +kernel
theorem d_M_know_133 : decode b_M_know 133 = .ok (.iadd, 1) := by decide +kernel
theorem d_M_know_134 : decode b_M_know 134 = .ok (.iastore, 1) := by decide +kernel
theorem d_M_know_135 : decode b_M_know 135 = .ok (.iinc 1 1, 3) := by decide +kernel
theorem d_M_know_138 : decode b_M_know 138 = .ok (.goto (-45), 3) := by decide +kernel
theorem d_M_know_141 : decode b_M_know 141 = .ok (.iconst 0, 1) := by decide +kernel
theorem d_M_know_142 : decode b_M_know 142 = .ok (.istore_n 1, 1) := by decide +kernel
theorem d_M_know_143 : decode b_M_know 143 = .ok (.iload_n 1, 1) := by decide +kernel
theorem d_M_know_144 : decode b_M_know 144 = .ok (.sipush 672, 3) := by decide +kernel
theorem d_M_know_147 : decode b_M_know 147 = .ok (.if_icmp .ge 41, 3) := by decide +kernel
theorem d_M_know_150 : decode b_M_know 150 = .ok (.aload_n 0, 1) := by decide +kernel
theorem d_M_know_151 : decode b_M_know 151 = .ok (.getfield 30, 3) := by decide +kernel
theorem d_M_know_154 : decode b_M_know 154 = .ok (.iload_n 1, 1) := by decide +kernel
theorem d_M_know_155 : decode b_M_know 155 = .ok (.iaload, 1) := by decide +kernel
theorem d_M_know_156 : decode b_M_know 156 = .ok (.ifCond .le 26, 3) := by decide +kernel
theorem d_M_know_159 : decode b_M_know 159 = .ok (.aload_n 0, 1) := by decide +kernel
theorem d_M_know_160 : decode b_M_know 160 = .ok (.aload_n 0, 1) := by decide +kernel
theorem d_M_know_161 : decode b_M_know 161 = .ok (.getfield 30, 3) := by decide +kernel
theorem d_M_know_164 : decode b_M_know 164 = .ok (.iload_n 1, 1) := by decide +kernel
theorem d_M_know_165 : decode b_M_know 165 = .ok (.iaload, 1) := by decide +kernel
theorem d_M_know_166 : decode b_M_know 166 = .ok (.iload_n 1, 1) := by decide +kernel
theorem d_M_know_167 : decode b_M_know 167 = .ok (.bipush 32, 2) := by decide +kernel
theorem d_M_know_169 : decode b_M_know 169 = .ok (.idiv, 1) := by decide +kernel
theorem d_M_know_170 : decode b_M_know 170 = .ok (.bipush 10, 2) := by decide +kernel
theorem d_M_know_172 : decode b_M_know 172 = .ok (.isub, 1) := by decide +kernel
theorem d_M_know_173 : decode b_M_know 173 = .ok (.iload_n 1, 1) := by decide +kernel
theorem d_M_know_174 : decode b_M_know 174 = .ok (.bipush 32, 2) := by decide +kernel
theorem d_M_know_176 : decode b_M_know 176 = .ok (.irem, 1) := by decide +kernel
theorem d_M_know_177 : decode b_M_know 177 = .ok (.iconst 1, 1) := by decide +kernel
theorem d_M_know_178 : decode b_M_know 178 = .ok (.isub, 1) := by decide +kernel
theorem d_M_know_179 : decode b_M_know 179 = .ok (.invokevirtual 74, 3) := by decide +kernel
theorem d_M_know_182 : decode b_M_know 182 = .ok (.iinc 1 1, 3) := by decide +kernel
theorem d_M_know_185 : decode b_M_know 185 = .ok (.goto (-42), 3) := by decide +kernel
theorem d_M_know_188 : decode b_M_know 188 = .ok (.return_, 1) := by decide +kernel
theorem d_M_signs_0 : decode b_M_signs 0 = .ok (.iconst 0, 1) := by decide +kernel
theorem d_M_signs_1 : decode b_M_signs 1 = .ok (.istore_n 1, 1) := by decide +kernel
theorem d_M_signs_2 : decode b_M_signs 2 = .ok (.iconst 0, 1) := by decide +kernel
theorem d_M_signs_3 : decode b_M_signs 3 = .ok (.istore_n 2, 1) := by decide +kernel
theorem d_M_signs_4 : decode b_M_signs 4 = .ok (.iload_n 2, 1) := by decide +kernel
theorem d_M_signs_5 : decode b_M_signs 5 = .ok (.aload_n 0, 1) := by decide +kernel
theorem d_M_signs_6 : decode b_M_signs 6 = .ok (.getfield 43, 3) := by decide +kernel
theorem d_M_signs_9 : decode b_M_signs 9 = .ok (.if_icmp .ge 18, 3) := by decide +kernel
theorem d_M_signs_12 : decode b_M_signs 12 = .ok (.iload_n 1, 1) := by decide +kernel
theorem d_M_signs_13 : decode b_M_signs 13 = .ok (.aload_n 0, 1) := by decide +kernel
theorem d_M_signs_14 : decode b_M_signs 14 = .ok (.getfield 7, 3) := by decide +kernel
theorem d_M_signs_17 : decode b_M_signs 17 = .ok (.iload_n 2, 1) := by decide +kernel
theorem d_M_signs_18 : decode b_M_signs 18 = .ok (.iaload, 1) := by decide +kernel
theorem d_M_signs_19 : decode b_M_signs 19 = .ok (.iadd, 1) := by decide +kernel
theorem d_M_signs_20 : decode b_M_signs 20 = .ok (.istore_n 1, 1) := by decide +kernel
theorem d_M_signs_21 : decode b_M_signs 21 = .ok (.iinc 2 1, 3) := by decide +kernel
theorem d_M_signs_24 : decode b_M_signs 24 = .ok (.goto (-20), 3) := by decide +kernel
theorem d_M_signs_27 : decode b_M_signs 27 = .ok (.iload_n 1, 1) := by decide +kernel
theorem d_M_signs_28 : decode b_M_signs 28 = .ok (.ireturn, 1) := by decide +kernel
theorem d_M_bracket_0 : decode b_M_bracket 0 = .ok (.aload_n 0, 1) := by decide +kernel
theorem d_M_bracket_1 : decode b_M_bracket 1 = .ok (.invokevirtual 78, 3) := by decide +kernel
theorem d_M_bracket_4 : decode b_M_bracket 4 = .ok (.iload_n 1, 1) := by decide +kernel
theorem d_M_bracket_5 : decode b_M_bracket 5 = .ok (.bipush (-128), 2) := by decide +kernel
theorem d_M_bracket_7 : decode b_M_bracket 7 = .ok (.if_icmp .lt 10, 3) := by decide +kernel
theorem d_M_bracket_10 : decode b_M_bracket 10 = .ok (.iload_n 1, 1) := by decide +kernel
theorem d_M_bracket_11 : decode b_M_bracket 11 = .ok (.sipush 128, 3) := by decide +kernel
theorem d_M_bracket_14 : decode b_M_bracket 14 = .ok (.if_icmp .le 7, 3) := by decide +kernel
theorem d_M_bracket_17 : decode b_M_bracket 17 = .ok (.lconst 0, 1) := by decide +kernel
theorem d_M_bracket_18 : decode b_M_bracket 18 = .ok (.goto 13, 3) := by decide +kernel
theorem d_M_bracket_21 : decode b_M_bracket 21 = .ok (.aload_n 0, 1) := by decide +kernel
theorem d_M_bracket_22 : decode b_M_bracket 22 = .ok (.getfield 26, 3) := by decide +kernel
theorem d_M_bracket_25 : decode b_M_bracket 25 = .ok (.sipush 128, 3) := by decide +kernel
theorem d_M_bracket_28 : decode b_M_bracket 28 = .ok (.iload_n 1, 1) := by decide +kernel
theorem d_M_bracket_29 : decode b_M_bracket 29 = .ok (.iadd, 1) := by decide +kernel
theorem d_M_bracket_30 : decode b_M_bracket 30 = .ok (.laload, 1) := by decide +kernel
theorem d_M_bracket_31 : decode b_M_bracket 31 = .ok (.lreturn, 1) := by decide +kernel
theorem d_M_jones_0 : decode b_M_jones 0 = .ok (.aload_n 0, 1) := by decide +kernel
theorem d_M_jones_1 : decode b_M_jones 1 = .ok (.invokevirtual 81, 3) := by decide +kernel
theorem d_M_jones_4 : decode b_M_jones 4 = .ok (.istore_n 2, 1) := by decide +kernel
theorem d_M_jones_5 : decode b_M_jones 5 = .ok (.iload_n 1, 1) := by decide +kernel
theorem d_M_jones_6 : decode b_M_jones 6 = .ok (.sipush (-1000), 3) := by decide +kernel
theorem d_M_jones_9 : decode b_M_jones 9 = .ok (.if_icmp .lt 10, 3) := by decide +kernel
theorem d_M_jones_12 : decode b_M_jones 12 = .ok (.iload_n 1, 1) := by decide +kernel
theorem d_M_jones_13 : decode b_M_jones 13 = .ok (.sipush 1000, 3) := by decide +kernel
theorem d_M_jones_16 : decode b_M_jones 16 = .ok (.if_icmp .le 5, 3) := by decide +kernel
theorem d_M_jones_19 : decode b_M_jones 19 = .ok (.lconst 0, 1) := by decide +kernel
theorem d_M_jones_20 : decode b_M_jones 20 = .ok (.lreturn, 1) := by decide +kernel
theorem d_M_jones_21 : decode b_M_jones 21 = .ok (.iload_n 2, 1) := by decide +kernel
theorem d_M_jones_22 : decode b_M_jones 22 = .ok (.iconst 2, 1) := by decide +kernel
theorem d_M_jones_23 : decode b_M_jones 23 = .ok (.irem, 1) := by decide +kernel
theorem d_M_jones_24 : decode b_M_jones 24 = .ok (.ifCond .ne 15, 3) := by decide +kernel
theorem d_M_jones_27 : decode b_M_jones 27 = .ok (.aload_n 0, 1) := by decide +kernel
theorem d_M_jones_28 : decode b_M_jones 28 = .ok (.iload_n 1, 1) := by decide +kernel
theorem d_M_jones_29 : decode b_M_jones 29 = .ok (.iconst 3, 1) := by decide +kernel
theorem d_M_jones_30 : decode b_M_jones 30 = .ok (.iload_n 2, 1) := by decide +kernel
theorem d_M_jones_31 : decode b_M_jones 31 = .ok (.imul, 1) := by decide +kernel
theorem d_M_jones_32 : decode b_M_jones 32 = .ok (.iadd, 1) := by decide +kernel
theorem d_M_jones_33 : decode b_M_jones 33 = .ok (.invokevirtual 84, 3) := by decide +kernel
theorem d_M_jones_36 : decode b_M_jones 36 = .ok (.goto 13, 3) := by decide +kernel
theorem d_M_jones_39 : decode b_M_jones 39 = .ok (.aload_n 0, 1) := by decide +kernel
theorem d_M_jones_40 : decode b_M_jones 40 = .ok (.iload_n 1, 1) := by decide +kernel
theorem d_M_jones_41 : decode b_M_jones 41 = .ok (.iconst 3, 1) := by decide +kernel
theorem d_M_jones_42 : decode b_M_jones 42 = .ok (.iload_n 2, 1) := by decide +kernel
theorem d_M_jones_43 : decode b_M_jones 43 = .ok (.imul, 1) := by decide +kernel
theorem d_M_jones_44 : decode b_M_jones 44 = .ok (.iadd, 1) := by decide +kernel
theorem d_M_jones_45 : decode b_M_jones 45 = .ok (.invokevirtual 84, 3) := by decide +kernel
theorem d_M_jones_48 : decode b_M_jones 48 = .ok (.lneg, 1) := by decide +kernel
theorem d_M_jones_49 : decode b_M_jones 49 = .ok (.lreturn, 1) := by decide +kernel
theorem d_M_span_0 : decode b_M_span 0 = .ok (.aload_n 0, 1) := by decide +kernel
theorem d_M_span_1 : decode b_M_span 1 = .ok (.invokevirtual 78, 3) := by decide +kernel
theorem d_M_span_4 : decode b_M_span 4 = .ok (.iconst 0, 1) := by decide +kernel
theorem d_M_span_5 : decode b_M_span 5 = .ok (.istore_n 3, 1) := by decide +kernel
theorem d_M_span_6 : decode b_M_span 6 = .ok (.iconst 0, 1) := by decide +kernel
theorem d_M_span_7 : decode b_M_span 7 = .ok (.istore 4, 2) := by decide +kernel
theorem d_M_span_9 : decode b_M_span 9 = .ok (.iconst 1, 1) := by decide +kernel
theorem d_M_span_10 : decode b_M_span 10 = .ok (.istore 5, 2) := by decide +kernel
theorem d_M_span_12 : decode b_M_span 12 = .ok (.bipush (-128), 2) := by decide +kernel
theorem d_M_span_14 : decode b_M_span 14 = .ok (.istore 6, 2) := by decide +kernel
theorem d_M_span_16 : decode b_M_span 16 = .ok (.iload 6, 2) := by decide +kernel
theorem d_M_span_18 : decode b_M_span 18 = .ok (.sipush 128, 3) := by decide +kernel
theorem d_M_span_21 : decode b_M_span 21 = .ok (.if_icmp .gt 44, 3) := by decide +kernel
theorem d_M_span_24 : decode b_M_span 24 = .ok (.aload_n 0, 1) := by decide +kernel
theorem d_M_span_25 : decode b_M_span 25 = .ok (.getfield 26, 3) := by decide +kernel
theorem d_M_span_28 : decode b_M_span 28 = .ok (.sipush 128, 3) := by decide +kernel
theorem d_M_span_31 : decode b_M_span 31 = .ok (.iload 6, 2) := by decide +kernel
theorem d_M_span_33 : decode b_M_span 33 = .ok (.iadd, 1) := by decide +kernel
theorem d_M_span_34 : decode b_M_span 34 = .ok (.laload, 1) := by decide +kernel
theorem d_M_span_35 : decode b_M_span 35 = .ok (.lconst 0, 1) := by decide +kernel
theorem d_M_span_36 : decode b_M_span 36 = .ok (.lcmp, 1) := by decide +kernel
theorem d_M_span_37 : decode b_M_span 37 = .ok (.ifCond .eq 22, 3) := by decide +kernel
theorem d_M_span_40 : decode b_M_span 40 = .ok (.iload 5, 2) := by decide +kernel
theorem d_M_span_42 : decode b_M_span 42 = .ok (.ifCond .eq 8, 3) := by decide +kernel
theorem d_M_span_45 : decode b_M_span 45 = .ok (.iload 6, 2) := by decide +kernel
theorem d_M_span_47 : decode b_M_span 47 = .ok (.goto 4, 3) := by decide +kernel
theorem d_M_span_50 : decode b_M_span 50 = .ok (.iload_n 3, 1) := by decide +kernel
theorem d_M_span_51 : decode b_M_span 51 = .ok (.istore_n 3, 1) := by decide +kernel
theorem d_M_span_52 : decode b_M_span 52 = .ok (.iload 6, 2) := by decide +kernel
theorem d_M_span_54 : decode b_M_span 54 = .ok (.istore 4, 2) := by decide +kernel
theorem d_M_span_56 : decode b_M_span 56 = .ok (.iconst 0, 1) := by decide +kernel
theorem d_M_span_57 : decode b_M_span 57 = .ok (.istore 5, 2) := by decide +kernel
theorem d_M_span_59 : decode b_M_span 59 = .ok (.iinc 6 1, 3) := by decide +kernel
theorem d_M_span_62 : decode b_M_span 62 = .ok (.goto (-46), 3) := by decide +kernel
theorem d_M_span_65 : decode b_M_span 65 = .ok (.iload_n 1, 1) := by decide +kernel
theorem d_M_span_66 : decode b_M_span 66 = .ok (.ifCond .eq 17, 3) := by decide +kernel
theorem d_M_span_69 : decode b_M_span 69 = .ok (.iload 5, 2) := by decide +kernel
theorem d_M_span_71 : decode b_M_span 71 = .ok (.ifCond .ne 12, 3) := by decide +kernel
theorem d_M_span_74 : decode b_M_span 74 = .ok (.iconst 3, 1) := by decide +kernel
theorem d_M_span_75 : decode b_M_span 75 = .ok (.aload_n 0, 1) := by decide +kernel
theorem d_M_span_76 : decode b_M_span 76 = .ok (.invokevirtual 81, 3) := by decide +kernel
theorem d_M_span_79 : decode b_M_span 79 = .ok (.imul, 1) := by decide +kernel
theorem d_M_span_80 : decode b_M_span 80 = .ok (.goto 4, 3) := by decide +kernel
theorem d_M_span_83 : decode b_M_span 83 = .ok (.iconst 0, 1) := by decide +kernel
theorem d_M_span_84 : decode b_M_span 84 = .ok (.istore 6, 2) := by decide +kernel
theorem d_M_span_86 : decode b_M_span 86 = .ok (.iload_n 2, 1) := by decide +kernel
theorem d_M_span_87 : decode b_M_span 87 = .ok (.ifCond .eq 8, 3) := by decide +kernel
theorem d_M_span_90 : decode b_M_span 90 = .ok (.iload 4, 2) := by decide +kernel
theorem d_M_span_92 : decode b_M_span 92 = .ok (.goto 4, 3) := by decide +kernel
theorem d_M_span_95 : decode b_M_span 95 = .ok (.iload_n 3, 1) := by decide +kernel
theorem d_M_span_96 : decode b_M_span 96 = .ok (.iload 6, 2) := by decide +kernel
theorem d_M_span_98 : decode b_M_span 98 = .ok (.isub, 1) := by decide +kernel
theorem d_M_span_99 : decode b_M_span 99 = .ok (.ireturn, 1) := by decide +kernel
theorem d_M_stands_0 : decode b_M_stands 0 = .ok (.iconst 0, 1) := by decide +kernel
theorem d_M_stands_1 : decode b_M_stands 1 = .ok (.istore_n 2, 1) := by decide +kernel
theorem d_M_stands_2 : decode b_M_stands 2 = .ok (.iconst 0, 1) := by decide +kernel
theorem d_M_stands_3 : decode b_M_stands 3 = .ok (.istore_n 3, 1) := by decide +kernel
theorem d_M_stands_4 : decode b_M_stands 4 = .ok (.iload_n 3, 1) := by decide +kernel
theorem d_M_stands_5 : decode b_M_stands 5 = .ok (.iconst 4, 1) := by decide +kernel
theorem d_M_stands_6 : decode b_M_stands 6 = .ok (.aload_n 0, 1) := by decide +kernel
theorem d_M_stands_7 : decode b_M_stands 7 = .ok (.getfield 43, 3) := by decide +kernel
theorem d_M_stands_10 : decode b_M_stands 10 = .ok (.imul, 1) := by decide +kernel
theorem d_M_stands_11 : decode b_M_stands 11 = .ok (.if_icmp .ge 40, 3) := by decide +kernel
theorem d_M_stands_14 : decode b_M_stands 14 = .ok (.iload_n 2, 1) := by decide +kernel
theorem d_M_stands_15 : decode b_M_stands 15 = .ok (.ifCond .ne 24, 3) := by decide +kernel
theorem d_M_stands_18 : decode b_M_stands 18 = .ok (.aload_n 0, 1) := by decide +kernel
theorem d_M_stands_19 : decode b_M_stands 19 = .ok (.getfield 23, 3) := by decide +kernel
theorem d_M_stands_22 : decode b_M_stands 22 = .ok (.iload_n 3, 1) := by decide +kernel
theorem d_M_stands_23 : decode b_M_stands 23 = .ok (.iconst 4, 1) := by decide +kernel
theorem d_M_stands_24 : decode b_M_stands 24 = .ok (.idiv, 1) := by decide +kernel
theorem d_M_stands_25 : decode b_M_stands 25 = .ok (.baload, 1) := by decide +kernel
theorem d_M_stands_26 : decode b_M_stands 26 = .ok (.ifCond .eq 17, 3) := by decide +kernel
theorem d_M_stands_29 : decode b_M_stands 29 = .ok (.aload_n 0, 1) := by decide +kernel
theorem d_M_stands_30 : decode b_M_stands 30 = .ok (.getfield 13, 3) := by decide +kernel
theorem d_M_stands_33 : decode b_M_stands 33 = .ok (.iload_n 3, 1) := by decide +kernel
theorem d_M_stands_34 : decode b_M_stands 34 = .ok (.iaload, 1) := by decide +kernel
theorem d_M_stands_35 : decode b_M_stands 35 = .ok (.iload_n 1, 1) := by decide +kernel
theorem d_M_stands_36 : decode b_M_stands 36 = .ok (.if_icmp .ne 7, 3) := by decide +kernel
theorem d_M_stands_39 : decode b_M_stands 39 = .ok (.iconst 1, 1) := by decide +kernel
theorem d_M_stands_40 : decode b_M_stands 40 = .ok (.goto 4, 3) := by decide +kernel
theorem d_M_stands_43 : decode b_M_stands 43 = .ok (.iconst 0, 1) := by decide +kernel
theorem d_M_stands_44 : decode b_M_stands 44 = .ok (.istore_n 2, 1) := by decide +kernel
theorem d_M_stands_45 : decode b_M_stands 45 = .ok (.iinc 3 1, 3) := by decide +kernel
theorem d_M_stands_48 : decode b_M_stands 48 = .ok (.goto (-44), 3) := by decide +kernel
theorem d_M_stands_51 : decode b_M_stands 51 = .ok (.iload_n 2, 1) := by decide +kernel
theorem d_M_stands_52 : decode b_M_stands 52 = .ok (.ireturn, 1) := by decide +kernel
theorem d_M_touching_0 : decode b_M_touching 0 = .ok (.iconst 0, 1) := by decide +kernel
theorem d_M_touching_1 : decode b_M_touching 1 = .ok (.istore_n 2, 1) := by decide +kernel
theorem d_M_touching_2 : decode b_M_touching 2 = .ok (.iconst 0, 1) := by decide +kernel
theorem d_M_touching_3 : decode b_M_touching 3 = .ok (.istore_n 3, 1) := by decide +kernel
theorem d_M_touching_4 : decode b_M_touching 4 = .ok (.iload_n 3, 1) := by decide +kernel
theorem d_M_touching_5 : decode b_M_touching 5 = .ok (.iconst 4, 1) := by decide +kernel
theorem d_M_touching_6 : decode b_M_touching 6 = .ok (.if_icmp .ge 34, 3) := by decide +kernel
theorem d_M_touching_9 : decode b_M_touching 9 = .ok (.iload_n 2, 1) := by decide +kernel
theorem d_M_touching_10 : decode b_M_touching 10 = .ok (.aload_n 0, 1) := by decide +kernel
theorem d_M_touching_11 : decode b_M_touching 11 = .ok (.aload_n 0, 1) := by decide +kernel
theorem d_M_touching_12 : decode b_M_touching 12 = .ok (.getfield 13, 3) := by decide +kernel
theorem d_M_touching_15 : decode b_M_touching 15 = .ok (.iconst 4, 1) := by decide +kernel
theorem d_M_touching_16 : decode b_M_touching 16 = .ok (.iload_n 1, 1) := by decide +kernel
theorem d_M_touching_17 : decode b_M_touching 17 = .ok (.imul, 1) := by decide +kernel
theorem d_M_touching_18 : decode b_M_touching 18 = .ok (.iload_n 3, 1) := by decide +kernel
theorem d_M_touching_19 : decode b_M_touching 19 = .ok (.iadd, 1) := by decide +kernel
theorem d_M_touching_20 : decode b_M_touching 20 = .ok (.iaload, 1) := by decide +kernel
theorem d_M_touching_21 : decode b_M_touching 21 = .ok (.invokevirtual 88, 3) := by decide +kernel
theorem d_M_touching_24 : decode b_M_touching 24 = .ok (.ifCond .eq 7, 3) := by decide +kernel
theorem d_M_touching_27 : decode b_M_touching 27 = .ok (.iconst 1, 1) := by decide +kernel
theorem d_M_touching_28 : decode b_M_touching 28 = .ok (.goto 4, 3) := by decide +kernel
theorem d_M_touching_31 : decode b_M_touching 31 = .ok (.iconst 0, 1) := by decide +kernel
theorem d_M_touching_32 : decode b_M_touching 32 = .ok (.iadd, 1) := by decide +kernel
theorem d_M_touching_33 : decode b_M_touching 33 = .ok (.istore_n 2, 1) := by decide +kernel
theorem d_M_touching_34 : decode b_M_touching 34 = .ok (.iinc 3 1, 3) := by decide +kernel
theorem d_M_touching_37 : decode b_M_touching 37 = .ok (.goto (-33), 3) := by decide +kernel
theorem d_M_touching_40 : decode b_M_touching 40 = .ok (.iload_n 2, 1) := by decide +kernel
theorem d_M_touching_41 : decode b_M_touching 41 = .ok (.ireturn, 1) := by decide +kernel
theorem d_M_open_0 : decode b_M_open 0 = .ok (.iconst 0, 1) := by decide +kernel
theorem d_M_open_1 : decode b_M_open 1 = .ok (.istore_n 1, 1) := by decide +kernel
theorem d_M_open_2 : decode b_M_open 2 = .ok (.iconst 0, 1) := by decide +kernel
theorem d_M_open_3 : decode b_M_open 3 = .ok (.istore_n 2, 1) := by decide +kernel
theorem d_M_open_4 : decode b_M_open 4 = .ok (.iload_n 2, 1) := by decide +kernel
theorem d_M_open_5 : decode b_M_open 5 = .ok (.iconst 4, 1) := by decide +kernel
theorem d_M_open_6 : decode b_M_open 6 = .ok (.aload_n 0, 1) := by decide +kernel
theorem d_M_open_7 : decode b_M_open 7 = .ok (.getfield 43, 3) := by decide +kernel
theorem d_M_open_10 : decode b_M_open 10 = .ok (.imul, 1) := by decide +kernel
theorem d_M_open_11 : decode b_M_open 11 = .ok (.if_icmp .ge 44, 3) := by decide +kernel
theorem d_M_open_14 : decode b_M_open 14 = .ok (.iload_n 1, 1) := by decide +kernel
theorem d_M_open_15 : decode b_M_open 15 = .ok (.aload_n 0, 1) := by decide +kernel
theorem d_M_open_16 : decode b_M_open 16 = .ok (.getfield 23, 3) := by decide +kernel
theorem d_M_open_19 : decode b_M_open 19 = .ok (.iload_n 2, 1) := by decide +kernel
theorem d_M_open_20 : decode b_M_open 20 = .ok (.iconst 4, 1) := by decide +kernel
theorem d_M_open_21 : decode b_M_open 21 = .ok (.idiv, 1) := by decide +kernel
theorem d_M_open_22 : decode b_M_open 22 = .ok (.baload, 1) := by decide +kernel
theorem d_M_open_23 : decode b_M_open 23 = .ok (.ifCond .eq 23, 3) := by decide +kernel
theorem d_M_open_26 : decode b_M_open 26 = .ok (.aload_n 0, 1) := by decide +kernel
theorem d_M_open_27 : decode b_M_open 27 = .ok (.getfield 23, 3) := by decide +kernel
theorem d_M_open_30 : decode b_M_open 30 = .ok (.aload_n 0, 1) := by decide +kernel
theorem d_M_open_31 : decode b_M_open 31 = .ok (.getfield 16, 3) := by decide +kernel
theorem d_M_open_34 : decode b_M_open 34 = .ok (.iload_n 2, 1) := by decide +kernel
theorem d_M_open_35 : decode b_M_open 35 = .ok (.iaload, 1) := by decide +kernel
theorem d_M_open_36 : decode b_M_open 36 = .ok (.iconst 4, 1) := by decide +kernel
theorem d_M_open_37 : decode b_M_open 37 = .ok (.idiv, 1) := by decide +kernel
theorem d_M_open_38 : decode b_M_open 38 = .ok (.baload, 1) := by decide +kernel
theorem d_M_open_39 : decode b_M_open 39 = .ok (.ifCond .ne 7, 3) := by decide +kernel
theorem d_M_open_42 : decode b_M_open 42 = .ok (.iconst 1, 1) := by decide +kernel
theorem d_M_open_43 : decode b_M_open 43 = .ok (.goto 4, 3) := by decide +kernel
theorem d_M_open_46 : decode b_M_open 46 = .ok (.iconst 0, 1) := by decide +kernel
theorem d_M_open_47 : decode b_M_open 47 = .ok (.iadd, 1) := by decide +kernel
theorem d_M_open_48 : decode b_M_open 48 = .ok (.istore_n 1, 1) := by decide +kernel
theorem d_M_open_49 : decode b_M_open 49 = .ok (.iinc 2 1, 3) := by decide +kernel
theorem d_M_open_52 : decode b_M_open 52 = .ok (.goto (-48), 3) := by decide +kernel
theorem d_M_open_55 : decode b_M_open 55 = .ok (.iload_n 1, 1) := by decide +kernel
theorem d_M_open_56 : decode b_M_open 56 = .ok (.ireturn, 1) := by decide +kernel
theorem d_M_sweep_0 : decode b_M_sweep 0 = .ok (.iload_n 1, 1) := by decide +kernel
theorem d_M_sweep_1 : decode b_M_sweep 1 = .ok (.ifCond .lt 18, 3) := by decide +kernel
theorem d_M_sweep_4 : decode b_M_sweep 4 = .ok (.iload_n 1, 1) := by decide +kernel
theorem d_M_sweep_5 : decode b_M_sweep 5 = .ok (.aload_n 0, 1) := by decide +kernel
theorem d_M_sweep_6 : decode b_M_sweep 6 = .ok (.getfield 43, 3) := by decide +kernel
theorem d_M_sweep_9 : decode b_M_sweep 9 = .ok (.if_icmp .ge 10, 3) := by decide +kernel
theorem d_M_sweep_12 : decode b_M_sweep 12 = .ok (.aload_n 0, 1) := by decide +kernel
theorem d_M_sweep_13 : decode b_M_sweep 13 = .ok (.invokevirtual 61, 3) := by decide +kernel
theorem d_M_sweep_16 : decode b_M_sweep 16 = .ok (.ifCond .le 5, 3) := by decide +kernel
theorem d_M_sweep_19 : decode b_M_sweep 19 = .ok (.iconst (-1), 1) := by decide +kernel
theorem d_M_sweep_20 : decode b_M_sweep 20 = .ok (.ireturn, 1) := by decide +kernel
theorem d_M_sweep_21 : decode b_M_sweep 21 = .ok (.aload_n 0, 1) := by decide +kernel
theorem d_M_sweep_22 : decode b_M_sweep 22 = .ok (.invokevirtual 65, 3) := by decide +kernel
theorem d_M_sweep_25 : decode b_M_sweep 25 = .ok (.iconst 0, 1) := by decide +kernel
theorem d_M_sweep_26 : decode b_M_sweep 26 = .ok (.istore_n 2, 1) := by decide +kernel
theorem d_M_sweep_27 : decode b_M_sweep 27 = .ok (.iload_n 2, 1) := by decide +kernel
theorem d_M_sweep_28 : decode b_M_sweep 28 = .ok (.aload_n 0, 1) := by decide +kernel
theorem d_M_sweep_29 : decode b_M_sweep 29 = .ok (.getfield 43, 3) := by decide +kernel
theorem d_M_sweep_32 : decode b_M_sweep 32 = .ok (.if_icmp .ge 16, 3) := by decide +kernel
theorem d_M_sweep_35 : decode b_M_sweep 35 = .ok (.aload_n 0, 1) := by decide +kernel
theorem d_M_sweep_36 : decode b_M_sweep 36 = .ok (.getfield 23, 3) := by decide +kernel
theorem d_M_sweep_39 : decode b_M_sweep 39 = .ok (.iload_n 2, 1) := by decide +kernel
theorem d_M_sweep_40 : decode b_M_sweep 40 = .ok (.iconst 0, 1) := by decide +kernel
theorem d_M_sweep_41 : decode b_M_sweep 41 = .ok (.bastore, 1) := by decide +kernel
theorem d_M_sweep_42 : decode b_M_sweep 42 = .ok (.iinc 2 1, 3) := by decide +kernel
theorem d_M_sweep_45 : decode b_M_sweep 45 = .ok (.goto (-18), 3) := by decide +kernel
theorem d_M_sweep_48 : decode b_M_sweep 48 = .ok (.iconst 0, 1) := by decide +kernel
theorem d_M_sweep_49 : decode b_M_sweep 49 = .ok (.istore_n 2, 1) := by decide +kernel
theorem d_M_sweep_50 : decode b_M_sweep 50 = .ok (.iload_n 1, 1) := by decide +kernel
theorem d_M_sweep_51 : decode b_M_sweep 51 = .ok (.istore_n 3, 1) := by decide +kernel
theorem d_M_sweep_52 : decode b_M_sweep 52 = .ok (.iconst 0, 1) := by decide +kernel
theorem d_M_sweep_53 : decode b_M_sweep 53 = .ok (.istore 4, 2) := by decide +kernel
theorem d_M_sweep_55 : decode b_M_sweep 55 = .ok (.iload 4, 2) := by decide +kernel
theorem d_M_sweep_57 : decode b_M_sweep 57 = .ok (.aload_n 0, 1) := by decide +kernel
theorem d_M_sweep_58 : decode b_M_sweep 58 = .ok (.getfield 43, 3) := by decide +kernel
theorem d_M_sweep_61 : decode b_M_sweep 61 = .ok (.if_icmp .ge 90, 3) := by decide +kernel
theorem d_M_sweep_64 : decode b_M_sweep 64 = .ok (.aload_n 0, 1) := by decide +kernel
theorem d_M_sweep_65 : decode b_M_sweep 65 = .ok (.getfield 23, 3) := by decide +kernel
theorem d_M_sweep_68 : decode b_M_sweep 68 = .ok (.iload_n 3, 1) := by decide +kernel
theorem d_M_sweep_69 : decode b_M_sweep 69 = .ok (.iconst 1, 1) := by decide +kernel
theorem d_M_sweep_70 : decode b_M_sweep 70 = .ok (.bastore, 1) := by decide +kernel
theorem d_M_sweep_71 : decode b_M_sweep 71 = .ok (.aload_n 0, 1) := by decide +kernel
theorem d_M_sweep_72 : decode b_M_sweep 72 = .ok (.invokevirtual 92, 3) := by decide +kernel
theorem d_M_sweep_75 : decode b_M_sweep 75 = .ok (.iload_n 2, 1) := by decide +kernel
theorem d_M_sweep_76 : decode b_M_sweep 76 = .ok (.if_icmp .le 10, 3) := by decide +kernel
theorem d_M_sweep_79 : decode b_M_sweep 79 = .ok (.aload_n 0, 1) := by decide +kernel
theorem d_M_sweep_80 : decode b_M_sweep 80 = .ok (.invokevirtual 92, 3) := by decide +kernel
theorem d_M_sweep_83 : decode b_M_sweep 83 = .ok (.goto 4, 3) := by decide +kernel
theorem d_M_sweep_86 : decode b_M_sweep 86 = .ok (.iload_n 2, 1) := by decide +kernel
theorem d_M_sweep_87 : decode b_M_sweep 87 = .ok (.istore_n 2, 1) := by decide +kernel
theorem d_M_sweep_88 : decode b_M_sweep 88 = .ok (.iconst (-1), 1) := by decide +kernel
theorem d_M_sweep_89 : decode b_M_sweep 89 = .ok (.istore 5, 2) := by decide +kernel
theorem d_M_sweep_91 : decode b_M_sweep 91 = .ok (.iconst 0, 1) := by decide +kernel
theorem d_M_sweep_92 : decode b_M_sweep 92 = .ok (.istore 6, 2) := by decide +kernel
theorem d_M_sweep_94 : decode b_M_sweep 94 = .ok (.iload 6, 2) := by decide +kernel
theorem d_M_sweep_96 : decode b_M_sweep 96 = .ok (.aload_n 0, 1) := by decide +kernel
theorem d_M_sweep_97 : decode b_M_sweep 97 = .ok (.getfield 43, 3) := by decide +kernel
theorem d_M_sweep_100 : decode b_M_sweep 100 = .ok (.if_icmp .ge 45, 3) := by decide +kernel
theorem d_M_sweep_103 : decode b_M_sweep 103 = .ok (.aload_n 0, 1) := by decide +kernel
theorem d_M_sweep_104 : decode b_M_sweep 104 = .ok (.getfield 23, 3) := by decide +kernel
theorem d_M_sweep_107 : decode b_M_sweep 107 = .ok (.iload 6, 2) := by decide +kernel
theorem d_M_sweep_109 : decode b_M_sweep 109 = .ok (.baload, 1) := by decide +kernel
theorem d_M_sweep_110 : decode b_M_sweep 110 = .ok (.ifCond .eq 7, 3) := by decide +kernel
theorem d_M_sweep_113 : decode b_M_sweep 113 = .ok (.iconst (-1), 1) := by decide +kernel
theorem d_M_sweep_114 : decode b_M_sweep 114 = .ok (.goto 9, 3) := by decide +kernel
theorem d_M_sweep_117 : decode b_M_sweep 117 = .ok (.aload_n 0, 1) := by decide +kernel
theorem d_M_sweep_118 : decode b_M_sweep 118 = .ok (.iload 6, 2) := by decide +kernel
theorem d_M_sweep_120 : decode b_M_sweep 120 = .ok (.invokevirtual 95, 3) := by decide +kernel
theorem d_M_sweep_123 : decode b_M_sweep 123 = .ok (.istore 7, 2) := by decide +kernel
theorem d_M_sweep_125 : decode b_M_sweep 125 = .ok (.iload 7, 2) := by decide +kernel
theorem d_M_sweep_127 : decode b_M_sweep 127 = .ok (.iload 5, 2) := by decide +kernel
theorem d_M_sweep_129 : decode b_M_sweep 129 = .ok (.if_icmp .le 10, 3) := by decide +kernel
theorem d_M_sweep_132 : decode b_M_sweep 132 = .ok (.iload 7, 2) := by decide +kernel
theorem d_M_sweep_134 : decode b_M_sweep 134 = .ok (.istore 5, 2) := by decide +kernel
theorem d_M_sweep_136 : decode b_M_sweep 136 = .ok (.iload 6, 2) := by decide +kernel
theorem d_M_sweep_138 : decode b_M_sweep 138 = .ok (.istore_n 3, 1) := by decide +kernel
theorem d_M_sweep_139 : decode b_M_sweep 139 = .ok (.iinc 6 1, 3) := by decide +kernel
theorem d_M_sweep_142 : decode b_M_sweep 142 = .ok (.goto (-48), 3) := by decide +kernel
theorem d_M_sweep_145 : decode b_M_sweep 145 = .ok (.iinc 4 1, 3) := by decide +kernel
theorem d_M_sweep_148 : decode b_M_sweep 148 = .ok (.goto (-93), 3) := by decide +kernel
theorem d_M_sweep_151 : decode b_M_sweep 151 = .ok (.iload_n 2, 1) := by decide +kernel
theorem d_M_sweep_152 : decode b_M_sweep 152 = .ok (.ireturn, 1) := by decide +kernel
theorem d_M_look_0 : decode b_M_look 0 = .ok (.iload_n 1, 1) := by decide +kernel
theorem d_M_look_1 : decode b_M_look 1 = .ok (.iconst (-1), 1) := by decide +kernel
theorem d_M_look_2 : decode b_M_look 2 = .ok (.if_icmp .ne 42, 3) := by decide +kernel
theorem d_M_look_5 : decode b_M_look 5 = .ok (.iload_n 2, 1) := by decide +kernel
theorem d_M_look_6 : decode b_M_look 6 = .ok (.ifCond .ne 10, 3) := by decide +kernel
theorem d_M_look_9 : decode b_M_look 9 = .ok (.aload_n 0, 1) := by decide +kernel
theorem d_M_look_10 : decode b_M_look 10 = .ok (.getfield 43, 3) := by decide +kernel
theorem d_M_look_13 : decode b_M_look 13 = .ok (.goto 30, 3) := by decide +kernel
theorem d_M_look_16 : decode b_M_look 16 = .ok (.iload_n 2, 1) := by decide +kernel
