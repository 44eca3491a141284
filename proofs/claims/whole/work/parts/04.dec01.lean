theorem d_B_resolve_32 : decode b_B_resolve 32 = .ok (.aload_n 0, 1) := by decide +kernel
theorem d_B_resolve_33 : decode b_B_resolve 33 = .ok (.getfield 9, 3) := by decide +kernel
theorem d_B_resolve_36 : decode b_B_resolve 36 = .ok (.iload_n 3, 1) := by decide +kernel
theorem d_B_resolve_37 : decode b_B_resolve 37 = .ok (.iload 4, 2) := by decide +kernel
theorem d_B_resolve_39 : decode b_B_resolve 39 = .ok (.iadd, 1) := by decide +kernel
theorem d_B_resolve_40 : decode b_B_resolve 40 = .ok (.iaload, 1) := by decide +kernel
theorem d_B_resolve_41 : decode b_B_resolve 41 = .ok (.istore 5, 2) := by decide +kernel
theorem d_B_resolve_43 : decode b_B_resolve 43 = .ok (.aload_n 0, 1) := by decide +kernel
theorem d_B_resolve_44 : decode b_B_resolve 44 = .ok (.getfield 9, 3) := by decide +kernel
theorem d_B_resolve_47 : decode b_B_resolve 47 = .ok (.iload_n 3, 1) := by decide +kernel
theorem d_B_resolve_48 : decode b_B_resolve 48 = .ok (.iload 4, 2) := by decide +kernel
theorem d_B_resolve_50 : decode b_B_resolve 50 = .ok (.iadd, 1) := by decide +kernel
theorem d_B_resolve_51 : decode b_B_resolve 51 = .ok (.iconst 1, 1) := by decide +kernel
theorem d_B_resolve_52 : decode b_B_resolve 52 = .ok (.iadd, 1) := by decide +kernel
theorem d_B_resolve_53 : decode b_B_resolve 53 = .ok (.iaload, 1) := by decide +kernel
theorem d_B_resolve_54 : decode b_B_resolve 54 = .ok (.istore 6, 2) := by decide +kernel
theorem d_B_resolve_56 : decode b_B_resolve 56 = .ok (.aload_n 0, 1) := by decide +kernel
theorem d_B_resolve_57 : decode b_B_resolve 57 = .ok (.getfield 9, 3) := by decide +kernel
theorem d_B_resolve_60 : decode b_B_resolve 60 = .ok (.iload_n 3, 1) := by decide +kernel
theorem d_B_resolve_61 : decode b_B_resolve 61 = .ok (.iload 4, 2) := by decide +kernel
theorem d_B_resolve_63 : decode b_B_resolve 63 = .ok (.iadd, 1) := by decide +kernel
theorem d_B_resolve_64 : decode b_B_resolve 64 = .ok (.iconst 2, 1) := by decide +kernel
theorem d_B_resolve_65 : decode b_B_resolve 65 = .ok (.iadd, 1) := by decide +kernel
theorem d_B_resolve_66 : decode b_B_resolve 66 = .ok (.iaload, 1) := by decide +kernel
theorem d_B_resolve_67 : decode b_B_resolve 67 = .ok (.iload 5, 2) := by decide +kernel
theorem d_B_resolve_69 : decode b_B_resolve 69 = .ok (.iload 6, 2) := by decide +kernel
theorem d_B_resolve_71 : decode b_B_resolve 71 = .ok (.invokestatic 120, 3) := by decide +kernel
theorem d_B_resolve_74 : decode b_B_resolve 74 = .ok (.istore 7, 2) := by decide +kernel
theorem d_B_resolve_76 : decode b_B_resolve 76 = .ok (.aload_n 0, 1) := by decide +kernel
theorem d_B_resolve_77 : decode b_B_resolve 77 = .ok (.getfield 9, 3) := by decide +kernel
theorem d_B_resolve_80 : decode b_B_resolve 80 = .ok (.iload_n 3, 1) := by decide +kernel
theorem d_B_resolve_81 : decode b_B_resolve 81 = .ok (.iload 4, 2) := by decide +kernel
theorem d_B_resolve_83 : decode b_B_resolve 83 = .ok (.iconst 3, 1) := by decide +kernel
theorem d_B_resolve_84 : decode b_B_resolve 84 = .ok (.iadd, 1) := by decide +kernel
theorem d_B_resolve_85 : decode b_B_resolve 85 = .ok (.iconst 4, 1) := by decide +kernel
theorem d_B_resolve_86 : decode b_B_resolve 86 = .ok (.irem, 1) := by decide +kernel
theorem d_B_resolve_87 : decode b_B_resolve 87 = .ok (.iadd, 1) := by decide +kernel
theorem d_B_resolve_88 : decode b_B_resolve 88 = .ok (.iaload, 1) := by decide +kernel
theorem d_B_resolve_89 : decode b_B_resolve 89 = .ok (.iload 5, 2) := by decide +kernel
theorem d_B_resolve_91 : decode b_B_resolve 91 = .ok (.iload 6, 2) := by decide +kernel
theorem d_B_resolve_93 : decode b_B_resolve 93 = .ok (.invokestatic 120, 3) := by decide +kernel
theorem d_B_resolve_96 : decode b_B_resolve 96 = .ok (.istore 8, 2) := by decide +kernel
theorem d_B_resolve_98 : decode b_B_resolve 98 = .ok (.iload 5, 2) := by decide +kernel
theorem d_B_resolve_100 : decode b_B_resolve 100 = .ok (.iload 6, 2) := by decide +kernel
theorem d_B_resolve_102 : decode b_B_resolve 102 = .ok (.if_icmp .ne 7, 3) := by decide +kernel
theorem d_B_resolve_105 : decode b_B_resolve 105 = .ok (.iconst 1, 1) := by decide +kernel
theorem d_B_resolve_106 : decode b_B_resolve 106 = .ok (.goto 4, 3) := by decide +kernel
theorem d_B_resolve_109 : decode b_B_resolve 109 = .ok (.iconst 0, 1) := by decide +kernel
theorem d_B_resolve_110 : decode b_B_resolve 110 = .ok (.iload 7, 2) := by decide +kernel
theorem d_B_resolve_112 : decode b_B_resolve 112 = .ok (.iload 8, 2) := by decide +kernel
theorem d_B_resolve_114 : decode b_B_resolve 114 = .ok (.if_icmp .ne 7, 3) := by decide +kernel
theorem d_B_resolve_117 : decode b_B_resolve 117 = .ok (.iconst 1, 1) := by decide +kernel
theorem d_B_resolve_118 : decode b_B_resolve 118 = .ok (.goto 4, 3) := by decide +kernel
theorem d_B_resolve_121 : decode b_B_resolve 121 = .ok (.iconst 0, 1) := by decide +kernel
theorem d_B_resolve_122 : decode b_B_resolve 122 = .ok (.iadd, 1) := by decide +kernel
theorem d_B_resolve_123 : decode b_B_resolve 123 = .ok (.istore 9, 2) := by decide +kernel
theorem d_B_resolve_125 : decode b_B_resolve 125 = .ok (.aload_n 0, 1) := by decide +kernel
theorem d_B_resolve_126 : decode b_B_resolve 126 = .ok (.getfield 20, 3) := by decide +kernel
theorem d_B_resolve_129 : decode b_B_resolve 129 = .ok (.iload 9, 2) := by decide +kernel
theorem d_B_resolve_131 : decode b_B_resolve 131 = .ok (.iadd, 1) := by decide +kernel
theorem d_B_resolve_132 : decode b_B_resolve 132 = .ok (.bipush 9, 2) := by decide +kernel
theorem d_B_resolve_134 : decode b_B_resolve 134 = .ok (.if_icmp .le 5, 3) := by decide +kernel
theorem d_B_resolve_137 : decode b_B_resolve 137 = .ok (.iconst 0, 1) := by decide +kernel
theorem d_B_resolve_138 : decode b_B_resolve 138 = .ok (.ireturn, 1) := by decide +kernel
theorem d_B_resolve_139 : decode b_B_resolve 139 = .ok (.aload_n 0, 1) := by decide +kernel
theorem d_B_resolve_140 : decode b_B_resolve 140 = .ok (.iload 5, 2) := by decide +kernel
theorem d_B_resolve_142 : decode b_B_resolve 142 = .ok (.iload 6, 2) := by decide +kernel
theorem d_B_resolve_144 : decode b_B_resolve 144 = .ok (.invokevirtual 124, 3) := by decide +kernel
theorem d_B_resolve_147 : decode b_B_resolve 147 = .ok (.aload_n 0, 1) := by decide +kernel
theorem d_B_resolve_148 : decode b_B_resolve 148 = .ok (.iload 7, 2) := by decide +kernel
theorem d_B_resolve_150 : decode b_B_resolve 150 = .ok (.iload 8, 2) := by decide +kernel
theorem d_B_resolve_152 : decode b_B_resolve 152 = .ok (.invokevirtual 124, 3) := by decide +kernel
theorem d_B_resolve_155 : decode b_B_resolve 155 = .ok (.aload_n 0, 1) := by decide +kernel
theorem d_B_resolve_156 : decode b_B_resolve 156 = .ok (.dup, 1) := by decide +kernel
theorem d_B_resolve_157 : decode b_B_resolve 157 = .ok (.getfield 20, 3) := by decide +kernel
theorem d_B_resolve_160 : decode b_B_resolve 160 = .ok (.iload 9, 2) := by decide +kernel
theorem d_B_resolve_162 : decode b_B_resolve 162 = .ok (.iadd, 1) := by decide +kernel
theorem d_B_resolve_163 : decode b_B_resolve 163 = .ok (.putfield 20, 3) := by decide +kernel
theorem d_B_resolve_166 : decode b_B_resolve 166 = .ok (.aload_n 0, 1) := by decide +kernel
theorem d_B_resolve_167 : decode b_B_resolve 167 = .ok (.iload_n 1, 1) := by decide +kernel
theorem d_B_resolve_168 : decode b_B_resolve 168 = .ok (.aload_n 0, 1) := by decide +kernel
theorem d_B_resolve_169 : decode b_B_resolve 169 = .ok (.getfield 16, 3) := by decide +kernel
theorem d_B_resolve_172 : decode b_B_resolve 172 = .ok (.iconst 1, 1) := by decide +kernel
theorem d_B_resolve_173 : decode b_B_resolve 173 = .ok (.isub, 1) := by decide +kernel
theorem d_B_resolve_174 : decode b_B_resolve 174 = .ok (.invokevirtual 128, 3) := by decide +kernel
theorem d_B_resolve_177 : decode b_B_resolve 177 = .ok (.aload_n 0, 1) := by decide +kernel
theorem d_B_resolve_178 : decode b_B_resolve 178 = .ok (.dup, 1) := by decide +kernel
theorem d_B_resolve_179 : decode b_B_resolve 179 = .ok (.getfield 16, 3) := by decide +kernel
theorem d_B_resolve_182 : decode b_B_resolve 182 = .ok (.iconst 1, 1) := by decide +kernel
theorem d_B_resolve_183 : decode b_B_resolve 183 = .ok (.isub, 1) := by decide +kernel
theorem d_B_resolve_184 : decode b_B_resolve 184 = .ok (.putfield 16, 3) := by decide +kernel
theorem d_B_resolve_187 : decode b_B_resolve 187 = .ok (.aload_n 0, 1) := by decide +kernel
theorem d_B_resolve_188 : decode b_B_resolve 188 = .ok (.invokevirtual 54, 3) := by decide +kernel
theorem d_B_resolve_191 : decode b_B_resolve 191 = .ok (.iconst 1, 1) := by decide +kernel
theorem d_B_resolve_192 : decode b_B_resolve 192 = .ok (.ireturn, 1) := by decide +kernel
theorem d_B_change_0 : decode b_B_change 0 = .ok (.aload_n 0, 1) := by decide +kernel
theorem d_B_change_1 : decode b_B_change 1 = .ok (.iload_n 1, 1) := by decide +kernel
theorem d_B_change_2 : decode b_B_change 2 = .ok (.invokevirtual 64, 3) := by decide +kernel
theorem d_B_change_5 : decode b_B_change 5 = .ok (.ifCond .ne 5, 3) := by decide +kernel
theorem d_B_change_8 : decode b_B_change 8 = .ok (.iconst 0, 1) := by decide +kernel
theorem d_B_change_9 : decode b_B_change 9 = .ok (.ireturn, 1) := by decide +kernel
theorem d_B_change_10 : decode b_B_change 10 = .ok (.iconst 4, 1) := by decide +kernel
theorem d_B_change_11 : decode b_B_change 11 = .ok (.iload_n 1, 1) := by decide +kernel
theorem d_B_change_12 : decode b_B_change 12 = .ok (.imul, 1) := by decide +kernel
theorem d_B_change_13 : decode b_B_change 13 = .ok (.istore_n 2, 1) := by decide +kernel
theorem d_B_change_14 : decode b_B_change 14 = .ok (.aload_n 0, 1) := by decide +kernel
theorem d_B_change_15 : decode b_B_change 15 = .ok (.getfield 9, 3) := by decide +kernel
theorem d_B_change_18 : decode b_B_change 18 = .ok (.iload_n 2, 1) := by decide +kernel
theorem d_B_change_19 : decode b_B_change 19 = .ok (.iaload, 1) := by decide +kernel
theorem d_B_change_20 : decode b_B_change 20 = .ok (.istore_n 3, 1) := by decide +kernel
theorem d_B_change_21 : decode b_B_change 21 = .ok (.aload_n 0, 1) := by decide +kernel
theorem d_B_change_22 : decode b_B_change 22 = .ok (.getfield 9, 3) := by decide +kernel
theorem d_B_change_25 : decode b_B_change 25 = .ok (.iload_n 2, 1) := by decide +kernel
theorem d_B_change_26 : decode b_B_change 26 = .ok (.aload_n 0, 1) := by decide +kernel
theorem d_B_change_27 : decode b_B_change 27 = .ok (.getfield 9, 3) := by decide +kernel
theorem d_B_change_30 : decode b_B_change 30 = .ok (.iload_n 2, 1) := by decide +kernel
theorem d_B_change_31 : decode b_B_change 31 = .ok (.iconst 1, 1) := by decide +kernel
theorem d_B_change_32 : decode b_B_change 32 = .ok (.iadd, 1) := by decide +kernel
theorem d_B_change_33 : decode b_B_change 33 = .ok (.iaload, 1) := by decide +kernel
theorem d_B_change_34 : decode b_B_change 34 = .ok (.iastore, 1) := by decide +kernel
theorem d_B_change_35 : decode b_B_change 35 = .ok (.aload_n 0, 1) := by decide +kernel
theorem d_B_change_36 : decode b_B_change 36 = .ok (.getfield 9, 3) := by decide +kernel
theorem d_B_change_39 : decode b_B_change 39 = .ok (.iload_n 2, 1) := by decide +kernel
theorem d_B_change_40 : decode b_B_change 40 = .ok (.iconst 1, 1) := by decide +kernel
theorem d_B_change_41 : decode b_B_change 41 = .ok (.iadd, 1) := by decide +kernel
theorem d_B_change_42 : decode b_B_change 42 = .ok (.aload_n 0, 1) := by decide +kernel
theorem d_B_change_43 : decode b_B_change 43 = .ok (.getfield 9, 3) := by decide +kernel
theorem d_B_change_46 : decode b_B_change 46 = .ok (.iload_n 2, 1) := by decide +kernel
theorem d_B_change_47 : decode b_B_change 47 = .ok (.iconst 2, 1) := by decide +kernel
theorem d_B_change_48 : decode b_B_change 48 = .ok (.iadd, 1) := by decide +kernel
theorem d_B_change_49 : decode b_B_change 49 = .ok (.iaload, 1) := by decide +kernel
theorem d_B_change_50 : decode b_B_change 50 = .ok (.iastore, 1) := by decide +kernel
theorem d_B_change_51 : decode b_B_change 51 = .ok (.aload_n 0, 1) := by decide +kernel
theorem d_B_change_52 : decode b_B_change 52 = .ok (.getfield 9, 3) := by decide +kernel
theorem d_B_change_55 : decode b_B_change 55 = .ok (.iload_n 2, 1) := by decide +kernel
theorem d_B_change_56 : decode b_B_change 56 = .ok (.iconst 2, 1) := by decide +kernel
theorem d_B_change_57 : decode b_B_change 57 = .ok (.iadd, 1) := by decide +kernel
theorem d_B_change_58 : decode b_B_change 58 = .ok (.aload_n 0, 1) := by decide +kernel
theorem d_B_change_59 : decode b_B_change 59 = .ok (.getfield 9, 3) := by decide +kernel
theorem d_B_change_62 : decode b_B_change 62 = .ok (.iload_n 2, 1) := by decide +kernel
theorem d_B_change_63 : decode b_B_change 63 = .ok (.iconst 3, 1) := by decide +kernel
theorem d_B_change_64 : decode b_B_change 64 = .ok (.iadd, 1) := by decide +kernel
theorem d_B_change_65 : decode b_B_change 65 = .ok (.iaload, 1) := by decide +kernel
theorem d_B_change_66 : decode b_B_change 66 = .ok (.iastore, 1) := by decide +kernel
theorem d_B_change_67 : decode b_B_change 67 = .ok (.aload_n 0, 1) := by decide +kernel
theorem d_B_change_68 : decode b_B_change 68 = .ok (.getfield 9, 3) := by decide +kernel
theorem d_B_change_71 : decode b_B_change 71 = .ok (.iload_n 2, 1) := by decide +kernel
theorem d_B_change_72 : decode b_B_change 72 = .ok (.iconst 3, 1) := by decide +kernel
theorem d_B_change_73 : decode b_B_change 73 = .ok (.iadd, 1) := by decide +kernel
theorem d_B_change_74 : decode b_B_change 74 = .ok (.iload_n 3, 1) := by decide +kernel
theorem d_B_change_75 : decode b_B_change 75 = .ok (.iastore, 1) := by decide +kernel
theorem d_B_change_76 : decode b_B_change 76 = .ok (.aload_n 0, 1) := by decide +kernel
theorem d_B_change_77 : decode b_B_change 77 = .ok (.getfield 13, 3) := by decide +kernel
theorem d_B_change_80 : decode b_B_change 80 = .ok (.iload_n 1, 1) := by decide +kernel
theorem d_B_change_81 : decode b_B_change 81 = .ok (.aload_n 0, 1) := by decide +kernel
theorem d_B_change_82 : decode b_B_change 82 = .ok (.getfield 13, 3) := by decide +kernel
theorem d_B_change_85 : decode b_B_change 85 = .ok (.iload_n 1, 1) := by decide +kernel
theorem d_B_change_86 : decode b_B_change 86 = .ok (.iaload, 1) := by decide +kernel
theorem d_B_change_87 : decode b_B_change 87 = .ok (.ineg, 1) := by decide +kernel
theorem d_B_change_88 : decode b_B_change 88 = .ok (.iastore, 1) := by decide +kernel
theorem d_B_change_89 : decode b_B_change 89 = .ok (.aload_n 0, 1) := by decide +kernel
theorem d_B_change_90 : decode b_B_change 90 = .ok (.invokevirtual 54, 3) := by decide +kernel
theorem d_B_change_93 : decode b_B_change 93 = .ok (.iconst 1, 1) := by decide +kernel
theorem d_B_change_94 : decode b_B_change 94 = .ok (.ireturn, 1) := by decide +kernel
theorem d_B_move_0 : decode b_B_move 0 = .ok (.aload_n 0, 1) := by decide +kernel
theorem d_B_move_1 : decode b_B_move 1 = .ok (.iload_n 1, 1) := by decide +kernel
theorem d_B_move_2 : decode b_B_move 2 = .ok (.invokevirtual 64, 3) := by decide +kernel
theorem d_B_move_5 : decode b_B_move 5 = .ok (.ifCond .eq 11, 3) := by decide +kernel
theorem d_B_move_8 : decode b_B_move 8 = .ok (.aload_n 0, 1) := by decide +kernel
theorem d_B_move_9 : decode b_B_move 9 = .ok (.iload_n 2, 1) := by decide +kernel
theorem d_B_move_10 : decode b_B_move 10 = .ok (.invokevirtual 64, 3) := by decide +kernel
theorem d_B_move_13 : decode b_B_move 13 = .ok (.ifCond .ne 5, 3) := by decide +kernel
theorem d_B_move_16 : decode b_B_move 16 = .ok (.iconst 0, 1) := by decide +kernel
theorem d_B_move_17 : decode b_B_move 17 = .ok (.ireturn, 1) := by decide +kernel
theorem d_B_move_18 : decode b_B_move 18 = .ok (.aload_n 0, 1) := by decide +kernel
theorem d_B_move_19 : decode b_B_move 19 = .ok (.iload_n 1, 1) := by decide +kernel
theorem d_B_move_20 : decode b_B_move 20 = .ok (.iload_n 2, 1) := by decide +kernel
theorem d_B_move_21 : decode b_B_move 21 = .ok (.invokevirtual 128, 3) := by decide +kernel
theorem d_B_move_24 : decode b_B_move 24 = .ok (.aload_n 0, 1) := by decide +kernel
theorem d_B_move_25 : decode b_B_move 25 = .ok (.invokevirtual 54, 3) := by decide +kernel
theorem d_B_move_28 : decode b_B_move 28 = .ok (.iconst 1, 1) := by decide +kernel
theorem d_B_move_29 : decode b_B_move 29 = .ok (.ireturn, 1) := by decide +kernel
theorem d_B_isLabel_0 : decode b_B_isLabel 0 = .ok (.iload_n 0, 1) := by decide +kernel
theorem d_B_isLabel_1 : decode b_B_isLabel 1 = .ok (.iconst 1, 1) := by decide +kernel
theorem d_B_isLabel_2 : decode b_B_isLabel 2 = .ok (.if_icmp .lt 13, 3) := by decide +kernel
theorem d_B_isLabel_5 : decode b_B_isLabel 5 = .ok (.iload_n 0, 1) := by decide +kernel
theorem d_B_isLabel_6 : decode b_B_isLabel 6 = .ok (.bipush 99, 2) := by decide +kernel
theorem d_B_isLabel_8 : decode b_B_isLabel 8 = .ok (.if_icmp .gt 7, 3) := by decide +kernel
theorem d_B_isLabel_11 : decode b_B_isLabel 11 = .ok (.iconst 1, 1) := by decide +kernel
theorem d_B_isLabel_12 : decode b_B_isLabel 12 = .ok (.goto 4, 3) := by decide +kernel
theorem d_B_isLabel_15 : decode b_B_isLabel 15 = .ok (.iconst 0, 1) := by decide +kernel
theorem d_B_isLabel_16 : decode b_B_isLabel 16 = .ok (.ireturn, 1) := by decide +kernel
theorem d_B_isCrossing_0 : decode b_B_isCrossing 0 = .ok (.iload_n 1, 1) := by decide +kernel
theorem d_B_isCrossing_1 : decode b_B_isCrossing 1 = .ok (.ifCond .lt 15, 3) := by decide +kernel
theorem d_B_isCrossing_4 : decode b_B_isCrossing 4 = .ok (.iload_n 1, 1) := by decide +kernel
theorem d_B_isCrossing_5 : decode b_B_isCrossing 5 = .ok (.aload_n 0, 1) := by decide +kernel
theorem d_B_isCrossing_6 : decode b_B_isCrossing 6 = .ok (.getfield 16, 3) := by decide +kernel
theorem d_B_isCrossing_9 : decode b_B_isCrossing 9 = .ok (.if_icmp .ge 7, 3) := by decide +kernel
theorem d_B_isCrossing_12 : decode b_B_isCrossing 12 = .ok (.iconst 1, 1) := by decide +kernel
theorem d_B_isCrossing_13 : decode b_B_isCrossing 13 = .ok (.goto 4, 3) := by decide +kernel
theorem d_B_isCrossing_16 : decode b_B_isCrossing 16 = .ok (.iconst 0, 1) := by decide +kernel
theorem d_B_isCrossing_17 : decode b_B_isCrossing 17 = .ok (.ireturn, 1) := by decide +kernel
theorem d_B_isCode_0 : decode b_B_isCode 0 = .ok (.aload_n 0, 1) := by decide +kernel
theorem d_B_isCode_1 : decode b_B_isCode 1 = .ok (.invokevirtual 131, 3) := by decide +kernel
theorem d_B_isCode_4 : decode b_B_isCode 4 = .ok (.ifCond .ne 7, 3) := by decide +kernel
theorem d_B_isCode_7 : decode b_B_isCode 7 = .ok (.iconst 1, 1) := by decide +kernel
theorem d_B_isCode_8 : decode b_B_isCode 8 = .ok (.goto 4, 3) := by decide +kernel
theorem d_B_isCode_11 : decode b_B_isCode 11 = .ok (.iconst 0, 1) := by decide +kernel
theorem d_B_isCode_12 : decode b_B_isCode 12 = .ok (.ireturn, 1) := by decide +kernel
theorem d_B_orderAsGiven_0 : decode b_B_orderAsGiven 0 = .ok (.iconst 0, 1) := by decide +kernel
theorem d_B_orderAsGiven_1 : decode b_B_orderAsGiven 1 = .ok (.istore_n 1, 1) := by decide +kernel
theorem d_B_orderAsGiven_2 : decode b_B_orderAsGiven 2 = .ok (.iload_n 1, 1) := by decide +kernel
theorem d_B_orderAsGiven_3 : decode b_B_orderAsGiven 3 = .ok (.bipush 10, 2) := by decide +kernel
theorem d_B_orderAsGiven_5 : decode b_B_orderAsGiven 5 = .ok (.if_icmp .ge 16, 3) := by decide +kernel
theorem d_B_orderAsGiven_8 : decode b_B_orderAsGiven 8 = .ok (.aload_n 0, 1) := by decide +kernel
theorem d_B_orderAsGiven_9 : decode b_B_orderAsGiven 9 = .ok (.getfield 23, 3) := by decide +kernel
theorem d_B_orderAsGiven_12 : decode b_B_orderAsGiven 12 = .ok (.iload_n 1, 1) := by decide +kernel
theorem d_B_orderAsGiven_13 : decode b_B_orderAsGiven 13 = .ok (.iload_n 1, 1) := by decide +kernel
theorem d_B_orderAsGiven_14 : decode b_B_orderAsGiven 14 = .ok (.iastore, 1) := by decide +kernel
theorem d_B_orderAsGiven_15 : decode b_B_orderAsGiven 15 = .ok (.iinc 1 1, 3) := by decide +kernel
theorem d_B_orderAsGiven_18 : decode b_B_orderAsGiven 18 = .ok (.goto (-16), 3) := by decide +kernel
theorem d_B_orderAsGiven_21 : decode b_B_orderAsGiven 21 = .ok (.aload_n 0, 1) := by decide +kernel
theorem d_B_orderAsGiven_22 : decode b_B_orderAsGiven 22 = .ok (.iconst 0, 1) := by decide +kernel
theorem d_B_orderAsGiven_23 : decode b_B_orderAsGiven 23 = .ok (.putfield 50, 3) := by decide +kernel
theorem d_B_orderAsGiven_26 : decode b_B_orderAsGiven 26 = .ok (.return_, 1) := by decide +kernel
theorem d_B_countStanding_0 : decode b_B_countStanding 0 = .ok (.aload_n 0, 1) := by decide +kernel
theorem d_B_countStanding_1 : decode b_B_countStanding 1 = .ok (.getfield 26, 3) := by decide +kernel
theorem d_B_countStanding_4 : decode b_B_countStanding 4 = .ok (.iconst 0, 1) := by decide +kernel
theorem d_B_countStanding_5 : decode b_B_countStanding 5 = .ok (.invokestatic 134, 3) := by decide +kernel
theorem d_B_countStanding_8 : decode b_B_countStanding 8 = .ok (.iconst 0, 1) := by decide +kernel
theorem d_B_countStanding_9 : decode b_B_countStanding 9 = .ok (.istore_n 1, 1) := by decide +kernel
theorem d_B_countStanding_10 : decode b_B_countStanding 10 = .ok (.iload_n 1, 1) := by decide +kernel
theorem d_B_countStanding_11 : decode b_B_countStanding 11 = .ok (.iconst 4, 1) := by decide +kernel
theorem d_B_countStanding_12 : decode b_B_countStanding 12 = .ok (.aload_n 0, 1) := by decide +kernel
theorem d_B_countStanding_13 : decode b_B_countStanding 13 = .ok (.getfield 16, 3) := by decide +kernel
theorem d_B_countStanding_16 : decode b_B_countStanding 16 = .ok (.imul, 1) := by decide +kernel
theorem d_B_countStanding_17 : decode b_B_countStanding 17 = .ok (.if_icmp .ge 24, 3) := by decide +kernel
theorem d_B_countStanding_20 : decode b_B_countStanding 20 = .ok (.aload_n 0, 1) := by decide +kernel
theorem d_B_countStanding_21 : decode b_B_countStanding 21 = .ok (.getfield 26, 3) := by decide +kernel
theorem d_B_countStanding_24 : decode b_B_countStanding 24 = .ok (.aload_n 0, 1) := by decide +kernel
theorem d_B_countStanding_25 : decode b_B_countStanding 25 = .ok (.getfield 9, 3) := by decide +kernel
theorem d_B_countStanding_28 : decode b_B_countStanding 28 = .ok (.iload_n 1, 1) := by decide +kernel
theorem d_B_countStanding_29 : decode b_B_countStanding 29 = .ok (.iaload, 1) := by decide +kernel
theorem d_B_countStanding_30 : decode b_B_countStanding 30 = .ok (.dup2, 1) := by decide +kernel
theorem d_B_countStanding_31 : decode b_B_countStanding 31 = .ok (.iaload, 1) := by decide +kernel
theorem d_B_countStanding_32 : decode b_B_countStanding 32 = .ok (.iconst 1, 1) := by decide +kernel
theorem d_B_countStanding_33 : decode b_B_countStanding 33 = .ok (.iadd, 1) := by decide +kernel
theorem d_B_countStanding_34 : decode b_B_countStanding 34 = .ok (.iastore, 1) := by decide +kernel
theorem d_B_countStanding_35 : decode b_B_countStanding 35 = .ok (.iinc 1 1, 3) := by decide +kernel
theorem d_B_countStanding_38 : decode b_B_countStanding 38 = .ok (.goto (-28), 3) := by decide +kernel
theorem d_B_countStanding_41 : decode b_B_countStanding 41 = .ok (.return_, 1) := by decide +kernel
theorem d_B_sumOfSigns_0 : decode b_B_sumOfSigns 0 = .ok (.iconst 0, 1) := by decide +kernel
theorem d_B_sumOfSigns_1 : decode b_B_sumOfSigns 1 = .ok (.istore_n 1, 1) := by decide +kernel
theorem d_B_sumOfSigns_2 : decode b_B_sumOfSigns 2 = .ok (.iconst 0, 1) := by decide +kernel
theorem d_B_sumOfSigns_3 : decode b_B_sumOfSigns 3 = .ok (.istore_n 2, 1) := by decide +kernel
theorem d_B_sumOfSigns_4 : decode b_B_sumOfSigns 4 = .ok (.iload_n 2, 1) := by decide +kernel
theorem d_B_sumOfSigns_5 : decode b_B_sumOfSigns 5 = .ok (.aload_n 0, 1) := by decide +kernel
theorem d_B_sumOfSigns_6 : decode b_B_sumOfSigns 6 = .ok (.getfield 16, 3) := by decide +kernel
theorem d_B_sumOfSigns_9 : decode b_B_sumOfSigns 9 = .ok (.if_icmp .ge 18, 3) := by decide +kernel
theorem d_B_sumOfSigns_12 : decode b_B_sumOfSigns 12 = .ok (.iload_n 1, 1) := by decide +kernel
theorem d_B_sumOfSigns_13 : decode b_B_sumOfSigns 13 = .ok (.aload_n 0, 1) := by decide +kernel
theorem d_B_sumOfSigns_14 : decode b_B_sumOfSigns 14 = .ok (.getfield 13, 3) := by decide +kernel
theorem d_B_sumOfSigns_17 : decode b_B_sumOfSigns 17 = .ok (.iload_n 2, 1) := by decide +kernel
theorem d_B_sumOfSigns_18 : decode b_B_sumOfSigns 18 = .ok (.iaload, 1) := by decide +kernel
theorem d_B_sumOfSigns_19 : decode b_B_sumOfSigns 19 = .ok (.iadd, 1) := by decide +kernel
theorem d_B_sumOfSigns_20 : decode b_B_sumOfSigns 20 = .ok (.istore_n 1, 1) := by decide +kernel
theorem d_B_sumOfSigns_21 : decode b_B_sumOfSigns 21 = .ok (.iinc 2 1, 3) := by decide +kernel
theorem d_B_sumOfSigns_24 : decode b_B_sumOfSigns 24 = .ok (.goto (-20), 3) := by decide +kernel
theorem d_B_sumOfSigns_27 : decode b_B_sumOfSigns 27 = .ok (.iload_n 1, 1) := by decide +kernel
theorem d_B_sumOfSigns_28 : decode b_B_sumOfSigns 28 = .ok (.ireturn, 1) := by decide +kernel
theorem d_B_lookAtAll_0 : decode b_B_lookAtAll 0 = .ok (.iload_n 1, 1) := by decide +kernel
theorem d_B_lookAtAll_1 : decode b_B_lookAtAll 1 = .ok (.tableswitch 42 0 2 #[27, 32, 37], 27) := by decide +kernel
theorem d_B_lookAtAll_28 : decode b_B_lookAtAll 28 = .ok (.aload_n 0, 1) := by decide +kernel
theorem d_B_lookAtAll_29 : decode b_B_lookAtAll 29 = .ok (.getfield 16, 3) := by decide +kernel
theorem d_B_lookAtAll_32 : decode b_B_lookAtAll 32 = .ok (.ireturn, 1) := by decide +kernel
theorem d_B_lookAtAll_33 : decode b_B_lookAtAll 33 = .ok (.aload_n 0, 1) := by decide +kernel
theorem d_B_lookAtAll_34 : decode b_B_lookAtAll 34 = .ok (.getfield 20, 3) := by decide +kernel
theorem d_B_lookAtAll_37 : decode b_B_lookAtAll 37 = .ok (.ireturn, 1) := by decide +kernel
theorem d_B_lookAtAll_38 : decode b_B_lookAtAll 38 = .ok (.aload_n 0, 1) := by decide +kernel
theorem d_B_lookAtAll_39 : decode b_B_lookAtAll 39 = .ok (.invokevirtual 95, 3) := by decide +kernel
theorem d_B_lookAtAll_42 : decode b_B_lookAtAll 42 = .ok (.ireturn, 1) := by decide +kernel
theorem d_B_lookAtAll_43 : decode b_B_lookAtAll 43 = .ok (.sipush (-1000), 3) := by decide +kernel
theorem d_B_lookAtAll_46 : decode b_B_lookAtAll 46 = .ok (.ireturn, 1) := by decide +kernel
theorem d_B_goOverNone_0 : decode b_B_goOverNone 0 = .ok (.aload_n 0, 1) := by decide +kernel
theorem d_B_goOverNone_1 : decode b_B_goOverNone 1 = .ok (.getfield 26, 3) := by decide +kernel
theorem d_B_goOverNone_4 : decode b_B_goOverNone 4 = .ok (.iconst 0, 1) := by decide +kernel
theorem d_B_goOverNone_5 : decode b_B_goOverNone 5 = .ok (.invokestatic 134, 3) := by decide +kernel
theorem d_B_goOverNone_8 : decode b_B_goOverNone 8 = .ok (.iconst 0, 1) := by decide +kernel
theorem d_B_goOverNone_9 : decode b_B_goOverNone 9 = .ok (.istore_n 1, 1) := by decide +kernel
theorem d_B_goOverNone_10 : decode b_B_goOverNone 10 = .ok (.iload_n 1, 1) := by decide +kernel
theorem d_B_goOverNone_11 : decode b_B_goOverNone 11 = .ok (.bipush 10, 2) := by decide +kernel
theorem d_B_goOverNone_13 : decode b_B_goOverNone 13 = .ok (.if_icmp .ge 16, 3) := by decide +kernel
theorem d_B_goOverNone_16 : decode b_B_goOverNone 16 = .ok (.aload_n 0, 1) := by decide +kernel
theorem d_B_goOverNone_17 : decode b_B_goOverNone 17 = .ok (.getfield 29, 3) := by decide +kernel
theorem d_B_goOverNone_20 : decode b_B_goOverNone 20 = .ok (.iload_n 1, 1) := by decide +kernel
theorem d_B_goOverNone_21 : decode b_B_goOverNone 21 = .ok (.iconst 0, 1) := by decide +kernel
theorem d_B_goOverNone_22 : decode b_B_goOverNone 22 = .ok (.bastore, 1) := by decide +kernel
theorem d_B_goOverNone_23 : decode b_B_goOverNone 23 = .ok (.iinc 1 1, 3) := by decide +kernel
theorem d_B_goOverNone_26 : decode b_B_goOverNone 26 = .ok (.goto (-16), 3) := by decide +kernel
theorem d_B_goOverNone_29 : decode b_B_goOverNone 29 = .ok (.return_, 1) := by decide +kernel
theorem d_B_mostJoined_0 : decode b_B_mostJoined 0 = .ok (.iconst 0, 1) := by decide +kernel
theorem d_B_mostJoined_1 : decode b_B_mostJoined 1 = .ok (.istore_n 1, 1) := by decide +kernel
theorem d_B_mostJoined_2 : decode b_B_mostJoined 2 = .ok (.iconst (-1), 1) := by decide +kernel
theorem d_B_mostJoined_3 : decode b_B_mostJoined 3 = .ok (.istore_n 2, 1) := by decide +kernel
theorem d_B_mostJoined_4 : decode b_B_mostJoined 4 = .ok (.iconst 0, 1) := by decide +kernel
theorem d_B_mostJoined_5 : decode b_B_mostJoined 5 = .ok (.istore_n 3, 1) := by decide +kernel
theorem d_B_mostJoined_6 : decode b_B_mostJoined 6 = .ok (.iload_n 3, 1) := by decide +kernel
theorem d_B_mostJoined_7 : decode b_B_mostJoined 7 = .ok (.aload_n 0, 1) := by decide +kernel
theorem d_B_mostJoined_8 : decode b_B_mostJoined 8 = .ok (.getfield 16, 3) := by decide +kernel
theorem d_B_mostJoined_11 : decode b_B_mostJoined 11 = .ok (.if_icmp .ge 40, 3) := by decide +kernel
theorem d_B_mostJoined_14 : decode b_B_mostJoined 14 = .ok (.aload_n 0, 1) := by decide +kernel
theorem d_B_mostJoined_15 : decode b_B_mostJoined 15 = .ok (.getfield 29, 3) := by decide +kernel
theorem d_B_mostJoined_18 : decode b_B_mostJoined 18 = .ok (.iload_n 3, 1) := by decide +kernel
theorem d_B_mostJoined_19 : decode b_B_mostJoined 19 = .ok (.baload, 1) := by decide +kernel
theorem d_B_mostJoined_20 : decode b_B_mostJoined 20 = .ok (.ifCond .eq 7, 3) := by decide +kernel
theorem d_B_mostJoined_23 : decode b_B_mostJoined 23 = .ok (.iconst (-1), 1) := by decide +kernel
theorem d_B_mostJoined_24 : decode b_B_mostJoined 24 = .ok (.goto 8, 3) := by decide +kernel
theorem d_B_mostJoined_27 : decode b_B_mostJoined 27 = .ok (.aload_n 0, 1) := by decide +kernel
theorem d_B_mostJoined_28 : decode b_B_mostJoined 28 = .ok (.iload_n 3, 1) := by decide +kernel
theorem d_B_mostJoined_29 : decode b_B_mostJoined 29 = .ok (.invokevirtual 139, 3) := by decide +kernel
theorem d_B_mostJoined_32 : decode b_B_mostJoined 32 = .ok (.istore 4, 2) := by decide +kernel
theorem d_B_mostJoined_34 : decode b_B_mostJoined 34 = .ok (.iload 4, 2) := by decide +kernel
theorem d_B_mostJoined_36 : decode b_B_mostJoined 36 = .ok (.iload_n 2, 1) := by decide +kernel
theorem d_B_mostJoined_37 : decode b_B_mostJoined 37 = .ok (.if_icmp .le 8, 3) := by decide +kernel
theorem d_B_mostJoined_40 : decode b_B_mostJoined 40 = .ok (.iload_n 3, 1) := by decide +kernel
theorem d_B_mostJoined_41 : decode b_B_mostJoined 41 = .ok (.istore_n 1, 1) := by decide +kernel
theorem d_B_mostJoined_42 : decode b_B_mostJoined 42 = .ok (.iload 4, 2) := by decide +kernel
theorem d_B_mostJoined_44 : decode b_B_mostJoined 44 = .ok (.istore_n 2, 1) := by decide +kernel
theorem d_B_mostJoined_45 : decode b_B_mostJoined 45 = .ok (.iinc 3 1, 3) := by decide +kernel
theorem d_B_mostJoined_48 : decode b_B_mostJoined 48 = .ok (.goto (-42), 3) := by decide +kernel
theorem d_B_mostJoined_51 : decode b_B_mostJoined 51 = .ok (.iload_n 1, 1) := by decide +kernel
theorem d_B_mostJoined_52 : decode b_B_mostJoined 52 = .ok (.ireturn, 1) := by decide +kernel
theorem d_B_placesJoined_0 : decode b_B_placesJoined 0 = .ok (.iconst 0, 1) := by decide +kernel
theorem d_B_placesJoined_1 : decode b_B_placesJoined 1 = .ok (.istore_n 2, 1) := by decide +kernel
theorem d_B_placesJoined_2 : decode b_B_placesJoined 2 = .ok (.iconst 4, 1) := by decide +kernel
theorem d_B_placesJoined_3 : decode b_B_placesJoined 3 = .ok (.iload_n 1, 1) := by decide +kernel
theorem d_B_placesJoined_4 : decode b_B_placesJoined 4 = .ok (.imul, 1) := by decide +kernel
theorem d_B_placesJoined_5 : decode b_B_placesJoined 5 = .ok (.istore_n 3, 1) := by decide +kernel
theorem d_B_placesJoined_6 : decode b_B_placesJoined 6 = .ok (.iload_n 3, 1) := by decide +kernel
theorem d_B_placesJoined_7 : decode b_B_placesJoined 7 = .ok (.iconst 4, 1) := by decide +kernel
theorem d_B_placesJoined_8 : decode b_B_placesJoined 8 = .ok (.iload_n 1, 1) := by decide +kernel
theorem d_B_placesJoined_9 : decode b_B_placesJoined 9 = .ok (.iconst 1, 1) := by decide +kernel
theorem d_B_placesJoined_10 : decode b_B_placesJoined 10 = .ok (.iadd, 1) := by decide +kernel
theorem d_B_placesJoined_11 : decode b_B_placesJoined 11 = .ok (.imul, 1) := by decide +kernel
theorem d_B_placesJoined_12 : decode b_B_placesJoined 12 = .ok (.if_icmp .ge 26, 3) := by decide +kernel
theorem d_B_placesJoined_15 : decode b_B_placesJoined 15 = .ok (.aload_n 0, 1) := by decide +kernel
theorem d_B_placesJoined_16 : decode b_B_placesJoined 16 = .ok (.getfield 26, 3) := by decide +kernel
theorem d_B_placesJoined_19 : decode b_B_placesJoined 19 = .ok (.aload_n 0, 1) := by decide +kernel
theorem d_B_placesJoined_20 : decode b_B_placesJoined 20 = .ok (.getfield 9, 3) := by decide +kernel
theorem d_B_placesJoined_23 : decode b_B_placesJoined 23 = .ok (.iload_n 3, 1) := by decide +kernel
theorem d_B_placesJoined_24 : decode b_B_placesJoined 24 = .ok (.iaload, 1) := by decide +kernel
theorem d_B_placesJoined_25 : decode b_B_placesJoined 25 = .ok (.iaload, 1) := by decide +kernel
theorem d_B_placesJoined_26 : decode b_B_placesJoined 26 = .ok (.ifCond .le 6, 3) := by decide +kernel
theorem d_B_placesJoined_29 : decode b_B_placesJoined 29 = .ok (.iinc 2 1, 3) := by decide +kernel
theorem d_B_placesJoined_32 : decode b_B_placesJoined 32 = .ok (.iinc 3 1, 3) := by decide +kernel
theorem d_B_placesJoined_35 : decode b_B_placesJoined 35 = .ok (.goto (-29), 3) := by decide +kernel
theorem d_B_placesJoined_38 : decode b_B_placesJoined 38 = .ok (.iload_n 2, 1) := by decide +kernel
theorem d_B_placesJoined_39 : decode b_B_placesJoined 39 = .ok (.ireturn, 1) := by decide +kernel
theorem d_B_goOver_0 : decode b_B_goOver 0 = .ok (.iconst 0, 1) := by decide +kernel
theorem d_B_goOver_1 : decode b_B_goOver 1 = .ok (.istore_n 2, 1) := by decide +kernel
theorem d_B_goOver_2 : decode b_B_goOver 2 = .ok (.iconst 4, 1) := by decide +kernel
theorem d_B_goOver_3 : decode b_B_goOver 3 = .ok (.iload_n 1, 1) := by decide +kernel
theorem d_B_goOver_4 : decode b_B_goOver 4 = .ok (.imul, 1) := by decide +kernel
theorem d_B_goOver_5 : decode b_B_goOver 5 = .ok (.istore_n 3, 1) := by decide +kernel
theorem d_B_goOver_6 : decode b_B_goOver 6 = .ok (.iload_n 3, 1) := by decide +kernel
theorem d_B_goOver_7 : decode b_B_goOver 7 = .ok (.iconst 4, 1) := by decide +kernel
theorem d_B_goOver_8 : decode b_B_goOver 8 = .ok (.iload_n 1, 1) := by decide +kernel
theorem d_B_goOver_9 : decode b_B_goOver 9 = .ok (.iconst 1, 1) := by decide +kernel
theorem d_B_goOver_10 : decode b_B_goOver 10 = .ok (.iadd, 1) := by decide +kernel
theorem d_B_goOver_11 : decode b_B_goOver 11 = .ok (.imul, 1) := by decide +kernel
theorem d_B_goOver_12 : decode b_B_goOver 12 = .ok (.if_icmp .ge 47, 3) := by decide +kernel
theorem d_B_goOver_15 : decode b_B_goOver 15 = .ok (.aload_n 0, 1) := by decide +kernel
theorem d_B_goOver_16 : decode b_B_goOver 16 = .ok (.getfield 26, 3) := by decide +kernel
theorem d_B_goOver_19 : decode b_B_goOver 19 = .ok (.aload_n 0, 1) := by decide +kernel
theorem d_B_goOver_20 : decode b_B_goOver 20 = .ok (.getfield 9, 3) := by decide +kernel
theorem d_B_goOver_23 : decode b_B_goOver 23 = .ok (.iload_n 3, 1) := by decide +kernel
theorem d_B_goOver_24 : decode b_B_goOver 24 = .ok (.iaload, 1) := by decide +kernel
theorem d_B_goOver_25 : decode b_B_goOver 25 = .ok (.dup2, 1) := by decide +kernel
theorem d_B_goOver_26 : decode b_B_goOver 26 = .ok (.iaload, 1) := by decide +kernel
theorem d_B_goOver_27 : decode b_B_goOver 27 = .ok (.iconst 1, 1) := by decide +kernel
theorem d_B_goOver_28 : decode b_B_goOver 28 = .ok (.iadd, 1) := by decide +kernel
theorem d_B_goOver_29 : decode b_B_goOver 29 = .ok (.iastore, 1) := by decide +kernel
theorem d_B_goOver_30 : decode b_B_goOver 30 = .ok (.iload_n 2, 1) := by decide +kernel
theorem d_B_goOver_31 : decode b_B_goOver 31 = .ok (.aload_n 0, 1) := by decide +kernel
theorem d_B_goOver_32 : decode b_B_goOver 32 = .ok (.getfield 26, 3) := by decide +kernel
theorem d_B_goOver_35 : decode b_B_goOver 35 = .ok (.aload_n 0, 1) := by decide +kernel
theorem d_B_goOver_36 : decode b_B_goOver 36 = .ok (.getfield 9, 3) := by decide +kernel
theorem d_B_goOver_39 : decode b_B_goOver 39 = .ok (.iload_n 3, 1) := by decide +kernel
theorem d_B_goOver_40 : decode b_B_goOver 40 = .ok (.iaload, 1) := by decide +kernel
theorem d_B_goOver_41 : decode b_B_goOver 41 = .ok (.iaload, 1) := by decide +kernel
theorem d_B_goOver_42 : decode b_B_goOver 42 = .ok (.iconst 1, 1) := by decide +kernel
theorem d_B_goOver_43 : decode b_B_goOver 43 = .ok (.if_icmp .ne 7, 3) := by decide +kernel
theorem d_B_goOver_46 : decode b_B_goOver 46 = .ok (.iconst 1, 1) := by decide +kernel
theorem d_B_goOver_47 : decode b_B_goOver 47 = .ok (.goto 4, 3) := by decide +kernel
theorem d_B_goOver_50 : decode b_B_goOver 50 = .ok (.iconst (-1), 1) := by decide +kernel
theorem d_B_goOver_51 : decode b_B_goOver 51 = .ok (.iadd, 1) := by decide +kernel
theorem d_B_goOver_52 : decode b_B_goOver 52 = .ok (.istore_n 2, 1) := by decide +kernel
theorem d_B_goOver_53 : decode b_B_goOver 53 = .ok (.iinc 3 1, 3) := by decide +kernel
theorem d_B_goOver_56 : decode b_B_goOver 56 = .ok (.goto (-50), 3) := by decide +kernel
theorem d_B_goOver_59 : decode b_B_goOver 59 = .ok (.aload_n 0, 1) := by decide +kernel
