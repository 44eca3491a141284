theorem ix_0 : Cond.methodLink R_B 82 Lib.Math.max.name ∈ lw_g := lg_in (List.mem_of_getElem? (i := 168) (by decide +kernel)) rfl
theorem ix_1 : Cond.static Lib.Math.max.name ∈ lw_g := lg_in (List.mem_of_getElem? (i := 169) (by decide +kernel)) rfl
theorem ix_2 : Cond.initialized "java/lang/Math" ∈ lw_g := lg_in (List.mem_of_getElem? (i := 37) (by decide +kernel)) rfl
theorem ix_3 : Cond.code Lib.Math.max.name Lib.Math.max.code 2 (some .int) ∈ lw_g := lg_in (List.mem_of_getElem? (i := 170) (by decide +kernel)) rfl
theorem ix_4 : Cond.methodLink R_B 142 Lib.Math.min.name ∈ lw_g := lg_in (List.mem_of_getElem? (i := 278) (by decide +kernel)) rfl
theorem ix_5 : Cond.static Lib.Math.min.name ∈ lw_g := lg_in (List.mem_of_getElem? (i := 279) (by decide +kernel)) rfl
theorem ix_6 : Cond.code Lib.Math.min.name Lib.Math.min.code 2 (some .int) ∈ lw_g := lg_in (List.mem_of_getElem? (i := 280) (by decide +kernel)) rfl
theorem ix_7 : Cond.fieldLink R_W 9 "BracketSweep$Ways" "otherEnd" "[I" ∈ lw_g := lg_in (List.mem_of_getElem? (i := 52) (by decide +kernel)) rfl
theorem ix_8 : Cond.methodLink R_W 24 y_W_join ∈ lw_g := lg_in (List.mem_of_getElem? (i := 202) (by decide +kernel)) rfl
theorem ix_9 : Cond.code y_W_join b_W_join 5 (some .int) ∈ lw_g := lg_in (List.mem_of_getElem? (i := 205) (by decide +kernel)) rfl
theorem ix_10 : Cond.initialized R_W ∈ lw_g := lg_in (List.mem_of_getElem? (i := 33) (by decide +kernel)) rfl
theorem ix_11 : Cond.instanceMethod y_W_join ∈ lw_g := lg_in (List.mem_of_getElem? (i := 204) (by decide +kernel)) rfl
theorem ix_12 : Cond.selects R_W y_W_join y_W_join ∈ lw_g := lg_in (List.mem_of_getElem? (i := 10) (by decide +kernel)) rfl
theorem ix_13 : Cond.methodLink R_W 28 y_W_part ∈ lw_g := lg_in (List.mem_of_getElem? (i := 210) (by decide +kernel)) rfl
theorem ix_14 : Cond.code y_W_part b_W_part 3 none ∈ lw_g := lg_in (List.mem_of_getElem? (i := 213) (by decide +kernel)) rfl
theorem ix_15 : Cond.instanceMethod y_W_part ∈ lw_g := lg_in (List.mem_of_getElem? (i := 212) (by decide +kernel)) rfl
theorem ix_16 : Cond.selects R_W y_W_part y_W_part ∈ lw_g := lg_in (List.mem_of_getElem? (i := 11) (by decide +kernel)) rfl
theorem ix_17 : Cond.fieldLink R_W 15 "BracketSweep$Ways" "firstPlace" "[I" ∈ lw_g := lg_in (List.mem_of_getElem? (i := 53) (by decide +kernel)) rfl
theorem ix_18 : Cond.methodLink R_W 18 y_fillI ∈ lw_g := lg_in (List.mem_of_getElem? (i := 194) (by decide +kernel)) rfl
theorem ix_19 : Cond.code y_fillI b_fillI 4 none ∈ lw_g := lg_in (List.mem_of_getElem? (i := 138) (by decide +kernel)) rfl
theorem ix_20 : Cond.initialized "java/util/Arrays" ∈ lw_g := lg_in (List.mem_of_getElem? (i := 36) (by decide +kernel)) rfl
theorem ix_21 : Cond.static y_fillI ∈ lw_g := lg_in (List.mem_of_getElem? (i := 137) (by decide +kernel)) rfl
theorem ix_22 : Cond.fieldLink R_P 9 "BracketSweep$Polynomial" "row" "[J" ∈ lw_g := lg_in (List.mem_of_getElem? (i := 67) (by decide +kernel)) rfl
theorem ix_23 : Cond.methodLink R_P 18 y_fillJ ∈ lw_g := lg_in (List.mem_of_getElem? (i := 183) (by decide +kernel)) rfl
theorem ix_24 : Cond.code y_fillJ b_fillJ 5 none ∈ lw_g := lg_in (List.mem_of_getElem? (i := 185) (by decide +kernel)) rfl
theorem ix_25 : Cond.static y_fillJ ∈ lw_g := lg_in (List.mem_of_getElem? (i := 184) (by decide +kernel)) rfl
theorem ix_26 : Cond.constantLong R_P 24 (-66) ∈ lw_g := lg_in (List.mem_of_getElem? (i := 234) (by decide +kernel)) rfl
theorem ix_27 : Cond.constantLong R_P 26 (66) ∈ lw_g := lg_in (List.mem_of_getElem? (i := 235) (by decide +kernel)) rfl
theorem ix_28 : Cond.fieldLink R_P 15 "BracketSweep$Polynomial" "spare" "[J" ∈ lw_g := lg_in (List.mem_of_getElem? (i := 68) (by decide +kernel)) rfl
theorem ix_29 : Cond.methodLink R_P 28 y_P_at ∈ lw_g := lg_in (List.mem_of_getElem? (i := 230) (by decide +kernel)) rfl
theorem ix_30 : Cond.code y_P_at b_P_at 3 (some .long) ∈ lw_g := lg_in (List.mem_of_getElem? (i := 233) (by decide +kernel)) rfl
theorem ix_31 : Cond.initialized R_P ∈ lw_g := lg_in (List.mem_of_getElem? (i := 34) (by decide +kernel)) rfl
theorem ix_32 : Cond.instanceMethod y_P_at ∈ lw_g := lg_in (List.mem_of_getElem? (i := 231) (by decide +kernel)) rfl
theorem ix_33 : Cond.selects R_P y_P_at y_P_at ∈ lw_g := lg_in (List.mem_of_getElem? (i := 232) (by decide +kernel)) rfl
theorem ix_34 : Cond.methodLink R_P 32 y_P_least ∈ lw_g := lg_in (List.mem_of_getElem? (i := 222) (by decide +kernel)) rfl
theorem ix_35 : Cond.code y_P_least b_P_least 2 (some .int) ∈ lw_g := lg_in (List.mem_of_getElem? (i := 225) (by decide +kernel)) rfl
theorem ix_36 : Cond.instanceMethod y_P_least ∈ lw_g := lg_in (List.mem_of_getElem? (i := 223) (by decide +kernel)) rfl
theorem ix_37 : Cond.selects R_P y_P_least y_P_least ∈ lw_g := lg_in (List.mem_of_getElem? (i := 224) (by decide +kernel)) rfl
theorem ix_38 : Cond.fieldLink R_B 16 "BracketSweep" "crossingCount" "I" ∈ lw_g := lg_in (List.mem_of_getElem? (i := 81) (by decide +kernel)) rfl
theorem ix_39 : Cond.fieldLink R_B 50 "BracketSweep" "workedOut" "Z" ∈ lw_g := lg_in (List.mem_of_getElem? (i := 89) (by decide +kernel)) rfl
theorem ix_40 : Cond.fieldLink R_B 23 "BracketSweep" "order" "[I" ∈ lw_g := lg_in (List.mem_of_getElem? (i := 83) (by decide +kernel)) rfl
theorem ix_41 : Cond.fieldLink R_B 26 "BracketSweep" "standing" "[I" ∈ lw_g := lg_in (List.mem_of_getElem? (i := 84) (by decide +kernel)) rfl
theorem ix_42 : Cond.methodLink R_B 134 y_fillI ∈ lw_g := lg_in (List.mem_of_getElem? (i := 136) (by decide +kernel)) rfl
theorem ix_43 : Cond.fieldLink R_B 9 "BracketSweep" "labels" "[I" ∈ lw_g := lg_in (List.mem_of_getElem? (i := 79) (by decide +kernel)) rfl
theorem ix_44 : Cond.methodLink R_B 61 y_B_countStanding ∈ lw_g := lg_in (List.mem_of_getElem? (i := 132) (by decide +kernel)) rfl
theorem ix_45 : Cond.code y_B_countStanding b_B_countStanding 2 none ∈ lw_g := lg_in (List.mem_of_getElem? (i := 135) (by decide +kernel)) rfl
theorem ix_46 : Cond.initialized R_B ∈ lw_g := lg_in (List.mem_of_getElem? (i := 32) (by decide +kernel)) rfl
theorem ix_47 : Cond.instanceMethod y_B_countStanding ∈ lw_g := lg_in (List.mem_of_getElem? (i := 134) (by decide +kernel)) rfl
theorem ix_48 : Cond.selects R_B y_B_countStanding y_B_countStanding ∈ lw_g := lg_in (List.mem_of_getElem? (i := 1) (by decide +kernel)) rfl
theorem ix_49 : Cond.methodLink R_B 131 y_B_fault ∈ lw_g := lg_in (List.mem_of_getElem? (i := 151) (by decide +kernel)) rfl
theorem ix_50 : Cond.code y_B_fault b_B_fault 2 (some .int) ∈ lw_g := lg_in (List.mem_of_getElem? (i := 131) (by decide +kernel)) rfl
theorem ix_51 : Cond.instanceMethod y_B_fault ∈ lw_g := lg_in (List.mem_of_getElem? (i := 129) (by decide +kernel)) rfl
theorem ix_52 : Cond.selects R_B y_B_fault y_B_fault ∈ lw_g := lg_in (List.mem_of_getElem? (i := 130) (by decide +kernel)) rfl
theorem ix_53 : Cond.fieldLink R_B 13 "BracketSweep" "signs" "[I" ∈ lw_g := lg_in (List.mem_of_getElem? (i := 80) (by decide +kernel)) rfl
theorem ix_54 : Cond.fieldLink R_B 20 "BracketSweep" "circleCount" "I" ∈ lw_g := lg_in (List.mem_of_getElem? (i := 82) (by decide +kernel)) rfl
theorem ix_55 : Cond.methodLink R_B 95 y_B_sumOfSigns ∈ lw_g := lg_in (List.mem_of_getElem? (i := 245) (by decide +kernel)) rfl
theorem ix_56 : Cond.code y_B_sumOfSigns b_B_sumOfSigns 3 (some .int) ∈ lw_g := lg_in (List.mem_of_getElem? (i := 248) (by decide +kernel)) rfl
theorem ix_57 : Cond.instanceMethod y_B_sumOfSigns ∈ lw_g := lg_in (List.mem_of_getElem? (i := 247) (by decide +kernel)) rfl
theorem ix_58 : Cond.selects R_B y_B_sumOfSigns y_B_sumOfSigns ∈ lw_g := lg_in (List.mem_of_getElem? (i := 13) (by decide +kernel)) rfl
theorem ix_59 : Cond.fieldLink R_B 29 "BracketSweep" "goneOver" "[Z" ∈ lw_g := lg_in (List.mem_of_getElem? (i := 85) (by decide +kernel)) rfl
theorem ix_60 : Cond.methodLink R_B 139 y_B_placesJoined ∈ lw_g := lg_in (List.mem_of_getElem? (i := 160) (by decide +kernel)) rfl
theorem ix_61 : Cond.code y_B_placesJoined b_B_placesJoined 4 (some .int) ∈ lw_g := lg_in (List.mem_of_getElem? (i := 163) (by decide +kernel)) rfl
theorem ix_62 : Cond.instanceMethod y_B_placesJoined ∈ lw_g := lg_in (List.mem_of_getElem? (i := 162) (by decide +kernel)) rfl
theorem ix_63 : Cond.selects R_B y_B_placesJoined y_B_placesJoined ∈ lw_g := lg_in (List.mem_of_getElem? (i := 6) (by decide +kernel)) rfl
theorem ix_64 : Cond.methodLink R_B 120 y_B_renamed ∈ lw_g := lg_in (List.mem_of_getElem? (i := 275) (by decide +kernel)) rfl
theorem ix_65 : Cond.code y_B_renamed b_B_renamed 3 (some .int) ∈ lw_g := lg_in (List.mem_of_getElem? (i := 277) (by decide +kernel)) rfl
theorem ix_66 : Cond.static y_B_renamed ∈ lw_g := lg_in (List.mem_of_getElem? (i := 276) (by decide +kernel)) rfl
theorem ix_67 : Cond.methodLink R_B 145 y_B_swapWithNext ∈ lw_g := lg_in (List.mem_of_getElem? (i := 289) (by decide +kernel)) rfl
theorem ix_68 : Cond.code y_B_swapWithNext b_B_swapWithNext 5 none ∈ lw_g := lg_in (List.mem_of_getElem? (i := 292) (by decide +kernel)) rfl
theorem ix_69 : Cond.instanceMethod y_B_swapWithNext ∈ lw_g := lg_in (List.mem_of_getElem? (i := 291) (by decide +kernel)) rfl
theorem ix_70 : Cond.selects R_B y_B_swapWithNext y_B_swapWithNext ∈ lw_g := lg_in (List.mem_of_getElem? (i := 17) (by decide +kernel)) rfl
theorem ix_71 : Cond.fieldLink R_B 39 "BracketSweep" "ways" "LBracketSweep$Ways;" ∈ lw_g := lg_in (List.mem_of_getElem? (i := 87) (by decide +kernel)) rfl
theorem ix_72 : Cond.methodLink R_B 113 y_W_smooth ∈ lw_g := lg_in (List.mem_of_getElem? (i := 198) (by decide +kernel)) rfl
theorem ix_73 : Cond.code y_W_smooth b_W_smooth 4 (some .int) ∈ lw_g := lg_in (List.mem_of_getElem? (i := 201) (by decide +kernel)) rfl
theorem ix_74 : Cond.instanceMethod y_W_smooth ∈ lw_g := lg_in (List.mem_of_getElem? (i := 199) (by decide +kernel)) rfl
theorem ix_75 : Cond.selects R_W y_W_smooth y_W_smooth ∈ lw_g := lg_in (List.mem_of_getElem? (i := 200) (by decide +kernel)) rfl
theorem ix_76 : Cond.methodLink R_B 158 y_B_tallyFrom ∈ lw_g := lg_in (List.mem_of_getElem? (i := 195) (by decide +kernel)) rfl
theorem ix_77 : Cond.code y_B_tallyFrom b_B_tallyFrom 7 none ∈ lw_g := lg_in (List.mem_of_getElem? (i := 197) (by decide +kernel)) rfl
theorem ix_78 : Cond.static y_B_tallyFrom ∈ lw_g := lg_in (List.mem_of_getElem? (i := 196) (by decide +kernel)) rfl
theorem ix_79 : Cond.methodLink R_B 162 y_W_undo ∈ lw_g := lg_in (List.mem_of_getElem? (i := 206) (by decide +kernel)) rfl
theorem ix_80 : Cond.code y_W_undo b_W_undo 4 none ∈ lw_g := lg_in (List.mem_of_getElem? (i := 209) (by decide +kernel)) rfl
theorem ix_81 : Cond.instanceMethod y_W_undo ∈ lw_g := lg_in (List.mem_of_getElem? (i := 207) (by decide +kernel)) rfl
theorem ix_82 : Cond.selects R_W y_W_undo y_W_undo ∈ lw_g := lg_in (List.mem_of_getElem? (i := 208) (by decide +kernel)) rfl
theorem ix_83 : Cond.fieldLink R_B 33 "BracketSweep" "tally" "[I" ∈ lw_g := lg_in (List.mem_of_getElem? (i := 86) (by decide +kernel)) rfl
theorem ix_84 : Cond.methodLink R_B 109 y_W_followLabels ∈ lw_g := lg_in (List.mem_of_getElem? (i := 190) (by decide +kernel)) rfl
theorem ix_85 : Cond.code y_W_followLabels b_W_followLabels 5 none ∈ lw_g := lg_in (List.mem_of_getElem? (i := 193) (by decide +kernel)) rfl
theorem ix_86 : Cond.instanceMethod y_W_followLabels ∈ lw_g := lg_in (List.mem_of_getElem? (i := 191) (by decide +kernel)) rfl
theorem ix_87 : Cond.selects R_W y_W_followLabels y_W_followLabels ∈ lw_g := lg_in (List.mem_of_getElem? (i := 192) (by decide +kernel)) rfl
theorem ix_88 : Cond.fieldLink R_B 46 "BracketSweep" "sum" "LBracketSweep$Polynomial;" ∈ lw_g := lg_in (List.mem_of_getElem? (i := 88) (by decide +kernel)) rfl
theorem ix_89 : Cond.methodLink R_B 100 y_P_isZero ∈ lw_g := lg_in (List.mem_of_getElem? (i := 218) (by decide +kernel)) rfl
theorem ix_90 : Cond.code y_P_isZero b_P_isZero 1 (some .boolean) ∈ lw_g := lg_in (List.mem_of_getElem? (i := 221) (by decide +kernel)) rfl
theorem ix_91 : Cond.instanceMethod y_P_isZero ∈ lw_g := lg_in (List.mem_of_getElem? (i := 219) (by decide +kernel)) rfl
theorem ix_92 : Cond.selects R_P y_P_isZero y_P_isZero ∈ lw_g := lg_in (List.mem_of_getElem? (i := 220) (by decide +kernel)) rfl
theorem ix_93 : Cond.methodLink R_B 166 y_P_timesD ∈ lw_g := lg_in (List.mem_of_getElem? (i := 226) (by decide +kernel)) rfl
theorem ix_94 : Cond.code y_P_timesD b_P_timesD 2 none ∈ lw_g := lg_in (List.mem_of_getElem? (i := 229) (by decide +kernel)) rfl
theorem ix_95 : Cond.instanceMethod y_P_timesD ∈ lw_g := lg_in (List.mem_of_getElem? (i := 227) (by decide +kernel)) rfl
theorem ix_96 : Cond.selects R_P y_P_timesD y_P_timesD ∈ lw_g := lg_in (List.mem_of_getElem? (i := 228) (by decide +kernel)) rfl
theorem ix_97 : Cond.methodLink R_B 169 y_P_add ∈ lw_g := lg_in (List.mem_of_getElem? (i := 236) (by decide +kernel)) rfl
theorem ix_98 : Cond.code y_P_add b_P_add 4 none ∈ lw_g := lg_in (List.mem_of_getElem? (i := 239) (by decide +kernel)) rfl
theorem ix_99 : Cond.instanceMethod y_P_add ∈ lw_g := lg_in (List.mem_of_getElem? (i := 237) (by decide +kernel)) rfl
theorem ix_100 : Cond.selects R_P y_P_add y_P_add ∈ lw_g := lg_in (List.mem_of_getElem? (i := 238) (by decide +kernel)) rfl
theorem ix_101 : Cond.methodLink R_B 149 y_P_setZero ∈ lw_g := lg_in (List.mem_of_getElem? (i := 179) (by decide +kernel)) rfl
theorem ix_102 : Cond.code y_P_setZero b_P_setZero 1 none ∈ lw_g := lg_in (List.mem_of_getElem? (i := 182) (by decide +kernel)) rfl
theorem ix_103 : Cond.instanceMethod y_P_setZero ∈ lw_g := lg_in (List.mem_of_getElem? (i := 180) (by decide +kernel)) rfl
theorem ix_104 : Cond.selects R_P y_P_setZero y_P_setZero ∈ lw_g := lg_in (List.mem_of_getElem? (i := 181) (by decide +kernel)) rfl
theorem ix_105 : Cond.methodLink R_B 67 y_B_isCode ∈ lw_g := lg_in (List.mem_of_getElem? (i := 147) (by decide +kernel)) rfl
theorem ix_106 : Cond.code y_B_isCode b_B_isCode 1 (some .boolean) ∈ lw_g := lg_in (List.mem_of_getElem? (i := 150) (by decide +kernel)) rfl
theorem ix_107 : Cond.instanceMethod y_B_isCode ∈ lw_g := lg_in (List.mem_of_getElem? (i := 149) (by decide +kernel)) rfl
theorem ix_108 : Cond.selects R_B y_B_isCode y_B_isCode ∈ lw_g := lg_in (List.mem_of_getElem? (i := 3) (by decide +kernel)) rfl
theorem ix_109 : Cond.methodLink R_B 152 y_B_tallyStates ∈ lw_g := lg_in (List.mem_of_getElem? (i := 186) (by decide +kernel)) rfl
theorem ix_110 : Cond.code y_B_tallyStates b_B_tallyStates 2 none ∈ lw_g := lg_in (List.mem_of_getElem? (i := 189) (by decide +kernel)) rfl
theorem ix_111 : Cond.instanceMethod y_B_tallyStates ∈ lw_g := lg_in (List.mem_of_getElem? (i := 188) (by decide +kernel)) rfl
theorem ix_112 : Cond.selects R_B y_B_tallyStates y_B_tallyStates ∈ lw_g := lg_in (List.mem_of_getElem? (i := 9) (by decide +kernel)) rfl
theorem ix_113 : Cond.methodLink R_B 155 y_B_sumTally ∈ lw_g := lg_in (List.mem_of_getElem? (i := 214) (by decide +kernel)) rfl
theorem ix_114 : Cond.code y_B_sumTally b_B_sumTally 3 none ∈ lw_g := lg_in (List.mem_of_getElem? (i := 217) (by decide +kernel)) rfl
theorem ix_115 : Cond.instanceMethod y_B_sumTally ∈ lw_g := lg_in (List.mem_of_getElem? (i := 216) (by decide +kernel)) rfl
theorem ix_116 : Cond.selects R_B y_B_sumTally y_B_sumTally ∈ lw_g := lg_in (List.mem_of_getElem? (i := 12) (by decide +kernel)) rfl
theorem ix_117 : Cond.methodLink R_B 57 y_B_isLabel ∈ lw_g := lg_in (List.mem_of_getElem? (i := 117) (by decide +kernel)) rfl
theorem ix_118 : Cond.code y_B_isLabel b_B_isLabel 1 (some .boolean) ∈ lw_g := lg_in (List.mem_of_getElem? (i := 119) (by decide +kernel)) rfl
theorem ix_119 : Cond.static y_B_isLabel ∈ lw_g := lg_in (List.mem_of_getElem? (i := 118) (by decide +kernel)) rfl
theorem ix_120 : Cond.methodLink R_B 54 y_B_orderAsGiven ∈ lw_g := lg_in (List.mem_of_getElem? (i := 75) (by decide +kernel)) rfl
theorem ix_121 : Cond.code y_B_orderAsGiven b_B_orderAsGiven 2 none ∈ lw_g := lg_in (List.mem_of_getElem? (i := 78) (by decide +kernel)) rfl
theorem ix_122 : Cond.instanceMethod y_B_orderAsGiven ∈ lw_g := lg_in (List.mem_of_getElem? (i := 77) (by decide +kernel)) rfl
theorem ix_123 : Cond.selects R_B y_B_orderAsGiven y_B_orderAsGiven ∈ lw_g := lg_in (List.mem_of_getElem? (i := 0) (by decide +kernel)) rfl
theorem ix_124 : Cond.methodLink R_B 64 y_B_isCrossing ∈ lw_g := lg_in (List.mem_of_getElem? (i := 143) (by decide +kernel)) rfl
theorem ix_125 : Cond.code y_B_isCrossing b_B_isCrossing 2 (some .boolean) ∈ lw_g := lg_in (List.mem_of_getElem? (i := 146) (by decide +kernel)) rfl
theorem ix_126 : Cond.instanceMethod y_B_isCrossing ∈ lw_g := lg_in (List.mem_of_getElem? (i := 145) (by decide +kernel)) rfl
theorem ix_127 : Cond.selects R_B y_B_isCrossing y_B_isCrossing ∈ lw_g := lg_in (List.mem_of_getElem? (i := 2) (by decide +kernel)) rfl
theorem ix_128 : Cond.methodLink R_B 71 y_B_goOverNone ∈ lw_g := lg_in (List.mem_of_getElem? (i := 152) (by decide +kernel)) rfl
theorem ix_129 : Cond.code y_B_goOverNone b_B_goOverNone 2 none ∈ lw_g := lg_in (List.mem_of_getElem? (i := 155) (by decide +kernel)) rfl
theorem ix_130 : Cond.instanceMethod y_B_goOverNone ∈ lw_g := lg_in (List.mem_of_getElem? (i := 154) (by decide +kernel)) rfl
theorem ix_131 : Cond.selects R_B y_B_goOverNone y_B_goOverNone ∈ lw_g := lg_in (List.mem_of_getElem? (i := 4) (by decide +kernel)) rfl
theorem ix_132 : Cond.methodLink R_B 74 y_B_mostJoined ∈ lw_g := lg_in (List.mem_of_getElem? (i := 156) (by decide +kernel)) rfl
theorem ix_133 : Cond.code y_B_mostJoined b_B_mostJoined 5 (some .int) ∈ lw_g := lg_in (List.mem_of_getElem? (i := 159) (by decide +kernel)) rfl
theorem ix_134 : Cond.instanceMethod y_B_mostJoined ∈ lw_g := lg_in (List.mem_of_getElem? (i := 158) (by decide +kernel)) rfl
theorem ix_135 : Cond.selects R_B y_B_mostJoined y_B_mostJoined ∈ lw_g := lg_in (List.mem_of_getElem? (i := 5) (by decide +kernel)) rfl
theorem ix_136 : Cond.methodLink R_B 78 y_B_goOver ∈ lw_g := lg_in (List.mem_of_getElem? (i := 164) (by decide +kernel)) rfl
theorem ix_137 : Cond.code y_B_goOver b_B_goOver 4 (some .int) ∈ lw_g := lg_in (List.mem_of_getElem? (i := 167) (by decide +kernel)) rfl
theorem ix_138 : Cond.instanceMethod y_B_goOver ∈ lw_g := lg_in (List.mem_of_getElem? (i := 166) (by decide +kernel)) rfl
theorem ix_139 : Cond.selects R_B y_B_goOver y_B_goOver ∈ lw_g := lg_in (List.mem_of_getElem? (i := 7) (by decide +kernel)) rfl
theorem ix_140 : Cond.methodLink R_B 88 y_B_workOut ∈ lw_g := lg_in (List.mem_of_getElem? (i := 175) (by decide +kernel)) rfl
theorem ix_141 : Cond.code y_B_workOut b_B_workOut 1 none ∈ lw_g := lg_in (List.mem_of_getElem? (i := 178) (by decide +kernel)) rfl
theorem ix_142 : Cond.instanceMethod y_B_workOut ∈ lw_g := lg_in (List.mem_of_getElem? (i := 177) (by decide +kernel)) rfl
theorem ix_143 : Cond.selects R_B y_B_workOut y_B_workOut ∈ lw_g := lg_in (List.mem_of_getElem? (i := 8) (by decide +kernel)) rfl
theorem ix_144 : Cond.methodLink R_B 91 y_P_at ∈ lw_g := lg_in (List.mem_of_getElem? (i := 240) (by decide +kernel)) rfl
theorem ix_145 : Cond.constantLong R_B 98 (3) ∈ lw_g := lg_in (List.mem_of_getElem? (i := 249) (by decide +kernel)) rfl
theorem ix_146 : Cond.methodLink R_B 106 y_P_least ∈ lw_g := lg_in (List.mem_of_getElem? (i := 258) (by decide +kernel)) rfl
theorem ix_147 : Cond.methodLink R_B 103 y_P_greatest ∈ lw_g := lg_in (List.mem_of_getElem? (i := 254) (by decide +kernel)) rfl
theorem ix_148 : Cond.code y_P_greatest b_P_greatest 2 (some .int) ∈ lw_g := lg_in (List.mem_of_getElem? (i := 257) (by decide +kernel)) rfl
theorem ix_149 : Cond.instanceMethod y_P_greatest ∈ lw_g := lg_in (List.mem_of_getElem? (i := 255) (by decide +kernel)) rfl
theorem ix_150 : Cond.selects R_P y_P_greatest y_P_greatest ∈ lw_g := lg_in (List.mem_of_getElem? (i := 256) (by decide +kernel)) rfl
theorem ix_151 : Cond.methodLink R_B 117 y_B_lookAtAll ∈ lw_g := lg_in (List.mem_of_getElem? (i := 267) (by decide +kernel)) rfl
theorem ix_152 : Cond.code y_B_lookAtAll b_B_lookAtAll 2 (some .int) ∈ lw_g := lg_in (List.mem_of_getElem? (i := 270) (by decide +kernel)) rfl
theorem ix_153 : Cond.instanceMethod y_B_lookAtAll ∈ lw_g := lg_in (List.mem_of_getElem? (i := 269) (by decide +kernel)) rfl
theorem ix_154 : Cond.selects R_B y_B_lookAtAll y_B_lookAtAll ∈ lw_g := lg_in (List.mem_of_getElem? (i := 14) (by decide +kernel)) rfl
theorem ix_155 : Cond.methodLink R_B 124 y_B_unite ∈ lw_g := lg_in (List.mem_of_getElem? (i := 281) (by decide +kernel)) rfl
theorem ix_156 : Cond.code y_B_unite b_B_unite 4 none ∈ lw_g := lg_in (List.mem_of_getElem? (i := 284) (by decide +kernel)) rfl
theorem ix_157 : Cond.instanceMethod y_B_unite ∈ lw_g := lg_in (List.mem_of_getElem? (i := 283) (by decide +kernel)) rfl
theorem ix_158 : Cond.selects R_B y_B_unite y_B_unite ∈ lw_g := lg_in (List.mem_of_getElem? (i := 15) (by decide +kernel)) rfl
theorem ix_159 : Cond.methodLink R_B 128 y_B_carry ∈ lw_g := lg_in (List.mem_of_getElem? (i := 285) (by decide +kernel)) rfl
theorem ix_160 : Cond.code y_B_carry b_B_carry 4 none ∈ lw_g := lg_in (List.mem_of_getElem? (i := 288) (by decide +kernel)) rfl
theorem ix_161 : Cond.instanceMethod y_B_carry ∈ lw_g := lg_in (List.mem_of_getElem? (i := 287) (by decide +kernel)) rfl
theorem ix_162 : Cond.selects R_B y_B_carry y_B_carry ∈ lw_g := lg_in (List.mem_of_getElem? (i := 16) (by decide +kernel)) rfl
theorem ix_163 : Cond.fieldLink R_M 43 "BracketSweepModel" "n" "I" ∈ lw_g := lg_in (List.mem_of_getElem? (i := 307) (by decide +kernel)) rfl
theorem ix_164 : Cond.fieldLink R_M 13 "BracketSweepModel" "label" "[I" ∈ lw_g := lg_in (List.mem_of_getElem? (i := 310) (by decide +kernel)) rfl
theorem ix_165 : Cond.methodLink R_M 53 y_M_standing ∈ lw_g := lg_in (List.mem_of_getElem? (i := 362) (by decide +kernel)) rfl
theorem ix_166 : Cond.code y_M_standing b_M_standing 4 (some .int) ∈ lw_g := lg_in (List.mem_of_getElem? (i := 365) (by decide +kernel)) rfl
theorem ix_167 : Cond.initialized R_M ∈ lw_g := lg_in (List.mem_of_getElem? (i := 35) (by decide +kernel)) rfl
theorem ix_168 : Cond.instanceMethod y_M_standing ∈ lw_g := lg_in (List.mem_of_getElem? (i := 364) (by decide +kernel)) rfl
theorem ix_169 : Cond.selects R_M y_M_standing y_M_standing ∈ lw_g := lg_in (List.mem_of_getElem? (i := 18) (by decide +kernel)) rfl
theorem ix_170 : Cond.fieldLink R_M 16 "BracketSweepModel" "mate" "[I" ∈ lw_g := lg_in (List.mem_of_getElem? (i := 311) (by decide +kernel)) rfl
theorem ix_171 : Cond.fieldLink R_M 50 "BracketSweepModel" "circles" "I" ∈ lw_g := lg_in (List.mem_of_getElem? (i := 308) (by decide +kernel)) rfl
theorem ix_172 : Cond.fieldLink R_M 19 "BracketSweepModel" "met" "[Z" ∈ lw_g := lg_in (List.mem_of_getElem? (i := 312) (by decide +kernel)) rfl
theorem ix_173 : Cond.methodLink R_M 57 y_M_joined ∈ lw_g := lg_in (List.mem_of_getElem? (i := 379) (by decide +kernel)) rfl
theorem ix_174 : Cond.code y_M_joined b_M_joined 3 (some .int) ∈ lw_g := lg_in (List.mem_of_getElem? (i := 381) (by decide +kernel)) rfl
theorem ix_175 : Cond.static y_M_joined ∈ lw_g := lg_in (List.mem_of_getElem? (i := 380) (by decide +kernel)) rfl
theorem ix_176 : Cond.methodLink R_M 61 y_M_fault ∈ lw_g := lg_in (List.mem_of_getElem? (i := 370) (by decide +kernel)) rfl
theorem ix_177 : Cond.code y_M_fault b_M_fault 3 (some .int) ∈ lw_g := lg_in (List.mem_of_getElem? (i := 361) (by decide +kernel)) rfl
theorem ix_178 : Cond.instanceMethod y_M_fault ∈ lw_g := lg_in (List.mem_of_getElem? (i := 359) (by decide +kernel)) rfl
theorem ix_179 : Cond.selects R_M y_M_fault y_M_fault ∈ lw_g := lg_in (List.mem_of_getElem? (i := 360) (by decide +kernel)) rfl
theorem ix_180 : Cond.methodLink R_M 65 y_M_findMates ∈ lw_g := lg_in (List.mem_of_getElem? (i := 371) (by decide +kernel)) rfl
theorem ix_181 : Cond.code y_M_findMates b_M_findMates 3 none ∈ lw_g := lg_in (List.mem_of_getElem? (i := 374) (by decide +kernel)) rfl
theorem ix_182 : Cond.instanceMethod y_M_findMates ∈ lw_g := lg_in (List.mem_of_getElem? (i := 373) (by decide +kernel)) rfl
theorem ix_183 : Cond.selects R_M y_M_findMates y_M_findMates ∈ lw_g := lg_in (List.mem_of_getElem? (i := 19) (by decide +kernel)) rfl
theorem ix_184 : Cond.methodLink R_M 68 y_M_ways ∈ lw_g := lg_in (List.mem_of_getElem? (i := 375) (by decide +kernel)) rfl
theorem ix_185 : Cond.code y_M_ways b_M_ways 6 (some .int) ∈ lw_g := lg_in (List.mem_of_getElem? (i := 378) (by decide +kernel)) rfl
theorem ix_186 : Cond.instanceMethod y_M_ways ∈ lw_g := lg_in (List.mem_of_getElem? (i := 377) (by decide +kernel)) rfl
theorem ix_187 : Cond.selects R_M y_M_ways y_M_ways ∈ lw_g := lg_in (List.mem_of_getElem? (i := 20) (by decide +kernel)) rfl
theorem ix_188 : Cond.fieldLink R_M 33 "BracketSweepModel" "binomial" "[J" ∈ lw_g := lg_in (List.mem_of_getElem? (i := 317) (by decide +kernel)) rfl
theorem ix_189 : Cond.fieldLink R_M 26 "BracketSweepModel" "row" "[J" ∈ lw_g := lg_in (List.mem_of_getElem? (i := 315) (by decide +kernel)) rfl
theorem ix_190 : Cond.fieldLink R_M 46 "BracketSweepModel" "known" "Z" ∈ lw_g := lg_in (List.mem_of_getElem? (i := 314) (by decide +kernel)) rfl
theorem ix_191 : Cond.fieldLink R_M 30 "BracketSweepModel" "tally" "[I" ∈ lw_g := lg_in (List.mem_of_getElem? (i := 316) (by decide +kernel)) rfl
theorem ix_192 : Cond.methodLink R_M 71 y_M_bits ∈ lw_g := lg_in (List.mem_of_getElem? (i := 390) (by decide +kernel)) rfl
theorem ix_193 : Cond.code y_M_bits b_M_bits 3 (some .int) ∈ lw_g := lg_in (List.mem_of_getElem? (i := 392) (by decide +kernel)) rfl
theorem ix_194 : Cond.static y_M_bits ∈ lw_g := lg_in (List.mem_of_getElem? (i := 391) (by decide +kernel)) rfl
theorem ix_195 : Cond.methodLink R_M 74 y_M_expand ∈ lw_g := lg_in (List.mem_of_getElem? (i := 393) (by decide +kernel)) rfl
theorem ix_196 : Cond.code y_M_expand b_M_expand 6 none ∈ lw_g := lg_in (List.mem_of_getElem? (i := 396) (by decide +kernel)) rfl
theorem ix_197 : Cond.instanceMethod y_M_expand ∈ lw_g := lg_in (List.mem_of_getElem? (i := 395) (by decide +kernel)) rfl
theorem ix_198 : Cond.selects R_M y_M_expand y_M_expand ∈ lw_g := lg_in (List.mem_of_getElem? (i := 22) (by decide +kernel)) rfl
theorem ix_199 : Cond.fieldLink R_M 7 "BracketSweepModel" "sign" "[I" ∈ lw_g := lg_in (List.mem_of_getElem? (i := 309) (by decide +kernel)) rfl
theorem ix_200 : Cond.methodLink R_M 78 y_M_know ∈ lw_g := lg_in (List.mem_of_getElem? (i := 386) (by decide +kernel)) rfl
theorem ix_201 : Cond.code y_M_know b_M_know 2 none ∈ lw_g := lg_in (List.mem_of_getElem? (i := 389) (by decide +kernel)) rfl
theorem ix_202 : Cond.instanceMethod y_M_know ∈ lw_g := lg_in (List.mem_of_getElem? (i := 388) (by decide +kernel)) rfl
theorem ix_203 : Cond.selects R_M y_M_know y_M_know ∈ lw_g := lg_in (List.mem_of_getElem? (i := 21) (by decide +kernel)) rfl
theorem ix_204 : Cond.methodLink R_M 81 y_M_signs ∈ lw_g := lg_in (List.mem_of_getElem? (i := 401) (by decide +kernel)) rfl
theorem ix_205 : Cond.code y_M_signs b_M_signs 3 (some .int) ∈ lw_g := lg_in (List.mem_of_getElem? (i := 404) (by decide +kernel)) rfl
theorem ix_206 : Cond.instanceMethod y_M_signs ∈ lw_g := lg_in (List.mem_of_getElem? (i := 403) (by decide +kernel)) rfl
theorem ix_207 : Cond.selects R_M y_M_signs y_M_signs ∈ lw_g := lg_in (List.mem_of_getElem? (i := 23) (by decide +kernel)) rfl
theorem ix_208 : Cond.methodLink R_M 84 y_M_bracket ∈ lw_g := lg_in (List.mem_of_getElem? (i := 405) (by decide +kernel)) rfl
theorem ix_209 : Cond.code y_M_bracket b_M_bracket 2 (some .long) ∈ lw_g := lg_in (List.mem_of_getElem? (i := 385) (by decide +kernel)) rfl
theorem ix_210 : Cond.instanceMethod y_M_bracket ∈ lw_g := lg_in (List.mem_of_getElem? (i := 383) (by decide +kernel)) rfl
theorem ix_211 : Cond.selects R_M y_M_bracket y_M_bracket ∈ lw_g := lg_in (List.mem_of_getElem? (i := 384) (by decide +kernel)) rfl
theorem ix_212 : Cond.fieldLink R_M 23 "BracketSweepModel" "over" "[Z" ∈ lw_g := lg_in (List.mem_of_getElem? (i := 313) (by decide +kernel)) rfl
theorem ix_213 : Cond.methodLink R_M 88 y_M_stands ∈ lw_g := lg_in (List.mem_of_getElem? (i := 422) (by decide +kernel)) rfl
theorem ix_214 : Cond.code y_M_stands b_M_stands 4 (some .boolean) ∈ lw_g := lg_in (List.mem_of_getElem? (i := 425) (by decide +kernel)) rfl
theorem ix_215 : Cond.instanceMethod y_M_stands ∈ lw_g := lg_in (List.mem_of_getElem? (i := 424) (by decide +kernel)) rfl
theorem ix_216 : Cond.selects R_M y_M_stands y_M_stands ∈ lw_g := lg_in (List.mem_of_getElem? (i := 26) (by decide +kernel)) rfl
theorem ix_217 : Cond.methodLink R_M 92 y_M_open ∈ lw_g := lg_in (List.mem_of_getElem? (i := 414) (by decide +kernel)) rfl
theorem ix_218 : Cond.code y_M_open b_M_open 3 (some .int) ∈ lw_g := lg_in (List.mem_of_getElem? (i := 417) (by decide +kernel)) rfl
theorem ix_219 : Cond.instanceMethod y_M_open ∈ lw_g := lg_in (List.mem_of_getElem? (i := 416) (by decide +kernel)) rfl
theorem ix_220 : Cond.selects R_M y_M_open y_M_open ∈ lw_g := lg_in (List.mem_of_getElem? (i := 24) (by decide +kernel)) rfl
theorem ix_221 : Cond.methodLink R_M 95 y_M_touching ∈ lw_g := lg_in (List.mem_of_getElem? (i := 418) (by decide +kernel)) rfl
theorem ix_222 : Cond.code y_M_touching b_M_touching 4 (some .int) ∈ lw_g := lg_in (List.mem_of_getElem? (i := 421) (by decide +kernel)) rfl
theorem ix_223 : Cond.instanceMethod y_M_touching ∈ lw_g := lg_in (List.mem_of_getElem? (i := 420) (by decide +kernel)) rfl
theorem ix_224 : Cond.selects R_M y_M_touching y_M_touching ∈ lw_g := lg_in (List.mem_of_getElem? (i := 25) (by decide +kernel)) rfl
theorem ix_225 : Cond.fieldLink R_M 36 "BracketSweepModel" "four" "[I" ∈ lw_g := lg_in (List.mem_of_getElem? (i := 318) (by decide +kernel)) rfl
theorem ix_226 : Cond.methodLink R_M 98 y_M_become ∈ lw_g := lg_in (List.mem_of_getElem? (i := 442) (by decide +kernel)) rfl
theorem ix_227 : Cond.code y_M_become b_M_become 4 none ∈ lw_g := lg_in (List.mem_of_getElem? (i := 445) (by decide +kernel)) rfl
theorem ix_228 : Cond.instanceMethod y_M_become ∈ lw_g := lg_in (List.mem_of_getElem? (i := 444) (by decide +kernel)) rfl
theorem ix_229 : Cond.selects R_M y_M_become y_M_become ∈ lw_g := lg_in (List.mem_of_getElem? (i := 29) (by decide +kernel)) rfl
theorem ix_230 : Cond.methodLink R_M 102 y_M_closing ∈ lw_g := lg_in (List.mem_of_getElem? (i := 434) (by decide +kernel)) rfl
theorem ix_231 : Cond.code y_M_closing b_M_closing 9 (some .int) ∈ lw_g := lg_in (List.mem_of_getElem? (i := 437) (by decide +kernel)) rfl
theorem ix_232 : Cond.instanceMethod y_M_closing ∈ lw_g := lg_in (List.mem_of_getElem? (i := 436) (by decide +kernel)) rfl
theorem ix_233 : Cond.selects R_M y_M_closing y_M_closing ∈ lw_g := lg_in (List.mem_of_getElem? (i := 27) (by decide +kernel)) rfl
theorem ix_234 : Cond.methodLink R_M 105 y_M_join ∈ lw_g := lg_in (List.mem_of_getElem? (i := 438) (by decide +kernel)) rfl
theorem ix_235 : Cond.code y_M_join b_M_join 3 (some .int) ∈ lw_g := lg_in (List.mem_of_getElem? (i := 441) (by decide +kernel)) rfl
theorem ix_236 : Cond.instanceMethod y_M_join ∈ lw_g := lg_in (List.mem_of_getElem? (i := 440) (by decide +kernel)) rfl
theorem ix_237 : Cond.selects R_M y_M_join y_M_join ∈ lw_g := lg_in (List.mem_of_getElem? (i := 28) (by decide +kernel)) rfl
theorem ix_238 : Cond.methodLink R_M 109 y_M_exchange ∈ lw_g := lg_in (List.mem_of_getElem? (i := 454) (by decide +kernel)) rfl
theorem ix_239 : Cond.code y_M_exchange b_M_exchange 5 none ∈ lw_g := lg_in (List.mem_of_getElem? (i := 457) (by decide +kernel)) rfl
theorem ix_240 : Cond.instanceMethod y_M_exchange ∈ lw_g := lg_in (List.mem_of_getElem? (i := 456) (by decide +kernel)) rfl
theorem ix_241 : Cond.selects R_M y_M_exchange y_M_exchange ∈ lw_g := lg_in (List.mem_of_getElem? (i := 30) (by decide +kernel)) rfl
theorem ix_242 : Cond.methodLink R_W 3 Lib.objectInit ∈ lw_g := lg_in (List.mem_of_getElem? (i := 51) (by decide +kernel)) rfl
theorem ix_243 : Cond.instanceMethod Lib.objectInit ∈ lw_g := lg_in (List.mem_of_getElem? (i := 44) (by decide +kernel)) rfl
theorem ix_244 : Cond.code Lib.objectInit ⟨#[0xb1]⟩ 1 none ∈ lw_g := lg_in (List.mem_of_getElem? (i := 45) (by decide +kernel)) rfl
theorem ix_245 : Cond.arrayClass .int ∈ lw_g := lg_in (List.mem_of_getElem? (i := 59) (by decide +kernel)) rfl
theorem ix_246 : Cond.methodLink R_P 3 Lib.objectInit ∈ lw_g := lg_in (List.mem_of_getElem? (i := 66) (by decide +kernel)) rfl
theorem ix_247 : Cond.arrayClass .long ∈ lw_g := lg_in (List.mem_of_getElem? (i := 74) (by decide +kernel)) rfl
theorem ix_248 : Cond.methodLink R_M 1 Lib.objectInit ∈ lw_g := lg_in (List.mem_of_getElem? (i := 306) (by decide +kernel)) rfl
theorem ix_249 : Cond.arrayClass .boolean ∈ lw_g := lg_in (List.mem_of_getElem? (i := 60) (by decide +kernel)) rfl
theorem ix_250 : Cond.methodLink R_B 3 Lib.objectInit ∈ lw_g := lg_in (List.mem_of_getElem? (i := 43) (by decide +kernel)) rfl
theorem ix_251 : Cond.classLink R_B 36 R_W ∈ lw_g := lg_in (List.mem_of_getElem? (i := 46) (by decide +kernel)) rfl
theorem ix_252 : Cond.instantiable R_W 2 ∈ lw_g := lg_in (List.mem_of_getElem? (i := 47) (by decide +kernel)) rfl
theorem ix_253 : Cond.code y_W_init b_W_init 1 none ∈ lw_g := lg_in (List.mem_of_getElem? (i := 50) (by decide +kernel)) rfl
theorem ix_254 : Cond.instanceMethod y_W_init ∈ lw_g := lg_in (List.mem_of_getElem? (i := 49) (by decide +kernel)) rfl
theorem ix_255 : Cond.classLink R_B 43 R_P ∈ lw_g := lg_in (List.mem_of_getElem? (i := 61) (by decide +kernel)) rfl
theorem ix_256 : Cond.instantiable R_P 2 ∈ lw_g := lg_in (List.mem_of_getElem? (i := 62) (by decide +kernel)) rfl
theorem ix_257 : Cond.code y_P_init b_P_init 1 none ∈ lw_g := lg_in (List.mem_of_getElem? (i := 65) (by decide +kernel)) rfl
theorem ix_258 : Cond.instanceMethod y_P_init ∈ lw_g := lg_in (List.mem_of_getElem? (i := 64) (by decide +kernel)) rfl
theorem g_W_24 : GoodIn lw_g (wsV R_W 24 R_W y_W_join (Cond.code y_W_join b_W_join 5 (some .int) :: lw_g)) := gd_V ix_8 ix_11 ix_12 ix_10 ix_9
theorem g_W_28 : GoodIn lw_g (wsV R_W 28 R_W y_W_part (Cond.code y_W_part b_W_part 3 none :: lw_g)) := gd_V ix_13 ix_15 ix_16 ix_10 ix_14
theorem g_W_18 : GoodIn lw_g (va_wsS R_W 18 y_fillI (Cond.code y_fillI b_fillI 4 none :: lw_g)) := gd_S ix_18 ix_21 ix_20 ix_19
theorem g_P_18 : GoodIn lw_g (va_wsS R_P 18 y_fillJ (Cond.code y_fillJ b_fillJ 5 none :: lw_g)) := gd_S ix_23 ix_25 ix_20 ix_24
theorem g_P_28 : GoodIn lw_g (wsV R_P 28 R_P y_P_at (Cond.code y_P_at b_P_at 3 (some .long) :: lw_g)) := gd_V ix_29 ix_32 ix_33 ix_31 ix_30
theorem g_P_32 : GoodIn lw_g (wsV R_P 32 R_P y_P_least (Cond.code y_P_least b_P_least 2 (some .int) :: lw_g)) := gd_V ix_34 ix_36 ix_37 ix_31 ix_35
theorem g_B_134 : GoodIn lw_g (va_wsS R_B 134 y_fillI (Cond.code y_fillI b_fillI 4 none :: lw_g)) := gd_S ix_42 ix_21 ix_20 ix_19
theorem g_B_61 : GoodIn lw_g (wsV R_B 61 R_B y_B_countStanding (Cond.code y_B_countStanding b_B_countStanding 2 none :: lw_g)) := gd_V ix_44 ix_47 ix_48 ix_46 ix_45
theorem g_B_131 : GoodIn lw_g (wsV R_B 131 R_B y_B_fault (Cond.code y_B_fault b_B_fault 2 (some .int) :: lw_g)) := gd_V ix_49 ix_51 ix_52 ix_46 ix_50
theorem g_B_95 : GoodIn lw_g (wsV R_B 95 R_B y_B_sumOfSigns (Cond.code y_B_sumOfSigns b_B_sumOfSigns 3 (some .int) :: lw_g)) := gd_V ix_55 ix_57 ix_58 ix_46 ix_56
theorem g_B_139 : GoodIn lw_g (wsV R_B 139 R_B y_B_placesJoined (Cond.code y_B_placesJoined b_B_placesJoined 4 (some .int) :: lw_g)) := gd_V ix_60 ix_62 ix_63 ix_46 ix_61
theorem g_B_120 : GoodIn lw_g (va_wsS R_B 120 y_B_renamed (Cond.code y_B_renamed b_B_renamed 3 (some .int) :: lw_g)) := gd_S ix_64 ix_66 ix_46 ix_65
theorem g_B_145 : GoodIn lw_g (wsV R_B 145 R_B y_B_swapWithNext (Cond.code y_B_swapWithNext b_B_swapWithNext 5 none :: lw_g)) := gd_V ix_67 ix_69 ix_70 ix_46 ix_68
theorem g_B_113 : GoodIn lw_g (wsV R_B 113 R_W y_W_smooth (Cond.code y_W_smooth b_W_smooth 4 (some .int) :: lw_g)) := gd_V ix_72 ix_74 ix_75 ix_10 ix_73
theorem g_B_158 : GoodIn lw_g (va_wsS R_B 158 y_B_tallyFrom (Cond.code y_B_tallyFrom b_B_tallyFrom 7 none :: lw_g)) := gd_S ix_76 ix_78 ix_46 ix_77
theorem g_B_162 : GoodIn lw_g (wsV R_B 162 R_W y_W_undo (Cond.code y_W_undo b_W_undo 4 none :: lw_g)) := gd_V ix_79 ix_81 ix_82 ix_10 ix_80
theorem g_B_109 : GoodIn lw_g (wsV R_B 109 R_W y_W_followLabels (Cond.code y_W_followLabels b_W_followLabels 5 none :: lw_g)) := gd_V ix_84 ix_86 ix_87 ix_10 ix_85
theorem g_B_100 : GoodIn lw_g (wsV R_B 100 R_P y_P_isZero (Cond.code y_P_isZero b_P_isZero 1 (some .boolean) :: lw_g)) := gd_V ix_89 ix_91 ix_92 ix_31 ix_90
theorem g_B_166 : GoodIn lw_g (wsV R_B 166 R_P y_P_timesD (Cond.code y_P_timesD b_P_timesD 2 none :: lw_g)) := gd_V ix_93 ix_95 ix_96 ix_31 ix_94
theorem g_B_169 : GoodIn lw_g (wsV R_B 169 R_P y_P_add (Cond.code y_P_add b_P_add 4 none :: lw_g)) := gd_V ix_97 ix_99 ix_100 ix_31 ix_98
theorem g_B_149 : GoodIn lw_g (wsV R_B 149 R_P y_P_setZero (Cond.code y_P_setZero b_P_setZero 1 none :: lw_g)) := gd_V ix_101 ix_103 ix_104 ix_31 ix_102
theorem g_B_67 : GoodIn lw_g (wsV R_B 67 R_B y_B_isCode (Cond.code y_B_isCode b_B_isCode 1 (some .boolean) :: lw_g)) := gd_V ix_105 ix_107 ix_108 ix_46 ix_106
theorem g_B_152 : GoodIn lw_g (wsV R_B 152 R_B y_B_tallyStates (Cond.code y_B_tallyStates b_B_tallyStates 2 none :: lw_g)) := gd_V ix_109 ix_111 ix_112 ix_46 ix_110
theorem g_B_155 : GoodIn lw_g (wsV R_B 155 R_B y_B_sumTally (Cond.code y_B_sumTally b_B_sumTally 3 none :: lw_g)) := gd_V ix_113 ix_115 ix_116 ix_46 ix_114
theorem g_B_57 : GoodIn lw_g (va_wsS R_B 57 y_B_isLabel (Cond.code y_B_isLabel b_B_isLabel 1 (some .boolean) :: lw_g)) := gd_S ix_117 ix_119 ix_46 ix_118
theorem g_B_54 : GoodIn lw_g (wsV R_B 54 R_B y_B_orderAsGiven (Cond.code y_B_orderAsGiven b_B_orderAsGiven 2 none :: lw_g)) := gd_V ix_120 ix_122 ix_123 ix_46 ix_121
theorem g_B_64 : GoodIn lw_g (wsV R_B 64 R_B y_B_isCrossing (Cond.code y_B_isCrossing b_B_isCrossing 2 (some .boolean) :: lw_g)) := gd_V ix_124 ix_126 ix_127 ix_46 ix_125
theorem g_B_71 : GoodIn lw_g (wsV R_B 71 R_B y_B_goOverNone (Cond.code y_B_goOverNone b_B_goOverNone 2 none :: lw_g)) := gd_V ix_128 ix_130 ix_131 ix_46 ix_129
theorem g_B_74 : GoodIn lw_g (wsV R_B 74 R_B y_B_mostJoined (Cond.code y_B_mostJoined b_B_mostJoined 5 (some .int) :: lw_g)) := gd_V ix_132 ix_134 ix_135 ix_46 ix_133
theorem g_B_78 : GoodIn lw_g (wsV R_B 78 R_B y_B_goOver (Cond.code y_B_goOver b_B_goOver 4 (some .int) :: lw_g)) := gd_V ix_136 ix_138 ix_139 ix_46 ix_137
theorem g_B_88 : GoodIn lw_g (wsV R_B 88 R_B y_B_workOut (Cond.code y_B_workOut b_B_workOut 1 none :: lw_g)) := gd_V ix_140 ix_142 ix_143 ix_46 ix_141
theorem g_B_91 : GoodIn lw_g (wsV R_B 91 R_P y_P_at (Cond.code y_P_at b_P_at 3 (some .long) :: lw_g)) := gd_V ix_144 ix_32 ix_33 ix_31 ix_30
theorem g_B_106 : GoodIn lw_g (wsV R_B 106 R_P y_P_least (Cond.code y_P_least b_P_least 2 (some .int) :: lw_g)) := gd_V ix_146 ix_36 ix_37 ix_31 ix_35
theorem g_B_103 : GoodIn lw_g (wsV R_B 103 R_P y_P_greatest (Cond.code y_P_greatest b_P_greatest 2 (some .int) :: lw_g)) := gd_V ix_147 ix_149 ix_150 ix_31 ix_148
theorem g_B_117 : GoodIn lw_g (wsV R_B 117 R_B y_B_lookAtAll (Cond.code y_B_lookAtAll b_B_lookAtAll 2 (some .int) :: lw_g)) := gd_V ix_151 ix_153 ix_154 ix_46 ix_152
theorem g_B_124 : GoodIn lw_g (wsV R_B 124 R_B y_B_unite (Cond.code y_B_unite b_B_unite 4 none :: lw_g)) := gd_V ix_155 ix_157 ix_158 ix_46 ix_156
theorem g_B_128 : GoodIn lw_g (wsV R_B 128 R_B y_B_carry (Cond.code y_B_carry b_B_carry 4 none :: lw_g)) := gd_V ix_159 ix_161 ix_162 ix_46 ix_160
theorem g_M_53 : GoodIn lw_g (wsV R_M 53 R_M y_M_standing (Cond.code y_M_standing b_M_standing 4 (some .int) :: lw_g)) := gd_V ix_165 ix_168 ix_169 ix_167 ix_166
theorem g_M_57 : GoodIn lw_g (va_wsS R_M 57 y_M_joined (Cond.code y_M_joined b_M_joined 3 (some .int) :: lw_g)) := gd_S ix_173 ix_175 ix_167 ix_174
theorem g_M_61 : GoodIn lw_g (wsV R_M 61 R_M y_M_fault (Cond.code y_M_fault b_M_fault 3 (some .int) :: lw_g)) := gd_V ix_176 ix_178 ix_179 ix_167 ix_177
theorem g_M_65 : GoodIn lw_g (wsV R_M 65 R_M y_M_findMates (Cond.code y_M_findMates b_M_findMates 3 none :: lw_g)) := gd_V ix_180 ix_182 ix_183 ix_167 ix_181
theorem g_M_68 : GoodIn lw_g (wsV R_M 68 R_M y_M_ways (Cond.code y_M_ways b_M_ways 6 (some .int) :: lw_g)) := gd_V ix_184 ix_186 ix_187 ix_167 ix_185
theorem g_M_71 : GoodIn lw_g (va_wsS R_M 71 y_M_bits (Cond.code y_M_bits b_M_bits 3 (some .int) :: lw_g)) := gd_S ix_192 ix_194 ix_167 ix_193
theorem g_M_74 : GoodIn lw_g (wsV R_M 74 R_M y_M_expand (Cond.code y_M_expand b_M_expand 6 none :: lw_g)) := gd_V ix_195 ix_197 ix_198 ix_167 ix_196
theorem g_M_78 : GoodIn lw_g (wsV R_M 78 R_M y_M_know (Cond.code y_M_know b_M_know 2 none :: lw_g)) := gd_V ix_200 ix_202 ix_203 ix_167 ix_201
theorem g_M_81 : GoodIn lw_g (wsV R_M 81 R_M y_M_signs (Cond.code y_M_signs b_M_signs 3 (some .int) :: lw_g)) := gd_V ix_204 ix_206 ix_207 ix_167 ix_205
theorem g_M_84 : GoodIn lw_g (wsV R_M 84 R_M y_M_bracket (Cond.code y_M_bracket b_M_bracket 2 (some .long) :: lw_g)) := gd_V ix_208 ix_210 ix_211 ix_167 ix_209
theorem g_M_88 : GoodIn lw_g (wsV R_M 88 R_M y_M_stands (Cond.code y_M_stands b_M_stands 4 (some .boolean) :: lw_g)) := gd_V ix_213 ix_215 ix_216 ix_167 ix_214
theorem g_M_92 : GoodIn lw_g (wsV R_M 92 R_M y_M_open (Cond.code y_M_open b_M_open 3 (some .int) :: lw_g)) := gd_V ix_217 ix_219 ix_220 ix_167 ix_218
theorem g_M_95 : GoodIn lw_g (wsV R_M 95 R_M y_M_touching (Cond.code y_M_touching b_M_touching 4 (some .int) :: lw_g)) := gd_V ix_221 ix_223 ix_224 ix_167 ix_222
theorem g_M_98 : GoodIn lw_g (wsV R_M 98 R_M y_M_become (Cond.code y_M_become b_M_become 4 none :: lw_g)) := gd_V ix_226 ix_228 ix_229 ix_167 ix_227
theorem g_M_102 : GoodIn lw_g (wsV R_M 102 R_M y_M_closing (Cond.code y_M_closing b_M_closing 9 (some .int) :: lw_g)) := gd_V ix_230 ix_232 ix_233 ix_167 ix_231
theorem g_M_105 : GoodIn lw_g (wsV R_M 105 R_M y_M_join (Cond.code y_M_join b_M_join 3 (some .int) :: lw_g)) := gd_V ix_234 ix_236 ix_237 ix_167 ix_235
theorem g_M_109 : GoodIn lw_g (wsV R_M 109 R_M y_M_exchange (Cond.code y_M_exchange b_M_exchange 5 none :: lw_g)) := gd_V ix_238 ix_240 ix_241 ix_167 ix_239
theorem d_fillI_0 : decode b_fillI 0 = .ok (.iconst 0, 1) := by decide +kernel
theorem d_fillI_1 : decode b_fillI 1 = .ok (.istore_n 2, 1) := by decide +kernel
theorem d_fillI_2 : decode b_fillI 2 = .ok (.aload_n 0, 1) := by decide +kernel
theorem d_fillI_3 : decode b_fillI 3 = .ok (.arraylength, 1) := by decide +kernel
theorem d_fillI_4 : decode b_fillI 4 = .ok (.istore_n 3, 1) := by decide +kernel
theorem d_fillI_5 : decode b_fillI 5 = .ok (.iload_n 2, 1) := by decide +kernel
theorem d_fillI_6 : decode b_fillI 6 = .ok (.iload_n 3, 1) := by decide +kernel
theorem d_fillI_7 : decode b_fillI 7 = .ok (.if_icmp .ge 13, 3) := by decide +kernel
theorem d_fillI_10 : decode b_fillI 10 = .ok (.aload_n 0, 1) := by decide +kernel
theorem d_fillI_11 : decode b_fillI 11 = .ok (.iload_n 2, 1) := by decide +kernel
theorem d_fillI_12 : decode b_fillI 12 = .ok (.iload_n 1, 1) := by decide +kernel
theorem d_fillI_13 : decode b_fillI 13 = .ok (.iastore, 1) := by decide +kernel
theorem d_fillI_14 : decode b_fillI 14 = .ok (.iinc 2 1, 3) := by decide +kernel
theorem d_fillI_17 : decode b_fillI 17 = .ok (.goto (-12), 3) := by decide +kernel
theorem d_fillI_20 : decode b_fillI 20 = .ok (.return_, 1) := by decide +kernel
theorem d_fillJ_0 : decode b_fillJ 0 = .ok (.iconst 0, 1) := by decide +kernel
theorem d_fillJ_1 : decode b_fillJ 1 = .ok (.istore_n 3, 1) := by decide +kernel
theorem d_fillJ_2 : decode b_fillJ 2 = .ok (.aload_n 0, 1) := by decide +kernel
theorem d_fillJ_3 : decode b_fillJ 3 = .ok (.arraylength, 1) := by decide +kernel
theorem d_fillJ_4 : decode b_fillJ 4 = .ok (.istore 4, 2) := by decide +kernel
theorem d_fillJ_6 : decode b_fillJ 6 = .ok (.iload_n 3, 1) := by decide +kernel
theorem d_fillJ_7 : decode b_fillJ 7 = .ok (.iload 4, 2) := by decide +kernel
theorem d_fillJ_9 : decode b_fillJ 9 = .ok (.if_icmp .ge 13, 3) := by decide +kernel
theorem d_fillJ_12 : decode b_fillJ 12 = .ok (.aload_n 0, 1) := by decide +kernel
theorem d_fillJ_13 : decode b_fillJ 13 = .ok (.iload_n 3, 1) := by decide +kernel
theorem d_fillJ_14 : decode b_fillJ 14 = .ok (.lload_n 1, 1) := by decide +kernel
theorem d_fillJ_15 : decode b_fillJ 15 = .ok (.lastore, 1) := by decide +kernel
theorem d_fillJ_16 : decode b_fillJ 16 = .ok (.iinc 3 1, 3) := by decide +kernel
theorem d_fillJ_19 : decode b_fillJ 19 = .ok (.goto (-13), 3) := by decide +kernel
theorem d_fillJ_22 : decode b_fillJ 22 = .ok (.return_, 1) := by decide +kernel
