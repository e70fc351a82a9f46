theorem dX11_look_165 : decode cX11_look 165 = .ok (.getfield 12, 3) := by decide +kernel
theorem dX11_look_168 : decode cX11_look 168 = .ok (.getfield 82, 3) := by decide +kernel
theorem dX11_look_171 : decode cX11_look 171 = .ok (.getfield 86, 3) := by decide +kernel
theorem dX11_look_174 : decode cX11_look 174 = .ok (.ireturn, 1) := by decide +kernel
theorem dX11_look_175 : decode cX11_look 175 = .ok (.aload_n 0, 1) := by decide +kernel
theorem dX11_look_176 : decode cX11_look 176 = .ok (.getfield 12, 3) := by decide +kernel
theorem dX11_look_179 : decode cX11_look 179 = .ok (.getfield 159, 3) := by decide +kernel
theorem dX11_look_182 : decode cX11_look 182 = .ok (.getfield 337, 3) := by decide +kernel
theorem dX11_look_185 : decode cX11_look 185 = .ok (.ireturn, 1) := by decide +kernel
theorem dX11_look_186 : decode cX11_look 186 = .ok (.aload_n 0, 1) := by decide +kernel
theorem dX11_look_187 : decode cX11_look 187 = .ok (.getfield 12, 3) := by decide +kernel
theorem dX11_look_190 : decode cX11_look 190 = .ok (.getfield 175, 3) := by decide +kernel
theorem dX11_look_193 : decode cX11_look 193 = .ok (.getfield 338, 3) := by decide +kernel
theorem dX11_look_196 : decode cX11_look 196 = .ok (.ireturn, 1) := by decide +kernel
theorem dX11_look_197 : decode cX11_look 197 = .ok (.aload_n 0, 1) := by decide +kernel
theorem dX11_look_198 : decode cX11_look 198 = .ok (.getfield 12, 3) := by decide +kernel
theorem dX11_look_201 : decode cX11_look 201 = .ok (.getfield 299, 3) := by decide +kernel
theorem dX11_look_204 : decode cX11_look 204 = .ok (.getfield 303, 3) := by decide +kernel
theorem dX11_look_207 : decode cX11_look 207 = .ok (.ireturn, 1) := by decide +kernel
theorem dX11_look_208 : decode cX11_look 208 = .ok (.aload_n 0, 1) := by decide +kernel
theorem dX11_look_209 : decode cX11_look 209 = .ok (.getfield 53, 3) := by decide +kernel
theorem dX11_look_212 : decode cX11_look 212 = .ok (.getfield 322, 3) := by decide +kernel
theorem dX11_look_215 : decode cX11_look 215 = .ok (.ireturn, 1) := by decide +kernel
theorem dX11_look_216 : decode cX11_look 216 = .ok (.ldc 151, 2) := by decide +kernel
theorem dX11_look_218 : decode cX11_look 218 = .ok (.ireturn, 1) := by decide +kernel
theorem dX11_within_0 : decode cX11_within 0 = .ok (.iload_n 0, 1) := by decide +kernel
theorem dX11_within_1 : decode cX11_within 1 = .ok (.iload_n 1, 1) := by decide +kernel
theorem dX11_within_2 : decode cX11_within 2 = .ok (.if_icmp .lt 12, 3) := by decide +kernel
theorem dX11_within_5 : decode cX11_within 5 = .ok (.iload_n 0, 1) := by decide +kernel
theorem dX11_within_6 : decode cX11_within 6 = .ok (.iload_n 2, 1) := by decide +kernel
theorem dX11_within_7 : decode cX11_within 7 = .ok (.if_icmp .gt 7, 3) := by decide +kernel
theorem dX11_within_10 : decode cX11_within 10 = .ok (.iconst 1, 1) := by decide +kernel
theorem dX11_within_11 : decode cX11_within 11 = .ok (.goto 4, 3) := by decide +kernel
theorem dX11_within_14 : decode cX11_within 14 = .ok (.iconst 0, 1) := by decide +kernel
theorem dX11_within_15 : decode cX11_within 15 = .ok (.ireturn, 1) := by decide +kernel
theorem dX11_isDay_0 : decode cX11_isDay 0 = .ok (.iload_n 0, 1) := by decide +kernel
theorem dX11_isDay_1 : decode cX11_isDay 1 = .ok (.iconst 0, 1) := by decide +kernel
theorem dX11_isDay_2 : decode cX11_isDay 2 = .ok (.sipush 9999, 3) := by decide +kernel
theorem dX11_isDay_5 : decode cX11_isDay 5 = .ok (.invokestatic 60, 3) := by decide +kernel
theorem dX11_isDay_8 : decode cX11_isDay 8 = .ok (.ireturn, 1) := by decide +kernel
theorem dX11_isSpan_0 : decode cX11_isSpan 0 = .ok (.iload_n 0, 1) := by decide +kernel
theorem dX11_isSpan_1 : decode cX11_isSpan 1 = .ok (.invokestatic 115, 3) := by decide +kernel
theorem dX11_isSpan_4 : decode cX11_isSpan 4 = .ok (.ifCond .eq 19, 3) := by decide +kernel
theorem dX11_isSpan_7 : decode cX11_isSpan 7 = .ok (.iload_n 1, 1) := by decide +kernel
theorem dX11_isSpan_8 : decode cX11_isSpan 8 = .ok (.invokestatic 115, 3) := by decide +kernel
theorem dX11_isSpan_11 : decode cX11_isSpan 11 = .ok (.ifCond .eq 12, 3) := by decide +kernel
theorem dX11_isSpan_14 : decode cX11_isSpan 14 = .ok (.iload_n 0, 1) := by decide +kernel
theorem dX11_isSpan_15 : decode cX11_isSpan 15 = .ok (.iload_n 1, 1) := by decide +kernel
theorem dX11_isSpan_16 : decode cX11_isSpan 16 = .ok (.if_icmp .gt 7, 3) := by decide +kernel
theorem dX11_isSpan_19 : decode cX11_isSpan 19 = .ok (.iconst 1, 1) := by decide +kernel
theorem dX11_isSpan_20 : decode cX11_isSpan 20 = .ok (.goto 4, 3) := by decide +kernel
theorem dX11_isSpan_23 : decode cX11_isSpan 23 = .ok (.iconst 0, 1) := by decide +kernel
theorem dX11_isSpan_24 : decode cX11_isSpan 24 = .ok (.ireturn, 1) := by decide +kernel
theorem dX11_isTurn_0 : decode cX11_isTurn 0 = .ok (.iload_n 0, 1) := by decide +kernel
theorem dX11_isTurn_1 : decode cX11_isTurn 1 = .ok (.iconst (-1), 1) := by decide +kernel
theorem dX11_isTurn_2 : decode cX11_isTurn 2 = .ok (.iconst 1, 1) := by decide +kernel
theorem dX11_isTurn_3 : decode cX11_isTurn 3 = .ok (.invokestatic 60, 3) := by decide +kernel
theorem dX11_isTurn_6 : decode cX11_isTurn 6 = .ok (.ireturn, 1) := by decide +kernel
theorem dX11_isTurnOf_0 : decode cX11_isTurnOf 0 = .ok (.iload_n 0, 1) := by decide +kernel
theorem dX11_isTurnOf_1 : decode cX11_isTurnOf 1 = .ok (.bipush 10, 2) := by decide +kernel
theorem dX11_isTurnOf_3 : decode cX11_isTurnOf 3 = .ok (.bipush 10, 2) := by decide +kernel
theorem dX11_isTurnOf_5 : decode cX11_isTurnOf 5 = .ok (.iload_n 1, 1) := by decide +kernel
theorem dX11_isTurnOf_6 : decode cX11_isTurnOf 6 = .ok (.iadd, 1) := by decide +kernel
theorem dX11_isTurnOf_7 : decode cX11_isTurnOf 7 = .ok (.iconst 1, 1) := by decide +kernel
theorem dX11_isTurnOf_8 : decode cX11_isTurnOf 8 = .ok (.isub, 1) := by decide +kernel
theorem dX11_isTurnOf_9 : decode cX11_isTurnOf 9 = .ok (.invokestatic 60, 3) := by decide +kernel
theorem dX11_isTurnOf_12 : decode cX11_isTurnOf 12 = .ok (.ireturn, 1) := by decide +kernel
theorem dX11_wrap_0 : decode cX11_wrap 0 = .ok (.iload_n 1, 1) := by decide +kernel
theorem dX11_wrap_1 : decode cX11_wrap 1 = .ok (.ifCond .le 11, 3) := by decide +kernel
theorem dX11_wrap_4 : decode cX11_wrap 4 = .ok (.iload_n 0, 1) := by decide +kernel
theorem dX11_wrap_5 : decode cX11_wrap 5 = .ok (.iload_n 1, 1) := by decide +kernel
theorem dX11_wrap_6 : decode cX11_wrap 6 = .ok (.invokestatic 339, 3) := by decide +kernel
theorem dX11_wrap_9 : decode cX11_wrap 9 = .ok (.goto 4, 3) := by decide +kernel
theorem dX11_wrap_12 : decode cX11_wrap 12 = .ok (.iconst 0, 1) := by decide +kernel
theorem dX11_wrap_13 : decode cX11_wrap 13 = .ok (.ireturn, 1) := by decide +kernel
theorem dX12_init_0 : decode cX12_init 0 = .ok (.aload_n 0, 1) := by decide +kernel
theorem dX12_init_1 : decode cX12_init 1 = .ok (.invokespecial 1, 3) := by decide +kernel
theorem dX12_init_4 : decode cX12_init 4 = .ok (.aload_n 0, 1) := by decide +kernel
theorem dX12_init_5 : decode cX12_init 5 = .ok (.sipush 5820, 3) := by decide +kernel
theorem dX12_init_8 : decode cX12_init 8 = .ok (.newarray .int, 2) := by decide +kernel
theorem dX12_init_10 : decode cX12_init 10 = .ok (.putfield 7, 3) := by decide +kernel
theorem dX12_init_13 : decode cX12_init 13 = .ok (.aload_n 0, 1) := by decide +kernel
theorem dX12_init_14 : decode cX12_init 14 = .ok (.sipush 5820, 3) := by decide +kernel
theorem dX12_init_17 : decode cX12_init 17 = .ok (.newarray .int, 2) := by decide +kernel
theorem dX12_init_19 : decode cX12_init 19 = .ok (.putfield 13, 3) := by decide +kernel
theorem dX12_init_22 : decode cX12_init 22 = .ok (.aload_n 0, 1) := by decide +kernel
theorem dX12_init_23 : decode cX12_init 23 = .ok (.sipush 140, 3) := by decide +kernel
theorem dX12_init_26 : decode cX12_init 26 = .ok (.newarray .int, 2) := by decide +kernel
theorem dX12_init_28 : decode cX12_init 28 = .ok (.putfield 16, 3) := by decide +kernel
theorem dX12_init_31 : decode cX12_init 31 = .ok (.aload_n 0, 1) := by decide +kernel
theorem dX12_init_32 : decode cX12_init 32 = .ok (.bipush 48, 2) := by decide +kernel
theorem dX12_init_34 : decode cX12_init 34 = .ok (.newarray .int, 2) := by decide +kernel
theorem dX12_init_36 : decode cX12_init 36 = .ok (.putfield 19, 3) := by decide +kernel
theorem dX12_init_39 : decode cX12_init 39 = .ok (.aload_n 0, 1) := by decide +kernel
theorem dX12_init_40 : decode cX12_init 40 = .ok (.sipush 820, 3) := by decide +kernel
theorem dX12_init_43 : decode cX12_init 43 = .ok (.newarray .int, 2) := by decide +kernel
theorem dX12_init_45 : decode cX12_init 45 = .ok (.putfield 22, 3) := by decide +kernel
theorem dX12_init_48 : decode cX12_init 48 = .ok (.aload_n 0, 1) := by decide +kernel
theorem dX12_init_49 : decode cX12_init 49 = .ok (.sipush 400, 3) := by decide +kernel
theorem dX12_init_52 : decode cX12_init 52 = .ok (.newarray .int, 2) := by decide +kernel
theorem dX12_init_54 : decode cX12_init 54 = .ok (.putfield 25, 3) := by decide +kernel
theorem dX12_init_57 : decode cX12_init 57 = .ok (.aload_n 0, 1) := by decide +kernel
theorem dX12_init_58 : decode cX12_init 58 = .ok (.sipush 420, 3) := by decide +kernel
theorem dX12_init_61 : decode cX12_init 61 = .ok (.newarray .int, 2) := by decide +kernel
theorem dX12_init_63 : decode cX12_init 63 = .ok (.putfield 28, 3) := by decide +kernel
theorem dX12_init_66 : decode cX12_init 66 = .ok (.aload_n 0, 1) := by decide +kernel
theorem dX12_init_67 : decode cX12_init 67 = .ok (.bipush 8, 2) := by decide +kernel
theorem dX12_init_69 : decode cX12_init 69 = .ok (.newarray .int, 2) := by decide +kernel
theorem dX12_init_71 : decode cX12_init 71 = .ok (.putfield 31, 3) := by decide +kernel
theorem dX12_init_74 : decode cX12_init 74 = .ok (.aload_n 0, 1) := by decide +kernel
theorem dX12_init_75 : decode cX12_init 75 = .ok (.iconst (-1), 1) := by decide +kernel
theorem dX12_init_76 : decode cX12_init 76 = .ok (.putfield 34, 3) := by decide +kernel
theorem dX12_init_79 : decode cX12_init 79 = .ok (.aload_n 0, 1) := by decide +kernel
theorem dX12_init_80 : decode cX12_init 80 = .ok (.sipush 4320, 3) := by decide +kernel
theorem dX12_init_83 : decode cX12_init 83 = .ok (.newarray .int, 2) := by decide +kernel
theorem dX12_init_85 : decode cX12_init 85 = .ok (.putfield 38, 3) := by decide +kernel
theorem dX12_init_88 : decode cX12_init 88 = .ok (.aload_n 0, 1) := by decide +kernel
theorem dX12_init_89 : decode cX12_init 89 = .ok (.sipush 1464, 3) := by decide +kernel
theorem dX12_init_92 : decode cX12_init 92 = .ok (.newarray .int, 2) := by decide +kernel
theorem dX12_init_94 : decode cX12_init 94 = .ok (.putfield 41, 3) := by decide +kernel
theorem dX12_init_97 : decode cX12_init 97 = .ok (.aload_n 0, 1) := by decide +kernel
theorem dX12_init_98 : decode cX12_init 98 = .ok (.bipush 30, 2) := by decide +kernel
theorem dX12_init_100 : decode cX12_init 100 = .ok (.newarray .int, 2) := by decide +kernel
theorem dX12_init_102 : decode cX12_init 102 = .ok (.putfield 44, 3) := by decide +kernel
theorem dX12_init_105 : decode cX12_init 105 = .ok (.aload_n 0, 1) := by decide +kernel
theorem dX12_init_106 : decode cX12_init 106 = .ok (.bipush 6, 2) := by decide +kernel
theorem dX12_init_108 : decode cX12_init 108 = .ok (.newarray .int, 2) := by decide +kernel
theorem dX12_init_110 : decode cX12_init 110 = .ok (.putfield 47, 3) := by decide +kernel
theorem dX12_init_113 : decode cX12_init 113 = .ok (.aload_n 0, 1) := by decide +kernel
theorem dX12_init_114 : decode cX12_init 114 = .ok (.bipush 6, 2) := by decide +kernel
theorem dX12_init_116 : decode cX12_init 116 = .ok (.newarray .int, 2) := by decide +kernel
theorem dX12_init_118 : decode cX12_init 118 = .ok (.putfield 50, 3) := by decide +kernel
theorem dX12_init_121 : decode cX12_init 121 = .ok (.aload_n 0, 1) := by decide +kernel
theorem dX12_init_122 : decode cX12_init 122 = .ok (.bipush 10, 2) := by decide +kernel
theorem dX12_init_124 : decode cX12_init 124 = .ok (.newarray .int, 2) := by decide +kernel
theorem dX12_init_126 : decode cX12_init 126 = .ok (.putfield 53, 3) := by decide +kernel
theorem dX12_init_129 : decode cX12_init 129 = .ok (.aload_n 0, 1) := by decide +kernel
theorem dX12_init_130 : decode cX12_init 130 = .ok (.bipush 10, 2) := by decide +kernel
theorem dX12_init_132 : decode cX12_init 132 = .ok (.newarray .int, 2) := by decide +kernel
theorem dX12_init_134 : decode cX12_init 134 = .ok (.putfield 56, 3) := by decide +kernel
theorem dX12_init_137 : decode cX12_init 137 = .ok (.aload_n 0, 1) := by decide +kernel
theorem dX12_init_138 : decode cX12_init 138 = .ok (.sipush 984, 3) := by decide +kernel
theorem dX12_init_141 : decode cX12_init 141 = .ok (.newarray .long, 2) := by decide +kernel
theorem dX12_init_143 : decode cX12_init 143 = .ok (.putfield 59, 3) := by decide +kernel
theorem dX12_init_146 : decode cX12_init 146 = .ok (.aload_n 0, 1) := by decide +kernel
theorem dX12_init_147 : decode cX12_init 147 = .ok (.bipush 12, 2) := by decide +kernel
theorem dX12_init_149 : decode cX12_init 149 = .ok (.invokevirtual 63, 3) := by decide +kernel
theorem dX12_init_152 : decode cX12_init 152 = .ok (.return_, 1) := by decide +kernel
theorem dX12_begins_0 : decode cX12_begins 0 = .ok (.iconst 0, 1) := by decide +kernel
theorem dX12_begins_1 : decode cX12_begins 1 = .ok (.istore_n 2, 1) := by decide +kernel
theorem dX12_begins_2 : decode cX12_begins 2 = .ok (.iload_n 2, 1) := by decide +kernel
theorem dX12_begins_3 : decode cX12_begins 3 = .ok (.sipush 5820, 3) := by decide +kernel
theorem dX12_begins_6 : decode cX12_begins 6 = .ok (.if_icmp .ge 16, 3) := by decide +kernel
theorem dX12_begins_9 : decode cX12_begins 9 = .ok (.aload_n 0, 1) := by decide +kernel
theorem dX12_begins_10 : decode cX12_begins 10 = .ok (.getfield 7, 3) := by decide +kernel
theorem dX12_begins_13 : decode cX12_begins 13 = .ok (.iload_n 2, 1) := by decide +kernel
theorem dX12_begins_14 : decode cX12_begins 14 = .ok (.iconst 0, 1) := by decide +kernel
theorem dX12_begins_15 : decode cX12_begins 15 = .ok (.iastore, 1) := by decide +kernel
theorem dX12_begins_16 : decode cX12_begins 16 = .ok (.iinc 2 1, 3) := by decide +kernel
theorem dX12_begins_19 : decode cX12_begins 19 = .ok (.goto (-17), 3) := by decide +kernel
theorem dX12_begins_22 : decode cX12_begins 22 = .ok (.aload_n 0, 1) := by decide +kernel
theorem dX12_begins_23 : decode cX12_begins 23 = .ok (.getfield 7, 3) := by decide +kernel
theorem dX12_begins_26 : decode cX12_begins 26 = .ok (.iconst 0, 1) := by decide +kernel
theorem dX12_begins_27 : decode cX12_begins 27 = .ok (.iload_n 1, 1) := by decide +kernel
theorem dX12_begins_28 : decode cX12_begins 28 = .ok (.iastore, 1) := by decide +kernel
theorem dX12_begins_29 : decode cX12_begins 29 = .ok (.aload_n 0, 1) := by decide +kernel
theorem dX12_begins_30 : decode cX12_begins 30 = .ok (.getfield 7, 3) := by decide +kernel
theorem dX12_begins_33 : decode cX12_begins 33 = .ok (.iconst 3, 1) := by decide +kernel
theorem dX12_begins_34 : decode cX12_begins 34 = .ok (.bipush 99, 2) := by decide +kernel
theorem dX12_begins_36 : decode cX12_begins 36 = .ok (.iastore, 1) := by decide +kernel
theorem dX12_begins_37 : decode cX12_begins 37 = .ok (.aload_n 0, 1) := by decide +kernel
theorem dX12_begins_38 : decode cX12_begins 38 = .ok (.iconst 0, 1) := by decide +kernel
theorem dX12_begins_39 : decode cX12_begins 39 = .ok (.putfield 67, 3) := by decide +kernel
theorem dX12_begins_42 : decode cX12_begins 42 = .ok (.return_, 1) := by decide +kernel
theorem dX12_isIn_0 : decode cX12_isIn 0 = .ok (.iload_n 0, 1) := by decide +kernel
theorem dX12_isIn_1 : decode cX12_isIn 1 = .ok (.iload_n 1, 1) := by decide +kernel
theorem dX12_isIn_2 : decode cX12_isIn 2 = .ok (.if_icmp .lt 12, 3) := by decide +kernel
theorem dX12_isIn_5 : decode cX12_isIn 5 = .ok (.iload_n 0, 1) := by decide +kernel
theorem dX12_isIn_6 : decode cX12_isIn 6 = .ok (.iload_n 2, 1) := by decide +kernel
theorem dX12_isIn_7 : decode cX12_isIn 7 = .ok (.if_icmp .gt 7, 3) := by decide +kernel
theorem dX12_isIn_10 : decode cX12_isIn 10 = .ok (.iconst 1, 1) := by decide +kernel
theorem dX12_isIn_11 : decode cX12_isIn 11 = .ok (.goto 4, 3) := by decide +kernel
theorem dX12_isIn_14 : decode cX12_isIn 14 = .ok (.iconst 0, 1) := by decide +kernel
theorem dX12_isIn_15 : decode cX12_isIn 15 = .ok (.ireturn, 1) := by decide +kernel
theorem dX12_notches_0 : decode cX12_notches 0 = .ok (.iload_n 1, 1) := by decide +kernel
theorem dX12_notches_1 : decode cX12_notches 1 = .ok (.iconst 4, 1) := by decide +kernel
theorem dX12_notches_2 : decode cX12_notches 2 = .ok (.bipush 24, 2) := by decide +kernel
theorem dX12_notches_4 : decode cX12_notches 4 = .ok (.invokestatic 70, 3) := by decide +kernel
theorem dX12_notches_7 : decode cX12_notches 7 = .ok (.ifCond .ne 5, 3) := by decide +kernel
theorem dX12_notches_10 : decode cX12_notches 10 = .ok (.iconst 0, 1) := by decide +kernel
theorem dX12_notches_11 : decode cX12_notches 11 = .ok (.ireturn, 1) := by decide +kernel
theorem dX12_notches_12 : decode cX12_notches 12 = .ok (.aload_n 0, 1) := by decide +kernel
theorem dX12_notches_13 : decode cX12_notches 13 = .ok (.iload_n 1, 1) := by decide +kernel
theorem dX12_notches_14 : decode cX12_notches 14 = .ok (.invokevirtual 63, 3) := by decide +kernel
theorem dX12_notches_17 : decode cX12_notches 17 = .ok (.iconst 1, 1) := by decide +kernel
theorem dX12_notches_18 : decode cX12_notches 18 = .ok (.ireturn, 1) := by decide +kernel
theorem dX12_isAngle_0 : decode cX12_isAngle 0 = .ok (.iload_n 1, 1) := by decide +kernel
theorem dX12_isAngle_1 : decode cX12_isAngle 1 = .ok (.iconst 0, 1) := by decide +kernel
theorem dX12_isAngle_2 : decode cX12_isAngle 2 = .ok (.aload_n 0, 1) := by decide +kernel
theorem dX12_isAngle_3 : decode cX12_isAngle 3 = .ok (.getfield 7, 3) := by decide +kernel
theorem dX12_isAngle_6 : decode cX12_isAngle 6 = .ok (.iconst 0, 1) := by decide +kernel
theorem dX12_isAngle_7 : decode cX12_isAngle 7 = .ok (.iaload, 1) := by decide +kernel
theorem dX12_isAngle_8 : decode cX12_isAngle 8 = .ok (.iconst 1, 1) := by decide +kernel
theorem dX12_isAngle_9 : decode cX12_isAngle 9 = .ok (.isub, 1) := by decide +kernel
theorem dX12_isAngle_10 : decode cX12_isAngle 10 = .ok (.invokestatic 70, 3) := by decide +kernel
theorem dX12_isAngle_13 : decode cX12_isAngle 13 = .ok (.ireturn, 1) := by decide +kernel
theorem dX12_isPlot_0 : decode cX12_isPlot 0 = .ok (.iload_n 1, 1) := by decide +kernel
theorem dX12_isPlot_1 : decode cX12_isPlot 1 = .ok (.iconst 0, 1) := by decide +kernel
theorem dX12_isPlot_2 : decode cX12_isPlot 2 = .ok (.aload_n 0, 1) := by decide +kernel
theorem dX12_isPlot_3 : decode cX12_isPlot 3 = .ok (.getfield 7, 3) := by decide +kernel
theorem dX12_isPlot_6 : decode cX12_isPlot 6 = .ok (.iconst 5, 1) := by decide +kernel
theorem dX12_isPlot_7 : decode cX12_isPlot 7 = .ok (.iaload, 1) := by decide +kernel
theorem dX12_isPlot_8 : decode cX12_isPlot 8 = .ok (.iconst 1, 1) := by decide +kernel
theorem dX12_isPlot_9 : decode cX12_isPlot 9 = .ok (.isub, 1) := by decide +kernel
theorem dX12_isPlot_10 : decode cX12_isPlot 10 = .ok (.invokestatic 70, 3) := by decide +kernel
theorem dX12_isPlot_13 : decode cX12_isPlot 13 = .ok (.ireturn, 1) := by decide +kernel
theorem dX12_isDay_0 : decode cX12_isDay 0 = .ok (.iload_n 0, 1) := by decide +kernel
theorem dX12_isDay_1 : decode cX12_isDay 1 = .ok (.iconst 0, 1) := by decide +kernel
theorem dX12_isDay_2 : decode cX12_isDay 2 = .ok (.sipush 9999, 3) := by decide +kernel
theorem dX12_isDay_5 : decode cX12_isDay 5 = .ok (.invokestatic 70, 3) := by decide +kernel
theorem dX12_isDay_8 : decode cX12_isDay 8 = .ok (.ireturn, 1) := by decide +kernel
theorem dX12_of0_0 : decode cX12_of0 0 = .ok (.aload_n 0, 1) := by decide +kernel
theorem dX12_of0_1 : decode cX12_of0 1 = .ok (.getfield 7, 3) := by decide +kernel
theorem dX12_of0_4 : decode cX12_of0 4 = .ok (.bipush 20, 2) := by decide +kernel
theorem dX12_of0_6 : decode cX12_of0 6 = .ok (.iconst 4, 1) := by decide +kernel
theorem dX12_of0_7 : decode cX12_of0 7 = .ok (.iload_n 1, 1) := by decide +kernel
theorem dX12_of0_8 : decode cX12_of0 8 = .ok (.imul, 1) := by decide +kernel
theorem dX12_of0_9 : decode cX12_of0 9 = .ok (.iadd, 1) := by decide +kernel
theorem dX12_of0_10 : decode cX12_of0 10 = .ok (.iload_n 2, 1) := by decide +kernel
theorem dX12_of0_11 : decode cX12_of0 11 = .ok (.iadd, 1) := by decide +kernel
theorem dX12_of0_12 : decode cX12_of0 12 = .ok (.iaload, 1) := by decide +kernel
theorem dX12_of0_13 : decode cX12_of0 13 = .ok (.ireturn, 1) := by decide +kernel
theorem dX12_gives_0 : decode cX12_gives 0 = .ok (.aload_n 0, 1) := by decide +kernel
theorem dX12_gives_1 : decode cX12_gives 1 = .ok (.getfield 7, 3) := by decide +kernel
theorem dX12_gives_4 : decode cX12_gives 4 = .ok (.bipush 20, 2) := by decide +kernel
theorem dX12_gives_6 : decode cX12_gives 6 = .ok (.iconst 4, 1) := by decide +kernel
theorem dX12_gives_7 : decode cX12_gives 7 = .ok (.iload_n 1, 1) := by decide +kernel
theorem dX12_gives_8 : decode cX12_gives 8 = .ok (.imul, 1) := by decide +kernel
theorem dX12_gives_9 : decode cX12_gives 9 = .ok (.iadd, 1) := by decide +kernel
theorem dX12_gives_10 : decode cX12_gives 10 = .ok (.iconst 3, 1) := by decide +kernel
theorem dX12_gives_11 : decode cX12_gives 11 = .ok (.iadd, 1) := by decide +kernel
theorem dX12_gives_12 : decode cX12_gives 12 = .ok (.dup2, 1) := by decide +kernel
theorem dX12_gives_13 : decode cX12_gives 13 = .ok (.iaload, 1) := by decide +kernel
theorem dX12_gives_14 : decode cX12_gives 14 = .ok (.iload_n 2, 1) := by decide +kernel
theorem dX12_gives_15 : decode cX12_gives 15 = .ok (.iadd, 1) := by decide +kernel
theorem dX12_gives_16 : decode cX12_gives 16 = .ok (.iastore, 1) := by decide +kernel
theorem dX12_gives_17 : decode cX12_gives 17 = .ok (.return_, 1) := by decide +kernel
theorem dX12_forgets_0 : decode cX12_forgets 0 = .ok (.aload_n 0, 1) := by decide +kernel
theorem dX12_forgets_1 : decode cX12_forgets 1 = .ok (.iconst 0, 1) := by decide +kernel
theorem dX12_forgets_2 : decode cX12_forgets 2 = .ok (.putfield 67, 3) := by decide +kernel
theorem dX12_forgets_5 : decode cX12_forgets 5 = .ok (.return_, 1) := by decide +kernel
theorem dX12_sky_0 : decode cX12_sky 0 = .ok (.iload_n 1, 1) := by decide +kernel
theorem dX12_sky_1 : decode cX12_sky 1 = .ok (.iconst 0, 1) := by decide +kernel
theorem dX12_sky_2 : decode cX12_sky 2 = .ok (.iconst 2, 1) := by decide +kernel
theorem dX12_sky_3 : decode cX12_sky 3 = .ok (.invokestatic 70, 3) := by decide +kernel
theorem dX12_sky_6 : decode cX12_sky 6 = .ok (.ifCond .eq 33, 3) := by decide +kernel
theorem dX12_sky_9 : decode cX12_sky 9 = .ok (.iload_n 2, 1) := by decide +kernel
theorem dX12_sky_10 : decode cX12_sky 10 = .ok (.iconst 0, 1) := by decide +kernel
theorem dX12_sky_11 : decode cX12_sky 11 = .ok (.bipush 11, 2) := by decide +kernel
theorem dX12_sky_13 : decode cX12_sky 13 = .ok (.invokestatic 70, 3) := by decide +kernel
theorem dX12_sky_16 : decode cX12_sky 16 = .ok (.ifCond .eq 23, 3) := by decide +kernel
theorem dX12_sky_19 : decode cX12_sky 19 = .ok (.aload_n 0, 1) := by decide +kernel
theorem dX12_sky_20 : decode cX12_sky 20 = .ok (.iload_n 3, 1) := by decide +kernel
theorem dX12_sky_21 : decode cX12_sky 21 = .ok (.invokevirtual 74, 3) := by decide +kernel
theorem dX12_sky_24 : decode cX12_sky 24 = .ok (.ifCond .eq 15, 3) := by decide +kernel
theorem dX12_sky_27 : decode cX12_sky 27 = .ok (.iload 4, 2) := by decide +kernel
theorem dX12_sky_29 : decode cX12_sky 29 = .ok (.bipush (-9), 2) := by decide +kernel
theorem dX12_sky_31 : decode cX12_sky 31 = .ok (.bipush 9, 2) := by decide +kernel
theorem dX12_sky_33 : decode cX12_sky 33 = .ok (.invokestatic 70, 3) := by decide +kernel
theorem dX12_sky_36 : decode cX12_sky 36 = .ok (.ifCond .ne 5, 3) := by decide +kernel
theorem dX12_sky_39 : decode cX12_sky 39 = .ok (.iconst 0, 1) := by decide +kernel
theorem dX12_sky_40 : decode cX12_sky 40 = .ok (.ireturn, 1) := by decide +kernel
theorem dX12_sky_41 : decode cX12_sky 41 = .ok (.aload_n 0, 1) := by decide +kernel
theorem dX12_sky_42 : decode cX12_sky 42 = .ok (.getfield 7, 3) := by decide +kernel
theorem dX12_sky_45 : decode cX12_sky 45 = .ok (.sipush 620, 3) := by decide +kernel
theorem dX12_sky_48 : decode cX12_sky 48 = .ok (.bipush 24, 2) := by decide +kernel
theorem dX12_sky_50 : decode cX12_sky 50 = .ok (.bipush 12, 2) := by decide +kernel
theorem dX12_sky_52 : decode cX12_sky 52 = .ok (.iload_n 1, 1) := by decide +kernel
theorem dX12_sky_53 : decode cX12_sky 53 = .ok (.imul, 1) := by decide +kernel
theorem dX12_sky_54 : decode cX12_sky 54 = .ok (.iload_n 2, 1) := by decide +kernel
theorem dX12_sky_55 : decode cX12_sky 55 = .ok (.iadd, 1) := by decide +kernel
theorem dX12_sky_56 : decode cX12_sky 56 = .ok (.imul, 1) := by decide +kernel
theorem dX12_sky_57 : decode cX12_sky 57 = .ok (.iadd, 1) := by decide +kernel
theorem dX12_sky_58 : decode cX12_sky 58 = .ok (.iload_n 3, 1) := by decide +kernel
theorem dX12_sky_59 : decode cX12_sky 59 = .ok (.iadd, 1) := by decide +kernel
theorem dX12_sky_60 : decode cX12_sky 60 = .ok (.iload 4, 2) := by decide +kernel
theorem dX12_sky_62 : decode cX12_sky 62 = .ok (.iastore, 1) := by decide +kernel
theorem dX12_sky_63 : decode cX12_sky 63 = .ok (.aload_n 0, 1) := by decide +kernel
theorem dX12_sky_64 : decode cX12_sky 64 = .ok (.invokevirtual 78, 3) := by decide +kernel
theorem dX12_sky_67 : decode cX12_sky 67 = .ok (.iconst 1, 1) := by decide +kernel
theorem dX12_sky_68 : decode cX12_sky 68 = .ok (.ireturn, 1) := by decide +kernel
theorem dX12_plot_0 : decode cX12_plot 0 = .ok (.aload_n 0, 1) := by decide +kernel
theorem dX12_plot_1 : decode cX12_plot 1 = .ok (.iload_n 1, 1) := by decide +kernel
theorem dX12_plot_2 : decode cX12_plot 2 = .ok (.invokevirtual 74, 3) := by decide +kernel
theorem dX12_plot_5 : decode cX12_plot 5 = .ok (.ifCond .eq 45, 3) := by decide +kernel
theorem dX12_plot_8 : decode cX12_plot 8 = .ok (.iload_n 2, 1) := by decide +kernel
theorem dX12_plot_9 : decode cX12_plot 9 = .ok (.iconst 1, 1) := by decide +kernel
theorem dX12_plot_10 : decode cX12_plot 10 = .ok (.bipush 9, 2) := by decide +kernel
theorem dX12_plot_12 : decode cX12_plot 12 = .ok (.invokestatic 70, 3) := by decide +kernel
theorem dX12_plot_15 : decode cX12_plot 15 = .ok (.ifCond .eq 35, 3) := by decide +kernel
theorem dX12_plot_18 : decode cX12_plot 18 = .ok (.iload_n 3, 1) := by decide +kernel
theorem dX12_plot_19 : decode cX12_plot 19 = .ok (.iconst 0, 1) := by decide +kernel
theorem dX12_plot_20 : decode cX12_plot 20 = .ok (.iconst 4, 1) := by decide +kernel
theorem dX12_plot_21 : decode cX12_plot 21 = .ok (.invokestatic 70, 3) := by decide +kernel
theorem dX12_plot_24 : decode cX12_plot 24 = .ok (.ifCond .eq 26, 3) := by decide +kernel
theorem dX12_plot_27 : decode cX12_plot 27 = .ok (.iload 4, 2) := by decide +kernel
theorem dX12_plot_29 : decode cX12_plot 29 = .ok (.ldc 81, 2) := by decide +kernel
theorem dX12_plot_31 : decode cX12_plot 31 = .ok (.ldc 82, 2) := by decide +kernel
theorem dX12_plot_33 : decode cX12_plot 33 = .ok (.invokestatic 70, 3) := by decide +kernel
theorem dX12_plot_36 : decode cX12_plot 36 = .ok (.ifCond .eq 14, 3) := by decide +kernel
theorem dX12_plot_39 : decode cX12_plot 39 = .ok (.aload_n 0, 1) := by decide +kernel
theorem dX12_plot_40 : decode cX12_plot 40 = .ok (.getfield 7, 3) := by decide +kernel
theorem dX12_plot_43 : decode cX12_plot 43 = .ok (.iconst 5, 1) := by decide +kernel
theorem dX12_plot_44 : decode cX12_plot 44 = .ok (.iaload, 1) := by decide +kernel
theorem dX12_plot_45 : decode cX12_plot 45 = .ok (.bipush 10, 2) := by decide +kernel
theorem dX12_plot_47 : decode cX12_plot 47 = .ok (.if_icmp .ne 5, 3) := by decide +kernel
theorem dX12_plot_50 : decode cX12_plot 50 = .ok (.iconst (-1), 1) := by decide +kernel
theorem dX12_plot_51 : decode cX12_plot 51 = .ok (.ireturn, 1) := by decide +kernel
theorem dX12_plot_52 : decode cX12_plot 52 = .ok (.bipush 20, 2) := by decide +kernel
theorem dX12_plot_54 : decode cX12_plot 54 = .ok (.iconst 4, 1) := by decide +kernel
theorem dX12_plot_55 : decode cX12_plot 55 = .ok (.aload_n 0, 1) := by decide +kernel
theorem dX12_plot_56 : decode cX12_plot 56 = .ok (.getfield 7, 3) := by decide +kernel
theorem dX12_plot_59 : decode cX12_plot 59 = .ok (.iconst 5, 1) := by decide +kernel
theorem dX12_plot_60 : decode cX12_plot 60 = .ok (.iaload, 1) := by decide +kernel
theorem dX12_plot_61 : decode cX12_plot 61 = .ok (.imul, 1) := by decide +kernel
theorem dX12_plot_62 : decode cX12_plot 62 = .ok (.iadd, 1) := by decide +kernel
theorem dX12_plot_63 : decode cX12_plot 63 = .ok (.istore 5, 2) := by decide +kernel
theorem dX12_plot_65 : decode cX12_plot 65 = .ok (.aload_n 0, 1) := by decide +kernel
theorem dX12_plot_66 : decode cX12_plot 66 = .ok (.getfield 7, 3) := by decide +kernel
theorem dX12_plot_69 : decode cX12_plot 69 = .ok (.iload 5, 2) := by decide +kernel
theorem dX12_plot_71 : decode cX12_plot 71 = .ok (.iconst 0, 1) := by decide +kernel
theorem dX12_plot_72 : decode cX12_plot 72 = .ok (.iadd, 1) := by decide +kernel
theorem dX12_plot_73 : decode cX12_plot 73 = .ok (.iload_n 1, 1) := by decide +kernel
theorem dX12_plot_74 : decode cX12_plot 74 = .ok (.iastore, 1) := by decide +kernel
theorem dX12_plot_75 : decode cX12_plot 75 = .ok (.aload_n 0, 1) := by decide +kernel
theorem dX12_plot_76 : decode cX12_plot 76 = .ok (.getfield 7, 3) := by decide +kernel
theorem dX12_plot_79 : decode cX12_plot 79 = .ok (.iload 5, 2) := by decide +kernel
theorem dX12_plot_81 : decode cX12_plot 81 = .ok (.iconst 1, 1) := by decide +kernel
theorem dX12_plot_82 : decode cX12_plot 82 = .ok (.iadd, 1) := by decide +kernel
theorem dX12_plot_83 : decode cX12_plot 83 = .ok (.iload_n 2, 1) := by decide +kernel
theorem dX12_plot_84 : decode cX12_plot 84 = .ok (.iastore, 1) := by decide +kernel
theorem dX12_plot_85 : decode cX12_plot 85 = .ok (.aload_n 0, 1) := by decide +kernel
theorem dX12_plot_86 : decode cX12_plot 86 = .ok (.getfield 7, 3) := by decide +kernel
theorem dX12_plot_89 : decode cX12_plot 89 = .ok (.iload 5, 2) := by decide +kernel
theorem dX12_plot_91 : decode cX12_plot 91 = .ok (.iconst 2, 1) := by decide +kernel
theorem dX12_plot_92 : decode cX12_plot 92 = .ok (.iadd, 1) := by decide +kernel
theorem dX12_plot_93 : decode cX12_plot 93 = .ok (.iload_n 3, 1) := by decide +kernel
theorem dX12_plot_94 : decode cX12_plot 94 = .ok (.iastore, 1) := by decide +kernel
theorem dX12_plot_95 : decode cX12_plot 95 = .ok (.aload_n 0, 1) := by decide +kernel
theorem dX12_plot_96 : decode cX12_plot 96 = .ok (.getfield 7, 3) := by decide +kernel
theorem dX12_plot_99 : decode cX12_plot 99 = .ok (.iload 5, 2) := by decide +kernel
theorem dX12_plot_101 : decode cX12_plot 101 = .ok (.iconst 3, 1) := by decide +kernel
theorem dX12_plot_102 : decode cX12_plot 102 = .ok (.iadd, 1) := by decide +kernel
theorem dX12_plot_103 : decode cX12_plot 103 = .ok (.iload 4, 2) := by decide +kernel
theorem dX12_plot_105 : decode cX12_plot 105 = .ok (.iastore, 1) := by decide +kernel
theorem dX12_plot_106 : decode cX12_plot 106 = .ok (.aload_n 0, 1) := by decide +kernel
theorem dX12_plot_107 : decode cX12_plot 107 = .ok (.getfield 7, 3) := by decide +kernel
theorem dX12_plot_110 : decode cX12_plot 110 = .ok (.iconst 5, 1) := by decide +kernel
theorem dX12_plot_111 : decode cX12_plot 111 = .ok (.dup2, 1) := by decide +kernel
theorem dX12_plot_112 : decode cX12_plot 112 = .ok (.iaload, 1) := by decide +kernel
theorem dX12_plot_113 : decode cX12_plot 113 = .ok (.iconst 1, 1) := by decide +kernel
theorem dX12_plot_114 : decode cX12_plot 114 = .ok (.iadd, 1) := by decide +kernel
theorem dX12_plot_115 : decode cX12_plot 115 = .ok (.iastore, 1) := by decide +kernel
theorem dX12_plot_116 : decode cX12_plot 116 = .ok (.aload_n 0, 1) := by decide +kernel
theorem dX12_plot_117 : decode cX12_plot 117 = .ok (.invokevirtual 78, 3) := by decide +kernel
theorem dX12_plot_120 : decode cX12_plot 120 = .ok (.aload_n 0, 1) := by decide +kernel
theorem dX12_plot_121 : decode cX12_plot 121 = .ok (.getfield 7, 3) := by decide +kernel
theorem dX12_plot_124 : decode cX12_plot 124 = .ok (.iconst 5, 1) := by decide +kernel
theorem dX12_plot_125 : decode cX12_plot 125 = .ok (.iaload, 1) := by decide +kernel
theorem dX12_plot_126 : decode cX12_plot 126 = .ok (.iconst 1, 1) := by decide +kernel
theorem dX12_plot_127 : decode cX12_plot 127 = .ok (.isub, 1) := by decide +kernel
theorem dX12_plot_128 : decode cX12_plot 128 = .ok (.ireturn, 1) := by decide +kernel
theorem dX12_set_0 : decode cX12_set 0 = .ok (.iload_n 1, 1) := by decide +kernel
theorem dX12_set_1 : decode cX12_set 1 = .ok (.iconst 0, 1) := by decide +kernel
theorem dX12_set_2 : decode cX12_set 2 = .ok (.iconst 3, 1) := by decide +kernel
theorem dX12_set_3 : decode cX12_set 3 = .ok (.invokestatic 70, 3) := by decide +kernel
theorem dX12_set_6 : decode cX12_set 6 = .ok (.ifCond .ne 5, 3) := by decide +kernel
theorem dX12_set_9 : decode cX12_set 9 = .ok (.iconst 0, 1) := by decide +kernel
theorem dX12_set_10 : decode cX12_set 10 = .ok (.ireturn, 1) := by decide +kernel
theorem dX12_set_11 : decode cX12_set 11 = .ok (.iload_n 1, 1) := by decide +kernel
theorem dX12_set_12 : decode cX12_set 12 = .ok (.ifCond .ne 14, 3) := by decide +kernel
theorem dX12_set_15 : decode cX12_set 15 = .ok (.aload_n 0, 1) := by decide +kernel
theorem dX12_set_16 : decode cX12_set 16 = .ok (.getfield 7, 3) := by decide +kernel
theorem dX12_set_19 : decode cX12_set 19 = .ok (.iconst 0, 1) := by decide +kernel
theorem dX12_set_20 : decode cX12_set 20 = .ok (.iaload, 1) := by decide +kernel
theorem dX12_set_21 : decode cX12_set 21 = .ok (.iconst 1, 1) := by decide +kernel
theorem dX12_set_22 : decode cX12_set 22 = .ok (.isub, 1) := by decide +kernel
theorem dX12_set_23 : decode cX12_set 23 = .ok (.goto 27, 3) := by decide +kernel
theorem dX12_set_26 : decode cX12_set 26 = .ok (.iload_n 1, 1) := by decide +kernel
theorem dX12_set_27 : decode cX12_set 27 = .ok (.iconst 1, 1) := by decide +kernel
theorem dX12_set_28 : decode cX12_set 28 = .ok (.if_icmp .ne 9, 3) := by decide +kernel
theorem dX12_set_31 : decode cX12_set 31 = .ok (.sipush 9999, 3) := by decide +kernel
theorem dX12_set_34 : decode cX12_set 34 = .ok (.goto 16, 3) := by decide +kernel
theorem dX12_set_37 : decode cX12_set 37 = .ok (.iload_n 1, 1) := by decide +kernel
theorem dX12_set_38 : decode cX12_set 38 = .ok (.iconst 2, 1) := by decide +kernel
theorem dX12_set_39 : decode cX12_set 39 = .ok (.if_icmp .ne 9, 3) := by decide +kernel
theorem dX12_set_42 : decode cX12_set 42 = .ok (.sipush 999, 3) := by decide +kernel
theorem dX12_set_45 : decode cX12_set 45 = .ok (.goto 5, 3) := by decide +kernel
theorem dX12_set_48 : decode cX12_set 48 = .ok (.bipush 99, 2) := by decide +kernel
theorem dX12_set_50 : decode cX12_set 50 = .ok (.istore_n 3, 1) := by decide +kernel
theorem dX12_set_51 : decode cX12_set 51 = .ok (.iload_n 2, 1) := by decide +kernel
theorem dX12_set_52 : decode cX12_set 52 = .ok (.iconst 0, 1) := by decide +kernel
theorem dX12_set_53 : decode cX12_set 53 = .ok (.iload_n 3, 1) := by decide +kernel
theorem dX12_set_54 : decode cX12_set 54 = .ok (.invokestatic 70, 3) := by decide +kernel
theorem dX12_set_57 : decode cX12_set 57 = .ok (.ifCond .ne 5, 3) := by decide +kernel
theorem dX12_set_60 : decode cX12_set 60 = .ok (.iconst 0, 1) := by decide +kernel
theorem dX12_set_61 : decode cX12_set 61 = .ok (.ireturn, 1) := by decide +kernel
theorem dX12_set_62 : decode cX12_set 62 = .ok (.aload_n 0, 1) := by decide +kernel
theorem dX12_set_63 : decode cX12_set 63 = .ok (.getfield 7, 3) := by decide +kernel
theorem dX12_set_66 : decode cX12_set 66 = .ok (.iconst 1, 1) := by decide +kernel
theorem dX12_set_67 : decode cX12_set 67 = .ok (.iload_n 1, 1) := by decide +kernel
theorem dX12_set_68 : decode cX12_set 68 = .ok (.iadd, 1) := by decide +kernel
theorem dX12_set_69 : decode cX12_set 69 = .ok (.iload_n 2, 1) := by decide +kernel
theorem dX12_set_70 : decode cX12_set 70 = .ok (.iastore, 1) := by decide +kernel
theorem dX12_set_71 : decode cX12_set 71 = .ok (.iload_n 1, 1) := by decide +kernel
theorem dX12_set_72 : decode cX12_set 72 = .ok (.iconst 1, 1) := by decide +kernel
theorem dX12_set_73 : decode cX12_set 73 = .ok (.if_icmp .ne 11, 3) := by decide +kernel
theorem dX12_set_76 : decode cX12_set 76 = .ok (.aload_n 0, 1) := by decide +kernel
theorem dX12_set_77 : decode cX12_set 77 = .ok (.getfield 7, 3) := by decide +kernel
theorem dX12_set_80 : decode cX12_set 80 = .ok (.bipush 9, 2) := by decide +kernel
theorem dX12_set_82 : decode cX12_set 82 = .ok (.iconst 0, 1) := by decide +kernel
theorem dX12_set_83 : decode cX12_set 83 = .ok (.iastore, 1) := by decide +kernel
theorem dX12_set_84 : decode cX12_set 84 = .ok (.aload_n 0, 1) := by decide +kernel
theorem dX12_set_85 : decode cX12_set 85 = .ok (.invokevirtual 78, 3) := by decide +kernel
theorem dX12_set_88 : decode cX12_set 88 = .ok (.iconst 1, 1) := by decide +kernel
theorem dX12_set_89 : decode cX12_set 89 = .ok (.ireturn, 1) := by decide +kernel
theorem dX12_feed_0 : decode cX12_feed 0 = .ok (.aload_n 0, 1) := by decide +kernel
theorem dX12_feed_1 : decode cX12_feed 1 = .ok (.getfield 83, 3) := by decide +kernel
theorem dX12_feed_4 : decode cX12_feed 4 = .ok (.bipush 20, 2) := by decide +kernel
theorem dX12_feed_6 : decode cX12_feed 6 = .ok (.iadd, 1) := by decide +kernel
theorem dX12_feed_7 : decode cX12_feed 7 = .ok (.sipush 400, 3) := by decide +kernel
theorem dX12_feed_10 : decode cX12_feed 10 = .ok (.if_icmp .le 5, 3) := by decide +kernel
theorem dX12_feed_13 : decode cX12_feed 13 = .ok (.iconst (-1), 1) := by decide +kernel
theorem dX12_feed_14 : decode cX12_feed 14 = .ok (.ireturn, 1) := by decide +kernel
theorem dX12_feed_15 : decode cX12_feed 15 = .ok (.iconst 0, 1) := by decide +kernel
theorem dX12_feed_16 : decode cX12_feed 16 = .ok (.istore 6, 2) := by decide +kernel
theorem dX12_feed_18 : decode cX12_feed 18 = .ok (.iload 6, 2) := by decide +kernel
theorem dX12_feed_20 : decode cX12_feed 20 = .ok (.bipush 20, 2) := by decide +kernel
theorem dX12_feed_22 : decode cX12_feed 22 = .ok (.if_icmp .ge 93, 3) := by decide +kernel
theorem dX12_feed_25 : decode cX12_feed 25 = .ok (.iload 6, 2) := by decide +kernel
theorem dX12_feed_27 : decode cX12_feed 27 = .ok (.iconst 4, 1) := by decide +kernel
theorem dX12_feed_28 : decode cX12_feed 28 = .ok (.if_icmp .ge 7, 3) := by decide +kernel
theorem dX12_feed_31 : decode cX12_feed 31 = .ok (.iload_n 1, 1) := by decide +kernel
theorem dX12_feed_32 : decode cX12_feed 32 = .ok (.goto 39, 3) := by decide +kernel
theorem dX12_feed_35 : decode cX12_feed 35 = .ok (.iload 6, 2) := by decide +kernel
theorem dX12_feed_37 : decode cX12_feed 37 = .ok (.bipush 8, 2) := by decide +kernel
theorem dX12_feed_39 : decode cX12_feed 39 = .ok (.if_icmp .ge 7, 3) := by decide +kernel
theorem dX12_feed_42 : decode cX12_feed 42 = .ok (.iload_n 2, 1) := by decide +kernel
theorem dX12_feed_43 : decode cX12_feed 43 = .ok (.goto 28, 3) := by decide +kernel
theorem dX12_feed_46 : decode cX12_feed 46 = .ok (.iload 6, 2) := by decide +kernel
theorem dX12_feed_48 : decode cX12_feed 48 = .ok (.bipush 12, 2) := by decide +kernel
theorem dX12_feed_50 : decode cX12_feed 50 = .ok (.if_icmp .ge 7, 3) := by decide +kernel
theorem dX12_feed_53 : decode cX12_feed 53 = .ok (.iload_n 3, 1) := by decide +kernel
theorem dX12_feed_54 : decode cX12_feed 54 = .ok (.goto 17, 3) := by decide +kernel
theorem dX12_feed_57 : decode cX12_feed 57 = .ok (.iload 6, 2) := by decide +kernel
theorem dX12_feed_59 : decode cX12_feed 59 = .ok (.bipush 16, 2) := by decide +kernel
theorem dX12_feed_61 : decode cX12_feed 61 = .ok (.if_icmp .ge 8, 3) := by decide +kernel
theorem dX12_feed_64 : decode cX12_feed 64 = .ok (.iload 4, 2) := by decide +kernel
theorem dX12_feed_66 : decode cX12_feed 66 = .ok (.goto 5, 3) := by decide +kernel
theorem dX12_feed_69 : decode cX12_feed 69 = .ok (.iload 5, 2) := by decide +kernel
theorem dX12_feed_71 : decode cX12_feed 71 = .ok (.istore 7, 2) := by decide +kernel
theorem dX12_feed_73 : decode cX12_feed 73 = .ok (.aload_n 0, 1) := by decide +kernel
theorem dX12_feed_74 : decode cX12_feed 74 = .ok (.getfield 25, 3) := by decide +kernel
theorem dX12_feed_77 : decode cX12_feed 77 = .ok (.aload_n 0, 1) := by decide +kernel
theorem dX12_feed_78 : decode cX12_feed 78 = .ok (.getfield 83, 3) := by decide +kernel
theorem dX12_feed_81 : decode cX12_feed 81 = .ok (.iload 7, 2) := by decide +kernel
theorem dX12_feed_83 : decode cX12_feed 83 = .ok (.bipush 24, 2) := by decide +kernel
theorem dX12_feed_85 : decode cX12_feed 85 = .ok (.bipush 8, 2) := by decide +kernel
theorem dX12_feed_87 : decode cX12_feed 87 = .ok (.iload 6, 2) := by decide +kernel
theorem dX12_feed_89 : decode cX12_feed 89 = .ok (.iconst 4, 1) := by decide +kernel
theorem dX12_feed_90 : decode cX12_feed 90 = .ok (.irem, 1) := by decide +kernel
theorem dX12_feed_91 : decode cX12_feed 91 = .ok (.imul, 1) := by decide +kernel
theorem dX12_feed_92 : decode cX12_feed 92 = .ok (.isub, 1) := by decide +kernel
theorem dX12_feed_93 : decode cX12_feed 93 = .ok (.ishr, 1) := by decide +kernel
theorem dX12_feed_94 : decode cX12_feed 94 = .ok (.sipush 255, 3) := by decide +kernel
theorem dX12_feed_97 : decode cX12_feed 97 = .ok (.iand, 1) := by decide +kernel
theorem dX12_feed_98 : decode cX12_feed 98 = .ok (.iastore, 1) := by decide +kernel
theorem dX12_feed_99 : decode cX12_feed 99 = .ok (.aload_n 0, 1) := by decide +kernel
theorem dX12_feed_100 : decode cX12_feed 100 = .ok (.dup, 1) := by decide +kernel
theorem dX12_feed_101 : decode cX12_feed 101 = .ok (.getfield 83, 3) := by decide +kernel
theorem dX12_feed_104 : decode cX12_feed 104 = .ok (.iconst 1, 1) := by decide +kernel
theorem dX12_feed_105 : decode cX12_feed 105 = .ok (.iadd, 1) := by decide +kernel
theorem dX12_feed_106 : decode cX12_feed 106 = .ok (.putfield 83, 3) := by decide +kernel
theorem dX12_feed_109 : decode cX12_feed 109 = .ok (.iinc 6 1, 3) := by decide +kernel
theorem dX12_feed_112 : decode cX12_feed 112 = .ok (.goto (-94), 3) := by decide +kernel
theorem dX12_feed_115 : decode cX12_feed 115 = .ok (.aload_n 0, 1) := by decide +kernel
theorem dX12_feed_116 : decode cX12_feed 116 = .ok (.getfield 83, 3) := by decide +kernel
theorem dX12_feed_119 : decode cX12_feed 119 = .ok (.ireturn, 1) := by decide +kernel
theorem dX12_end_0 : decode cX12_end 0 = .ok (.iload_n 1, 1) := by decide +kernel
theorem dX12_end_1 : decode cX12_end 1 = .ok (.iconst 0, 1) := by decide +kernel
theorem dX12_end_2 : decode cX12_end 2 = .ok (.aload_n 0, 1) := by decide +kernel
theorem dX12_end_3 : decode cX12_end 3 = .ok (.getfield 83, 3) := by decide +kernel
theorem dX12_end_6 : decode cX12_end 6 = .ok (.invokestatic 70, 3) := by decide +kernel
theorem dX12_end_9 : decode cX12_end 9 = .ok (.ifCond .ne 5, 3) := by decide +kernel
theorem dX12_end_12 : decode cX12_end 12 = .ok (.iconst 0, 1) := by decide +kernel
theorem dX12_end_13 : decode cX12_end 13 = .ok (.ireturn, 1) := by decide +kernel
theorem dX12_end_14 : decode cX12_end 14 = .ok (.aload_n 0, 1) := by decide +kernel
theorem dX12_end_15 : decode cX12_end 15 = .ok (.iload_n 1, 1) := by decide +kernel
theorem dX12_end_16 : decode cX12_end 16 = .ok (.putfield 83, 3) := by decide +kernel
theorem dX12_end_19 : decode cX12_end 19 = .ok (.iconst 1, 1) := by decide +kernel
theorem dX12_end_20 : decode cX12_end 20 = .ok (.ireturn, 1) := by decide +kernel
theorem dX12_see_0 : decode cX12_see 0 = .ok (.iload_n 1, 1) := by decide +kernel
theorem dX12_see_1 : decode cX12_see 1 = .ok (.aload_n 0, 1) := by decide +kernel
theorem dX12_see_2 : decode cX12_see 2 = .ok (.getfield 83, 3) := by decide +kernel
theorem dX12_see_5 : decode cX12_see 5 = .ok (.if_icmp .ge 12, 3) := by decide +kernel
theorem dX12_see_8 : decode cX12_see 8 = .ok (.aload_n 0, 1) := by decide +kernel
theorem dX12_see_9 : decode cX12_see 9 = .ok (.getfield 25, 3) := by decide +kernel
theorem dX12_see_12 : decode cX12_see 12 = .ok (.iload_n 1, 1) := by decide +kernel
theorem dX12_see_13 : decode cX12_see 13 = .ok (.iaload, 1) := by decide +kernel
theorem dX12_see_14 : decode cX12_see 14 = .ok (.goto 4, 3) := by decide +kernel
theorem dX12_see_17 : decode cX12_see 17 = .ok (.iconst (-1), 1) := by decide +kernel
theorem dX12_see_18 : decode cX12_see 18 = .ok (.ireturn, 1) := by decide +kernel
theorem dX12_isLetter_0 : decode cX12_isLetter 0 = .ok (.iload_n 0, 1) := by decide +kernel
theorem dX12_isLetter_1 : decode cX12_isLetter 1 = .ok (.bipush 97, 2) := by decide +kernel
theorem dX12_isLetter_3 : decode cX12_isLetter 3 = .ok (.bipush 122, 2) := by decide +kernel
theorem dX12_isLetter_5 : decode cX12_isLetter 5 = .ok (.invokestatic 70, 3) := by decide +kernel
theorem dX12_isLetter_8 : decode cX12_isLetter 8 = .ok (.ifCond .ne 14, 3) := by decide +kernel
theorem dX12_isLetter_11 : decode cX12_isLetter 11 = .ok (.iload_n 0, 1) := by decide +kernel
theorem dX12_isLetter_12 : decode cX12_isLetter 12 = .ok (.bipush 65, 2) := by decide +kernel
theorem dX12_isLetter_14 : decode cX12_isLetter 14 = .ok (.bipush 90, 2) := by decide +kernel
theorem dX12_isLetter_16 : decode cX12_isLetter 16 = .ok (.invokestatic 70, 3) := by decide +kernel
theorem dX12_isLetter_19 : decode cX12_isLetter 19 = .ok (.ifCond .eq 7, 3) := by decide +kernel
theorem dX12_isLetter_22 : decode cX12_isLetter 22 = .ok (.iconst 1, 1) := by decide +kernel
theorem dX12_isLetter_23 : decode cX12_isLetter 23 = .ok (.goto 4, 3) := by decide +kernel
theorem dX12_isLetter_26 : decode cX12_isLetter 26 = .ok (.iconst 0, 1) := by decide +kernel
theorem dX12_isLetter_27 : decode cX12_isLetter 27 = .ok (.ireturn, 1) := by decide +kernel
theorem dX12_isDigit_0 : decode cX12_isDigit 0 = .ok (.iload_n 0, 1) := by decide +kernel
theorem dX12_isDigit_1 : decode cX12_isDigit 1 = .ok (.bipush 48, 2) := by decide +kernel
theorem dX12_isDigit_3 : decode cX12_isDigit 3 = .ok (.bipush 57, 2) := by decide +kernel
theorem dX12_isDigit_5 : decode cX12_isDigit 5 = .ok (.invokestatic 70, 3) := by decide +kernel
theorem dX12_isDigit_8 : decode cX12_isDigit 8 = .ok (.ireturn, 1) := by decide +kernel
theorem dX12_is_0 : decode cX12_is 0 = .ok (.aload_n 0, 1) := by decide +kernel
theorem dX12_is_1 : decode cX12_is 1 = .ok (.getfield 86, 3) := by decide +kernel
theorem dX12_is_4 : decode cX12_is 4 = .ok (.aload_n 0, 1) := by decide +kernel
theorem dX12_is_5 : decode cX12_is 5 = .ok (.getfield 89, 3) := by decide +kernel
theorem dX12_is_8 : decode cX12_is 8 = .ok (.isub, 1) := by decide +kernel
theorem dX12_is_9 : decode cX12_is 9 = .ok (.aload_n 1, 1) := by decide +kernel
theorem dX12_is_10 : decode cX12_is 10 = .ok (.invokevirtual 92, 3) := by decide +kernel
theorem dX12_is_13 : decode cX12_is 13 = .ok (.if_icmp .ne 7, 3) := by decide +kernel
theorem dX12_is_16 : decode cX12_is 16 = .ok (.iconst 1, 1) := by decide +kernel
theorem dX12_is_17 : decode cX12_is 17 = .ok (.goto 4, 3) := by decide +kernel
theorem dX12_is_20 : decode cX12_is 20 = .ok (.iconst 0, 1) := by decide +kernel
theorem dX12_is_21 : decode cX12_is 21 = .ok (.istore_n 2, 1) := by decide +kernel
theorem dX12_is_22 : decode cX12_is 22 = .ok (.iconst 0, 1) := by decide +kernel
theorem dX12_is_23 : decode cX12_is 23 = .ok (.istore_n 3, 1) := by decide +kernel
theorem dX12_is_24 : decode cX12_is 24 = .ok (.iload_n 3, 1) := by decide +kernel
theorem dX12_is_25 : decode cX12_is 25 = .ok (.aload_n 1, 1) := by decide +kernel
theorem dX12_is_26 : decode cX12_is 26 = .ok (.invokevirtual 92, 3) := by decide +kernel
theorem dX12_is_29 : decode cX12_is 29 = .ok (.if_icmp .ge 38, 3) := by decide +kernel
theorem dX12_is_32 : decode cX12_is 32 = .ok (.iload_n 2, 1) := by decide +kernel
theorem dX12_is_33 : decode cX12_is 33 = .ok (.ifCond .eq 34, 3) := by decide +kernel
theorem dX12_is_36 : decode cX12_is 36 = .ok (.aload_n 0, 1) := by decide +kernel
theorem dX12_is_37 : decode cX12_is 37 = .ok (.getfield 25, 3) := by decide +kernel
theorem dX12_is_40 : decode cX12_is 40 = .ok (.aload_n 0, 1) := by decide +kernel
theorem dX12_is_41 : decode cX12_is 41 = .ok (.getfield 89, 3) := by decide +kernel
theorem dX12_is_44 : decode cX12_is 44 = .ok (.iload_n 3, 1) := by decide +kernel
theorem dX12_is_45 : decode cX12_is 45 = .ok (.iadd, 1) := by decide +kernel
theorem dX12_is_46 : decode cX12_is 46 = .ok (.iaload, 1) := by decide +kernel
theorem dX12_is_47 : decode cX12_is 47 = .ok (.aload_n 1, 1) := by decide +kernel
theorem dX12_is_48 : decode cX12_is 48 = .ok (.iload_n 3, 1) := by decide +kernel
theorem dX12_is_49 : decode cX12_is 49 = .ok (.invokevirtual 98, 3) := by decide +kernel
theorem dX12_is_52 : decode cX12_is 52 = .ok (.if_icmp .ne 7, 3) := by decide +kernel
theorem dX12_is_55 : decode cX12_is 55 = .ok (.iconst 1, 1) := by decide +kernel
theorem dX12_is_56 : decode cX12_is 56 = .ok (.goto 4, 3) := by decide +kernel
theorem dX12_is_59 : decode cX12_is 59 = .ok (.iconst 0, 1) := by decide +kernel
theorem dX12_is_60 : decode cX12_is 60 = .ok (.istore_n 2, 1) := by decide +kernel
theorem dX12_is_61 : decode cX12_is 61 = .ok (.iinc 3 1, 3) := by decide +kernel
theorem dX12_is_64 : decode cX12_is 64 = .ok (.goto (-40), 3) := by decide +kernel
theorem dX12_is_67 : decode cX12_is 67 = .ok (.iload_n 2, 1) := by decide +kernel
theorem dX12_is_68 : decode cX12_is 68 = .ok (.ireturn, 1) := by decide +kernel
theorem dX12_nameWord_0 : decode cX12_nameWord 0 = .ok (.aload_n 0, 1) := by decide +kernel
theorem dX12_nameWord_1 : decode cX12_nameWord 1 = .ok (.ldc 102, 2) := by decide +kernel
theorem dX12_nameWord_3 : decode cX12_nameWord 3 = .ok (.invokevirtual 104, 3) := by decide +kernel
theorem dX12_nameWord_6 : decode cX12_nameWord 6 = .ok (.ifCond .eq 6, 3) := by decide +kernel
theorem dX12_nameWord_9 : decode cX12_nameWord 9 = .ok (.bipush 41, 2) := by decide +kernel
theorem dX12_nameWord_11 : decode cX12_nameWord 11 = .ok (.ireturn, 1) := by decide +kernel
theorem dX12_nameWord_12 : decode cX12_nameWord 12 = .ok (.aload_n 0, 1) := by decide +kernel
theorem dX12_nameWord_13 : decode cX12_nameWord 13 = .ok (.ldc 108, 2) := by decide +kernel
theorem dX12_nameWord_15 : decode cX12_nameWord 15 = .ok (.invokevirtual 104, 3) := by decide +kernel
theorem dX12_nameWord_18 : decode cX12_nameWord 18 = .ok (.ifCond .eq 6, 3) := by decide +kernel
theorem dX12_nameWord_21 : decode cX12_nameWord 21 = .ok (.bipush 42, 2) := by decide +kernel
theorem dX12_nameWord_23 : decode cX12_nameWord 23 = .ok (.ireturn, 1) := by decide +kernel
theorem dX12_nameWord_24 : decode cX12_nameWord 24 = .ok (.aload_n 0, 1) := by decide +kernel
theorem dX12_nameWord_25 : decode cX12_nameWord 25 = .ok (.ldc 110, 2) := by decide +kernel
theorem dX12_nameWord_27 : decode cX12_nameWord 27 = .ok (.invokevirtual 104, 3) := by decide +kernel
theorem dX12_nameWord_30 : decode cX12_nameWord 30 = .ok (.ifCond .eq 6, 3) := by decide +kernel
theorem dX12_nameWord_33 : decode cX12_nameWord 33 = .ok (.bipush 43, 2) := by decide +kernel
theorem dX12_nameWord_35 : decode cX12_nameWord 35 = .ok (.ireturn, 1) := by decide +kernel
theorem dX12_nameWord_36 : decode cX12_nameWord 36 = .ok (.aload_n 0, 1) := by decide +kernel
theorem dX12_nameWord_37 : decode cX12_nameWord 37 = .ok (.ldc 112, 2) := by decide +kernel
theorem dX12_nameWord_39 : decode cX12_nameWord 39 = .ok (.invokevirtual 104, 3) := by decide +kernel
theorem dX12_nameWord_42 : decode cX12_nameWord 42 = .ok (.ifCond .eq 6, 3) := by decide +kernel
theorem dX12_nameWord_45 : decode cX12_nameWord 45 = .ok (.bipush 44, 2) := by decide +kernel
theorem dX12_nameWord_47 : decode cX12_nameWord 47 = .ok (.ireturn, 1) := by decide +kernel
theorem dX12_nameWord_48 : decode cX12_nameWord 48 = .ok (.aload_n 0, 1) := by decide +kernel
theorem dX12_nameWord_49 : decode cX12_nameWord 49 = .ok (.ldc 114, 2) := by decide +kernel
theorem dX12_nameWord_51 : decode cX12_nameWord 51 = .ok (.invokevirtual 104, 3) := by decide +kernel
theorem dX12_nameWord_54 : decode cX12_nameWord 54 = .ok (.ifCond .eq 6, 3) := by decide +kernel
theorem dX12_nameWord_57 : decode cX12_nameWord 57 = .ok (.bipush 45, 2) := by decide +kernel
theorem dX12_nameWord_59 : decode cX12_nameWord 59 = .ok (.ireturn, 1) := by decide +kernel
theorem dX12_nameWord_60 : decode cX12_nameWord 60 = .ok (.aload_n 0, 1) := by decide +kernel
theorem dX12_nameWord_61 : decode cX12_nameWord 61 = .ok (.ldc 116, 2) := by decide +kernel
theorem dX12_nameWord_63 : decode cX12_nameWord 63 = .ok (.invokevirtual 104, 3) := by decide +kernel
theorem dX12_nameWord_66 : decode cX12_nameWord 66 = .ok (.ifCond .eq 6, 3) := by decide +kernel
theorem dX12_nameWord_69 : decode cX12_nameWord 69 = .ok (.bipush 46, 2) := by decide +kernel
theorem dX12_nameWord_71 : decode cX12_nameWord 71 = .ok (.ireturn, 1) := by decide +kernel
theorem dX12_nameWord_72 : decode cX12_nameWord 72 = .ok (.aload_n 0, 1) := by decide +kernel
theorem dX12_nameWord_73 : decode cX12_nameWord 73 = .ok (.ldc 118, 2) := by decide +kernel
theorem dX12_nameWord_75 : decode cX12_nameWord 75 = .ok (.invokevirtual 104, 3) := by decide +kernel
theorem dX12_nameWord_78 : decode cX12_nameWord 78 = .ok (.ifCond .eq 8, 3) := by decide +kernel
theorem dX12_nameWord_81 : decode cX12_nameWord 81 = .ok (.bipush 47, 2) := by decide +kernel
theorem dX12_nameWord_83 : decode cX12_nameWord 83 = .ok (.goto 4, 3) := by decide +kernel
theorem dX12_nameWord_86 : decode cX12_nameWord 86 = .ok (.iconst 1, 1) := by decide +kernel
theorem dX12_nameWord_87 : decode cX12_nameWord 87 = .ok (.ireturn, 1) := by decide +kernel
theorem dX12_word_0 : decode cX12_word 0 = .ok (.aload_n 0, 1) := by decide +kernel
theorem dX12_word_1 : decode cX12_word 1 = .ok (.ldc 120, 2) := by decide +kernel
theorem dX12_word_3 : decode cX12_word 3 = .ok (.invokevirtual 104, 3) := by decide +kernel
theorem dX12_word_6 : decode cX12_word 6 = .ok (.ifCond .eq 5, 3) := by decide +kernel
theorem dX12_word_9 : decode cX12_word 9 = .ok (.iconst 3, 1) := by decide +kernel
theorem dX12_word_10 : decode cX12_word 10 = .ok (.ireturn, 1) := by decide +kernel
theorem dX12_word_11 : decode cX12_word 11 = .ok (.aload_n 0, 1) := by decide +kernel
theorem dX12_word_12 : decode cX12_word 12 = .ok (.ldc 122, 2) := by decide +kernel
theorem dX12_word_14 : decode cX12_word 14 = .ok (.invokevirtual 104, 3) := by decide +kernel
theorem dX12_word_17 : decode cX12_word 17 = .ok (.ifCond .eq 5, 3) := by decide +kernel
theorem dX12_word_20 : decode cX12_word 20 = .ok (.iconst 4, 1) := by decide +kernel
theorem dX12_word_21 : decode cX12_word 21 = .ok (.ireturn, 1) := by decide +kernel
theorem dX12_word_22 : decode cX12_word 22 = .ok (.aload_n 0, 1) := by decide +kernel
theorem dX12_word_23 : decode cX12_word 23 = .ok (.ldc 124, 2) := by decide +kernel
theorem dX12_word_25 : decode cX12_word 25 = .ok (.invokevirtual 104, 3) := by decide +kernel
theorem dX12_word_28 : decode cX12_word 28 = .ok (.ifCond .eq 5, 3) := by decide +kernel
theorem dX12_word_31 : decode cX12_word 31 = .ok (.iconst 5, 1) := by decide +kernel
theorem dX12_word_32 : decode cX12_word 32 = .ok (.ireturn, 1) := by decide +kernel
theorem dX12_word_33 : decode cX12_word 33 = .ok (.aload_n 0, 1) := by decide +kernel
theorem dX12_word_34 : decode cX12_word 34 = .ok (.ldc 126, 2) := by decide +kernel
theorem dX12_word_36 : decode cX12_word 36 = .ok (.invokevirtual 104, 3) := by decide +kernel
theorem dX12_word_39 : decode cX12_word 39 = .ok (.ifCond .eq 6, 3) := by decide +kernel
theorem dX12_word_42 : decode cX12_word 42 = .ok (.bipush 6, 2) := by decide +kernel
theorem dX12_word_44 : decode cX12_word 44 = .ok (.ireturn, 1) := by decide +kernel
theorem dX12_word_45 : decode cX12_word 45 = .ok (.aload_n 0, 1) := by decide +kernel
theorem dX12_word_46 : decode cX12_word 46 = .ok (.ldc 128, 2) := by decide +kernel
theorem dX12_word_48 : decode cX12_word 48 = .ok (.invokevirtual 104, 3) := by decide +kernel
theorem dX12_word_51 : decode cX12_word 51 = .ok (.ifCond .eq 8, 3) := by decide +kernel
theorem dX12_word_54 : decode cX12_word 54 = .ok (.bipush 20, 2) := by decide +kernel
theorem dX12_word_56 : decode cX12_word 56 = .ok (.goto 7, 3) := by decide +kernel
theorem dX12_word_59 : decode cX12_word 59 = .ok (.aload_n 0, 1) := by decide +kernel
theorem dX12_word_60 : decode cX12_word 60 = .ok (.invokevirtual 130, 3) := by decide +kernel
theorem dX12_word_63 : decode cX12_word 63 = .ok (.ireturn, 1) := by decide +kernel
theorem dX12_next0_0 : decode cX12_next0 0 = .ok (.aload_n 0, 1) := by decide +kernel
theorem dX12_next0_1 : decode cX12_next0 1 = .ok (.aload_n 0, 1) := by decide +kernel
theorem dX12_next0_2 : decode cX12_next0 2 = .ok (.getfield 86, 3) := by decide +kernel
theorem dX12_next0_5 : decode cX12_next0 5 = .ok (.invokevirtual 133, 3) := by decide +kernel
theorem dX12_next0_8 : decode cX12_next0 8 = .ok (.bipush 32, 2) := by decide +kernel
theorem dX12_next0_10 : decode cX12_next0 10 = .ok (.if_icmp .eq 16, 3) := by decide +kernel
theorem dX12_next0_13 : decode cX12_next0 13 = .ok (.aload_n 0, 1) := by decide +kernel
theorem dX12_next0_14 : decode cX12_next0 14 = .ok (.aload_n 0, 1) := by decide +kernel
theorem dX12_next0_15 : decode cX12_next0 15 = .ok (.getfield 86, 3) := by decide +kernel
theorem dX12_next0_18 : decode cX12_next0 18 = .ok (.invokevirtual 133, 3) := by decide +kernel
theorem dX12_next0_21 : decode cX12_next0 21 = .ok (.bipush 10, 2) := by decide +kernel
theorem dX12_next0_23 : decode cX12_next0 23 = .ok (.if_icmp .ne 16, 3) := by decide +kernel
theorem dX12_next0_26 : decode cX12_next0 26 = .ok (.aload_n 0, 1) := by decide +kernel
theorem dX12_next0_27 : decode cX12_next0 27 = .ok (.dup, 1) := by decide +kernel
theorem dX12_next0_28 : decode cX12_next0 28 = .ok (.getfield 86, 3) := by decide +kernel
theorem dX12_next0_31 : decode cX12_next0 31 = .ok (.iconst 1, 1) := by decide +kernel
theorem dX12_next0_32 : decode cX12_next0 32 = .ok (.iadd, 1) := by decide +kernel
theorem dX12_next0_33 : decode cX12_next0 33 = .ok (.putfield 86, 3) := by decide +kernel
theorem dX12_next0_36 : decode cX12_next0 36 = .ok (.goto (-36), 3) := by decide +kernel
theorem dX12_next0_39 : decode cX12_next0 39 = .ok (.aload_n 0, 1) := by decide +kernel
theorem dX12_next0_40 : decode cX12_next0 40 = .ok (.aload_n 0, 1) := by decide +kernel
theorem dX12_next0_41 : decode cX12_next0 41 = .ok (.getfield 86, 3) := by decide +kernel
theorem dX12_next0_44 : decode cX12_next0 44 = .ok (.putfield 89, 3) := by decide +kernel
theorem dX12_next0_47 : decode cX12_next0 47 = .ok (.aload_n 0, 1) := by decide +kernel
theorem dX12_next0_48 : decode cX12_next0 48 = .ok (.aload_n 0, 1) := by decide +kernel
theorem dX12_next0_49 : decode cX12_next0 49 = .ok (.getfield 86, 3) := by decide +kernel
theorem dX12_next0_52 : decode cX12_next0 52 = .ok (.invokevirtual 133, 3) := by decide +kernel
theorem dX12_next0_55 : decode cX12_next0 55 = .ok (.istore_n 1, 1) := by decide +kernel
theorem dX12_next0_56 : decode cX12_next0 56 = .ok (.iload_n 1, 1) := by decide +kernel
theorem dX12_next0_57 : decode cX12_next0 57 = .ok (.iconst (-1), 1) := by decide +kernel
theorem dX12_next0_58 : decode cX12_next0 58 = .ok (.if_icmp .ne 11, 3) := by decide +kernel
theorem dX12_next0_61 : decode cX12_next0 61 = .ok (.aload_n 0, 1) := by decide +kernel
theorem dX12_next0_62 : decode cX12_next0 62 = .ok (.iconst 0, 1) := by decide +kernel
theorem dX12_next0_63 : decode cX12_next0 63 = .ok (.putfield 137, 3) := by decide +kernel
theorem dX12_next0_66 : decode cX12_next0 66 = .ok (.goto 240, 3) := by decide +kernel
theorem dX12_next0_69 : decode cX12_next0 69 = .ok (.iload_n 1, 1) := by decide +kernel
theorem dX12_next0_70 : decode cX12_next0 70 = .ok (.invokestatic 140, 3) := by decide +kernel
theorem dX12_next0_73 : decode cX12_next0 73 = .ok (.ifCond .eq 41, 3) := by decide +kernel
theorem dX12_next0_76 : decode cX12_next0 76 = .ok (.aload_n 0, 1) := by decide +kernel
theorem dX12_next0_77 : decode cX12_next0 77 = .ok (.aload_n 0, 1) := by decide +kernel
theorem dX12_next0_78 : decode cX12_next0 78 = .ok (.getfield 86, 3) := by decide +kernel
theorem dX12_next0_81 : decode cX12_next0 81 = .ok (.invokevirtual 133, 3) := by decide +kernel
theorem dX12_next0_84 : decode cX12_next0 84 = .ok (.invokestatic 140, 3) := by decide +kernel
theorem dX12_next0_87 : decode cX12_next0 87 = .ok (.ifCond .eq 16, 3) := by decide +kernel
theorem dX12_next0_90 : decode cX12_next0 90 = .ok (.aload_n 0, 1) := by decide +kernel
theorem dX12_next0_91 : decode cX12_next0 91 = .ok (.dup, 1) := by decide +kernel
theorem dX12_next0_92 : decode cX12_next0 92 = .ok (.getfield 86, 3) := by decide +kernel
theorem dX12_next0_95 : decode cX12_next0 95 = .ok (.iconst 1, 1) := by decide +kernel
theorem dX12_next0_96 : decode cX12_next0 96 = .ok (.iadd, 1) := by decide +kernel
theorem dX12_next0_97 : decode cX12_next0 97 = .ok (.putfield 86, 3) := by decide +kernel
theorem dX12_next0_100 : decode cX12_next0 100 = .ok (.goto (-24), 3) := by decide +kernel
theorem dX12_next0_103 : decode cX12_next0 103 = .ok (.aload_n 0, 1) := by decide +kernel
theorem dX12_next0_104 : decode cX12_next0 104 = .ok (.aload_n 0, 1) := by decide +kernel
