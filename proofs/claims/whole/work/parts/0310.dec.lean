theorem dX12_drop_25 : decode cX12_drop 25 = .ok (.iconst 0, 1) := by decide +kernel
theorem dX12_drop_26 : decode cX12_drop 26 = .ok (.ireturn, 1) := by decide +kernel
theorem dX12_drop_27 : decode cX12_drop 27 = .ok (.aload_n 0, 1) := by decide +kernel
theorem dX12_drop_28 : decode cX12_drop 28 = .ok (.getfield 7, 3) := by decide +kernel
theorem dX12_drop_31 : decode cX12_drop 31 = .ok (.sipush 370, 3) := by decide +kernel
theorem dX12_drop_34 : decode cX12_drop 34 = .ok (.iconst 5, 1) := by decide +kernel
theorem dX12_drop_35 : decode cX12_drop 35 = .ok (.iload_n 1, 1) := by decide +kernel
theorem dX12_drop_36 : decode cX12_drop 36 = .ok (.imul, 1) := by decide +kernel
theorem dX12_drop_37 : decode cX12_drop 37 = .ok (.iadd, 1) := by decide +kernel
theorem dX12_drop_38 : decode cX12_drop 38 = .ok (.iconst 4, 1) := by decide +kernel
theorem dX12_drop_39 : decode cX12_drop 39 = .ok (.iadd, 1) := by decide +kernel
theorem dX12_drop_40 : decode cX12_drop 40 = .ok (.iconst 1, 1) := by decide +kernel
theorem dX12_drop_41 : decode cX12_drop 41 = .ok (.iastore, 1) := by decide +kernel
theorem dX12_drop_42 : decode cX12_drop 42 = .ok (.aload_n 0, 1) := by decide +kernel
theorem dX12_drop_43 : decode cX12_drop 43 = .ok (.invokevirtual 78, 3) := by decide +kernel
theorem dX12_drop_46 : decode cX12_drop 46 = .ok (.iconst 1, 1) := by decide +kernel
theorem dX12_drop_47 : decode cX12_drop 47 = .ok (.ireturn, 1) := by decide +kernel
theorem dX12_voteOf_0 : decode cX12_voteOf 0 = .ok (.iconst 0, 1) := by decide +kernel
theorem dX12_voteOf_1 : decode cX12_voteOf 1 = .ok (.istore_n 2, 1) := by decide +kernel
theorem dX12_voteOf_2 : decode cX12_voteOf 2 = .ok (.iload_n 2, 1) := by decide +kernel
theorem dX12_voteOf_3 : decode cX12_voteOf 3 = .ok (.aload_n 0, 1) := by decide +kernel
theorem dX12_voteOf_4 : decode cX12_voteOf 4 = .ok (.getfield 7, 3) := by decide +kernel
theorem dX12_voteOf_7 : decode cX12_voteOf 7 = .ok (.bipush 7, 2) := by decide +kernel
theorem dX12_voteOf_9 : decode cX12_voteOf 9 = .ok (.iaload, 1) := by decide +kernel
theorem dX12_voteOf_10 : decode cX12_voteOf 10 = .ok (.if_icmp .ge 72, 3) := by decide +kernel
theorem dX12_voteOf_13 : decode cX12_voteOf 13 = .ok (.sipush 370, 3) := by decide +kernel
theorem dX12_voteOf_16 : decode cX12_voteOf 16 = .ok (.iconst 5, 1) := by decide +kernel
theorem dX12_voteOf_17 : decode cX12_voteOf 17 = .ok (.iload_n 2, 1) := by decide +kernel
theorem dX12_voteOf_18 : decode cX12_voteOf 18 = .ok (.imul, 1) := by decide +kernel
theorem dX12_voteOf_19 : decode cX12_voteOf 19 = .ok (.iadd, 1) := by decide +kernel
theorem dX12_voteOf_20 : decode cX12_voteOf 20 = .ok (.istore_n 3, 1) := by decide +kernel
theorem dX12_voteOf_21 : decode cX12_voteOf 21 = .ok (.aload_n 0, 1) := by decide +kernel
theorem dX12_voteOf_22 : decode cX12_voteOf 22 = .ok (.getfield 7, 3) := by decide +kernel
theorem dX12_voteOf_25 : decode cX12_voteOf 25 = .ok (.iload_n 3, 1) := by decide +kernel
theorem dX12_voteOf_26 : decode cX12_voteOf 26 = .ok (.iaload, 1) := by decide +kernel
theorem dX12_voteOf_27 : decode cX12_voteOf 27 = .ok (.iload_n 1, 1) := by decide +kernel
theorem dX12_voteOf_28 : decode cX12_voteOf 28 = .ok (.if_icmp .ne 48, 3) := by decide +kernel
theorem dX12_voteOf_31 : decode cX12_voteOf 31 = .ok (.aload_n 0, 1) := by decide +kernel
theorem dX12_voteOf_32 : decode cX12_voteOf 32 = .ok (.iload_n 2, 1) := by decide +kernel
theorem dX12_voteOf_33 : decode cX12_voteOf 33 = .ok (.invokevirtual 246, 3) := by decide +kernel
theorem dX12_voteOf_36 : decode cX12_voteOf 36 = .ok (.ifCond .eq 40, 3) := by decide +kernel
theorem dX12_voteOf_39 : decode cX12_voteOf 39 = .ok (.aload_n 0, 1) := by decide +kernel
theorem dX12_voteOf_40 : decode cX12_voteOf 40 = .ok (.getfield 7, 3) := by decide +kernel
theorem dX12_voteOf_43 : decode cX12_voteOf 43 = .ok (.iconst 2, 1) := by decide +kernel
theorem dX12_voteOf_44 : decode cX12_voteOf 44 = .ok (.iaload, 1) := by decide +kernel
theorem dX12_voteOf_45 : decode cX12_voteOf 45 = .ok (.aload_n 0, 1) := by decide +kernel
theorem dX12_voteOf_46 : decode cX12_voteOf 46 = .ok (.getfield 7, 3) := by decide +kernel
theorem dX12_voteOf_49 : decode cX12_voteOf 49 = .ok (.iload_n 3, 1) := by decide +kernel
theorem dX12_voteOf_50 : decode cX12_voteOf 50 = .ok (.iconst 2, 1) := by decide +kernel
theorem dX12_voteOf_51 : decode cX12_voteOf 51 = .ok (.iadd, 1) := by decide +kernel
theorem dX12_voteOf_52 : decode cX12_voteOf 52 = .ok (.iaload, 1) := by decide +kernel
theorem dX12_voteOf_53 : decode cX12_voteOf 53 = .ok (.aload_n 0, 1) := by decide +kernel
theorem dX12_voteOf_54 : decode cX12_voteOf 54 = .ok (.getfield 7, 3) := by decide +kernel
theorem dX12_voteOf_57 : decode cX12_voteOf 57 = .ok (.iload_n 3, 1) := by decide +kernel
theorem dX12_voteOf_58 : decode cX12_voteOf 58 = .ok (.iconst 3, 1) := by decide +kernel
theorem dX12_voteOf_59 : decode cX12_voteOf 59 = .ok (.iadd, 1) := by decide +kernel
theorem dX12_voteOf_60 : decode cX12_voteOf 60 = .ok (.iaload, 1) := by decide +kernel
theorem dX12_voteOf_61 : decode cX12_voteOf 61 = .ok (.invokestatic 70, 3) := by decide +kernel
theorem dX12_voteOf_64 : decode cX12_voteOf 64 = .ok (.ifCond .eq 12, 3) := by decide +kernel
theorem dX12_voteOf_67 : decode cX12_voteOf 67 = .ok (.aload_n 0, 1) := by decide +kernel
theorem dX12_voteOf_68 : decode cX12_voteOf 68 = .ok (.getfield 7, 3) := by decide +kernel
theorem dX12_voteOf_71 : decode cX12_voteOf 71 = .ok (.iload_n 3, 1) := by decide +kernel
theorem dX12_voteOf_72 : decode cX12_voteOf 72 = .ok (.iconst 1, 1) := by decide +kernel
theorem dX12_voteOf_73 : decode cX12_voteOf 73 = .ok (.iadd, 1) := by decide +kernel
theorem dX12_voteOf_74 : decode cX12_voteOf 74 = .ok (.iaload, 1) := by decide +kernel
theorem dX12_voteOf_75 : decode cX12_voteOf 75 = .ok (.ireturn, 1) := by decide +kernel
theorem dX12_voteOf_76 : decode cX12_voteOf 76 = .ok (.iinc 2 1, 3) := by decide +kernel
theorem dX12_voteOf_79 : decode cX12_voteOf 79 = .ok (.goto (-77), 3) := by decide +kernel
theorem dX12_voteOf_82 : decode cX12_voteOf 82 = .ok (.aload_n 0, 1) := by decide +kernel
theorem dX12_voteOf_83 : decode cX12_voteOf 83 = .ok (.iload_n 1, 1) := by decide +kernel
theorem dX12_voteOf_84 : decode cX12_voteOf 84 = .ok (.aload_n 0, 1) := by decide +kernel
theorem dX12_voteOf_85 : decode cX12_voteOf 85 = .ok (.getfield 7, 3) := by decide +kernel
theorem dX12_voteOf_88 : decode cX12_voteOf 88 = .ok (.iconst 2, 1) := by decide +kernel
theorem dX12_voteOf_89 : decode cX12_voteOf 89 = .ok (.iaload, 1) := by decide +kernel
theorem dX12_voteOf_90 : decode cX12_voteOf 90 = .ok (.aload_n 0, 1) := by decide +kernel
theorem dX12_voteOf_91 : decode cX12_voteOf 91 = .ok (.getfield 7, 3) := by decide +kernel
theorem dX12_voteOf_94 : decode cX12_voteOf 94 = .ok (.iconst 1, 1) := by decide +kernel
theorem dX12_voteOf_95 : decode cX12_voteOf 95 = .ok (.iaload, 1) := by decide +kernel
theorem dX12_voteOf_96 : decode cX12_voteOf 96 = .ok (.iconst 0, 1) := by decide +kernel
theorem dX12_voteOf_97 : decode cX12_voteOf 97 = .ok (.invokevirtual 232, 3) := by decide +kernel
theorem dX12_voteOf_100 : decode cX12_voteOf 100 = .ok (.istore_n 2, 1) := by decide +kernel
theorem dX12_voteOf_101 : decode cX12_voteOf 101 = .ok (.aload_n 0, 1) := by decide +kernel
theorem dX12_voteOf_102 : decode cX12_voteOf 102 = .ok (.iload_n 1, 1) := by decide +kernel
theorem dX12_voteOf_103 : decode cX12_voteOf 103 = .ok (.aload_n 0, 1) := by decide +kernel
theorem dX12_voteOf_104 : decode cX12_voteOf 104 = .ok (.getfield 7, 3) := by decide +kernel
theorem dX12_voteOf_107 : decode cX12_voteOf 107 = .ok (.iconst 2, 1) := by decide +kernel
theorem dX12_voteOf_108 : decode cX12_voteOf 108 = .ok (.iaload, 1) := by decide +kernel
theorem dX12_voteOf_109 : decode cX12_voteOf 109 = .ok (.aload_n 0, 1) := by decide +kernel
theorem dX12_voteOf_110 : decode cX12_voteOf 110 = .ok (.aload_n 0, 1) := by decide +kernel
theorem dX12_voteOf_111 : decode cX12_voteOf 111 = .ok (.getfield 7, 3) := by decide +kernel
theorem dX12_voteOf_114 : decode cX12_voteOf 114 = .ok (.iconst 1, 1) := by decide +kernel
theorem dX12_voteOf_115 : decode cX12_voteOf 115 = .ok (.iaload, 1) := by decide +kernel
theorem dX12_voteOf_116 : decode cX12_voteOf 116 = .ok (.iconst 1, 1) := by decide +kernel
theorem dX12_voteOf_117 : decode cX12_voteOf 117 = .ok (.iadd, 1) := by decide +kernel
theorem dX12_voteOf_118 : decode cX12_voteOf 118 = .ok (.invokevirtual 216, 3) := by decide +kernel
theorem dX12_voteOf_121 : decode cX12_voteOf 121 = .ok (.iconst 1, 1) := by decide +kernel
theorem dX12_voteOf_122 : decode cX12_voteOf 122 = .ok (.invokevirtual 232, 3) := by decide +kernel
theorem dX12_voteOf_125 : decode cX12_voteOf 125 = .ok (.istore_n 3, 1) := by decide +kernel
theorem dX12_voteOf_126 : decode cX12_voteOf 126 = .ok (.aload_n 0, 1) := by decide +kernel
theorem dX12_voteOf_127 : decode cX12_voteOf 127 = .ok (.iload_n 1, 1) := by decide +kernel
theorem dX12_voteOf_128 : decode cX12_voteOf 128 = .ok (.aload_n 0, 1) := by decide +kernel
theorem dX12_voteOf_129 : decode cX12_voteOf 129 = .ok (.getfield 7, 3) := by decide +kernel
theorem dX12_voteOf_132 : decode cX12_voteOf 132 = .ok (.iconst 2, 1) := by decide +kernel
theorem dX12_voteOf_133 : decode cX12_voteOf 133 = .ok (.iaload, 1) := by decide +kernel
theorem dX12_voteOf_134 : decode cX12_voteOf 134 = .ok (.aload_n 0, 1) := by decide +kernel
theorem dX12_voteOf_135 : decode cX12_voteOf 135 = .ok (.aload_n 0, 1) := by decide +kernel
theorem dX12_voteOf_136 : decode cX12_voteOf 136 = .ok (.getfield 7, 3) := by decide +kernel
theorem dX12_voteOf_139 : decode cX12_voteOf 139 = .ok (.iconst 1, 1) := by decide +kernel
theorem dX12_voteOf_140 : decode cX12_voteOf 140 = .ok (.iaload, 1) := by decide +kernel
theorem dX12_voteOf_141 : decode cX12_voteOf 141 = .ok (.iconst 1, 1) := by decide +kernel
theorem dX12_voteOf_142 : decode cX12_voteOf 142 = .ok (.isub, 1) := by decide +kernel
theorem dX12_voteOf_143 : decode cX12_voteOf 143 = .ok (.invokevirtual 216, 3) := by decide +kernel
theorem dX12_voteOf_146 : decode cX12_voteOf 146 = .ok (.iconst (-1), 1) := by decide +kernel
theorem dX12_voteOf_147 : decode cX12_voteOf 147 = .ok (.invokevirtual 232, 3) := by decide +kernel
theorem dX12_voteOf_150 : decode cX12_voteOf 150 = .ok (.istore 4, 2) := by decide +kernel
theorem dX12_voteOf_152 : decode cX12_voteOf 152 = .ok (.iload_n 2, 1) := by decide +kernel
theorem dX12_voteOf_153 : decode cX12_voteOf 153 = .ok (.iload_n 3, 1) := by decide +kernel
theorem dX12_voteOf_154 : decode cX12_voteOf 154 = .ok (.if_icmp .lt 11, 3) := by decide +kernel
theorem dX12_voteOf_157 : decode cX12_voteOf 157 = .ok (.iload_n 2, 1) := by decide +kernel
theorem dX12_voteOf_158 : decode cX12_voteOf 158 = .ok (.iload 4, 2) := by decide +kernel
theorem dX12_voteOf_160 : decode cX12_voteOf 160 = .ok (.if_icmp .lt 5, 3) := by decide +kernel
theorem dX12_voteOf_163 : decode cX12_voteOf 163 = .ok (.iconst 0, 1) := by decide +kernel
theorem dX12_voteOf_164 : decode cX12_voteOf 164 = .ok (.ireturn, 1) := by decide +kernel
theorem dX12_voteOf_165 : decode cX12_voteOf 165 = .ok (.iload_n 3, 1) := by decide +kernel
theorem dX12_voteOf_166 : decode cX12_voteOf 166 = .ok (.iload 4, 2) := by decide +kernel
theorem dX12_voteOf_168 : decode cX12_voteOf 168 = .ok (.if_icmp .lt 7, 3) := by decide +kernel
theorem dX12_voteOf_171 : decode cX12_voteOf 171 = .ok (.iconst 1, 1) := by decide +kernel
theorem dX12_voteOf_172 : decode cX12_voteOf 172 = .ok (.goto 4, 3) := by decide +kernel
theorem dX12_voteOf_175 : decode cX12_voteOf 175 = .ok (.iconst (-1), 1) := by decide +kernel
theorem dX12_voteOf_176 : decode cX12_voteOf 176 = .ok (.ireturn, 1) := by decide +kernel
theorem dX12_votes_0 : decode cX12_votes 0 = .ok (.aload_n 0, 1) := by decide +kernel
theorem dX12_votes_1 : decode cX12_votes 1 = .ok (.iload_n 1, 1) := by decide +kernel
theorem dX12_votes_2 : decode cX12_votes 2 = .ok (.invokevirtual 226, 3) := by decide +kernel
theorem dX12_votes_5 : decode cX12_votes 5 = .ok (.ifCond .eq 23, 3) := by decide +kernel
theorem dX12_votes_8 : decode cX12_votes 8 = .ok (.aload_n 0, 1) := by decide +kernel
theorem dX12_votes_9 : decode cX12_votes 9 = .ok (.aload_n 0, 1) := by decide +kernel
theorem dX12_votes_10 : decode cX12_votes 10 = .ok (.iload_n 1, 1) := by decide +kernel
theorem dX12_votes_11 : decode cX12_votes 11 = .ok (.aload_n 0, 1) := by decide +kernel
theorem dX12_votes_12 : decode cX12_votes 12 = .ok (.getfield 7, 3) := by decide +kernel
theorem dX12_votes_15 : decode cX12_votes 15 = .ok (.iconst 2, 1) := by decide +kernel
theorem dX12_votes_16 : decode cX12_votes 16 = .ok (.iaload, 1) := by decide +kernel
theorem dX12_votes_17 : decode cX12_votes 17 = .ok (.invokevirtual 240, 3) := by decide +kernel
theorem dX12_votes_20 : decode cX12_votes 20 = .ok (.invokevirtual 249, 3) := by decide +kernel
theorem dX12_votes_23 : decode cX12_votes 23 = .ok (.iconst 2, 1) := by decide +kernel
theorem dX12_votes_24 : decode cX12_votes 24 = .ok (.iadd, 1) := by decide +kernel
theorem dX12_votes_25 : decode cX12_votes 25 = .ok (.goto 4, 3) := by decide +kernel
theorem dX12_votes_28 : decode cX12_votes 28 = .ok (.iconst (-1), 1) := by decide +kernel
theorem dX12_votes_29 : decode cX12_votes 29 = .ok (.ireturn, 1) := by decide +kernel
theorem dX12_weighs_0 : decode cX12_weighs 0 = .ok (.iconst 0, 1) := by decide +kernel
theorem dX12_weighs_1 : decode cX12_weighs 1 = .ok (.istore_n 2, 1) := by decide +kernel
theorem dX12_weighs_2 : decode cX12_weighs 2 = .ok (.iconst 0, 1) := by decide +kernel
theorem dX12_weighs_3 : decode cX12_weighs 3 = .ok (.istore_n 3, 1) := by decide +kernel
theorem dX12_weighs_4 : decode cX12_weighs 4 = .ok (.iload_n 3, 1) := by decide +kernel
theorem dX12_weighs_5 : decode cX12_weighs 5 = .ok (.aload_n 0, 1) := by decide +kernel
theorem dX12_weighs_6 : decode cX12_weighs 6 = .ok (.getfield 7, 3) := by decide +kernel
theorem dX12_weighs_9 : decode cX12_weighs 9 = .ok (.iconst 5, 1) := by decide +kernel
theorem dX12_weighs_10 : decode cX12_weighs 10 = .ok (.iaload, 1) := by decide +kernel
theorem dX12_weighs_11 : decode cX12_weighs 11 = .ok (.if_icmp .ge 24, 3) := by decide +kernel
theorem dX12_weighs_14 : decode cX12_weighs 14 = .ok (.iload_n 2, 1) := by decide +kernel
theorem dX12_weighs_15 : decode cX12_weighs 15 = .ok (.iload_n 1, 1) := by decide +kernel
theorem dX12_weighs_16 : decode cX12_weighs 16 = .ok (.iload_n 3, 1) := by decide +kernel
theorem dX12_weighs_17 : decode cX12_weighs 17 = .ok (.ishr, 1) := by decide +kernel
theorem dX12_weighs_18 : decode cX12_weighs 18 = .ok (.iconst 1, 1) := by decide +kernel
theorem dX12_weighs_19 : decode cX12_weighs 19 = .ok (.iand, 1) := by decide +kernel
theorem dX12_weighs_20 : decode cX12_weighs 20 = .ok (.aload_n 0, 1) := by decide +kernel
theorem dX12_weighs_21 : decode cX12_weighs 21 = .ok (.iload_n 3, 1) := by decide +kernel
theorem dX12_weighs_22 : decode cX12_weighs 22 = .ok (.iconst 1, 1) := by decide +kernel
theorem dX12_weighs_23 : decode cX12_weighs 23 = .ok (.invokevirtual 212, 3) := by decide +kernel
theorem dX12_weighs_26 : decode cX12_weighs 26 = .ok (.imul, 1) := by decide +kernel
theorem dX12_weighs_27 : decode cX12_weighs 27 = .ok (.iadd, 1) := by decide +kernel
theorem dX12_weighs_28 : decode cX12_weighs 28 = .ok (.istore_n 2, 1) := by decide +kernel
theorem dX12_weighs_29 : decode cX12_weighs 29 = .ok (.iinc 3 1, 3) := by decide +kernel
theorem dX12_weighs_32 : decode cX12_weighs 32 = .ok (.goto (-28), 3) := by decide +kernel
theorem dX12_weighs_35 : decode cX12_weighs 35 = .ok (.iload_n 2, 1) := by decide +kernel
theorem dX12_weighs_36 : decode cX12_weighs 36 = .ok (.ireturn, 1) := by decide +kernel
theorem dX12_allPlots_0 : decode cX12_allPlots 0 = .ok (.iconst 1, 1) := by decide +kernel
theorem dX12_allPlots_1 : decode cX12_allPlots 1 = .ok (.aload_n 0, 1) := by decide +kernel
theorem dX12_allPlots_2 : decode cX12_allPlots 2 = .ok (.getfield 7, 3) := by decide +kernel
theorem dX12_allPlots_5 : decode cX12_allPlots 5 = .ok (.iconst 5, 1) := by decide +kernel
theorem dX12_allPlots_6 : decode cX12_allPlots 6 = .ok (.iaload, 1) := by decide +kernel
theorem dX12_allPlots_7 : decode cX12_allPlots 7 = .ok (.ishl, 1) := by decide +kernel
theorem dX12_allPlots_8 : decode cX12_allPlots 8 = .ok (.iconst 1, 1) := by decide +kernel
theorem dX12_allPlots_9 : decode cX12_allPlots 9 = .ok (.isub, 1) := by decide +kernel
theorem dX12_allPlots_10 : decode cX12_allPlots 10 = .ok (.ireturn, 1) := by decide +kernel
theorem dX12_isEnough_0 : decode cX12_isEnough 0 = .ok (.iconst 2, 1) := by decide +kernel
theorem dX12_isEnough_1 : decode cX12_isEnough 1 = .ok (.aload_n 0, 1) := by decide +kernel
theorem dX12_isEnough_2 : decode cX12_isEnough 2 = .ok (.iload_n 1, 1) := by decide +kernel
theorem dX12_isEnough_3 : decode cX12_isEnough 3 = .ok (.invokevirtual 252, 3) := by decide +kernel
theorem dX12_isEnough_6 : decode cX12_isEnough 6 = .ok (.imul, 1) := by decide +kernel
theorem dX12_isEnough_7 : decode cX12_isEnough 7 = .ok (.aload_n 0, 1) := by decide +kernel
theorem dX12_isEnough_8 : decode cX12_isEnough 8 = .ok (.aload_n 0, 1) := by decide +kernel
theorem dX12_isEnough_9 : decode cX12_isEnough 9 = .ok (.invokevirtual 255, 3) := by decide +kernel
theorem dX12_isEnough_12 : decode cX12_isEnough 12 = .ok (.invokevirtual 252, 3) := by decide +kernel
theorem dX12_isEnough_15 : decode cX12_isEnough 15 = .ok (.if_icmp .le 7, 3) := by decide +kernel
theorem dX12_isEnough_18 : decode cX12_isEnough 18 = .ok (.iconst 1, 1) := by decide +kernel
theorem dX12_isEnough_19 : decode cX12_isEnough 19 = .ok (.goto 4, 3) := by decide +kernel
theorem dX12_isEnough_22 : decode cX12_isEnough 22 = .ok (.iconst 0, 1) := by decide +kernel
theorem dX12_isEnough_23 : decode cX12_isEnough 23 = .ok (.ireturn, 1) := by decide +kernel
theorem dX12_keeps_0 : decode cX12_keeps 0 = .ok (.aload_n 0, 1) := by decide +kernel
theorem dX12_keeps_1 : decode cX12_keeps 1 = .ok (.getfield 67, 3) := by decide +kernel
theorem dX12_keeps_4 : decode cX12_keeps 4 = .ok (.bipush 10, 2) := by decide +kernel
theorem dX12_keeps_6 : decode cX12_keeps 6 = .ok (.if_icmp .ne 42, 3) := by decide +kernel
theorem dX12_keeps_9 : decode cX12_keeps 9 = .ok (.iconst 0, 1) := by decide +kernel
theorem dX12_keeps_10 : decode cX12_keeps 10 = .ok (.istore_n 1, 1) := by decide +kernel
theorem dX12_keeps_11 : decode cX12_keeps 11 = .ok (.iload_n 1, 1) := by decide +kernel
theorem dX12_keeps_12 : decode cX12_keeps 12 = .ok (.bipush 126, 2) := by decide +kernel
theorem dX12_keeps_14 : decode cX12_keeps 14 = .ok (.if_icmp .ge 24, 3) := by decide +kernel
theorem dX12_keeps_17 : decode cX12_keeps 17 = .ok (.aload_n 0, 1) := by decide +kernel
theorem dX12_keeps_18 : decode cX12_keeps 18 = .ok (.getfield 16, 3) := by decide +kernel
theorem dX12_keeps_21 : decode cX12_keeps 21 = .ok (.iload_n 1, 1) := by decide +kernel
theorem dX12_keeps_22 : decode cX12_keeps 22 = .ok (.aload_n 0, 1) := by decide +kernel
theorem dX12_keeps_23 : decode cX12_keeps 23 = .ok (.getfield 16, 3) := by decide +kernel
theorem dX12_keeps_26 : decode cX12_keeps 26 = .ok (.iload_n 1, 1) := by decide +kernel
theorem dX12_keeps_27 : decode cX12_keeps 27 = .ok (.bipush 14, 2) := by decide +kernel
theorem dX12_keeps_29 : decode cX12_keeps 29 = .ok (.iadd, 1) := by decide +kernel
theorem dX12_keeps_30 : decode cX12_keeps 30 = .ok (.iaload, 1) := by decide +kernel
theorem dX12_keeps_31 : decode cX12_keeps 31 = .ok (.iastore, 1) := by decide +kernel
theorem dX12_keeps_32 : decode cX12_keeps 32 = .ok (.iinc 1 1, 3) := by decide +kernel
theorem dX12_keeps_35 : decode cX12_keeps 35 = .ok (.goto (-24), 3) := by decide +kernel
theorem dX12_keeps_38 : decode cX12_keeps 38 = .ok (.aload_n 0, 1) := by decide +kernel
theorem dX12_keeps_39 : decode cX12_keeps 39 = .ok (.dup, 1) := by decide +kernel
theorem dX12_keeps_40 : decode cX12_keeps 40 = .ok (.getfield 67, 3) := by decide +kernel
theorem dX12_keeps_43 : decode cX12_keeps 43 = .ok (.iconst 1, 1) := by decide +kernel
theorem dX12_keeps_44 : decode cX12_keeps 44 = .ok (.isub, 1) := by decide +kernel
theorem dX12_keeps_45 : decode cX12_keeps 45 = .ok (.putfield 67, 3) := by decide +kernel
theorem dX12_keeps_48 : decode cX12_keeps 48 = .ok (.bipush 14, 2) := by decide +kernel
theorem dX12_keeps_50 : decode cX12_keeps 50 = .ok (.aload_n 0, 1) := by decide +kernel
theorem dX12_keeps_51 : decode cX12_keeps 51 = .ok (.getfield 67, 3) := by decide +kernel
theorem dX12_keeps_54 : decode cX12_keeps 54 = .ok (.imul, 1) := by decide +kernel
theorem dX12_keeps_55 : decode cX12_keeps 55 = .ok (.istore_n 1, 1) := by decide +kernel
theorem dX12_keeps_56 : decode cX12_keeps 56 = .ok (.aload_n 0, 1) := by decide +kernel
theorem dX12_keeps_57 : decode cX12_keeps 57 = .ok (.getfield 16, 3) := by decide +kernel
theorem dX12_keeps_60 : decode cX12_keeps 60 = .ok (.iload_n 1, 1) := by decide +kernel
theorem dX12_keeps_61 : decode cX12_keeps 61 = .ok (.aload_n 0, 1) := by decide +kernel
theorem dX12_keeps_62 : decode cX12_keeps 62 = .ok (.getfield 7, 3) := by decide +kernel
theorem dX12_keeps_65 : decode cX12_keeps 65 = .ok (.iconst 1, 1) := by decide +kernel
theorem dX12_keeps_66 : decode cX12_keeps 66 = .ok (.iaload, 1) := by decide +kernel
theorem dX12_keeps_67 : decode cX12_keeps 67 = .ok (.iastore, 1) := by decide +kernel
theorem dX12_keeps_68 : decode cX12_keeps 68 = .ok (.aload_n 0, 1) := by decide +kernel
theorem dX12_keeps_69 : decode cX12_keeps 69 = .ok (.getfield 16, 3) := by decide +kernel
theorem dX12_keeps_72 : decode cX12_keeps 72 = .ok (.iload_n 1, 1) := by decide +kernel
theorem dX12_keeps_73 : decode cX12_keeps 73 = .ok (.iconst 1, 1) := by decide +kernel
theorem dX12_keeps_74 : decode cX12_keeps 74 = .ok (.iadd, 1) := by decide +kernel
theorem dX12_keeps_75 : decode cX12_keeps 75 = .ok (.aload_n 0, 1) := by decide +kernel
theorem dX12_keeps_76 : decode cX12_keeps 76 = .ok (.getfield 7, 3) := by decide +kernel
theorem dX12_keeps_79 : decode cX12_keeps 79 = .ok (.iconst 2, 1) := by decide +kernel
theorem dX12_keeps_80 : decode cX12_keeps 80 = .ok (.iaload, 1) := by decide +kernel
theorem dX12_keeps_81 : decode cX12_keeps 81 = .ok (.iastore, 1) := by decide +kernel
theorem dX12_keeps_82 : decode cX12_keeps 82 = .ok (.aload_n 0, 1) := by decide +kernel
theorem dX12_keeps_83 : decode cX12_keeps 83 = .ok (.getfield 16, 3) := by decide +kernel
theorem dX12_keeps_86 : decode cX12_keeps 86 = .ok (.iload_n 1, 1) := by decide +kernel
theorem dX12_keeps_87 : decode cX12_keeps 87 = .ok (.iconst 2, 1) := by decide +kernel
theorem dX12_keeps_88 : decode cX12_keeps 88 = .ok (.iadd, 1) := by decide +kernel
theorem dX12_keeps_89 : decode cX12_keeps 89 = .ok (.aload_n 0, 1) := by decide +kernel
theorem dX12_keeps_90 : decode cX12_keeps 90 = .ok (.getfield 7, 3) := by decide +kernel
theorem dX12_keeps_93 : decode cX12_keeps 93 = .ok (.iconst 3, 1) := by decide +kernel
theorem dX12_keeps_94 : decode cX12_keeps 94 = .ok (.iaload, 1) := by decide +kernel
theorem dX12_keeps_95 : decode cX12_keeps 95 = .ok (.iastore, 1) := by decide +kernel
theorem dX12_keeps_96 : decode cX12_keeps 96 = .ok (.iconst 0, 1) := by decide +kernel
theorem dX12_keeps_97 : decode cX12_keeps 97 = .ok (.istore_n 2, 1) := by decide +kernel
theorem dX12_keeps_98 : decode cX12_keeps 98 = .ok (.iload_n 2, 1) := by decide +kernel
theorem dX12_keeps_99 : decode cX12_keeps 99 = .ok (.bipush 10, 2) := by decide +kernel
theorem dX12_keeps_101 : decode cX12_keeps 101 = .ok (.if_icmp .ge 25, 3) := by decide +kernel
theorem dX12_keeps_104 : decode cX12_keeps 104 = .ok (.aload_n 0, 1) := by decide +kernel
theorem dX12_keeps_105 : decode cX12_keeps 105 = .ok (.getfield 16, 3) := by decide +kernel
theorem dX12_keeps_108 : decode cX12_keeps 108 = .ok (.iload_n 1, 1) := by decide +kernel
theorem dX12_keeps_109 : decode cX12_keeps 109 = .ok (.iconst 3, 1) := by decide +kernel
theorem dX12_keeps_110 : decode cX12_keeps 110 = .ok (.iadd, 1) := by decide +kernel
theorem dX12_keeps_111 : decode cX12_keeps 111 = .ok (.iload_n 2, 1) := by decide +kernel
theorem dX12_keeps_112 : decode cX12_keeps 112 = .ok (.iadd, 1) := by decide +kernel
theorem dX12_keeps_113 : decode cX12_keeps 113 = .ok (.aload_n 0, 1) := by decide +kernel
theorem dX12_keeps_114 : decode cX12_keeps 114 = .ok (.iload_n 2, 1) := by decide +kernel
theorem dX12_keeps_115 : decode cX12_keeps 115 = .ok (.iconst 3, 1) := by decide +kernel
theorem dX12_keeps_116 : decode cX12_keeps 116 = .ok (.invokevirtual 212, 3) := by decide +kernel
theorem dX12_keeps_119 : decode cX12_keeps 119 = .ok (.iastore, 1) := by decide +kernel
theorem dX12_keeps_120 : decode cX12_keeps 120 = .ok (.iinc 2 1, 3) := by decide +kernel
theorem dX12_keeps_123 : decode cX12_keeps 123 = .ok (.goto (-25), 3) := by decide +kernel
theorem dX12_keeps_126 : decode cX12_keeps 126 = .ok (.aload_n 0, 1) := by decide +kernel
theorem dX12_keeps_127 : decode cX12_keeps 127 = .ok (.dup, 1) := by decide +kernel
theorem dX12_keeps_128 : decode cX12_keeps 128 = .ok (.getfield 67, 3) := by decide +kernel
theorem dX12_keeps_131 : decode cX12_keeps 131 = .ok (.iconst 1, 1) := by decide +kernel
theorem dX12_keeps_132 : decode cX12_keeps 132 = .ok (.iadd, 1) := by decide +kernel
theorem dX12_keeps_133 : decode cX12_keeps 133 = .ok (.putfield 67, 3) := by decide +kernel
theorem dX12_keeps_136 : decode cX12_keeps 136 = .ok (.return_, 1) := by decide +kernel
theorem dX12_undo_0 : decode cX12_undo 0 = .ok (.aload_n 0, 1) := by decide +kernel
theorem dX12_undo_1 : decode cX12_undo 1 = .ok (.getfield 67, 3) := by decide +kernel
theorem dX12_undo_4 : decode cX12_undo 4 = .ok (.ifCond .ne 5, 3) := by decide +kernel
theorem dX12_undo_7 : decode cX12_undo 7 = .ok (.iconst 0, 1) := by decide +kernel
theorem dX12_undo_8 : decode cX12_undo 8 = .ok (.ireturn, 1) := by decide +kernel
theorem dX12_undo_9 : decode cX12_undo 9 = .ok (.aload_n 0, 1) := by decide +kernel
theorem dX12_undo_10 : decode cX12_undo 10 = .ok (.dup, 1) := by decide +kernel
theorem dX12_undo_11 : decode cX12_undo 11 = .ok (.getfield 67, 3) := by decide +kernel
theorem dX12_undo_14 : decode cX12_undo 14 = .ok (.iconst 1, 1) := by decide +kernel
theorem dX12_undo_15 : decode cX12_undo 15 = .ok (.isub, 1) := by decide +kernel
theorem dX12_undo_16 : decode cX12_undo 16 = .ok (.putfield 67, 3) := by decide +kernel
theorem dX12_undo_19 : decode cX12_undo 19 = .ok (.bipush 14, 2) := by decide +kernel
theorem dX12_undo_21 : decode cX12_undo 21 = .ok (.aload_n 0, 1) := by decide +kernel
theorem dX12_undo_22 : decode cX12_undo 22 = .ok (.getfield 67, 3) := by decide +kernel
theorem dX12_undo_25 : decode cX12_undo 25 = .ok (.imul, 1) := by decide +kernel
theorem dX12_undo_26 : decode cX12_undo 26 = .ok (.istore_n 1, 1) := by decide +kernel
theorem dX12_undo_27 : decode cX12_undo 27 = .ok (.aload_n 0, 1) := by decide +kernel
theorem dX12_undo_28 : decode cX12_undo 28 = .ok (.getfield 7, 3) := by decide +kernel
theorem dX12_undo_31 : decode cX12_undo 31 = .ok (.iconst 1, 1) := by decide +kernel
theorem dX12_undo_32 : decode cX12_undo 32 = .ok (.aload_n 0, 1) := by decide +kernel
theorem dX12_undo_33 : decode cX12_undo 33 = .ok (.getfield 16, 3) := by decide +kernel
theorem dX12_undo_36 : decode cX12_undo 36 = .ok (.iload_n 1, 1) := by decide +kernel
theorem dX12_undo_37 : decode cX12_undo 37 = .ok (.iaload, 1) := by decide +kernel
theorem dX12_undo_38 : decode cX12_undo 38 = .ok (.iastore, 1) := by decide +kernel
theorem dX12_undo_39 : decode cX12_undo 39 = .ok (.aload_n 0, 1) := by decide +kernel
theorem dX12_undo_40 : decode cX12_undo 40 = .ok (.getfield 7, 3) := by decide +kernel
theorem dX12_undo_43 : decode cX12_undo 43 = .ok (.iconst 2, 1) := by decide +kernel
theorem dX12_undo_44 : decode cX12_undo 44 = .ok (.aload_n 0, 1) := by decide +kernel
theorem dX12_undo_45 : decode cX12_undo 45 = .ok (.getfield 16, 3) := by decide +kernel
theorem dX12_undo_48 : decode cX12_undo 48 = .ok (.iload_n 1, 1) := by decide +kernel
theorem dX12_undo_49 : decode cX12_undo 49 = .ok (.iconst 1, 1) := by decide +kernel
theorem dX12_undo_50 : decode cX12_undo 50 = .ok (.iadd, 1) := by decide +kernel
theorem dX12_undo_51 : decode cX12_undo 51 = .ok (.iaload, 1) := by decide +kernel
theorem dX12_undo_52 : decode cX12_undo 52 = .ok (.iastore, 1) := by decide +kernel
theorem dX12_undo_53 : decode cX12_undo 53 = .ok (.aload_n 0, 1) := by decide +kernel
theorem dX12_undo_54 : decode cX12_undo 54 = .ok (.getfield 7, 3) := by decide +kernel
theorem dX12_undo_57 : decode cX12_undo 57 = .ok (.iconst 3, 1) := by decide +kernel
theorem dX12_undo_58 : decode cX12_undo 58 = .ok (.aload_n 0, 1) := by decide +kernel
theorem dX12_undo_59 : decode cX12_undo 59 = .ok (.getfield 16, 3) := by decide +kernel
theorem dX12_undo_62 : decode cX12_undo 62 = .ok (.iload_n 1, 1) := by decide +kernel
theorem dX12_undo_63 : decode cX12_undo 63 = .ok (.iconst 2, 1) := by decide +kernel
theorem dX12_undo_64 : decode cX12_undo 64 = .ok (.iadd, 1) := by decide +kernel
theorem dX12_undo_65 : decode cX12_undo 65 = .ok (.iaload, 1) := by decide +kernel
theorem dX12_undo_66 : decode cX12_undo 66 = .ok (.iastore, 1) := by decide +kernel
theorem dX12_undo_67 : decode cX12_undo 67 = .ok (.iconst 0, 1) := by decide +kernel
theorem dX12_undo_68 : decode cX12_undo 68 = .ok (.istore_n 2, 1) := by decide +kernel
theorem dX12_undo_69 : decode cX12_undo 69 = .ok (.iload_n 2, 1) := by decide +kernel
theorem dX12_undo_70 : decode cX12_undo 70 = .ok (.bipush 10, 2) := by decide +kernel
theorem dX12_undo_72 : decode cX12_undo 72 = .ok (.if_icmp .ge 32, 3) := by decide +kernel
theorem dX12_undo_75 : decode cX12_undo 75 = .ok (.aload_n 0, 1) := by decide +kernel
theorem dX12_undo_76 : decode cX12_undo 76 = .ok (.getfield 7, 3) := by decide +kernel
theorem dX12_undo_79 : decode cX12_undo 79 = .ok (.bipush 20, 2) := by decide +kernel
theorem dX12_undo_81 : decode cX12_undo 81 = .ok (.iconst 4, 1) := by decide +kernel
theorem dX12_undo_82 : decode cX12_undo 82 = .ok (.iload_n 2, 1) := by decide +kernel
theorem dX12_undo_83 : decode cX12_undo 83 = .ok (.imul, 1) := by decide +kernel
theorem dX12_undo_84 : decode cX12_undo 84 = .ok (.iadd, 1) := by decide +kernel
theorem dX12_undo_85 : decode cX12_undo 85 = .ok (.iconst 3, 1) := by decide +kernel
theorem dX12_undo_86 : decode cX12_undo 86 = .ok (.iadd, 1) := by decide +kernel
theorem dX12_undo_87 : decode cX12_undo 87 = .ok (.aload_n 0, 1) := by decide +kernel
theorem dX12_undo_88 : decode cX12_undo 88 = .ok (.getfield 16, 3) := by decide +kernel
theorem dX12_undo_91 : decode cX12_undo 91 = .ok (.iload_n 1, 1) := by decide +kernel
theorem dX12_undo_92 : decode cX12_undo 92 = .ok (.iconst 3, 1) := by decide +kernel
theorem dX12_undo_93 : decode cX12_undo 93 = .ok (.iadd, 1) := by decide +kernel
theorem dX12_undo_94 : decode cX12_undo 94 = .ok (.iload_n 2, 1) := by decide +kernel
theorem dX12_undo_95 : decode cX12_undo 95 = .ok (.iadd, 1) := by decide +kernel
theorem dX12_undo_96 : decode cX12_undo 96 = .ok (.iaload, 1) := by decide +kernel
theorem dX12_undo_97 : decode cX12_undo 97 = .ok (.iastore, 1) := by decide +kernel
theorem dX12_undo_98 : decode cX12_undo 98 = .ok (.iinc 2 1, 3) := by decide +kernel
theorem dX12_undo_101 : decode cX12_undo 101 = .ok (.goto (-32), 3) := by decide +kernel
theorem dX12_undo_104 : decode cX12_undo 104 = .ok (.aload_n 0, 1) := by decide +kernel
theorem dX12_undo_105 : decode cX12_undo 105 = .ok (.getfield 7, 3) := by decide +kernel
theorem dX12_undo_108 : decode cX12_undo 108 = .ok (.bipush 9, 2) := by decide +kernel
theorem dX12_undo_110 : decode cX12_undo 110 = .ok (.dup2, 1) := by decide +kernel
theorem dX12_undo_111 : decode cX12_undo 111 = .ok (.iaload, 1) := by decide +kernel
theorem dX12_undo_112 : decode cX12_undo 112 = .ok (.iconst 1, 1) := by decide +kernel
theorem dX12_undo_113 : decode cX12_undo 113 = .ok (.isub, 1) := by decide +kernel
theorem dX12_undo_114 : decode cX12_undo 114 = .ok (.iastore, 1) := by decide +kernel
theorem dX12_undo_115 : decode cX12_undo 115 = .ok (.iconst 1, 1) := by decide +kernel
theorem dX12_undo_116 : decode cX12_undo 116 = .ok (.ireturn, 1) := by decide +kernel
theorem dX12_writes_0 : decode cX12_writes 0 = .ok (.aload_n 0, 1) := by decide +kernel
theorem dX12_writes_1 : decode cX12_writes 1 = .ok (.getfield 7, 3) := by decide +kernel
theorem dX12_writes_4 : decode cX12_writes 4 = .ok (.bipush 9, 2) := by decide +kernel
theorem dX12_writes_6 : decode cX12_writes 6 = .ok (.iaload, 1) := by decide +kernel
theorem dX12_writes_7 : decode cX12_writes 7 = .ok (.sipush 410, 3) := by decide +kernel
theorem dX12_writes_10 : decode cX12_writes 10 = .ok (.if_icmp .ne 45, 3) := by decide +kernel
theorem dX12_writes_13 : decode cX12_writes 13 = .ok (.sipush 1490, 3) := by decide +kernel
theorem dX12_writes_16 : decode cX12_writes 16 = .ok (.istore_n 2, 1) := by decide +kernel
theorem dX12_writes_17 : decode cX12_writes 17 = .ok (.iload_n 2, 1) := by decide +kernel
theorem dX12_writes_18 : decode cX12_writes 18 = .ok (.sipush 2308, 3) := by decide +kernel
theorem dX12_writes_21 : decode cX12_writes 21 = .ok (.if_icmp .ge 23, 3) := by decide +kernel
theorem dX12_writes_24 : decode cX12_writes 24 = .ok (.aload_n 0, 1) := by decide +kernel
theorem dX12_writes_25 : decode cX12_writes 25 = .ok (.getfield 7, 3) := by decide +kernel
theorem dX12_writes_28 : decode cX12_writes 28 = .ok (.iload_n 2, 1) := by decide +kernel
theorem dX12_writes_29 : decode cX12_writes 29 = .ok (.aload_n 0, 1) := by decide +kernel
theorem dX12_writes_30 : decode cX12_writes 30 = .ok (.getfield 7, 3) := by decide +kernel
theorem dX12_writes_33 : decode cX12_writes 33 = .ok (.iload_n 2, 1) := by decide +kernel
theorem dX12_writes_34 : decode cX12_writes 34 = .ok (.iconst 2, 1) := by decide +kernel
theorem dX12_writes_35 : decode cX12_writes 35 = .ok (.iadd, 1) := by decide +kernel
theorem dX12_writes_36 : decode cX12_writes 36 = .ok (.iaload, 1) := by decide +kernel
theorem dX12_writes_37 : decode cX12_writes 37 = .ok (.iastore, 1) := by decide +kernel
theorem dX12_writes_38 : decode cX12_writes 38 = .ok (.iinc 2 1, 3) := by decide +kernel
theorem dX12_writes_41 : decode cX12_writes 41 = .ok (.goto (-24), 3) := by decide +kernel
theorem dX12_writes_44 : decode cX12_writes 44 = .ok (.aload_n 0, 1) := by decide +kernel
theorem dX12_writes_45 : decode cX12_writes 45 = .ok (.getfield 7, 3) := by decide +kernel
theorem dX12_writes_48 : decode cX12_writes 48 = .ok (.bipush 9, 2) := by decide +kernel
theorem dX12_writes_50 : decode cX12_writes 50 = .ok (.dup2, 1) := by decide +kernel
theorem dX12_writes_51 : decode cX12_writes 51 = .ok (.iaload, 1) := by decide +kernel
theorem dX12_writes_52 : decode cX12_writes 52 = .ok (.iconst 1, 1) := by decide +kernel
theorem dX12_writes_53 : decode cX12_writes 53 = .ok (.isub, 1) := by decide +kernel
theorem dX12_writes_54 : decode cX12_writes 54 = .ok (.iastore, 1) := by decide +kernel
theorem dX12_writes_55 : decode cX12_writes 55 = .ok (.aload_n 0, 1) := by decide +kernel
theorem dX12_writes_56 : decode cX12_writes 56 = .ok (.getfield 7, 3) := by decide +kernel
theorem dX12_writes_59 : decode cX12_writes 59 = .ok (.sipush 1490, 3) := by decide +kernel
theorem dX12_writes_62 : decode cX12_writes 62 = .ok (.iconst 2, 1) := by decide +kernel
theorem dX12_writes_63 : decode cX12_writes 63 = .ok (.aload_n 0, 1) := by decide +kernel
theorem dX12_writes_64 : decode cX12_writes 64 = .ok (.getfield 7, 3) := by decide +kernel
theorem dX12_writes_67 : decode cX12_writes 67 = .ok (.bipush 9, 2) := by decide +kernel
theorem dX12_writes_69 : decode cX12_writes 69 = .ok (.iaload, 1) := by decide +kernel
theorem dX12_writes_70 : decode cX12_writes 70 = .ok (.imul, 1) := by decide +kernel
theorem dX12_writes_71 : decode cX12_writes 71 = .ok (.iadd, 1) := by decide +kernel
theorem dX12_writes_72 : decode cX12_writes 72 = .ok (.aload_n 0, 1) := by decide +kernel
theorem dX12_writes_73 : decode cX12_writes 73 = .ok (.getfield 7, 3) := by decide +kernel
theorem dX12_writes_76 : decode cX12_writes 76 = .ok (.iconst 2, 1) := by decide +kernel
theorem dX12_writes_77 : decode cX12_writes 77 = .ok (.iaload, 1) := by decide +kernel
theorem dX12_writes_78 : decode cX12_writes 78 = .ok (.iastore, 1) := by decide +kernel
theorem dX12_writes_79 : decode cX12_writes 79 = .ok (.aload_n 0, 1) := by decide +kernel
theorem dX12_writes_80 : decode cX12_writes 80 = .ok (.getfield 7, 3) := by decide +kernel
theorem dX12_writes_83 : decode cX12_writes 83 = .ok (.sipush 1490, 3) := by decide +kernel
theorem dX12_writes_86 : decode cX12_writes 86 = .ok (.iconst 2, 1) := by decide +kernel
theorem dX12_writes_87 : decode cX12_writes 87 = .ok (.aload_n 0, 1) := by decide +kernel
theorem dX12_writes_88 : decode cX12_writes 88 = .ok (.getfield 7, 3) := by decide +kernel
theorem dX12_writes_91 : decode cX12_writes 91 = .ok (.bipush 9, 2) := by decide +kernel
theorem dX12_writes_93 : decode cX12_writes 93 = .ok (.iaload, 1) := by decide +kernel
theorem dX12_writes_94 : decode cX12_writes 94 = .ok (.imul, 1) := by decide +kernel
theorem dX12_writes_95 : decode cX12_writes 95 = .ok (.iadd, 1) := by decide +kernel
theorem dX12_writes_96 : decode cX12_writes 96 = .ok (.iconst 1, 1) := by decide +kernel
theorem dX12_writes_97 : decode cX12_writes 97 = .ok (.iadd, 1) := by decide +kernel
theorem dX12_writes_98 : decode cX12_writes 98 = .ok (.iload_n 1, 1) := by decide +kernel
theorem dX12_writes_99 : decode cX12_writes 99 = .ok (.iastore, 1) := by decide +kernel
theorem dX12_writes_100 : decode cX12_writes 100 = .ok (.aload_n 0, 1) := by decide +kernel
theorem dX12_writes_101 : decode cX12_writes 101 = .ok (.getfield 7, 3) := by decide +kernel
theorem dX12_writes_104 : decode cX12_writes 104 = .ok (.bipush 9, 2) := by decide +kernel
theorem dX12_writes_106 : decode cX12_writes 106 = .ok (.dup2, 1) := by decide +kernel
theorem dX12_writes_107 : decode cX12_writes 107 = .ok (.iaload, 1) := by decide +kernel
theorem dX12_writes_108 : decode cX12_writes 108 = .ok (.iconst 1, 1) := by decide +kernel
theorem dX12_writes_109 : decode cX12_writes 109 = .ok (.iadd, 1) := by decide +kernel
theorem dX12_writes_110 : decode cX12_writes 110 = .ok (.iastore, 1) := by decide +kernel
theorem dX12_writes_111 : decode cX12_writes 111 = .ok (.return_, 1) := by decide +kernel
theorem dX12_aNoon_0 : decode cX12_aNoon 0 = .ok (.iconst 0, 1) := by decide +kernel
theorem dX12_aNoon_1 : decode cX12_aNoon 1 = .ok (.istore_n 1, 1) := by decide +kernel
theorem dX12_aNoon_2 : decode cX12_aNoon 2 = .ok (.iconst 0, 1) := by decide +kernel
theorem dX12_aNoon_3 : decode cX12_aNoon 3 = .ok (.istore_n 2, 1) := by decide +kernel
theorem dX12_aNoon_4 : decode cX12_aNoon 4 = .ok (.iconst 0, 1) := by decide +kernel
theorem dX12_aNoon_5 : decode cX12_aNoon 5 = .ok (.istore_n 3, 1) := by decide +kernel
theorem dX12_aNoon_6 : decode cX12_aNoon 6 = .ok (.iconst 0, 1) := by decide +kernel
theorem dX12_aNoon_7 : decode cX12_aNoon 7 = .ok (.istore 4, 2) := by decide +kernel
theorem dX12_aNoon_9 : decode cX12_aNoon 9 = .ok (.iconst 0, 1) := by decide +kernel
theorem dX12_aNoon_10 : decode cX12_aNoon 10 = .ok (.istore 5, 2) := by decide +kernel
theorem dX12_aNoon_12 : decode cX12_aNoon 12 = .ok (.iload 5, 2) := by decide +kernel
theorem dX12_aNoon_14 : decode cX12_aNoon 14 = .ok (.aload_n 0, 1) := by decide +kernel
theorem dX12_aNoon_15 : decode cX12_aNoon 15 = .ok (.getfield 7, 3) := by decide +kernel
theorem dX12_aNoon_18 : decode cX12_aNoon 18 = .ok (.iconst 5, 1) := by decide +kernel
theorem dX12_aNoon_19 : decode cX12_aNoon 19 = .ok (.iaload, 1) := by decide +kernel
theorem dX12_aNoon_20 : decode cX12_aNoon 20 = .ok (.if_icmp .ge 101, 3) := by decide +kernel
theorem dX12_aNoon_23 : decode cX12_aNoon 23 = .ok (.aload_n 0, 1) := by decide +kernel
theorem dX12_aNoon_24 : decode cX12_aNoon 24 = .ok (.iload 5, 2) := by decide +kernel
theorem dX12_aNoon_26 : decode cX12_aNoon 26 = .ok (.aload_n 0, 1) := by decide +kernel
theorem dX12_aNoon_27 : decode cX12_aNoon 27 = .ok (.getfield 7, 3) := by decide +kernel
theorem dX12_aNoon_30 : decode cX12_aNoon 30 = .ok (.iconst 2, 1) := by decide +kernel
theorem dX12_aNoon_31 : decode cX12_aNoon 31 = .ok (.iaload, 1) := by decide +kernel
theorem dX12_aNoon_32 : decode cX12_aNoon 32 = .ok (.invokevirtual 240, 3) := by decide +kernel
theorem dX12_aNoon_35 : decode cX12_aNoon 35 = .ok (.istore 6, 2) := by decide +kernel
theorem dX12_aNoon_37 : decode cX12_aNoon 37 = .ok (.aload_n 0, 1) := by decide +kernel
theorem dX12_aNoon_38 : decode cX12_aNoon 38 = .ok (.iload 6, 2) := by decide +kernel
theorem dX12_aNoon_40 : decode cX12_aNoon 40 = .ok (.invokevirtual 249, 3) := by decide +kernel
theorem dX12_aNoon_43 : decode cX12_aNoon 43 = .ok (.istore 7, 2) := by decide +kernel
theorem dX12_aNoon_45 : decode cX12_aNoon 45 = .ok (.iload_n 1, 1) := by decide +kernel
theorem dX12_aNoon_46 : decode cX12_aNoon 46 = .ok (.iload 7, 2) := by decide +kernel
theorem dX12_aNoon_48 : decode cX12_aNoon 48 = .ok (.iconst 1, 1) := by decide +kernel
theorem dX12_aNoon_49 : decode cX12_aNoon 49 = .ok (.if_icmp .ne 10, 3) := by decide +kernel
theorem dX12_aNoon_52 : decode cX12_aNoon 52 = .ok (.iconst 1, 1) := by decide +kernel
theorem dX12_aNoon_53 : decode cX12_aNoon 53 = .ok (.iload 5, 2) := by decide +kernel
theorem dX12_aNoon_55 : decode cX12_aNoon 55 = .ok (.ishl, 1) := by decide +kernel
theorem dX12_aNoon_56 : decode cX12_aNoon 56 = .ok (.goto 4, 3) := by decide +kernel
theorem dX12_aNoon_59 : decode cX12_aNoon 59 = .ok (.iconst 0, 1) := by decide +kernel
theorem dX12_aNoon_60 : decode cX12_aNoon 60 = .ok (.ior, 1) := by decide +kernel
theorem dX12_aNoon_61 : decode cX12_aNoon 61 = .ok (.istore_n 1, 1) := by decide +kernel
theorem dX12_aNoon_62 : decode cX12_aNoon 62 = .ok (.iload_n 2, 1) := by decide +kernel
theorem dX12_aNoon_63 : decode cX12_aNoon 63 = .ok (.iload 7, 2) := by decide +kernel
theorem dX12_aNoon_65 : decode cX12_aNoon 65 = .ok (.iconst (-1), 1) := by decide +kernel
theorem dX12_aNoon_66 : decode cX12_aNoon 66 = .ok (.if_icmp .ne 10, 3) := by decide +kernel
theorem dX12_aNoon_69 : decode cX12_aNoon 69 = .ok (.iconst 1, 1) := by decide +kernel
theorem dX12_aNoon_70 : decode cX12_aNoon 70 = .ok (.iload 5, 2) := by decide +kernel
theorem dX12_aNoon_72 : decode cX12_aNoon 72 = .ok (.ishl, 1) := by decide +kernel
theorem dX12_aNoon_73 : decode cX12_aNoon 73 = .ok (.goto 4, 3) := by decide +kernel
theorem dX12_aNoon_76 : decode cX12_aNoon 76 = .ok (.iconst 0, 1) := by decide +kernel
theorem dX12_aNoon_77 : decode cX12_aNoon 77 = .ok (.ior, 1) := by decide +kernel
theorem dX12_aNoon_78 : decode cX12_aNoon 78 = .ok (.istore_n 2, 1) := by decide +kernel
theorem dX12_aNoon_79 : decode cX12_aNoon 79 = .ok (.iload_n 3, 1) := by decide +kernel
theorem dX12_aNoon_80 : decode cX12_aNoon 80 = .ok (.iload 7, 2) := by decide +kernel
theorem dX12_aNoon_82 : decode cX12_aNoon 82 = .ok (.iconst 1, 1) := by decide +kernel
theorem dX12_aNoon_83 : decode cX12_aNoon 83 = .ok (.if_icmp .ne 10, 3) := by decide +kernel
theorem dX12_aNoon_86 : decode cX12_aNoon 86 = .ok (.iconst 1, 1) := by decide +kernel
theorem dX12_aNoon_87 : decode cX12_aNoon 87 = .ok (.iload 6, 2) := by decide +kernel
theorem dX12_aNoon_89 : decode cX12_aNoon 89 = .ok (.ishl, 1) := by decide +kernel
theorem dX12_aNoon_90 : decode cX12_aNoon 90 = .ok (.goto 4, 3) := by decide +kernel
theorem dX12_aNoon_93 : decode cX12_aNoon 93 = .ok (.iconst 0, 1) := by decide +kernel
theorem dX12_aNoon_94 : decode cX12_aNoon 94 = .ok (.ior, 1) := by decide +kernel
theorem dX12_aNoon_95 : decode cX12_aNoon 95 = .ok (.istore_n 3, 1) := by decide +kernel
theorem dX12_aNoon_96 : decode cX12_aNoon 96 = .ok (.iload 4, 2) := by decide +kernel
theorem dX12_aNoon_98 : decode cX12_aNoon 98 = .ok (.iload 7, 2) := by decide +kernel
theorem dX12_aNoon_100 : decode cX12_aNoon 100 = .ok (.iconst (-1), 1) := by decide +kernel
theorem dX12_aNoon_101 : decode cX12_aNoon 101 = .ok (.if_icmp .ne 10, 3) := by decide +kernel
theorem dX12_aNoon_104 : decode cX12_aNoon 104 = .ok (.iconst 1, 1) := by decide +kernel
theorem dX12_aNoon_105 : decode cX12_aNoon 105 = .ok (.iload 6, 2) := by decide +kernel
theorem dX12_aNoon_107 : decode cX12_aNoon 107 = .ok (.ishl, 1) := by decide +kernel
theorem dX12_aNoon_108 : decode cX12_aNoon 108 = .ok (.goto 4, 3) := by decide +kernel
theorem dX12_aNoon_111 : decode cX12_aNoon 111 = .ok (.iconst 0, 1) := by decide +kernel
theorem dX12_aNoon_112 : decode cX12_aNoon 112 = .ok (.ior, 1) := by decide +kernel
theorem dX12_aNoon_113 : decode cX12_aNoon 113 = .ok (.istore 4, 2) := by decide +kernel
theorem dX12_aNoon_115 : decode cX12_aNoon 115 = .ok (.iinc 5 1, 3) := by decide +kernel
theorem dX12_aNoon_118 : decode cX12_aNoon 118 = .ok (.goto (-106), 3) := by decide +kernel
theorem dX12_aNoon_121 : decode cX12_aNoon 121 = .ok (.aload_n 0, 1) := by decide +kernel
theorem dX12_aNoon_122 : decode cX12_aNoon 122 = .ok (.getfield 7, 3) := by decide +kernel
theorem dX12_aNoon_125 : decode cX12_aNoon 125 = .ok (.iconst 3, 1) := by decide +kernel
theorem dX12_aNoon_126 : decode cX12_aNoon 126 = .ok (.iaload, 1) := by decide +kernel
theorem dX12_aNoon_127 : decode cX12_aNoon 127 = .ok (.ifCond .ne 7, 3) := by decide +kernel
theorem dX12_aNoon_130 : decode cX12_aNoon 130 = .ok (.iconst 0, 1) := by decide +kernel
theorem dX12_aNoon_131 : decode cX12_aNoon 131 = .ok (.goto 28, 3) := by decide +kernel
theorem dX12_aNoon_134 : decode cX12_aNoon 134 = .ok (.aload_n 0, 1) := by decide +kernel
theorem dX12_aNoon_135 : decode cX12_aNoon 135 = .ok (.iload_n 1, 1) := by decide +kernel
theorem dX12_aNoon_136 : decode cX12_aNoon 136 = .ok (.invokevirtual 258, 3) := by decide +kernel
theorem dX12_aNoon_139 : decode cX12_aNoon 139 = .ok (.ifCond .eq 7, 3) := by decide +kernel
theorem dX12_aNoon_142 : decode cX12_aNoon 142 = .ok (.iconst 1, 1) := by decide +kernel
theorem dX12_aNoon_143 : decode cX12_aNoon 143 = .ok (.goto 16, 3) := by decide +kernel
theorem dX12_aNoon_146 : decode cX12_aNoon 146 = .ok (.aload_n 0, 1) := by decide +kernel
theorem dX12_aNoon_147 : decode cX12_aNoon 147 = .ok (.iload_n 2, 1) := by decide +kernel
theorem dX12_aNoon_148 : decode cX12_aNoon 148 = .ok (.invokevirtual 258, 3) := by decide +kernel
theorem dX12_aNoon_151 : decode cX12_aNoon 151 = .ok (.ifCond .eq 7, 3) := by decide +kernel
theorem dX12_aNoon_154 : decode cX12_aNoon 154 = .ok (.iconst (-1), 1) := by decide +kernel
theorem dX12_aNoon_155 : decode cX12_aNoon 155 = .ok (.goto 4, 3) := by decide +kernel
theorem dX12_aNoon_158 : decode cX12_aNoon 158 = .ok (.iconst 0, 1) := by decide +kernel
theorem dX12_aNoon_159 : decode cX12_aNoon 159 = .ok (.istore 5, 2) := by decide +kernel
theorem dX12_aNoon_161 : decode cX12_aNoon 161 = .ok (.aload_n 0, 1) := by decide +kernel
theorem dX12_aNoon_162 : decode cX12_aNoon 162 = .ok (.getfield 7, 3) := by decide +kernel
theorem dX12_aNoon_165 : decode cX12_aNoon 165 = .ok (.iconst 1, 1) := by decide +kernel
theorem dX12_aNoon_166 : decode cX12_aNoon 166 = .ok (.aload_n 0, 1) := by decide +kernel
theorem dX12_aNoon_167 : decode cX12_aNoon 167 = .ok (.aload_n 0, 1) := by decide +kernel
theorem dX12_aNoon_168 : decode cX12_aNoon 168 = .ok (.getfield 7, 3) := by decide +kernel
theorem dX12_aNoon_171 : decode cX12_aNoon 171 = .ok (.iconst 1, 1) := by decide +kernel
theorem dX12_aNoon_172 : decode cX12_aNoon 172 = .ok (.iaload, 1) := by decide +kernel
theorem dX12_aNoon_173 : decode cX12_aNoon 173 = .ok (.iload 5, 2) := by decide +kernel
theorem dX12_aNoon_175 : decode cX12_aNoon 175 = .ok (.iadd, 1) := by decide +kernel
theorem dX12_aNoon_176 : decode cX12_aNoon 176 = .ok (.invokevirtual 216, 3) := by decide +kernel
theorem dX12_aNoon_179 : decode cX12_aNoon 179 = .ok (.iastore, 1) := by decide +kernel
theorem dX12_aNoon_180 : decode cX12_aNoon 180 = .ok (.aload_n 0, 1) := by decide +kernel
theorem dX12_aNoon_181 : decode cX12_aNoon 181 = .ok (.getfield 7, 3) := by decide +kernel
theorem dX12_aNoon_184 : decode cX12_aNoon 184 = .ok (.iconst 3, 1) := by decide +kernel
theorem dX12_aNoon_185 : decode cX12_aNoon 185 = .ok (.dup2, 1) := by decide +kernel
theorem dX12_aNoon_186 : decode cX12_aNoon 186 = .ok (.iaload, 1) := by decide +kernel
theorem dX12_aNoon_187 : decode cX12_aNoon 187 = .ok (.iload 5, 2) := by decide +kernel
theorem dX12_aNoon_189 : decode cX12_aNoon 189 = .ok (.ifCond .ne 7, 3) := by decide +kernel
theorem dX12_aNoon_192 : decode cX12_aNoon 192 = .ok (.iconst 0, 1) := by decide +kernel
theorem dX12_aNoon_193 : decode cX12_aNoon 193 = .ok (.goto 4, 3) := by decide +kernel
theorem dX12_aNoon_196 : decode cX12_aNoon 196 = .ok (.iconst 1, 1) := by decide +kernel
theorem dX12_aNoon_197 : decode cX12_aNoon 197 = .ok (.isub, 1) := by decide +kernel
theorem dX12_aNoon_198 : decode cX12_aNoon 198 = .ok (.iastore, 1) := by decide +kernel
theorem dX12_aNoon_199 : decode cX12_aNoon 199 = .ok (.iload 5, 2) := by decide +kernel
theorem dX12_aNoon_201 : decode cX12_aNoon 201 = .ok (.iconst 1, 1) := by decide +kernel
theorem dX12_aNoon_202 : decode cX12_aNoon 202 = .ok (.if_icmp .ne 7, 3) := by decide +kernel
theorem dX12_aNoon_205 : decode cX12_aNoon 205 = .ok (.iload_n 3, 1) := by decide +kernel
theorem dX12_aNoon_206 : decode cX12_aNoon 206 = .ok (.goto 15, 3) := by decide +kernel
theorem dX12_aNoon_209 : decode cX12_aNoon 209 = .ok (.iload 5, 2) := by decide +kernel
theorem dX12_aNoon_211 : decode cX12_aNoon 211 = .ok (.iconst (-1), 1) := by decide +kernel
theorem dX12_aNoon_212 : decode cX12_aNoon 212 = .ok (.if_icmp .ne 8, 3) := by decide +kernel
theorem dX12_aNoon_215 : decode cX12_aNoon 215 = .ok (.iload 4, 2) := by decide +kernel
theorem dX12_aNoon_217 : decode cX12_aNoon 217 = .ok (.goto 4, 3) := by decide +kernel
theorem dX12_aNoon_220 : decode cX12_aNoon 220 = .ok (.iconst 0, 1) := by decide +kernel
theorem dX12_aNoon_221 : decode cX12_aNoon 221 = .ok (.istore 6, 2) := by decide +kernel
theorem dX12_aNoon_223 : decode cX12_aNoon 223 = .ok (.iconst 0, 1) := by decide +kernel
theorem dX12_aNoon_224 : decode cX12_aNoon 224 = .ok (.istore 7, 2) := by decide +kernel
theorem dX12_aNoon_226 : decode cX12_aNoon 226 = .ok (.iload 7, 2) := by decide +kernel
theorem dX12_aNoon_228 : decode cX12_aNoon 228 = .ok (.aload_n 0, 1) := by decide +kernel
theorem dX12_aNoon_229 : decode cX12_aNoon 229 = .ok (.getfield 7, 3) := by decide +kernel
theorem dX12_aNoon_232 : decode cX12_aNoon 232 = .ok (.iconst 5, 1) := by decide +kernel
theorem dX12_aNoon_233 : decode cX12_aNoon 233 = .ok (.iaload, 1) := by decide +kernel
theorem dX12_aNoon_234 : decode cX12_aNoon 234 = .ok (.if_icmp .ge 57, 3) := by decide +kernel
theorem dX12_aNoon_237 : decode cX12_aNoon 237 = .ok (.aload_n 0, 1) := by decide +kernel
theorem dX12_aNoon_238 : decode cX12_aNoon 238 = .ok (.iload 7, 2) := by decide +kernel
theorem dX12_aNoon_240 : decode cX12_aNoon 240 = .ok (.aload_n 0, 1) := by decide +kernel
theorem dX12_aNoon_241 : decode cX12_aNoon 241 = .ok (.iload 7, 2) := by decide +kernel
theorem dX12_aNoon_243 : decode cX12_aNoon 243 = .ok (.aload_n 0, 1) := by decide +kernel
theorem dX12_aNoon_244 : decode cX12_aNoon 244 = .ok (.getfield 7, 3) := by decide +kernel
theorem dX12_aNoon_247 : decode cX12_aNoon 247 = .ok (.iconst 2, 1) := by decide +kernel
theorem dX12_aNoon_248 : decode cX12_aNoon 248 = .ok (.iaload, 1) := by decide +kernel
theorem dX12_aNoon_249 : decode cX12_aNoon 249 = .ok (.aload_n 0, 1) := by decide +kernel
theorem dX12_aNoon_250 : decode cX12_aNoon 250 = .ok (.getfield 7, 3) := by decide +kernel
theorem dX12_aNoon_253 : decode cX12_aNoon 253 = .ok (.iconst 1, 1) := by decide +kernel
theorem dX12_aNoon_254 : decode cX12_aNoon 254 = .ok (.iaload, 1) := by decide +kernel
theorem dX12_aNoon_255 : decode cX12_aNoon 255 = .ok (.iload 5, 2) := by decide +kernel
theorem dX12_aNoon_257 : decode cX12_aNoon 257 = .ok (.invokevirtual 232, 3) := by decide +kernel
theorem dX12_aNoon_260 : decode cX12_aNoon 260 = .ok (.iload 6, 2) := by decide +kernel
theorem dX12_aNoon_262 : decode cX12_aNoon 262 = .ok (.iload 7, 2) := by decide +kernel
theorem dX12_aNoon_264 : decode cX12_aNoon 264 = .ok (.ishr, 1) := by decide +kernel
theorem dX12_aNoon_265 : decode cX12_aNoon 265 = .ok (.iconst 1, 1) := by decide +kernel
theorem dX12_aNoon_266 : decode cX12_aNoon 266 = .ok (.iand, 1) := by decide +kernel
theorem dX12_aNoon_267 : decode cX12_aNoon 267 = .ok (.iconst 1, 1) := by decide +kernel
theorem dX12_aNoon_268 : decode cX12_aNoon 268 = .ok (.if_icmp .ne 12, 3) := by decide +kernel
theorem dX12_aNoon_271 : decode cX12_aNoon 271 = .ok (.aload_n 0, 1) := by decide +kernel
theorem dX12_aNoon_272 : decode cX12_aNoon 272 = .ok (.getfield 7, 3) := by decide +kernel
theorem dX12_aNoon_275 : decode cX12_aNoon 275 = .ok (.iconst 4, 1) := by decide +kernel
theorem dX12_aNoon_276 : decode cX12_aNoon 276 = .ok (.iaload, 1) := by decide +kernel
theorem dX12_aNoon_277 : decode cX12_aNoon 277 = .ok (.goto 4, 3) := by decide +kernel
theorem dX12_aNoon_280 : decode cX12_aNoon 280 = .ok (.iconst 0, 1) := by decide +kernel
theorem dX12_aNoon_281 : decode cX12_aNoon 281 = .ok (.isub, 1) := by decide +kernel
theorem dX12_aNoon_282 : decode cX12_aNoon 282 = .ok (.invokevirtual 243, 3) := by decide +kernel
theorem dX12_aNoon_285 : decode cX12_aNoon 285 = .ok (.iinc 7 1, 3) := by decide +kernel
theorem dX12_aNoon_288 : decode cX12_aNoon 288 = .ok (.goto (-62), 3) := by decide +kernel
theorem dX12_aNoon_291 : decode cX12_aNoon 291 = .ok (.aload_n 0, 1) := by decide +kernel
theorem dX12_aNoon_292 : decode cX12_aNoon 292 = .ok (.iload 5, 2) := by decide +kernel
theorem dX12_aNoon_294 : decode cX12_aNoon 294 = .ok (.invokevirtual 261, 3) := by decide +kernel
theorem dX12_aNoon_297 : decode cX12_aNoon 297 = .ok (.aload_n 0, 1) := by decide +kernel
theorem dX12_aNoon_298 : decode cX12_aNoon 298 = .ok (.getfield 7, 3) := by decide +kernel
theorem dX12_aNoon_301 : decode cX12_aNoon 301 = .ok (.iconst 2, 1) := by decide +kernel
theorem dX12_aNoon_302 : decode cX12_aNoon 302 = .ok (.dup2, 1) := by decide +kernel
theorem dX12_aNoon_303 : decode cX12_aNoon 303 = .ok (.iaload, 1) := by decide +kernel
theorem dX12_aNoon_304 : decode cX12_aNoon 304 = .ok (.iconst 1, 1) := by decide +kernel
theorem dX12_aNoon_305 : decode cX12_aNoon 305 = .ok (.iadd, 1) := by decide +kernel
theorem dX12_aNoon_306 : decode cX12_aNoon 306 = .ok (.iastore, 1) := by decide +kernel
theorem dX12_aNoon_307 : decode cX12_aNoon 307 = .ok (.iload 5, 2) := by decide +kernel
theorem dX12_aNoon_309 : decode cX12_aNoon 309 = .ok (.ifCond .ne 7, 3) := by decide +kernel
theorem dX12_aNoon_312 : decode cX12_aNoon 312 = .ok (.iconst 0, 1) := by decide +kernel
theorem dX12_aNoon_313 : decode cX12_aNoon 313 = .ok (.goto 4, 3) := by decide +kernel
theorem dX12_aNoon_316 : decode cX12_aNoon 316 = .ok (.iconst 1, 1) := by decide +kernel
theorem dX12_aNoon_317 : decode cX12_aNoon 317 = .ok (.ireturn, 1) := by decide +kernel
theorem dX12_noons_0 : decode cX12_noons 0 = .ok (.iload_n 1, 1) := by decide +kernel
theorem dX12_noons_1 : decode cX12_noons 1 = .ok (.iconst 1, 1) := by decide +kernel
theorem dX12_noons_2 : decode cX12_noons 2 = .ok (.sipush 400, 3) := by decide +kernel
theorem dX12_noons_5 : decode cX12_noons 5 = .ok (.invokestatic 70, 3) := by decide +kernel
theorem dX12_noons_8 : decode cX12_noons 8 = .ok (.ifCond .eq 17, 3) := by decide +kernel
theorem dX12_noons_11 : decode cX12_noons 11 = .ok (.aload_n 0, 1) := by decide +kernel
theorem dX12_noons_12 : decode cX12_noons 12 = .ok (.getfield 7, 3) := by decide +kernel
theorem dX12_noons_15 : decode cX12_noons 15 = .ok (.iconst 2, 1) := by decide +kernel
theorem dX12_noons_16 : decode cX12_noons 16 = .ok (.iaload, 1) := by decide +kernel
theorem dX12_noons_17 : decode cX12_noons 17 = .ok (.iload_n 1, 1) := by decide +kernel
theorem dX12_noons_18 : decode cX12_noons 18 = .ok (.iadd, 1) := by decide +kernel
theorem dX12_noons_19 : decode cX12_noons 19 = .ok (.sipush 9999, 3) := by decide +kernel
theorem dX12_noons_22 : decode cX12_noons 22 = .ok (.if_icmp .le 5, 3) := by decide +kernel
theorem dX12_noons_25 : decode cX12_noons 25 = .ok (.iconst (-1), 1) := by decide +kernel
theorem dX12_noons_26 : decode cX12_noons 26 = .ok (.ireturn, 1) := by decide +kernel
theorem dX12_noons_27 : decode cX12_noons 27 = .ok (.iconst 0, 1) := by decide +kernel
theorem dX12_noons_28 : decode cX12_noons 28 = .ok (.istore_n 2, 1) := by decide +kernel
theorem dX12_noons_29 : decode cX12_noons 29 = .ok (.iconst 0, 1) := by decide +kernel
theorem dX12_noons_30 : decode cX12_noons 30 = .ok (.istore_n 3, 1) := by decide +kernel
theorem dX12_noons_31 : decode cX12_noons 31 = .ok (.iload_n 3, 1) := by decide +kernel
theorem dX12_noons_32 : decode cX12_noons 32 = .ok (.iload_n 1, 1) := by decide +kernel
theorem dX12_noons_33 : decode cX12_noons 33 = .ok (.if_icmp .ge 20, 3) := by decide +kernel
theorem dX12_noons_36 : decode cX12_noons 36 = .ok (.aload_n 0, 1) := by decide +kernel
theorem dX12_noons_37 : decode cX12_noons 37 = .ok (.invokevirtual 264, 3) := by decide +kernel
theorem dX12_noons_40 : decode cX12_noons 40 = .ok (.iload_n 2, 1) := by decide +kernel
theorem dX12_noons_41 : decode cX12_noons 41 = .ok (.aload_n 0, 1) := by decide +kernel
theorem dX12_noons_42 : decode cX12_noons 42 = .ok (.invokevirtual 267, 3) := by decide +kernel
theorem dX12_noons_45 : decode cX12_noons 45 = .ok (.iadd, 1) := by decide +kernel
theorem dX12_noons_46 : decode cX12_noons 46 = .ok (.istore_n 2, 1) := by decide +kernel
theorem dX12_noons_47 : decode cX12_noons 47 = .ok (.iinc 3 1, 3) := by decide +kernel
theorem dX12_noons_50 : decode cX12_noons 50 = .ok (.goto (-19), 3) := by decide +kernel
theorem dX12_noons_53 : decode cX12_noons 53 = .ok (.iload_n 2, 1) := by decide +kernel
theorem dX12_noons_54 : decode cX12_noons 54 = .ok (.ireturn, 1) := by decide +kernel
theorem dX12_turned_0 : decode cX12_turned 0 = .ok (.aload_n 0, 1) := by decide +kernel
theorem dX12_turned_1 : decode cX12_turned 1 = .ok (.getfield 7, 3) := by decide +kernel
theorem dX12_turned_4 : decode cX12_turned 4 = .ok (.bipush 9, 2) := by decide +kernel
theorem dX12_turned_6 : decode cX12_turned 6 = .ok (.iaload, 1) := by decide +kernel
theorem dX12_turned_7 : decode cX12_turned 7 = .ok (.iconst 1, 1) := by decide +kernel
theorem dX12_turned_8 : decode cX12_turned 8 = .ok (.isub, 1) := by decide +kernel
theorem dX12_turned_9 : decode cX12_turned 9 = .ok (.istore_n 2, 1) := by decide +kernel
theorem dX12_turned_10 : decode cX12_turned 10 = .ok (.iload_n 2, 1) := by decide +kernel
theorem dX12_turned_11 : decode cX12_turned 11 = .ok (.ifCond .lt 57, 3) := by decide +kernel
theorem dX12_turned_14 : decode cX12_turned 14 = .ok (.iload_n 2, 1) := by decide +kernel
theorem dX12_turned_15 : decode cX12_turned 15 = .ok (.aload_n 0, 1) := by decide +kernel
theorem dX12_turned_16 : decode cX12_turned 16 = .ok (.getfield 7, 3) := by decide +kernel
theorem dX12_turned_19 : decode cX12_turned 19 = .ok (.bipush 9, 2) := by decide +kernel
theorem dX12_turned_21 : decode cX12_turned 21 = .ok (.iaload, 1) := by decide +kernel
theorem dX12_turned_22 : decode cX12_turned 22 = .ok (.sipush 400, 3) := by decide +kernel
theorem dX12_turned_25 : decode cX12_turned 25 = .ok (.isub, 1) := by decide +kernel
theorem dX12_turned_26 : decode cX12_turned 26 = .ok (.if_icmp .lt 42, 3) := by decide +kernel
theorem dX12_turned_29 : decode cX12_turned 29 = .ok (.aload_n 0, 1) := by decide +kernel
theorem dX12_turned_30 : decode cX12_turned 30 = .ok (.getfield 7, 3) := by decide +kernel
theorem dX12_turned_33 : decode cX12_turned 33 = .ok (.sipush 1490, 3) := by decide +kernel
theorem dX12_turned_36 : decode cX12_turned 36 = .ok (.iconst 2, 1) := by decide +kernel
theorem dX12_turned_37 : decode cX12_turned 37 = .ok (.iload_n 2, 1) := by decide +kernel
theorem dX12_turned_38 : decode cX12_turned 38 = .ok (.imul, 1) := by decide +kernel
theorem dX12_turned_39 : decode cX12_turned 39 = .ok (.iadd, 1) := by decide +kernel
theorem dX12_turned_40 : decode cX12_turned 40 = .ok (.iaload, 1) := by decide +kernel
theorem dX12_turned_41 : decode cX12_turned 41 = .ok (.iload_n 1, 1) := by decide +kernel
theorem dX12_turned_42 : decode cX12_turned 42 = .ok (.if_icmp .ne 20, 3) := by decide +kernel
theorem dX12_turned_45 : decode cX12_turned 45 = .ok (.aload_n 0, 1) := by decide +kernel
theorem dX12_turned_46 : decode cX12_turned 46 = .ok (.getfield 7, 3) := by decide +kernel
theorem dX12_turned_49 : decode cX12_turned 49 = .ok (.sipush 1490, 3) := by decide +kernel
theorem dX12_turned_52 : decode cX12_turned 52 = .ok (.iconst 2, 1) := by decide +kernel
theorem dX12_turned_53 : decode cX12_turned 53 = .ok (.iload_n 2, 1) := by decide +kernel
theorem dX12_turned_54 : decode cX12_turned 54 = .ok (.imul, 1) := by decide +kernel
theorem dX12_turned_55 : decode cX12_turned 55 = .ok (.iadd, 1) := by decide +kernel
theorem dX12_turned_56 : decode cX12_turned 56 = .ok (.iconst 1, 1) := by decide +kernel
theorem dX12_turned_57 : decode cX12_turned 57 = .ok (.iadd, 1) := by decide +kernel
theorem dX12_turned_58 : decode cX12_turned 58 = .ok (.iaload, 1) := by decide +kernel
theorem dX12_turned_59 : decode cX12_turned 59 = .ok (.iconst 2, 1) := by decide +kernel
theorem dX12_turned_60 : decode cX12_turned 60 = .ok (.iadd, 1) := by decide +kernel
theorem dX12_turned_61 : decode cX12_turned 61 = .ok (.ireturn, 1) := by decide +kernel
theorem dX12_turned_62 : decode cX12_turned 62 = .ok (.iinc 2 (-1), 3) := by decide +kernel
theorem dX12_turned_65 : decode cX12_turned 65 = .ok (.goto (-55), 3) := by decide +kernel
theorem dX12_turned_68 : decode cX12_turned 68 = .ok (.iconst (-1), 1) := by decide +kernel
theorem dX12_turned_69 : decode cX12_turned 69 = .ok (.ireturn, 1) := by decide +kernel
theorem dX12_count_0 : decode cX12_count 0 = .ok (.iconst 0, 1) := by decide +kernel
theorem dX12_count_1 : decode cX12_count 1 = .ok (.istore_n 1, 1) := by decide +kernel
theorem dX12_count_2 : decode cX12_count 2 = .ok (.iconst 0, 1) := by decide +kernel
theorem dX12_count_3 : decode cX12_count 3 = .ok (.istore_n 2, 1) := by decide +kernel
