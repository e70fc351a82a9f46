theorem dX12_pay_19 : decode cX12_pay 19 = .ok (.iconst 0, 1) := by decide +kernel
theorem dX12_pay_20 : decode cX12_pay 20 = .ok (.ireturn, 1) := by decide +kernel
theorem dX12_pay_21 : decode cX12_pay 21 = .ok (.aload_n 0, 1) := by decide +kernel
theorem dX12_pay_22 : decode cX12_pay 22 = .ok (.getfield 7, 3) := by decide +kernel
theorem dX12_pay_25 : decode cX12_pay 25 = .ok (.bipush 60, 2) := by decide +kernel
theorem dX12_pay_27 : decode cX12_pay 27 = .ok (.iload_n 1, 1) := by decide +kernel
theorem dX12_pay_28 : decode cX12_pay 28 = .ok (.iadd, 1) := by decide +kernel
theorem dX12_pay_29 : decode cX12_pay 29 = .ok (.iload_n 2, 1) := by decide +kernel
theorem dX12_pay_30 : decode cX12_pay 30 = .ok (.iastore, 1) := by decide +kernel
theorem dX12_pay_31 : decode cX12_pay 31 = .ok (.iconst 1, 1) := by decide +kernel
theorem dX12_pay_32 : decode cX12_pay 32 = .ok (.ireturn, 1) := by decide +kernel
theorem dX12_leave_0 : decode cX12_leave 0 = .ok (.iload_n 1, 1) := by decide +kernel
theorem dX12_leave_1 : decode cX12_leave 1 = .ok (.iconst 1, 1) := by decide +kernel
theorem dX12_leave_2 : decode cX12_leave 2 = .ok (.bipush 6, 2) := by decide +kernel
theorem dX12_leave_4 : decode cX12_leave 4 = .ok (.invokestatic 70, 3) := by decide +kernel
theorem dX12_leave_7 : decode cX12_leave 7 = .ok (.ifCond .ne 5, 3) := by decide +kernel
theorem dX12_leave_10 : decode cX12_leave 10 = .ok (.iconst (-1), 1) := by decide +kernel
theorem dX12_leave_11 : decode cX12_leave 11 = .ok (.ireturn, 1) := by decide +kernel
theorem dX12_leave_12 : decode cX12_leave 12 = .ok (.aload_n 0, 1) := by decide +kernel
theorem dX12_leave_13 : decode cX12_leave 13 = .ok (.iload_n 1, 1) := by decide +kernel
theorem dX12_leave_14 : decode cX12_leave 14 = .ok (.invokevirtual 294, 3) := by decide +kernel
theorem dX12_leave_17 : decode cX12_leave 17 = .ok (.pop, 1) := by decide +kernel
theorem dX12_leave_18 : decode cX12_leave 18 = .ok (.iconst 0, 1) := by decide +kernel
theorem dX12_leave_19 : decode cX12_leave 19 = .ok (.istore_n 2, 1) := by decide +kernel
theorem dX12_leave_20 : decode cX12_leave 20 = .ok (.iload_n 2, 1) := by decide +kernel
theorem dX12_leave_21 : decode cX12_leave 21 = .ok (.aload_n 0, 1) := by decide +kernel
theorem dX12_leave_22 : decode cX12_leave 22 = .ok (.getfield 7, 3) := by decide +kernel
theorem dX12_leave_25 : decode cX12_leave 25 = .ok (.iconst 5, 1) := by decide +kernel
theorem dX12_leave_26 : decode cX12_leave 26 = .ok (.iaload, 1) := by decide +kernel
theorem dX12_leave_27 : decode cX12_leave 27 = .ok (.if_icmp .ge 91, 3) := by decide +kernel
theorem dX12_leave_30 : decode cX12_leave 30 = .ok (.aload_n 0, 1) := by decide +kernel
theorem dX12_leave_31 : decode cX12_leave 31 = .ok (.getfield 56, 3) := by decide +kernel
theorem dX12_leave_34 : decode cX12_leave 34 = .ok (.iload_n 2, 1) := by decide +kernel
theorem dX12_leave_35 : decode cX12_leave 35 = .ok (.aload_n 0, 1) := by decide +kernel
theorem dX12_leave_36 : decode cX12_leave 36 = .ok (.getfield 7, 3) := by decide +kernel
theorem dX12_leave_39 : decode cX12_leave 39 = .ok (.bipush 60, 2) := by decide +kernel
theorem dX12_leave_41 : decode cX12_leave 41 = .ok (.iload_n 2, 1) := by decide +kernel
theorem dX12_leave_42 : decode cX12_leave 42 = .ok (.iadd, 1) := by decide +kernel
theorem dX12_leave_43 : decode cX12_leave 43 = .ok (.iaload, 1) := by decide +kernel
theorem dX12_leave_44 : decode cX12_leave 44 = .ok (.iastore, 1) := by decide +kernel
theorem dX12_leave_45 : decode cX12_leave 45 = .ok (.aload_n 0, 1) := by decide +kernel
theorem dX12_leave_46 : decode cX12_leave 46 = .ok (.getfield 7, 3) := by decide +kernel
theorem dX12_leave_49 : decode cX12_leave 49 = .ok (.iconst 1, 1) := by decide +kernel
theorem dX12_leave_50 : decode cX12_leave 50 = .ok (.iaload, 1) := by decide +kernel
theorem dX12_leave_51 : decode cX12_leave 51 = .ok (.istore_n 3, 1) := by decide +kernel
theorem dX12_leave_52 : decode cX12_leave 52 = .ok (.iconst 0, 1) := by decide +kernel
theorem dX12_leave_53 : decode cX12_leave 53 = .ok (.istore 4, 2) := by decide +kernel
theorem dX12_leave_55 : decode cX12_leave 55 = .ok (.iload 4, 2) := by decide +kernel
theorem dX12_leave_57 : decode cX12_leave 57 = .ok (.iload_n 1, 1) := by decide +kernel
theorem dX12_leave_58 : decode cX12_leave 58 = .ok (.if_icmp .ge 54, 3) := by decide +kernel
theorem dX12_leave_61 : decode cX12_leave 61 = .ok (.aload_n 0, 1) := by decide +kernel
theorem dX12_leave_62 : decode cX12_leave 62 = .ok (.iload_n 3, 1) := by decide +kernel
theorem dX12_leave_63 : decode cX12_leave 63 = .ok (.aload_n 0, 1) := by decide +kernel
theorem dX12_leave_64 : decode cX12_leave 64 = .ok (.getfield 44, 3) := by decide +kernel
theorem dX12_leave_67 : decode cX12_leave 67 = .ok (.iload 4, 2) := by decide +kernel
theorem dX12_leave_69 : decode cX12_leave 69 = .ok (.iaload, 1) := by decide +kernel
theorem dX12_leave_70 : decode cX12_leave 70 = .ok (.iadd, 1) := by decide +kernel
theorem dX12_leave_71 : decode cX12_leave 71 = .ok (.invokevirtual 216, 3) := by decide +kernel
theorem dX12_leave_74 : decode cX12_leave 74 = .ok (.istore_n 3, 1) := by decide +kernel
theorem dX12_leave_75 : decode cX12_leave 75 = .ok (.aload_n 0, 1) := by decide +kernel
theorem dX12_leave_76 : decode cX12_leave 76 = .ok (.getfield 56, 3) := by decide +kernel
theorem dX12_leave_79 : decode cX12_leave 79 = .ok (.iload_n 2, 1) := by decide +kernel
theorem dX12_leave_80 : decode cX12_leave 80 = .ok (.dup2, 1) := by decide +kernel
theorem dX12_leave_81 : decode cX12_leave 81 = .ok (.iaload, 1) := by decide +kernel
theorem dX12_leave_82 : decode cX12_leave 82 = .ok (.aload_n 0, 1) := by decide +kernel
theorem dX12_leave_83 : decode cX12_leave 83 = .ok (.iload_n 2, 1) := by decide +kernel
theorem dX12_leave_84 : decode cX12_leave 84 = .ok (.aload_n 0, 1) := by decide +kernel
theorem dX12_leave_85 : decode cX12_leave 85 = .ok (.getfield 7, 3) := by decide +kernel
theorem dX12_leave_88 : decode cX12_leave 88 = .ok (.iconst 2, 1) := by decide +kernel
theorem dX12_leave_89 : decode cX12_leave 89 = .ok (.iaload, 1) := by decide +kernel
theorem dX12_leave_90 : decode cX12_leave 90 = .ok (.iload 4, 2) := by decide +kernel
theorem dX12_leave_92 : decode cX12_leave 92 = .ok (.iadd, 1) := by decide +kernel
theorem dX12_leave_93 : decode cX12_leave 93 = .ok (.iload_n 3, 1) := by decide +kernel
theorem dX12_leave_94 : decode cX12_leave 94 = .ok (.aload_n 0, 1) := by decide +kernel
theorem dX12_leave_95 : decode cX12_leave 95 = .ok (.getfield 44, 3) := by decide +kernel
theorem dX12_leave_98 : decode cX12_leave 98 = .ok (.iload 4, 2) := by decide +kernel
theorem dX12_leave_100 : decode cX12_leave 100 = .ok (.iaload, 1) := by decide +kernel
theorem dX12_leave_101 : decode cX12_leave 101 = .ok (.invokevirtual 232, 3) := by decide +kernel
theorem dX12_leave_104 : decode cX12_leave 104 = .ok (.iadd, 1) := by decide +kernel
theorem dX12_leave_105 : decode cX12_leave 105 = .ok (.iastore, 1) := by decide +kernel
theorem dX12_leave_106 : decode cX12_leave 106 = .ok (.iinc 4 1, 3) := by decide +kernel
theorem dX12_leave_109 : decode cX12_leave 109 = .ok (.goto (-54), 3) := by decide +kernel
theorem dX12_leave_112 : decode cX12_leave 112 = .ok (.iinc 2 1, 3) := by decide +kernel
theorem dX12_leave_115 : decode cX12_leave 115 = .ok (.goto (-95), 3) := by decide +kernel
theorem dX12_leave_118 : decode cX12_leave 118 = .ok (.iconst (-1), 1) := by decide +kernel
theorem dX12_leave_119 : decode cX12_leave 119 = .ok (.istore_n 2, 1) := by decide +kernel
theorem dX12_leave_120 : decode cX12_leave 120 = .ok (.iconst 1, 1) := by decide +kernel
theorem dX12_leave_121 : decode cX12_leave 121 = .ok (.istore_n 3, 1) := by decide +kernel
theorem dX12_leave_122 : decode cX12_leave 122 = .ok (.iload_n 3, 1) := by decide +kernel
theorem dX12_leave_123 : decode cX12_leave 123 = .ok (.aload_n 0, 1) := by decide +kernel
theorem dX12_leave_124 : decode cX12_leave 124 = .ok (.invokevirtual 255, 3) := by decide +kernel
theorem dX12_leave_127 : decode cX12_leave 127 = .ok (.if_icmp .gt 90, 3) := by decide +kernel
theorem dX12_leave_130 : decode cX12_leave 130 = .ok (.iload_n 2, 1) := by decide +kernel
theorem dX12_leave_131 : decode cX12_leave 131 = .ok (.iconst (-1), 1) := by decide +kernel
theorem dX12_leave_132 : decode cX12_leave 132 = .ok (.if_icmp .eq 17, 3) := by decide +kernel
theorem dX12_leave_135 : decode cX12_leave 135 = .ok (.iload_n 3, 1) := by decide +kernel
theorem dX12_leave_136 : decode cX12_leave 136 = .ok (.invokestatic 273, 3) := by decide +kernel
theorem dX12_leave_139 : decode cX12_leave 139 = .ok (.iload_n 2, 1) := by decide +kernel
theorem dX12_leave_140 : decode cX12_leave 140 = .ok (.invokestatic 273, 3) := by decide +kernel
theorem dX12_leave_143 : decode cX12_leave 143 = .ok (.if_icmp .lt 6, 3) := by decide +kernel
theorem dX12_leave_146 : decode cX12_leave 146 = .ok (.goto 65, 3) := by decide +kernel
theorem dX12_leave_149 : decode cX12_leave 149 = .ok (.iconst 0, 1) := by decide +kernel
theorem dX12_leave_150 : decode cX12_leave 150 = .ok (.istore 4, 2) := by decide +kernel
theorem dX12_leave_152 : decode cX12_leave 152 = .ok (.iconst 0, 1) := by decide +kernel
theorem dX12_leave_153 : decode cX12_leave 153 = .ok (.istore 5, 2) := by decide +kernel
theorem dX12_leave_155 : decode cX12_leave 155 = .ok (.iload 5, 2) := by decide +kernel
theorem dX12_leave_157 : decode cX12_leave 157 = .ok (.aload_n 0, 1) := by decide +kernel
theorem dX12_leave_158 : decode cX12_leave 158 = .ok (.getfield 7, 3) := by decide +kernel
theorem dX12_leave_161 : decode cX12_leave 161 = .ok (.iconst 5, 1) := by decide +kernel
theorem dX12_leave_162 : decode cX12_leave 162 = .ok (.iaload, 1) := by decide +kernel
theorem dX12_leave_163 : decode cX12_leave 163 = .ok (.if_icmp .ge 35, 3) := by decide +kernel
theorem dX12_leave_166 : decode cX12_leave 166 = .ok (.iload 4, 2) := by decide +kernel
theorem dX12_leave_168 : decode cX12_leave 168 = .ok (.iload_n 3, 1) := by decide +kernel
theorem dX12_leave_169 : decode cX12_leave 169 = .ok (.iload 5, 2) := by decide +kernel
theorem dX12_leave_171 : decode cX12_leave 171 = .ok (.ishr, 1) := by decide +kernel
theorem dX12_leave_172 : decode cX12_leave 172 = .ok (.iconst 1, 1) := by decide +kernel
theorem dX12_leave_173 : decode cX12_leave 173 = .ok (.iand, 1) := by decide +kernel
theorem dX12_leave_174 : decode cX12_leave 174 = .ok (.iconst 1, 1) := by decide +kernel
theorem dX12_leave_175 : decode cX12_leave 175 = .ok (.if_icmp .ne 13, 3) := by decide +kernel
theorem dX12_leave_178 : decode cX12_leave 178 = .ok (.aload_n 0, 1) := by decide +kernel
theorem dX12_leave_179 : decode cX12_leave 179 = .ok (.getfield 56, 3) := by decide +kernel
theorem dX12_leave_182 : decode cX12_leave 182 = .ok (.iload 5, 2) := by decide +kernel
theorem dX12_leave_184 : decode cX12_leave 184 = .ok (.iaload, 1) := by decide +kernel
theorem dX12_leave_185 : decode cX12_leave 185 = .ok (.goto 4, 3) := by decide +kernel
theorem dX12_leave_188 : decode cX12_leave 188 = .ok (.iconst 0, 1) := by decide +kernel
theorem dX12_leave_189 : decode cX12_leave 189 = .ok (.iadd, 1) := by decide +kernel
theorem dX12_leave_190 : decode cX12_leave 190 = .ok (.istore 4, 2) := by decide +kernel
theorem dX12_leave_192 : decode cX12_leave 192 = .ok (.iinc 5 1, 3) := by decide +kernel
theorem dX12_leave_195 : decode cX12_leave 195 = .ok (.goto (-40), 3) := by decide +kernel
theorem dX12_leave_198 : decode cX12_leave 198 = .ok (.iload 4, 2) := by decide +kernel
theorem dX12_leave_200 : decode cX12_leave 200 = .ok (.aload_n 0, 1) := by decide +kernel
theorem dX12_leave_201 : decode cX12_leave 201 = .ok (.iload_n 3, 1) := by decide +kernel
theorem dX12_leave_202 : decode cX12_leave 202 = .ok (.iload_n 1, 1) := by decide +kernel
theorem dX12_leave_203 : decode cX12_leave 203 = .ok (.invokevirtual 311, 3) := by decide +kernel
theorem dX12_leave_206 : decode cX12_leave 206 = .ok (.if_icmp .ge 5, 3) := by decide +kernel
theorem dX12_leave_209 : decode cX12_leave 209 = .ok (.iload_n 3, 1) := by decide +kernel
theorem dX12_leave_210 : decode cX12_leave 210 = .ok (.istore_n 2, 1) := by decide +kernel
theorem dX12_leave_211 : decode cX12_leave 211 = .ok (.iinc 3 1, 3) := by decide +kernel
theorem dX12_leave_214 : decode cX12_leave 214 = .ok (.goto (-92), 3) := by decide +kernel
theorem dX12_leave_217 : decode cX12_leave 217 = .ok (.iload_n 2, 1) := by decide +kernel
theorem dX12_leave_218 : decode cX12_leave 218 = .ok (.ireturn, 1) := by decide +kernel
theorem dX12_areAtOdds_0 : decode cX12_areAtOdds 0 = .ok (.sipush 370, 3) := by decide +kernel
theorem dX12_areAtOdds_3 : decode cX12_areAtOdds 3 = .ok (.iconst 5, 1) := by decide +kernel
theorem dX12_areAtOdds_4 : decode cX12_areAtOdds 4 = .ok (.iload_n 1, 1) := by decide +kernel
theorem dX12_areAtOdds_5 : decode cX12_areAtOdds 5 = .ok (.imul, 1) := by decide +kernel
theorem dX12_areAtOdds_6 : decode cX12_areAtOdds 6 = .ok (.iadd, 1) := by decide +kernel
theorem dX12_areAtOdds_7 : decode cX12_areAtOdds 7 = .ok (.istore_n 3, 1) := by decide +kernel
theorem dX12_areAtOdds_8 : decode cX12_areAtOdds 8 = .ok (.sipush 370, 3) := by decide +kernel
theorem dX12_areAtOdds_11 : decode cX12_areAtOdds 11 = .ok (.iconst 5, 1) := by decide +kernel
theorem dX12_areAtOdds_12 : decode cX12_areAtOdds 12 = .ok (.iload_n 2, 1) := by decide +kernel
theorem dX12_areAtOdds_13 : decode cX12_areAtOdds 13 = .ok (.imul, 1) := by decide +kernel
theorem dX12_areAtOdds_14 : decode cX12_areAtOdds 14 = .ok (.iadd, 1) := by decide +kernel
theorem dX12_areAtOdds_15 : decode cX12_areAtOdds 15 = .ok (.istore 4, 2) := by decide +kernel
theorem dX12_areAtOdds_17 : decode cX12_areAtOdds 17 = .ok (.iload_n 1, 1) := by decide +kernel
theorem dX12_areAtOdds_18 : decode cX12_areAtOdds 18 = .ok (.iload_n 2, 1) := by decide +kernel
theorem dX12_areAtOdds_19 : decode cX12_areAtOdds 19 = .ok (.if_icmp .eq 99, 3) := by decide +kernel
theorem dX12_areAtOdds_22 : decode cX12_areAtOdds 22 = .ok (.aload_n 0, 1) := by decide +kernel
theorem dX12_areAtOdds_23 : decode cX12_areAtOdds 23 = .ok (.iload_n 1, 1) := by decide +kernel
theorem dX12_areAtOdds_24 : decode cX12_areAtOdds 24 = .ok (.invokevirtual 246, 3) := by decide +kernel
theorem dX12_areAtOdds_27 : decode cX12_areAtOdds 27 = .ok (.ifCond .eq 91, 3) := by decide +kernel
theorem dX12_areAtOdds_30 : decode cX12_areAtOdds 30 = .ok (.aload_n 0, 1) := by decide +kernel
theorem dX12_areAtOdds_31 : decode cX12_areAtOdds 31 = .ok (.iload_n 2, 1) := by decide +kernel
theorem dX12_areAtOdds_32 : decode cX12_areAtOdds 32 = .ok (.invokevirtual 246, 3) := by decide +kernel
theorem dX12_areAtOdds_35 : decode cX12_areAtOdds 35 = .ok (.ifCond .eq 83, 3) := by decide +kernel
theorem dX12_areAtOdds_38 : decode cX12_areAtOdds 38 = .ok (.aload_n 0, 1) := by decide +kernel
theorem dX12_areAtOdds_39 : decode cX12_areAtOdds 39 = .ok (.getfield 7, 3) := by decide +kernel
theorem dX12_areAtOdds_42 : decode cX12_areAtOdds 42 = .ok (.iload_n 3, 1) := by decide +kernel
theorem dX12_areAtOdds_43 : decode cX12_areAtOdds 43 = .ok (.iaload, 1) := by decide +kernel
theorem dX12_areAtOdds_44 : decode cX12_areAtOdds 44 = .ok (.aload_n 0, 1) := by decide +kernel
theorem dX12_areAtOdds_45 : decode cX12_areAtOdds 45 = .ok (.getfield 7, 3) := by decide +kernel
theorem dX12_areAtOdds_48 : decode cX12_areAtOdds 48 = .ok (.iload 4, 2) := by decide +kernel
theorem dX12_areAtOdds_50 : decode cX12_areAtOdds 50 = .ok (.iaload, 1) := by decide +kernel
theorem dX12_areAtOdds_51 : decode cX12_areAtOdds 51 = .ok (.if_icmp .ne 67, 3) := by decide +kernel
theorem dX12_areAtOdds_54 : decode cX12_areAtOdds 54 = .ok (.aload_n 0, 1) := by decide +kernel
theorem dX12_areAtOdds_55 : decode cX12_areAtOdds 55 = .ok (.getfield 7, 3) := by decide +kernel
theorem dX12_areAtOdds_58 : decode cX12_areAtOdds 58 = .ok (.iload_n 3, 1) := by decide +kernel
theorem dX12_areAtOdds_59 : decode cX12_areAtOdds 59 = .ok (.iconst 1, 1) := by decide +kernel
theorem dX12_areAtOdds_60 : decode cX12_areAtOdds 60 = .ok (.iadd, 1) := by decide +kernel
theorem dX12_areAtOdds_61 : decode cX12_areAtOdds 61 = .ok (.iaload, 1) := by decide +kernel
theorem dX12_areAtOdds_62 : decode cX12_areAtOdds 62 = .ok (.aload_n 0, 1) := by decide +kernel
theorem dX12_areAtOdds_63 : decode cX12_areAtOdds 63 = .ok (.getfield 7, 3) := by decide +kernel
theorem dX12_areAtOdds_66 : decode cX12_areAtOdds 66 = .ok (.iload 4, 2) := by decide +kernel
theorem dX12_areAtOdds_68 : decode cX12_areAtOdds 68 = .ok (.iconst 1, 1) := by decide +kernel
theorem dX12_areAtOdds_69 : decode cX12_areAtOdds 69 = .ok (.iadd, 1) := by decide +kernel
theorem dX12_areAtOdds_70 : decode cX12_areAtOdds 70 = .ok (.iaload, 1) := by decide +kernel
theorem dX12_areAtOdds_71 : decode cX12_areAtOdds 71 = .ok (.if_icmp .eq 47, 3) := by decide +kernel
theorem dX12_areAtOdds_74 : decode cX12_areAtOdds 74 = .ok (.aload_n 0, 1) := by decide +kernel
theorem dX12_areAtOdds_75 : decode cX12_areAtOdds 75 = .ok (.getfield 7, 3) := by decide +kernel
theorem dX12_areAtOdds_78 : decode cX12_areAtOdds 78 = .ok (.iload_n 3, 1) := by decide +kernel
theorem dX12_areAtOdds_79 : decode cX12_areAtOdds 79 = .ok (.iconst 2, 1) := by decide +kernel
theorem dX12_areAtOdds_80 : decode cX12_areAtOdds 80 = .ok (.iadd, 1) := by decide +kernel
theorem dX12_areAtOdds_81 : decode cX12_areAtOdds 81 = .ok (.iaload, 1) := by decide +kernel
theorem dX12_areAtOdds_82 : decode cX12_areAtOdds 82 = .ok (.aload_n 0, 1) := by decide +kernel
theorem dX12_areAtOdds_83 : decode cX12_areAtOdds 83 = .ok (.getfield 7, 3) := by decide +kernel
theorem dX12_areAtOdds_86 : decode cX12_areAtOdds 86 = .ok (.iload 4, 2) := by decide +kernel
theorem dX12_areAtOdds_88 : decode cX12_areAtOdds 88 = .ok (.iconst 3, 1) := by decide +kernel
theorem dX12_areAtOdds_89 : decode cX12_areAtOdds 89 = .ok (.iadd, 1) := by decide +kernel
theorem dX12_areAtOdds_90 : decode cX12_areAtOdds 90 = .ok (.iaload, 1) := by decide +kernel
theorem dX12_areAtOdds_91 : decode cX12_areAtOdds 91 = .ok (.if_icmp .gt 27, 3) := by decide +kernel
theorem dX12_areAtOdds_94 : decode cX12_areAtOdds 94 = .ok (.aload_n 0, 1) := by decide +kernel
theorem dX12_areAtOdds_95 : decode cX12_areAtOdds 95 = .ok (.getfield 7, 3) := by decide +kernel
theorem dX12_areAtOdds_98 : decode cX12_areAtOdds 98 = .ok (.iload 4, 2) := by decide +kernel
theorem dX12_areAtOdds_100 : decode cX12_areAtOdds 100 = .ok (.iconst 2, 1) := by decide +kernel
theorem dX12_areAtOdds_101 : decode cX12_areAtOdds 101 = .ok (.iadd, 1) := by decide +kernel
theorem dX12_areAtOdds_102 : decode cX12_areAtOdds 102 = .ok (.iaload, 1) := by decide +kernel
theorem dX12_areAtOdds_103 : decode cX12_areAtOdds 103 = .ok (.aload_n 0, 1) := by decide +kernel
theorem dX12_areAtOdds_104 : decode cX12_areAtOdds 104 = .ok (.getfield 7, 3) := by decide +kernel
theorem dX12_areAtOdds_107 : decode cX12_areAtOdds 107 = .ok (.iload_n 3, 1) := by decide +kernel
theorem dX12_areAtOdds_108 : decode cX12_areAtOdds 108 = .ok (.iconst 3, 1) := by decide +kernel
theorem dX12_areAtOdds_109 : decode cX12_areAtOdds 109 = .ok (.iadd, 1) := by decide +kernel
theorem dX12_areAtOdds_110 : decode cX12_areAtOdds 110 = .ok (.iaload, 1) := by decide +kernel
theorem dX12_areAtOdds_111 : decode cX12_areAtOdds 111 = .ok (.if_icmp .gt 7, 3) := by decide +kernel
theorem dX12_areAtOdds_114 : decode cX12_areAtOdds 114 = .ok (.iconst 1, 1) := by decide +kernel
theorem dX12_areAtOdds_115 : decode cX12_areAtOdds 115 = .ok (.goto 4, 3) := by decide +kernel
theorem dX12_areAtOdds_118 : decode cX12_areAtOdds 118 = .ok (.iconst 0, 1) := by decide +kernel
theorem dX12_areAtOdds_119 : decode cX12_areAtOdds 119 = .ok (.ireturn, 1) := by decide +kernel
theorem dX12_quarrel_0 : decode cX12_quarrel 0 = .ok (.iconst 0, 1) := by decide +kernel
theorem dX12_quarrel_1 : decode cX12_quarrel 1 = .ok (.istore_n 1, 1) := by decide +kernel
theorem dX12_quarrel_2 : decode cX12_quarrel 2 = .ok (.iload_n 1, 1) := by decide +kernel
theorem dX12_quarrel_3 : decode cX12_quarrel 3 = .ok (.aload_n 0, 1) := by decide +kernel
theorem dX12_quarrel_4 : decode cX12_quarrel 4 = .ok (.getfield 7, 3) := by decide +kernel
theorem dX12_quarrel_7 : decode cX12_quarrel 7 = .ok (.bipush 7, 2) := by decide +kernel
theorem dX12_quarrel_9 : decode cX12_quarrel 9 = .ok (.iaload, 1) := by decide +kernel
theorem dX12_quarrel_10 : decode cX12_quarrel 10 = .ok (.if_icmp .ge 33, 3) := by decide +kernel
theorem dX12_quarrel_13 : decode cX12_quarrel 13 = .ok (.iconst 0, 1) := by decide +kernel
theorem dX12_quarrel_14 : decode cX12_quarrel 14 = .ok (.istore_n 2, 1) := by decide +kernel
theorem dX12_quarrel_15 : decode cX12_quarrel 15 = .ok (.iload_n 2, 1) := by decide +kernel
theorem dX12_quarrel_16 : decode cX12_quarrel 16 = .ok (.iload_n 1, 1) := by decide +kernel
theorem dX12_quarrel_17 : decode cX12_quarrel 17 = .ok (.if_icmp .ge 20, 3) := by decide +kernel
theorem dX12_quarrel_20 : decode cX12_quarrel 20 = .ok (.aload_n 0, 1) := by decide +kernel
theorem dX12_quarrel_21 : decode cX12_quarrel 21 = .ok (.iload_n 1, 1) := by decide +kernel
theorem dX12_quarrel_22 : decode cX12_quarrel 22 = .ok (.iload_n 2, 1) := by decide +kernel
theorem dX12_quarrel_23 : decode cX12_quarrel 23 = .ok (.invokevirtual 314, 3) := by decide +kernel
theorem dX12_quarrel_26 : decode cX12_quarrel 26 = .ok (.ifCond .eq 5, 3) := by decide +kernel
theorem dX12_quarrel_29 : decode cX12_quarrel 29 = .ok (.iload_n 1, 1) := by decide +kernel
theorem dX12_quarrel_30 : decode cX12_quarrel 30 = .ok (.ireturn, 1) := by decide +kernel
theorem dX12_quarrel_31 : decode cX12_quarrel 31 = .ok (.iinc 2 1, 3) := by decide +kernel
theorem dX12_quarrel_34 : decode cX12_quarrel 34 = .ok (.goto (-19), 3) := by decide +kernel
theorem dX12_quarrel_37 : decode cX12_quarrel 37 = .ok (.iinc 1 1, 3) := by decide +kernel
theorem dX12_quarrel_40 : decode cX12_quarrel 40 = .ok (.goto (-38), 3) := by decide +kernel
theorem dX12_quarrel_43 : decode cX12_quarrel 43 = .ok (.iconst (-1), 1) := by decide +kernel
theorem dX12_quarrel_44 : decode cX12_quarrel 44 = .ok (.ireturn, 1) := by decide +kernel
theorem dX12_canBe_0 : decode cX12_canBe 0 = .ok (.iconst 0, 1) := by decide +kernel
theorem dX12_canBe_1 : decode cX12_canBe 1 = .ok (.istore 5, 2) := by decide +kernel
theorem dX12_canBe_3 : decode cX12_canBe 3 = .ok (.iload 5, 2) := by decide +kernel
theorem dX12_canBe_5 : decode cX12_canBe 5 = .ok (.aload_n 0, 1) := by decide +kernel
theorem dX12_canBe_6 : decode cX12_canBe 6 = .ok (.getfield 7, 3) := by decide +kernel
theorem dX12_canBe_9 : decode cX12_canBe 9 = .ok (.bipush 7, 2) := by decide +kernel
theorem dX12_canBe_11 : decode cX12_canBe 11 = .ok (.iaload, 1) := by decide +kernel
theorem dX12_canBe_12 : decode cX12_canBe 12 = .ok (.if_icmp .ge 155, 3) := by decide +kernel
theorem dX12_canBe_15 : decode cX12_canBe 15 = .ok (.aload_n 0, 1) := by decide +kernel
theorem dX12_canBe_16 : decode cX12_canBe 16 = .ok (.getfield 7, 3) := by decide +kernel
theorem dX12_canBe_19 : decode cX12_canBe 19 = .ok (.sipush 370, 3) := by decide +kernel
theorem dX12_canBe_22 : decode cX12_canBe 22 = .ok (.iconst 5, 1) := by decide +kernel
theorem dX12_canBe_23 : decode cX12_canBe 23 = .ok (.iload 5, 2) := by decide +kernel
theorem dX12_canBe_25 : decode cX12_canBe 25 = .ok (.imul, 1) := by decide +kernel
theorem dX12_canBe_26 : decode cX12_canBe 26 = .ok (.iadd, 1) := by decide +kernel
theorem dX12_canBe_27 : decode cX12_canBe 27 = .ok (.iaload, 1) := by decide +kernel
theorem dX12_canBe_28 : decode cX12_canBe 28 = .ok (.iload_n 1, 1) := by decide +kernel
theorem dX12_canBe_29 : decode cX12_canBe 29 = .ok (.if_icmp .ne 132, 3) := by decide +kernel
theorem dX12_canBe_32 : decode cX12_canBe 32 = .ok (.iload_n 2, 1) := by decide +kernel
theorem dX12_canBe_33 : decode cX12_canBe 33 = .ok (.iload 5, 2) := by decide +kernel
theorem dX12_canBe_35 : decode cX12_canBe 35 = .ok (.ishr, 1) := by decide +kernel
theorem dX12_canBe_36 : decode cX12_canBe 36 = .ok (.iconst 1, 1) := by decide +kernel
theorem dX12_canBe_37 : decode cX12_canBe 37 = .ok (.iand, 1) := by decide +kernel
theorem dX12_canBe_38 : decode cX12_canBe 38 = .ok (.iconst 1, 1) := by decide +kernel
theorem dX12_canBe_39 : decode cX12_canBe 39 = .ok (.if_icmp .ne 6, 3) := by decide +kernel
theorem dX12_canBe_42 : decode cX12_canBe 42 = .ok (.goto 119, 3) := by decide +kernel
theorem dX12_canBe_45 : decode cX12_canBe 45 = .ok (.iconst 0, 1) := by decide +kernel
theorem dX12_canBe_46 : decode cX12_canBe 46 = .ok (.istore 6, 2) := by decide +kernel
theorem dX12_canBe_48 : decode cX12_canBe 48 = .ok (.iload 6, 2) := by decide +kernel
theorem dX12_canBe_50 : decode cX12_canBe 50 = .ok (.iload 5, 2) := by decide +kernel
theorem dX12_canBe_52 : decode cX12_canBe 52 = .ok (.if_icmp .ge 109, 3) := by decide +kernel
theorem dX12_canBe_55 : decode cX12_canBe 55 = .ok (.iload_n 2, 1) := by decide +kernel
theorem dX12_canBe_56 : decode cX12_canBe 56 = .ok (.iload 6, 2) := by decide +kernel
theorem dX12_canBe_58 : decode cX12_canBe 58 = .ok (.ishr, 1) := by decide +kernel
theorem dX12_canBe_59 : decode cX12_canBe 59 = .ok (.iconst 1, 1) := by decide +kernel
theorem dX12_canBe_60 : decode cX12_canBe 60 = .ok (.iand, 1) := by decide +kernel
theorem dX12_canBe_61 : decode cX12_canBe 61 = .ok (.iconst 1, 1) := by decide +kernel
theorem dX12_canBe_62 : decode cX12_canBe 62 = .ok (.if_icmp .eq 93, 3) := by decide +kernel
theorem dX12_canBe_65 : decode cX12_canBe 65 = .ok (.aload_n 0, 1) := by decide +kernel
theorem dX12_canBe_66 : decode cX12_canBe 66 = .ok (.iload 5, 2) := by decide +kernel
theorem dX12_canBe_68 : decode cX12_canBe 68 = .ok (.iload 6, 2) := by decide +kernel
theorem dX12_canBe_70 : decode cX12_canBe 70 = .ok (.invokevirtual 314, 3) := by decide +kernel
theorem dX12_canBe_73 : decode cX12_canBe 73 = .ok (.ifCond .ne 6, 3) := by decide +kernel
theorem dX12_canBe_76 : decode cX12_canBe 76 = .ok (.goto 79, 3) := by decide +kernel
theorem dX12_canBe_79 : decode cX12_canBe 79 = .ok (.iload 4, 2) := by decide +kernel
theorem dX12_canBe_81 : decode cX12_canBe 81 = .ok (.ifCond .ne 5, 3) := by decide +kernel
theorem dX12_canBe_84 : decode cX12_canBe 84 = .ok (.iconst 0, 1) := by decide +kernel
theorem dX12_canBe_85 : decode cX12_canBe 85 = .ok (.ireturn, 1) := by decide +kernel
theorem dX12_canBe_86 : decode cX12_canBe 86 = .ok (.iload_n 3, 1) := by decide +kernel
theorem dX12_canBe_87 : decode cX12_canBe 87 = .ok (.iload 5, 2) := by decide +kernel
theorem dX12_canBe_89 : decode cX12_canBe 89 = .ok (.ishr, 1) := by decide +kernel
theorem dX12_canBe_90 : decode cX12_canBe 90 = .ok (.iconst 1, 1) := by decide +kernel
theorem dX12_canBe_91 : decode cX12_canBe 91 = .ok (.iand, 1) := by decide +kernel
theorem dX12_canBe_92 : decode cX12_canBe 92 = .ok (.ifCond .ne 24, 3) := by decide +kernel
theorem dX12_canBe_95 : decode cX12_canBe 95 = .ok (.aload_n 0, 1) := by decide +kernel
theorem dX12_canBe_96 : decode cX12_canBe 96 = .ok (.iload_n 1, 1) := by decide +kernel
theorem dX12_canBe_97 : decode cX12_canBe 97 = .ok (.iload_n 2, 1) := by decide +kernel
theorem dX12_canBe_98 : decode cX12_canBe 98 = .ok (.iconst 1, 1) := by decide +kernel
theorem dX12_canBe_99 : decode cX12_canBe 99 = .ok (.iload 5, 2) := by decide +kernel
theorem dX12_canBe_101 : decode cX12_canBe 101 = .ok (.ishl, 1) := by decide +kernel
theorem dX12_canBe_102 : decode cX12_canBe 102 = .ok (.ior, 1) := by decide +kernel
theorem dX12_canBe_103 : decode cX12_canBe 103 = .ok (.iload_n 3, 1) := by decide +kernel
theorem dX12_canBe_104 : decode cX12_canBe 104 = .ok (.iload 4, 2) := by decide +kernel
theorem dX12_canBe_106 : decode cX12_canBe 106 = .ok (.iconst 1, 1) := by decide +kernel
theorem dX12_canBe_107 : decode cX12_canBe 107 = .ok (.isub, 1) := by decide +kernel
theorem dX12_canBe_108 : decode cX12_canBe 108 = .ok (.invokevirtual 318, 3) := by decide +kernel
theorem dX12_canBe_111 : decode cX12_canBe 111 = .ok (.ifCond .eq 5, 3) := by decide +kernel
theorem dX12_canBe_114 : decode cX12_canBe 114 = .ok (.iconst 1, 1) := by decide +kernel
theorem dX12_canBe_115 : decode cX12_canBe 115 = .ok (.ireturn, 1) := by decide +kernel
theorem dX12_canBe_116 : decode cX12_canBe 116 = .ok (.iload_n 3, 1) := by decide +kernel
theorem dX12_canBe_117 : decode cX12_canBe 117 = .ok (.iload 6, 2) := by decide +kernel
theorem dX12_canBe_119 : decode cX12_canBe 119 = .ok (.ishr, 1) := by decide +kernel
theorem dX12_canBe_120 : decode cX12_canBe 120 = .ok (.iconst 1, 1) := by decide +kernel
theorem dX12_canBe_121 : decode cX12_canBe 121 = .ok (.iand, 1) := by decide +kernel
theorem dX12_canBe_122 : decode cX12_canBe 122 = .ok (.ifCond .ne 31, 3) := by decide +kernel
theorem dX12_canBe_125 : decode cX12_canBe 125 = .ok (.aload_n 0, 1) := by decide +kernel
theorem dX12_canBe_126 : decode cX12_canBe 126 = .ok (.iload_n 1, 1) := by decide +kernel
theorem dX12_canBe_127 : decode cX12_canBe 127 = .ok (.iload_n 2, 1) := by decide +kernel
theorem dX12_canBe_128 : decode cX12_canBe 128 = .ok (.iconst 1, 1) := by decide +kernel
theorem dX12_canBe_129 : decode cX12_canBe 129 = .ok (.iload 6, 2) := by decide +kernel
theorem dX12_canBe_131 : decode cX12_canBe 131 = .ok (.ishl, 1) := by decide +kernel
theorem dX12_canBe_132 : decode cX12_canBe 132 = .ok (.ior, 1) := by decide +kernel
theorem dX12_canBe_133 : decode cX12_canBe 133 = .ok (.iload_n 3, 1) := by decide +kernel
theorem dX12_canBe_134 : decode cX12_canBe 134 = .ok (.iconst 1, 1) := by decide +kernel
theorem dX12_canBe_135 : decode cX12_canBe 135 = .ok (.iload 5, 2) := by decide +kernel
theorem dX12_canBe_137 : decode cX12_canBe 137 = .ok (.ishl, 1) := by decide +kernel
theorem dX12_canBe_138 : decode cX12_canBe 138 = .ok (.ior, 1) := by decide +kernel
theorem dX12_canBe_139 : decode cX12_canBe 139 = .ok (.iload 4, 2) := by decide +kernel
theorem dX12_canBe_141 : decode cX12_canBe 141 = .ok (.iconst 1, 1) := by decide +kernel
theorem dX12_canBe_142 : decode cX12_canBe 142 = .ok (.isub, 1) := by decide +kernel
theorem dX12_canBe_143 : decode cX12_canBe 143 = .ok (.invokevirtual 318, 3) := by decide +kernel
theorem dX12_canBe_146 : decode cX12_canBe 146 = .ok (.ifCond .eq 7, 3) := by decide +kernel
theorem dX12_canBe_149 : decode cX12_canBe 149 = .ok (.iconst 1, 1) := by decide +kernel
theorem dX12_canBe_150 : decode cX12_canBe 150 = .ok (.goto 4, 3) := by decide +kernel
theorem dX12_canBe_153 : decode cX12_canBe 153 = .ok (.iconst 0, 1) := by decide +kernel
theorem dX12_canBe_154 : decode cX12_canBe 154 = .ok (.ireturn, 1) := by decide +kernel
theorem dX12_canBe_155 : decode cX12_canBe 155 = .ok (.iinc 6 1, 3) := by decide +kernel
theorem dX12_canBe_158 : decode cX12_canBe 158 = .ok (.goto (-110), 3) := by decide +kernel
theorem dX12_canBe_161 : decode cX12_canBe 161 = .ok (.iinc 5 1, 3) := by decide +kernel
theorem dX12_canBe_164 : decode cX12_canBe 164 = .ok (.goto (-161), 3) := by decide +kernel
theorem dX12_canBe_167 : decode cX12_canBe 167 = .ok (.iconst 1, 1) := by decide +kernel
theorem dX12_canBe_168 : decode cX12_canBe 168 = .ok (.ireturn, 1) := by decide +kernel
theorem dX12_fewest_0 : decode cX12_fewest 0 = .ok (.aload_n 0, 1) := by decide +kernel
theorem dX12_fewest_1 : decode cX12_fewest 1 = .ok (.iload_n 1, 1) := by decide +kernel
theorem dX12_fewest_2 : decode cX12_fewest 2 = .ok (.invokevirtual 226, 3) := by decide +kernel
theorem dX12_fewest_5 : decode cX12_fewest 5 = .ok (.ifCond .ne 5, 3) := by decide +kernel
theorem dX12_fewest_8 : decode cX12_fewest 8 = .ok (.iconst (-1), 1) := by decide +kernel
theorem dX12_fewest_9 : decode cX12_fewest 9 = .ok (.ireturn, 1) := by decide +kernel
theorem dX12_fewest_10 : decode cX12_fewest 10 = .ok (.iconst 0, 1) := by decide +kernel
theorem dX12_fewest_11 : decode cX12_fewest 11 = .ok (.istore_n 2, 1) := by decide +kernel
theorem dX12_fewest_12 : decode cX12_fewest 12 = .ok (.aload_n 0, 1) := by decide +kernel
theorem dX12_fewest_13 : decode cX12_fewest 13 = .ok (.iload_n 1, 1) := by decide +kernel
theorem dX12_fewest_14 : decode cX12_fewest 14 = .ok (.iconst 0, 1) := by decide +kernel
theorem dX12_fewest_15 : decode cX12_fewest 15 = .ok (.iconst 0, 1) := by decide +kernel
theorem dX12_fewest_16 : decode cX12_fewest 16 = .ok (.iload_n 2, 1) := by decide +kernel
theorem dX12_fewest_17 : decode cX12_fewest 17 = .ok (.invokevirtual 318, 3) := by decide +kernel
theorem dX12_fewest_20 : decode cX12_fewest 20 = .ok (.ifCond .ne 9, 3) := by decide +kernel
theorem dX12_fewest_23 : decode cX12_fewest 23 = .ok (.iinc 2 1, 3) := by decide +kernel
theorem dX12_fewest_26 : decode cX12_fewest 26 = .ok (.goto (-14), 3) := by decide +kernel
theorem dX12_fewest_29 : decode cX12_fewest 29 = .ok (.iconst 0, 1) := by decide +kernel
theorem dX12_fewest_30 : decode cX12_fewest 30 = .ok (.istore_n 3, 1) := by decide +kernel
theorem dX12_fewest_31 : decode cX12_fewest 31 = .ok (.iconst 0, 1) := by decide +kernel
theorem dX12_fewest_32 : decode cX12_fewest 32 = .ok (.istore 4, 2) := by decide +kernel
theorem dX12_fewest_34 : decode cX12_fewest 34 = .ok (.aload_n 0, 1) := by decide +kernel
theorem dX12_fewest_35 : decode cX12_fewest 35 = .ok (.getfield 7, 3) := by decide +kernel
theorem dX12_fewest_38 : decode cX12_fewest 38 = .ok (.bipush 7, 2) := by decide +kernel
theorem dX12_fewest_40 : decode cX12_fewest 40 = .ok (.iaload, 1) := by decide +kernel
theorem dX12_fewest_41 : decode cX12_fewest 41 = .ok (.iconst 1, 1) := by decide +kernel
theorem dX12_fewest_42 : decode cX12_fewest 42 = .ok (.isub, 1) := by decide +kernel
theorem dX12_fewest_43 : decode cX12_fewest 43 = .ok (.istore 5, 2) := by decide +kernel
theorem dX12_fewest_45 : decode cX12_fewest 45 = .ok (.iload 5, 2) := by decide +kernel
theorem dX12_fewest_47 : decode cX12_fewest 47 = .ok (.ifCond .lt 50, 3) := by decide +kernel
theorem dX12_fewest_50 : decode cX12_fewest 50 = .ok (.aload_n 0, 1) := by decide +kernel
theorem dX12_fewest_51 : decode cX12_fewest 51 = .ok (.iload_n 1, 1) := by decide +kernel
theorem dX12_fewest_52 : decode cX12_fewest 52 = .ok (.iload_n 3, 1) := by decide +kernel
theorem dX12_fewest_53 : decode cX12_fewest 53 = .ok (.iload 4, 2) := by decide +kernel
theorem dX12_fewest_55 : decode cX12_fewest 55 = .ok (.iconst 1, 1) := by decide +kernel
theorem dX12_fewest_56 : decode cX12_fewest 56 = .ok (.iload 5, 2) := by decide +kernel
theorem dX12_fewest_58 : decode cX12_fewest 58 = .ok (.ishl, 1) := by decide +kernel
theorem dX12_fewest_59 : decode cX12_fewest 59 = .ok (.ior, 1) := by decide +kernel
theorem dX12_fewest_60 : decode cX12_fewest 60 = .ok (.iload_n 2, 1) := by decide +kernel
theorem dX12_fewest_61 : decode cX12_fewest 61 = .ok (.iload_n 3, 1) := by decide +kernel
theorem dX12_fewest_62 : decode cX12_fewest 62 = .ok (.invokestatic 273, 3) := by decide +kernel
theorem dX12_fewest_65 : decode cX12_fewest 65 = .ok (.isub, 1) := by decide +kernel
theorem dX12_fewest_66 : decode cX12_fewest 66 = .ok (.invokevirtual 318, 3) := by decide +kernel
theorem dX12_fewest_69 : decode cX12_fewest 69 = .ok (.ifCond .eq 15, 3) := by decide +kernel
theorem dX12_fewest_72 : decode cX12_fewest 72 = .ok (.iload 4, 2) := by decide +kernel
theorem dX12_fewest_74 : decode cX12_fewest 74 = .ok (.iconst 1, 1) := by decide +kernel
theorem dX12_fewest_75 : decode cX12_fewest 75 = .ok (.iload 5, 2) := by decide +kernel
theorem dX12_fewest_77 : decode cX12_fewest 77 = .ok (.ishl, 1) := by decide +kernel
theorem dX12_fewest_78 : decode cX12_fewest 78 = .ok (.ior, 1) := by decide +kernel
theorem dX12_fewest_79 : decode cX12_fewest 79 = .ok (.istore 4, 2) := by decide +kernel
theorem dX12_fewest_81 : decode cX12_fewest 81 = .ok (.goto 10, 3) := by decide +kernel
theorem dX12_fewest_84 : decode cX12_fewest 84 = .ok (.iload_n 3, 1) := by decide +kernel
theorem dX12_fewest_85 : decode cX12_fewest 85 = .ok (.iconst 1, 1) := by decide +kernel
theorem dX12_fewest_86 : decode cX12_fewest 86 = .ok (.iload 5, 2) := by decide +kernel
theorem dX12_fewest_88 : decode cX12_fewest 88 = .ok (.ishl, 1) := by decide +kernel
theorem dX12_fewest_89 : decode cX12_fewest 89 = .ok (.ior, 1) := by decide +kernel
theorem dX12_fewest_90 : decode cX12_fewest 90 = .ok (.istore_n 3, 1) := by decide +kernel
theorem dX12_fewest_91 : decode cX12_fewest 91 = .ok (.iinc 5 (-1), 3) := by decide +kernel
theorem dX12_fewest_94 : decode cX12_fewest 94 = .ok (.goto (-49), 3) := by decide +kernel
theorem dX12_fewest_97 : decode cX12_fewest 97 = .ok (.iload_n 3, 1) := by decide +kernel
theorem dX12_fewest_98 : decode cX12_fewest 98 = .ok (.ireturn, 1) := by decide +kernel
theorem dX12_plan_0 : decode cX12_plan 0 = .ok (.iload_n 1, 1) := by decide +kernel
theorem dX12_plan_1 : decode cX12_plan 1 = .ok (.iconst 0, 1) := by decide +kernel
theorem dX12_plan_2 : decode cX12_plan 2 = .ok (.bipush 59, 2) := by decide +kernel
theorem dX12_plan_4 : decode cX12_plan 4 = .ok (.invokestatic 70, 3) := by decide +kernel
theorem dX12_plan_7 : decode cX12_plan 7 = .ok (.ifCond .eq 12, 3) := by decide +kernel
theorem dX12_plan_10 : decode cX12_plan 10 = .ok (.iload_n 2, 1) := by decide +kernel
theorem dX12_plan_11 : decode cX12_plan 11 = .ok (.iconst (-1), 1) := by decide +kernel
theorem dX12_plan_12 : decode cX12_plan 12 = .ok (.iconst 1, 1) := by decide +kernel
theorem dX12_plan_13 : decode cX12_plan 13 = .ok (.invokestatic 70, 3) := by decide +kernel
theorem dX12_plan_16 : decode cX12_plan 16 = .ok (.ifCond .ne 5, 3) := by decide +kernel
theorem dX12_plan_19 : decode cX12_plan 19 = .ok (.iconst 0, 1) := by decide +kernel
theorem dX12_plan_20 : decode cX12_plan 20 = .ok (.ireturn, 1) := by decide +kernel
theorem dX12_plan_21 : decode cX12_plan 21 = .ok (.aload_n 0, 1) := by decide +kernel
theorem dX12_plan_22 : decode cX12_plan 22 = .ok (.getfield 7, 3) := by decide +kernel
theorem dX12_plan_25 : decode cX12_plan 25 = .ok (.bipush 70, 2) := by decide +kernel
theorem dX12_plan_27 : decode cX12_plan 27 = .ok (.iload_n 1, 1) := by decide +kernel
theorem dX12_plan_28 : decode cX12_plan 28 = .ok (.iadd, 1) := by decide +kernel
theorem dX12_plan_29 : decode cX12_plan 29 = .ok (.iload_n 2, 1) := by decide +kernel
theorem dX12_plan_30 : decode cX12_plan 30 = .ok (.iastore, 1) := by decide +kernel
theorem dX12_plan_31 : decode cX12_plan 31 = .ok (.iconst 1, 1) := by decide +kernel
theorem dX12_plan_32 : decode cX12_plan 32 = .ok (.ireturn, 1) := by decide +kernel
theorem dX12_boat_0 : decode cX12_boat 0 = .ok (.aload_n 0, 1) := by decide +kernel
theorem dX12_boat_1 : decode cX12_boat 1 = .ok (.iload_n 1, 1) := by decide +kernel
theorem dX12_boat_2 : decode cX12_boat 2 = .ok (.invokevirtual 226, 3) := by decide +kernel
theorem dX12_boat_5 : decode cX12_boat 5 = .ok (.ifCond .eq 21, 3) := by decide +kernel
theorem dX12_boat_8 : decode cX12_boat 8 = .ok (.iload_n 2, 1) := by decide +kernel
theorem dX12_boat_9 : decode cX12_boat 9 = .ok (.iconst 0, 1) := by decide +kernel
theorem dX12_boat_10 : decode cX12_boat 10 = .ok (.bipush 59, 2) := by decide +kernel
theorem dX12_boat_12 : decode cX12_boat 12 = .ok (.invokestatic 70, 3) := by decide +kernel
theorem dX12_boat_15 : decode cX12_boat 15 = .ok (.ifCond .eq 11, 3) := by decide +kernel
theorem dX12_boat_18 : decode cX12_boat 18 = .ok (.aload_n 0, 1) := by decide +kernel
theorem dX12_boat_19 : decode cX12_boat 19 = .ok (.iload_n 3, 1) := by decide +kernel
theorem dX12_boat_20 : decode cX12_boat 20 = .ok (.invokevirtual 74, 3) := by decide +kernel
theorem dX12_boat_23 : decode cX12_boat 23 = .ok (.ifCond .ne 5, 3) := by decide +kernel
theorem dX12_boat_26 : decode cX12_boat 26 = .ok (.iconst (-1), 1) := by decide +kernel
theorem dX12_boat_27 : decode cX12_boat 27 = .ok (.ireturn, 1) := by decide +kernel
theorem dX12_boat_28 : decode cX12_boat 28 = .ok (.aload_n 0, 1) := by decide +kernel
theorem dX12_boat_29 : decode cX12_boat 29 = .ok (.getfield 7, 3) := by decide +kernel
theorem dX12_boat_32 : decode cX12_boat 32 = .ok (.iconst 1, 1) := by decide +kernel
theorem dX12_boat_33 : decode cX12_boat 33 = .ok (.iaload, 1) := by decide +kernel
theorem dX12_boat_34 : decode cX12_boat 34 = .ok (.istore 4, 2) := by decide +kernel
theorem dX12_boat_36 : decode cX12_boat 36 = .ok (.iconst 0, 1) := by decide +kernel
theorem dX12_boat_37 : decode cX12_boat 37 = .ok (.istore 5, 2) := by decide +kernel
theorem dX12_boat_39 : decode cX12_boat 39 = .ok (.iload 5, 2) := by decide +kernel
theorem dX12_boat_41 : decode cX12_boat 41 = .ok (.bipush 60, 2) := by decide +kernel
theorem dX12_boat_43 : decode cX12_boat 43 = .ok (.if_icmp .ge 52, 3) := by decide +kernel
theorem dX12_boat_46 : decode cX12_boat 46 = .ok (.iload 4, 2) := by decide +kernel
theorem dX12_boat_48 : decode cX12_boat 48 = .ok (.aload_n 0, 1) := by decide +kernel
theorem dX12_boat_49 : decode cX12_boat 49 = .ok (.getfield 7, 3) := by decide +kernel
theorem dX12_boat_52 : decode cX12_boat 52 = .ok (.bipush 70, 2) := by decide +kernel
theorem dX12_boat_54 : decode cX12_boat 54 = .ok (.iload 5, 2) := by decide +kernel
theorem dX12_boat_56 : decode cX12_boat 56 = .ok (.iadd, 1) := by decide +kernel
theorem dX12_boat_57 : decode cX12_boat 57 = .ok (.iaload, 1) := by decide +kernel
theorem dX12_boat_58 : decode cX12_boat 58 = .ok (.iadd, 1) := by decide +kernel
theorem dX12_boat_59 : decode cX12_boat 59 = .ok (.istore 4, 2) := by decide +kernel
theorem dX12_boat_61 : decode cX12_boat 61 = .ok (.iload 5, 2) := by decide +kernel
theorem dX12_boat_63 : decode cX12_boat 63 = .ok (.iload_n 2, 1) := by decide +kernel
theorem dX12_boat_64 : decode cX12_boat 64 = .ok (.if_icmp .lt 25, 3) := by decide +kernel
theorem dX12_boat_67 : decode cX12_boat 67 = .ok (.aload_n 0, 1) := by decide +kernel
theorem dX12_boat_68 : decode cX12_boat 68 = .ok (.aload_n 0, 1) := by decide +kernel
theorem dX12_boat_69 : decode cX12_boat 69 = .ok (.iload_n 1, 1) := by decide +kernel
theorem dX12_boat_70 : decode cX12_boat 70 = .ok (.iconst 0, 1) := by decide +kernel
theorem dX12_boat_71 : decode cX12_boat 71 = .ok (.invokevirtual 212, 3) := by decide +kernel
theorem dX12_boat_74 : decode cX12_boat 74 = .ok (.iload 4, 2) := by decide +kernel
theorem dX12_boat_76 : decode cX12_boat 76 = .ok (.iadd, 1) := by decide +kernel
theorem dX12_boat_77 : decode cX12_boat 77 = .ok (.invokevirtual 216, 3) := by decide +kernel
theorem dX12_boat_80 : decode cX12_boat 80 = .ok (.iload_n 3, 1) := by decide +kernel
theorem dX12_boat_81 : decode cX12_boat 81 = .ok (.if_icmp .ne 8, 3) := by decide +kernel
theorem dX12_boat_84 : decode cX12_boat 84 = .ok (.iload 5, 2) := by decide +kernel
theorem dX12_boat_86 : decode cX12_boat 86 = .ok (.iload_n 2, 1) := by decide +kernel
theorem dX12_boat_87 : decode cX12_boat 87 = .ok (.isub, 1) := by decide +kernel
theorem dX12_boat_88 : decode cX12_boat 88 = .ok (.ireturn, 1) := by decide +kernel
theorem dX12_boat_89 : decode cX12_boat 89 = .ok (.iinc 5 1, 3) := by decide +kernel
theorem dX12_boat_92 : decode cX12_boat 92 = .ok (.goto (-53), 3) := by decide +kernel
theorem dX12_boat_95 : decode cX12_boat 95 = .ok (.iconst (-1), 1) := by decide +kernel
theorem dX12_boat_96 : decode cX12_boat 96 = .ok (.ireturn, 1) := by decide +kernel
theorem dX12_log_0 : decode cX12_log 0 = .ok (.iload_n 1, 1) := by decide +kernel
theorem dX12_log_1 : decode cX12_log 1 = .ok (.invokestatic 229, 3) := by decide +kernel
theorem dX12_log_4 : decode cX12_log 4 = .ok (.ifCond .eq 31, 3) := by decide +kernel
theorem dX12_log_7 : decode cX12_log 7 = .ok (.aload_n 0, 1) := by decide +kernel
theorem dX12_log_8 : decode cX12_log 8 = .ok (.iload_n 2, 1) := by decide +kernel
theorem dX12_log_9 : decode cX12_log 9 = .ok (.invokevirtual 226, 3) := by decide +kernel
theorem dX12_log_12 : decode cX12_log 12 = .ok (.ifCond .eq 23, 3) := by decide +kernel
theorem dX12_log_15 : decode cX12_log 15 = .ok (.aload_n 0, 1) := by decide +kernel
theorem dX12_log_16 : decode cX12_log 16 = .ok (.iload_n 3, 1) := by decide +kernel
theorem dX12_log_17 : decode cX12_log 17 = .ok (.invokevirtual 74, 3) := by decide +kernel
theorem dX12_log_20 : decode cX12_log 20 = .ok (.ifCond .eq 15, 3) := by decide +kernel
theorem dX12_log_23 : decode cX12_log 23 = .ok (.aload_n 0, 1) := by decide +kernel
theorem dX12_log_24 : decode cX12_log 24 = .ok (.getfield 7, 3) := by decide +kernel
theorem dX12_log_27 : decode cX12_log 27 = .ok (.bipush 8, 2) := by decide +kernel
theorem dX12_log_29 : decode cX12_log 29 = .ok (.iaload, 1) := by decide +kernel
theorem dX12_log_30 : decode cX12_log 30 = .ok (.bipush 40, 2) := by decide +kernel
theorem dX12_log_32 : decode cX12_log 32 = .ok (.if_icmp .ne 5, 3) := by decide +kernel
theorem dX12_log_35 : decode cX12_log 35 = .ok (.iconst 0, 1) := by decide +kernel
theorem dX12_log_36 : decode cX12_log 36 = .ok (.ireturn, 1) := by decide +kernel
theorem dX12_log_37 : decode cX12_log 37 = .ok (.sipush 490, 3) := by decide +kernel
theorem dX12_log_40 : decode cX12_log 40 = .ok (.iconst 3, 1) := by decide +kernel
theorem dX12_log_41 : decode cX12_log 41 = .ok (.aload_n 0, 1) := by decide +kernel
theorem dX12_log_42 : decode cX12_log 42 = .ok (.getfield 7, 3) := by decide +kernel
theorem dX12_log_45 : decode cX12_log 45 = .ok (.bipush 8, 2) := by decide +kernel
theorem dX12_log_47 : decode cX12_log 47 = .ok (.iaload, 1) := by decide +kernel
theorem dX12_log_48 : decode cX12_log 48 = .ok (.imul, 1) := by decide +kernel
theorem dX12_log_49 : decode cX12_log 49 = .ok (.iadd, 1) := by decide +kernel
theorem dX12_log_50 : decode cX12_log 50 = .ok (.istore 4, 2) := by decide +kernel
theorem dX12_log_52 : decode cX12_log 52 = .ok (.aload_n 0, 1) := by decide +kernel
theorem dX12_log_53 : decode cX12_log 53 = .ok (.getfield 7, 3) := by decide +kernel
theorem dX12_log_56 : decode cX12_log 56 = .ok (.iload 4, 2) := by decide +kernel
theorem dX12_log_58 : decode cX12_log 58 = .ok (.iload_n 1, 1) := by decide +kernel
theorem dX12_log_59 : decode cX12_log 59 = .ok (.iastore, 1) := by decide +kernel
theorem dX12_log_60 : decode cX12_log 60 = .ok (.aload_n 0, 1) := by decide +kernel
theorem dX12_log_61 : decode cX12_log 61 = .ok (.getfield 7, 3) := by decide +kernel
theorem dX12_log_64 : decode cX12_log 64 = .ok (.iload 4, 2) := by decide +kernel
theorem dX12_log_66 : decode cX12_log 66 = .ok (.iconst 1, 1) := by decide +kernel
theorem dX12_log_67 : decode cX12_log 67 = .ok (.iadd, 1) := by decide +kernel
theorem dX12_log_68 : decode cX12_log 68 = .ok (.iload_n 2, 1) := by decide +kernel
theorem dX12_log_69 : decode cX12_log 69 = .ok (.iastore, 1) := by decide +kernel
theorem dX12_log_70 : decode cX12_log 70 = .ok (.aload_n 0, 1) := by decide +kernel
theorem dX12_log_71 : decode cX12_log 71 = .ok (.getfield 7, 3) := by decide +kernel
theorem dX12_log_74 : decode cX12_log 74 = .ok (.iload 4, 2) := by decide +kernel
theorem dX12_log_76 : decode cX12_log 76 = .ok (.iconst 2, 1) := by decide +kernel
theorem dX12_log_77 : decode cX12_log 77 = .ok (.iadd, 1) := by decide +kernel
theorem dX12_log_78 : decode cX12_log 78 = .ok (.iload_n 3, 1) := by decide +kernel
theorem dX12_log_79 : decode cX12_log 79 = .ok (.iastore, 1) := by decide +kernel
theorem dX12_log_80 : decode cX12_log 80 = .ok (.aload_n 0, 1) := by decide +kernel
theorem dX12_log_81 : decode cX12_log 81 = .ok (.getfield 7, 3) := by decide +kernel
theorem dX12_log_84 : decode cX12_log 84 = .ok (.bipush 8, 2) := by decide +kernel
theorem dX12_log_86 : decode cX12_log 86 = .ok (.dup2, 1) := by decide +kernel
theorem dX12_log_87 : decode cX12_log 87 = .ok (.iaload, 1) := by decide +kernel
theorem dX12_log_88 : decode cX12_log 88 = .ok (.iconst 1, 1) := by decide +kernel
theorem dX12_log_89 : decode cX12_log 89 = .ok (.iadd, 1) := by decide +kernel
theorem dX12_log_90 : decode cX12_log 90 = .ok (.iastore, 1) := by decide +kernel
theorem dX12_log_91 : decode cX12_log 91 = .ok (.iconst 1, 1) := by decide +kernel
theorem dX12_log_92 : decode cX12_log 92 = .ok (.ireturn, 1) := by decide +kernel
theorem dX12_goesWith_0 : decode cX12_goesWith 0 = .ok (.iconst 0, 1) := by decide +kernel
theorem dX12_goesWith_1 : decode cX12_goesWith 1 = .ok (.istore_n 3, 1) := by decide +kernel
theorem dX12_goesWith_2 : decode cX12_goesWith 2 = .ok (.iload_n 3, 1) := by decide +kernel
theorem dX12_goesWith_3 : decode cX12_goesWith 3 = .ok (.aload_n 0, 1) := by decide +kernel
theorem dX12_goesWith_4 : decode cX12_goesWith 4 = .ok (.getfield 7, 3) := by decide +kernel
theorem dX12_goesWith_7 : decode cX12_goesWith 7 = .ok (.bipush 8, 2) := by decide +kernel
theorem dX12_goesWith_9 : decode cX12_goesWith 9 = .ok (.iaload, 1) := by decide +kernel
theorem dX12_goesWith_10 : decode cX12_goesWith 10 = .ok (.if_icmp .ge 63, 3) := by decide +kernel
theorem dX12_goesWith_13 : decode cX12_goesWith 13 = .ok (.sipush 490, 3) := by decide +kernel
theorem dX12_goesWith_16 : decode cX12_goesWith 16 = .ok (.iconst 3, 1) := by decide +kernel
theorem dX12_goesWith_17 : decode cX12_goesWith 17 = .ok (.iload_n 3, 1) := by decide +kernel
theorem dX12_goesWith_18 : decode cX12_goesWith 18 = .ok (.imul, 1) := by decide +kernel
theorem dX12_goesWith_19 : decode cX12_goesWith 19 = .ok (.iadd, 1) := by decide +kernel
theorem dX12_goesWith_20 : decode cX12_goesWith 20 = .ok (.istore 4, 2) := by decide +kernel
theorem dX12_goesWith_22 : decode cX12_goesWith 22 = .ok (.aload_n 0, 1) := by decide +kernel
theorem dX12_goesWith_23 : decode cX12_goesWith 23 = .ok (.getfield 7, 3) := by decide +kernel
theorem dX12_goesWith_26 : decode cX12_goesWith 26 = .ok (.iload 4, 2) := by decide +kernel
theorem dX12_goesWith_28 : decode cX12_goesWith 28 = .ok (.iaload, 1) := by decide +kernel
theorem dX12_goesWith_29 : decode cX12_goesWith 29 = .ok (.iload_n 1, 1) := by decide +kernel
theorem dX12_goesWith_30 : decode cX12_goesWith 30 = .ok (.if_icmp .ne 37, 3) := by decide +kernel
theorem dX12_goesWith_33 : decode cX12_goesWith 33 = .ok (.aload_n 0, 1) := by decide +kernel
theorem dX12_goesWith_34 : decode cX12_goesWith 34 = .ok (.aload_n 0, 1) := by decide +kernel
theorem dX12_goesWith_35 : decode cX12_goesWith 35 = .ok (.aload_n 0, 1) := by decide +kernel
theorem dX12_goesWith_36 : decode cX12_goesWith 36 = .ok (.getfield 7, 3) := by decide +kernel
theorem dX12_goesWith_39 : decode cX12_goesWith 39 = .ok (.iload 4, 2) := by decide +kernel
theorem dX12_goesWith_41 : decode cX12_goesWith 41 = .ok (.iconst 1, 1) := by decide +kernel
theorem dX12_goesWith_42 : decode cX12_goesWith 42 = .ok (.iadd, 1) := by decide +kernel
theorem dX12_goesWith_43 : decode cX12_goesWith 43 = .ok (.iaload, 1) := by decide +kernel
theorem dX12_goesWith_44 : decode cX12_goesWith 44 = .ok (.iconst 0, 1) := by decide +kernel
theorem dX12_goesWith_45 : decode cX12_goesWith 45 = .ok (.invokevirtual 212, 3) := by decide +kernel
theorem dX12_goesWith_48 : decode cX12_goesWith 48 = .ok (.iload_n 2, 1) := by decide +kernel
theorem dX12_goesWith_49 : decode cX12_goesWith 49 = .ok (.iadd, 1) := by decide +kernel
theorem dX12_goesWith_50 : decode cX12_goesWith 50 = .ok (.invokevirtual 216, 3) := by decide +kernel
theorem dX12_goesWith_53 : decode cX12_goesWith 53 = .ok (.aload_n 0, 1) := by decide +kernel
theorem dX12_goesWith_54 : decode cX12_goesWith 54 = .ok (.getfield 7, 3) := by decide +kernel
theorem dX12_goesWith_57 : decode cX12_goesWith 57 = .ok (.iload 4, 2) := by decide +kernel
theorem dX12_goesWith_59 : decode cX12_goesWith 59 = .ok (.iconst 2, 1) := by decide +kernel
theorem dX12_goesWith_60 : decode cX12_goesWith 60 = .ok (.iadd, 1) := by decide +kernel
theorem dX12_goesWith_61 : decode cX12_goesWith 61 = .ok (.iaload, 1) := by decide +kernel
theorem dX12_goesWith_62 : decode cX12_goesWith 62 = .ok (.if_icmp .eq 5, 3) := by decide +kernel
theorem dX12_goesWith_65 : decode cX12_goesWith 65 = .ok (.iconst 0, 1) := by decide +kernel
theorem dX12_goesWith_66 : decode cX12_goesWith 66 = .ok (.ireturn, 1) := by decide +kernel
theorem dX12_goesWith_67 : decode cX12_goesWith 67 = .ok (.iinc 3 1, 3) := by decide +kernel
theorem dX12_goesWith_70 : decode cX12_goesWith 70 = .ok (.goto (-68), 3) := by decide +kernel
theorem dX12_goesWith_73 : decode cX12_goesWith 73 = .ok (.iconst 1, 1) := by decide +kernel
theorem dX12_goesWith_74 : decode cX12_goesWith 74 = .ok (.ireturn, 1) := by decide +kernel
theorem dX12_laysWays_0 : decode cX12_laysWays 0 = .ok (.iload_n 2, 1) := by decide +kernel
theorem dX12_laysWays_1 : decode cX12_laysWays 1 = .ok (.iload_n 1, 1) := by decide +kernel
theorem dX12_laysWays_2 : decode cX12_laysWays 2 = .ok (.isub, 1) := by decide +kernel
theorem dX12_laysWays_3 : decode cX12_laysWays 3 = .ok (.iconst 1, 1) := by decide +kernel
theorem dX12_laysWays_4 : decode cX12_laysWays 4 = .ok (.iadd, 1) := by decide +kernel
theorem dX12_laysWays_5 : decode cX12_laysWays 5 = .ok (.istore_n 3, 1) := by decide +kernel
theorem dX12_laysWays_6 : decode cX12_laysWays 6 = .ok (.iconst 0, 1) := by decide +kernel
theorem dX12_laysWays_7 : decode cX12_laysWays 7 = .ok (.istore 4, 2) := by decide +kernel
theorem dX12_laysWays_9 : decode cX12_laysWays 9 = .ok (.iload 4, 2) := by decide +kernel
theorem dX12_laysWays_11 : decode cX12_laysWays 11 = .ok (.aload_n 0, 1) := by decide +kernel
theorem dX12_laysWays_12 : decode cX12_laysWays 12 = .ok (.getfield 7, 3) := by decide +kernel
theorem dX12_laysWays_15 : decode cX12_laysWays 15 = .ok (.iconst 0, 1) := by decide +kernel
theorem dX12_laysWays_16 : decode cX12_laysWays 16 = .ok (.iaload, 1) := by decide +kernel
theorem dX12_laysWays_17 : decode cX12_laysWays 17 = .ok (.if_icmp .ge 22, 3) := by decide +kernel
theorem dX12_laysWays_20 : decode cX12_laysWays 20 = .ok (.aload_n 0, 1) := by decide +kernel
theorem dX12_laysWays_21 : decode cX12_laysWays 21 = .ok (.getfield 59, 3) := by decide +kernel
theorem dX12_laysWays_24 : decode cX12_laysWays 24 = .ok (.bipush 24, 2) := by decide +kernel
theorem dX12_laysWays_26 : decode cX12_laysWays 26 = .ok (.iload_n 3, 1) := by decide +kernel
theorem dX12_laysWays_27 : decode cX12_laysWays 27 = .ok (.imul, 1) := by decide +kernel
theorem dX12_laysWays_28 : decode cX12_laysWays 28 = .ok (.iload 4, 2) := by decide +kernel
theorem dX12_laysWays_30 : decode cX12_laysWays 30 = .ok (.iadd, 1) := by decide +kernel
theorem dX12_laysWays_31 : decode cX12_laysWays 31 = .ok (.lconst 1, 1) := by decide +kernel
theorem dX12_laysWays_32 : decode cX12_laysWays 32 = .ok (.lastore, 1) := by decide +kernel
theorem dX12_laysWays_33 : decode cX12_laysWays 33 = .ok (.iinc 4 1, 3) := by decide +kernel
theorem dX12_laysWays_36 : decode cX12_laysWays 36 = .ok (.goto (-27), 3) := by decide +kernel
theorem dX12_laysWays_39 : decode cX12_laysWays 39 = .ok (.iload_n 3, 1) := by decide +kernel
theorem dX12_laysWays_40 : decode cX12_laysWays 40 = .ok (.iconst 1, 1) := by decide +kernel
theorem dX12_laysWays_41 : decode cX12_laysWays 41 = .ok (.isub, 1) := by decide +kernel
theorem dX12_laysWays_42 : decode cX12_laysWays 42 = .ok (.istore 4, 2) := by decide +kernel
theorem dX12_laysWays_44 : decode cX12_laysWays 44 = .ok (.iload 4, 2) := by decide +kernel
theorem dX12_laysWays_46 : decode cX12_laysWays 46 = .ok (.ifCond .lt 124, 3) := by decide +kernel
theorem dX12_laysWays_49 : decode cX12_laysWays 49 = .ok (.iconst 0, 1) := by decide +kernel
theorem dX12_laysWays_50 : decode cX12_laysWays 50 = .ok (.istore 5, 2) := by decide +kernel
theorem dX12_laysWays_52 : decode cX12_laysWays 52 = .ok (.iload 5, 2) := by decide +kernel
theorem dX12_laysWays_54 : decode cX12_laysWays 54 = .ok (.aload_n 0, 1) := by decide +kernel
theorem dX12_laysWays_55 : decode cX12_laysWays 55 = .ok (.getfield 7, 3) := by decide +kernel
theorem dX12_laysWays_58 : decode cX12_laysWays 58 = .ok (.iconst 0, 1) := by decide +kernel
theorem dX12_laysWays_59 : decode cX12_laysWays 59 = .ok (.iaload, 1) := by decide +kernel
theorem dX12_laysWays_60 : decode cX12_laysWays 60 = .ok (.if_icmp .ge 104, 3) := by decide +kernel
theorem dX12_laysWays_63 : decode cX12_laysWays 63 = .ok (.lconst 0, 1) := by decide +kernel
theorem dX12_laysWays_64 : decode cX12_laysWays 64 = .ok (.lstore 6, 2) := by decide +kernel
theorem dX12_laysWays_66 : decode cX12_laysWays 66 = .ok (.iconst (-1), 1) := by decide +kernel
theorem dX12_laysWays_67 : decode cX12_laysWays 67 = .ok (.istore 8, 2) := by decide +kernel
theorem dX12_laysWays_69 : decode cX12_laysWays 69 = .ok (.iload 8, 2) := by decide +kernel
theorem dX12_laysWays_71 : decode cX12_laysWays 71 = .ok (.iconst 2, 1) := by decide +kernel
theorem dX12_laysWays_72 : decode cX12_laysWays 72 = .ok (.if_icmp .ge 56, 3) := by decide +kernel
theorem dX12_laysWays_75 : decode cX12_laysWays 75 = .ok (.aload_n 0, 1) := by decide +kernel
theorem dX12_laysWays_76 : decode cX12_laysWays 76 = .ok (.iload_n 1, 1) := by decide +kernel
theorem dX12_laysWays_77 : decode cX12_laysWays 77 = .ok (.iload 4, 2) := by decide +kernel
theorem dX12_laysWays_79 : decode cX12_laysWays 79 = .ok (.iadd, 1) := by decide +kernel
theorem dX12_laysWays_80 : decode cX12_laysWays 80 = .ok (.aload_n 0, 1) := by decide +kernel
theorem dX12_laysWays_81 : decode cX12_laysWays 81 = .ok (.iload 5, 2) := by decide +kernel
theorem dX12_laysWays_83 : decode cX12_laysWays 83 = .ok (.iload 8, 2) := by decide +kernel
theorem dX12_laysWays_85 : decode cX12_laysWays 85 = .ok (.iadd, 1) := by decide +kernel
theorem dX12_laysWays_86 : decode cX12_laysWays 86 = .ok (.invokevirtual 216, 3) := by decide +kernel
theorem dX12_laysWays_89 : decode cX12_laysWays 89 = .ok (.invokevirtual 322, 3) := by decide +kernel
theorem dX12_laysWays_92 : decode cX12_laysWays 92 = .ok (.ifCond .eq 30, 3) := by decide +kernel
theorem dX12_laysWays_95 : decode cX12_laysWays 95 = .ok (.lload 6, 2) := by decide +kernel
theorem dX12_laysWays_97 : decode cX12_laysWays 97 = .ok (.aload_n 0, 1) := by decide +kernel
theorem dX12_laysWays_98 : decode cX12_laysWays 98 = .ok (.getfield 59, 3) := by decide +kernel
theorem dX12_laysWays_101 : decode cX12_laysWays 101 = .ok (.bipush 24, 2) := by decide +kernel
theorem dX12_laysWays_103 : decode cX12_laysWays 103 = .ok (.iload 4, 2) := by decide +kernel
theorem dX12_laysWays_105 : decode cX12_laysWays 105 = .ok (.iconst 1, 1) := by decide +kernel
theorem dX12_laysWays_106 : decode cX12_laysWays 106 = .ok (.iadd, 1) := by decide +kernel
theorem dX12_laysWays_107 : decode cX12_laysWays 107 = .ok (.imul, 1) := by decide +kernel
theorem dX12_laysWays_108 : decode cX12_laysWays 108 = .ok (.aload_n 0, 1) := by decide +kernel
theorem dX12_laysWays_109 : decode cX12_laysWays 109 = .ok (.iload 5, 2) := by decide +kernel
theorem dX12_laysWays_111 : decode cX12_laysWays 111 = .ok (.iload 8, 2) := by decide +kernel
theorem dX12_laysWays_113 : decode cX12_laysWays 113 = .ok (.iadd, 1) := by decide +kernel
theorem dX12_laysWays_114 : decode cX12_laysWays 114 = .ok (.invokevirtual 216, 3) := by decide +kernel
theorem dX12_laysWays_117 : decode cX12_laysWays 117 = .ok (.iadd, 1) := by decide +kernel
theorem dX12_laysWays_118 : decode cX12_laysWays 118 = .ok (.laload, 1) := by decide +kernel
theorem dX12_laysWays_119 : decode cX12_laysWays 119 = .ok (.ladd, 1) := by decide +kernel
theorem dX12_laysWays_120 : decode cX12_laysWays 120 = .ok (.lstore 6, 2) := by decide +kernel
theorem dX12_laysWays_122 : decode cX12_laysWays 122 = .ok (.iinc 8 1, 3) := by decide +kernel
theorem dX12_laysWays_125 : decode cX12_laysWays 125 = .ok (.goto (-56), 3) := by decide +kernel
theorem dX12_laysWays_128 : decode cX12_laysWays 128 = .ok (.aload_n 0, 1) := by decide +kernel
theorem dX12_laysWays_129 : decode cX12_laysWays 129 = .ok (.getfield 59, 3) := by decide +kernel
theorem dX12_laysWays_132 : decode cX12_laysWays 132 = .ok (.bipush 24, 2) := by decide +kernel
theorem dX12_laysWays_134 : decode cX12_laysWays 134 = .ok (.iload 4, 2) := by decide +kernel
theorem dX12_laysWays_136 : decode cX12_laysWays 136 = .ok (.imul, 1) := by decide +kernel
theorem dX12_laysWays_137 : decode cX12_laysWays 137 = .ok (.iload 5, 2) := by decide +kernel
theorem dX12_laysWays_139 : decode cX12_laysWays 139 = .ok (.iadd, 1) := by decide +kernel
theorem dX12_laysWays_140 : decode cX12_laysWays 140 = .ok (.lload 6, 2) := by decide +kernel
theorem dX12_laysWays_142 : decode cX12_laysWays 142 = .ok (.ldc2_w 325, 3) := by decide +kernel
theorem dX12_laysWays_145 : decode cX12_laysWays 145 = .ok (.lcmp, 1) := by decide +kernel
theorem dX12_laysWays_146 : decode cX12_laysWays 146 = .ok (.ifCond .le 9, 3) := by decide +kernel
theorem dX12_laysWays_149 : decode cX12_laysWays 149 = .ok (.ldc2_w 325, 3) := by decide +kernel
theorem dX12_laysWays_152 : decode cX12_laysWays 152 = .ok (.goto 5, 3) := by decide +kernel
theorem dX12_laysWays_155 : decode cX12_laysWays 155 = .ok (.lload 6, 2) := by decide +kernel
theorem dX12_laysWays_157 : decode cX12_laysWays 157 = .ok (.lastore, 1) := by decide +kernel
theorem dX12_laysWays_158 : decode cX12_laysWays 158 = .ok (.iinc 5 1, 3) := by decide +kernel
theorem dX12_laysWays_161 : decode cX12_laysWays 161 = .ok (.goto (-109), 3) := by decide +kernel
theorem dX12_laysWays_164 : decode cX12_laysWays 164 = .ok (.iinc 4 (-1), 3) := by decide +kernel
theorem dX12_laysWays_167 : decode cX12_laysWays 167 = .ok (.goto (-123), 3) := by decide +kernel
theorem dX12_laysWays_170 : decode cX12_laysWays 170 = .ok (.return_, 1) := by decide +kernel
theorem dX12_back_0 : decode cX12_back 0 = .ok (.iload_n 1, 1) := by decide +kernel
theorem dX12_back_1 : decode cX12_back 1 = .ok (.invokestatic 229, 3) := by decide +kernel
theorem dX12_back_4 : decode cX12_back 4 = .ok (.ifCond .eq 22, 3) := by decide +kernel
theorem dX12_back_7 : decode cX12_back 7 = .ok (.iload_n 2, 1) := by decide +kernel
theorem dX12_back_8 : decode cX12_back 8 = .ok (.invokestatic 229, 3) := by decide +kernel
theorem dX12_back_11 : decode cX12_back 11 = .ok (.ifCond .eq 15, 3) := by decide +kernel
theorem dX12_back_14 : decode cX12_back 14 = .ok (.iload_n 2, 1) := by decide +kernel
theorem dX12_back_15 : decode cX12_back 15 = .ok (.iload_n 1, 1) := by decide +kernel
theorem dX12_back_16 : decode cX12_back 16 = .ok (.isub, 1) := by decide +kernel
theorem dX12_back_17 : decode cX12_back 17 = .ok (.iconst 0, 1) := by decide +kernel
theorem dX12_back_18 : decode cX12_back 18 = .ok (.bipush 39, 2) := by decide +kernel
theorem dX12_back_20 : decode cX12_back 20 = .ok (.invokestatic 70, 3) := by decide +kernel
theorem dX12_back_23 : decode cX12_back 23 = .ok (.ifCond .ne 7, 3) := by decide +kernel
theorem dX12_back_26 : decode cX12_back 26 = .ok (.ldc2_w 327, 3) := by decide +kernel
theorem dX12_back_29 : decode cX12_back 29 = .ok (.lreturn, 1) := by decide +kernel
theorem dX12_back_30 : decode cX12_back 30 = .ok (.iload_n 2, 1) := by decide +kernel
theorem dX12_back_31 : decode cX12_back 31 = .ok (.iload_n 1, 1) := by decide +kernel
theorem dX12_back_32 : decode cX12_back 32 = .ok (.isub, 1) := by decide +kernel
theorem dX12_back_33 : decode cX12_back 33 = .ok (.iconst 1, 1) := by decide +kernel
theorem dX12_back_34 : decode cX12_back 34 = .ok (.iadd, 1) := by decide +kernel
