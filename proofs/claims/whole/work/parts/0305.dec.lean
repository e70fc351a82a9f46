theorem dX9_joined_129 : decode cX9_joined 129 = .ok (.iload_n 1, 1) := by decide +kernel
theorem dX9_joined_130 : decode cX9_joined 130 = .ok (.iload_n 2, 1) := by decide +kernel
theorem dX9_joined_131 : decode cX9_joined 131 = .ok (.ior, 1) := by decide +kernel
theorem dX9_joined_132 : decode cX9_joined 132 = .ok (.ireturn, 1) := by decide +kernel
theorem dX10_init_0 : decode cX10_init 0 = .ok (.aload_n 0, 1) := by decide +kernel
theorem dX10_init_1 : decode cX10_init 1 = .ok (.invokespecial 3, 3) := by decide +kernel
theorem dX10_init_4 : decode cX10_init 4 = .ok (.aload_n 0, 1) := by decide +kernel
theorem dX10_init_5 : decode cX10_init 5 = .ok (.sipush 192, 3) := by decide +kernel
theorem dX10_init_8 : decode cX10_init 8 = .ok (.newarray .int, 2) := by decide +kernel
theorem dX10_init_10 : decode cX10_init 10 = .ok (.putfield 9, 3) := by decide +kernel
theorem dX10_init_13 : decode cX10_init 13 = .ok (.aload_n 0, 1) := by decide +kernel
theorem dX10_init_14 : decode cX10_init 14 = .ok (.sipush 192, 3) := by decide +kernel
theorem dX10_init_17 : decode cX10_init 17 = .ok (.newarray .int, 2) := by decide +kernel
theorem dX10_init_19 : decode cX10_init 19 = .ok (.putfield 15, 3) := by decide +kernel
theorem dX10_init_22 : decode cX10_init 22 = .ok (.aload_n 0, 1) := by decide +kernel
theorem dX10_init_23 : decode cX10_init 23 = .ok (.iconst 4, 1) := by decide +kernel
theorem dX10_init_24 : decode cX10_init 24 = .ok (.newarray .int, 2) := by decide +kernel
theorem dX10_init_26 : decode cX10_init 26 = .ok (.putfield 18, 3) := by decide +kernel
theorem dX10_init_29 : decode cX10_init 29 = .ok (.aload_n 0, 1) := by decide +kernel
theorem dX10_init_30 : decode cX10_init 30 = .ok (.iconst 4, 1) := by decide +kernel
theorem dX10_init_31 : decode cX10_init 31 = .ok (.newarray .int, 2) := by decide +kernel
theorem dX10_init_33 : decode cX10_init 33 = .ok (.putfield 21, 3) := by decide +kernel
theorem dX10_init_36 : decode cX10_init 36 = .ok (.aload_n 0, 1) := by decide +kernel
theorem dX10_init_37 : decode cX10_init 37 = .ok (.bipush 7, 2) := by decide +kernel
theorem dX10_init_39 : decode cX10_init 39 = .ok (.newarray .int, 2) := by decide +kernel
theorem dX10_init_41 : decode cX10_init 41 = .ok (.putfield 26, 3) := by decide +kernel
theorem dX10_init_44 : decode cX10_init 44 = .ok (.aload_n 0, 1) := by decide +kernel
theorem dX10_init_45 : decode cX10_init 45 = .ok (.bipush 40, 2) := by decide +kernel
theorem dX10_init_47 : decode cX10_init 47 = .ok (.newarray .int, 2) := by decide +kernel
theorem dX10_init_49 : decode cX10_init 49 = .ok (.putfield 29, 3) := by decide +kernel
theorem dX10_init_52 : decode cX10_init 52 = .ok (.aload_n 0, 1) := by decide +kernel
theorem dX10_init_53 : decode cX10_init 53 = .ok (.getfield 21, 3) := by decide +kernel
theorem dX10_init_56 : decode cX10_init 56 = .ok (.iconst (-1), 1) := by decide +kernel
theorem dX10_init_57 : decode cX10_init 57 = .ok (.invokestatic 32, 3) := by decide +kernel
theorem dX10_init_60 : decode cX10_init 60 = .ok (.return_, 1) := by decide +kernel
theorem dX10_forget_0 : decode cX10_forget 0 = .ok (.aload_n 0, 1) := by decide +kernel
theorem dX10_forget_1 : decode cX10_forget 1 = .ok (.getfield 21, 3) := by decide +kernel
theorem dX10_forget_4 : decode cX10_forget 4 = .ok (.iconst (-1), 1) := by decide +kernel
theorem dX10_forget_5 : decode cX10_forget 5 = .ok (.invokestatic 32, 3) := by decide +kernel
theorem dX10_forget_8 : decode cX10_forget 8 = .ok (.return_, 1) := by decide +kernel
theorem dX10_worthTo_0 : decode cX10_worthTo 0 = .ok (.aload_n 1, 1) := by decide +kernel
theorem dX10_worthTo_1 : decode cX10_worthTo 1 = .ok (.getfield 38, 3) := by decide +kernel
theorem dX10_worthTo_4 : decode cX10_worthTo 4 = .ok (.getfield 44, 3) := by decide +kernel
theorem dX10_worthTo_7 : decode cX10_worthTo 7 = .ok (.iload_n 2, 1) := by decide +kernel
theorem dX10_worthTo_8 : decode cX10_worthTo 8 = .ok (.iaload, 1) := by decide +kernel
theorem dX10_worthTo_9 : decode cX10_worthTo 9 = .ok (.istore 6, 2) := by decide +kernel
theorem dX10_worthTo_11 : decode cX10_worthTo 11 = .ok (.iload 6, 2) := by decide +kernel
theorem dX10_worthTo_13 : decode cX10_worthTo 13 = .ok (.iconst 0, 1) := by decide +kernel
theorem dX10_worthTo_14 : decode cX10_worthTo 14 = .ok (.iconst 3, 1) := by decide +kernel
theorem dX10_worthTo_15 : decode cX10_worthTo 15 = .ok (.invokestatic 49, 3) := by decide +kernel
theorem dX10_worthTo_18 : decode cX10_worthTo 18 = .ok (.ifCond .ne 5, 3) := by decide +kernel
theorem dX10_worthTo_21 : decode cX10_worthTo 21 = .ok (.iconst 0, 1) := by decide +kernel
theorem dX10_worthTo_22 : decode cX10_worthTo 22 = .ok (.ireturn, 1) := by decide +kernel
theorem dX10_worthTo_23 : decode cX10_worthTo 23 = .ok (.iload_n 3, 1) := by decide +kernel
theorem dX10_worthTo_24 : decode cX10_worthTo 24 = .ok (.bipush 30, 2) := by decide +kernel
theorem dX10_worthTo_26 : decode cX10_worthTo 26 = .ok (.idiv, 1) := by decide +kernel
theorem dX10_worthTo_27 : decode cX10_worthTo 27 = .ok (.bipush 12, 2) := by decide +kernel
theorem dX10_worthTo_29 : decode cX10_worthTo 29 = .ok (.irem, 1) := by decide +kernel
theorem dX10_worthTo_30 : decode cX10_worthTo 30 = .ok (.istore 7, 2) := by decide +kernel
theorem dX10_worthTo_32 : decode cX10_worthTo 32 = .ok (.aload_n 1, 1) := by decide +kernel
theorem dX10_worthTo_33 : decode cX10_worthTo 33 = .ok (.getfield 53, 3) := by decide +kernel
theorem dX10_worthTo_36 : decode cX10_worthTo 36 = .ok (.iload 6, 2) := by decide +kernel
theorem dX10_worthTo_38 : decode cX10_worthTo 38 = .ok (.aaload, 1) := by decide +kernel
theorem dX10_worthTo_39 : decode cX10_worthTo 39 = .ok (.getfield 57, 3) := by decide +kernel
theorem dX10_worthTo_42 : decode cX10_worthTo 42 = .ok (.ifCond .eq 10, 3) := by decide +kernel
theorem dX10_worthTo_45 : decode cX10_worthTo 45 = .ok (.bipush 12, 2) := by decide +kernel
theorem dX10_worthTo_47 : decode cX10_worthTo 47 = .ok (.iload_n 3, 1) := by decide +kernel
theorem dX10_worthTo_48 : decode cX10_worthTo 48 = .ok (.iadd, 1) := by decide +kernel
theorem dX10_worthTo_49 : decode cX10_worthTo 49 = .ok (.goto 5, 3) := by decide +kernel
theorem dX10_worthTo_52 : decode cX10_worthTo 52 = .ok (.iload 7, 2) := by decide +kernel
theorem dX10_worthTo_54 : decode cX10_worthTo 54 = .ok (.istore 8, 2) := by decide +kernel
theorem dX10_worthTo_56 : decode cX10_worthTo 56 = .ok (.aload_n 0, 1) := by decide +kernel
theorem dX10_worthTo_57 : decode cX10_worthTo 57 = .ok (.getfield 21, 3) := by decide +kernel
theorem dX10_worthTo_60 : decode cX10_worthTo 60 = .ok (.iload 6, 2) := by decide +kernel
theorem dX10_worthTo_62 : decode cX10_worthTo 62 = .ok (.iaload, 1) := by decide +kernel
theorem dX10_worthTo_63 : decode cX10_worthTo 63 = .ok (.iload 8, 2) := by decide +kernel
theorem dX10_worthTo_65 : decode cX10_worthTo 65 = .ok (.if_icmp .eq 33, 3) := by decide +kernel
theorem dX10_worthTo_68 : decode cX10_worthTo 68 = .ok (.aload_n 0, 1) := by decide +kernel
theorem dX10_worthTo_69 : decode cX10_worthTo 69 = .ok (.getfield 21, 3) := by decide +kernel
theorem dX10_worthTo_72 : decode cX10_worthTo 72 = .ok (.iload 6, 2) := by decide +kernel
theorem dX10_worthTo_74 : decode cX10_worthTo 74 = .ok (.iload 8, 2) := by decide +kernel
theorem dX10_worthTo_76 : decode cX10_worthTo 76 = .ok (.iastore, 1) := by decide +kernel
theorem dX10_worthTo_77 : decode cX10_worthTo 77 = .ok (.aload_n 0, 1) := by decide +kernel
theorem dX10_worthTo_78 : decode cX10_worthTo 78 = .ok (.dup, 1) := by decide +kernel
theorem dX10_worthTo_79 : decode cX10_worthTo 79 = .ok (.getfield 63, 3) := by decide +kernel
theorem dX10_worthTo_82 : decode cX10_worthTo 82 = .ok (.iconst 1, 1) := by decide +kernel
theorem dX10_worthTo_83 : decode cX10_worthTo 83 = .ok (.iadd, 1) := by decide +kernel
theorem dX10_worthTo_84 : decode cX10_worthTo 84 = .ok (.putfield 63, 3) := by decide +kernel
theorem dX10_worthTo_87 : decode cX10_worthTo 87 = .ok (.aload_n 0, 1) := by decide +kernel
theorem dX10_worthTo_88 : decode cX10_worthTo 88 = .ok (.getfield 18, 3) := by decide +kernel
theorem dX10_worthTo_91 : decode cX10_worthTo 91 = .ok (.iload 6, 2) := by decide +kernel
theorem dX10_worthTo_93 : decode cX10_worthTo 93 = .ok (.aload_n 0, 1) := by decide +kernel
theorem dX10_worthTo_94 : decode cX10_worthTo 94 = .ok (.getfield 63, 3) := by decide +kernel
theorem dX10_worthTo_97 : decode cX10_worthTo 97 = .ok (.iastore, 1) := by decide +kernel
theorem dX10_worthTo_98 : decode cX10_worthTo 98 = .ok (.aload_n 1, 1) := by decide +kernel
theorem dX10_worthTo_99 : decode cX10_worthTo 99 = .ok (.iload_n 2, 1) := by decide +kernel
theorem dX10_worthTo_100 : decode cX10_worthTo 100 = .ok (.iload 4, 2) := by decide +kernel
theorem dX10_worthTo_102 : decode cX10_worthTo 102 = .ok (.invokevirtual 67, 3) := by decide +kernel
theorem dX10_worthTo_105 : decode cX10_worthTo 105 = .ok (.istore 9, 2) := by decide +kernel
theorem dX10_worthTo_107 : decode cX10_worthTo 107 = .ok (.iload 5, 2) := by decide +kernel
theorem dX10_worthTo_109 : decode cX10_worthTo 109 = .ok (.ifCond .ne 7, 3) := by decide +kernel
theorem dX10_worthTo_112 : decode cX10_worthTo 112 = .ok (.iconst 0, 1) := by decide +kernel
theorem dX10_worthTo_113 : decode cX10_worthTo 113 = .ok (.goto 4, 3) := by decide +kernel
theorem dX10_worthTo_116 : decode cX10_worthTo 116 = .ok (.iconst 1, 1) := by decide +kernel
theorem dX10_worthTo_117 : decode cX10_worthTo 117 = .ok (.istore 10, 2) := by decide +kernel
theorem dX10_worthTo_119 : decode cX10_worthTo 119 = .ok (.iload 6, 2) := by decide +kernel
theorem dX10_worthTo_121 : decode cX10_worthTo 121 = .ok (.bipush 24, 2) := by decide +kernel
theorem dX10_worthTo_123 : decode cX10_worthTo 123 = .ok (.imul, 1) := by decide +kernel
theorem dX10_worthTo_124 : decode cX10_worthTo 124 = .ok (.iload 9, 2) := by decide +kernel
theorem dX10_worthTo_126 : decode cX10_worthTo 126 = .ok (.iadd, 1) := by decide +kernel
theorem dX10_worthTo_127 : decode cX10_worthTo 127 = .ok (.iconst 2, 1) := by decide +kernel
theorem dX10_worthTo_128 : decode cX10_worthTo 128 = .ok (.imul, 1) := by decide +kernel
theorem dX10_worthTo_129 : decode cX10_worthTo 129 = .ok (.iload 10, 2) := by decide +kernel
theorem dX10_worthTo_131 : decode cX10_worthTo 131 = .ok (.iadd, 1) := by decide +kernel
theorem dX10_worthTo_132 : decode cX10_worthTo 132 = .ok (.istore 11, 2) := by decide +kernel
theorem dX10_worthTo_134 : decode cX10_worthTo 134 = .ok (.aload_n 0, 1) := by decide +kernel
theorem dX10_worthTo_135 : decode cX10_worthTo 135 = .ok (.getfield 15, 3) := by decide +kernel
theorem dX10_worthTo_138 : decode cX10_worthTo 138 = .ok (.iload 11, 2) := by decide +kernel
theorem dX10_worthTo_140 : decode cX10_worthTo 140 = .ok (.iaload, 1) := by decide +kernel
theorem dX10_worthTo_141 : decode cX10_worthTo 141 = .ok (.aload_n 0, 1) := by decide +kernel
theorem dX10_worthTo_142 : decode cX10_worthTo 142 = .ok (.getfield 18, 3) := by decide +kernel
theorem dX10_worthTo_145 : decode cX10_worthTo 145 = .ok (.iload 6, 2) := by decide +kernel
theorem dX10_worthTo_147 : decode cX10_worthTo 147 = .ok (.iaload, 1) := by decide +kernel
theorem dX10_worthTo_148 : decode cX10_worthTo 148 = .ok (.if_icmp .eq 52, 3) := by decide +kernel
theorem dX10_worthTo_151 : decode cX10_worthTo 151 = .ok (.aload_n 0, 1) := by decide +kernel
theorem dX10_worthTo_152 : decode cX10_worthTo 152 = .ok (.getfield 15, 3) := by decide +kernel
theorem dX10_worthTo_155 : decode cX10_worthTo 155 = .ok (.iload 11, 2) := by decide +kernel
theorem dX10_worthTo_157 : decode cX10_worthTo 157 = .ok (.aload_n 0, 1) := by decide +kernel
theorem dX10_worthTo_158 : decode cX10_worthTo 158 = .ok (.getfield 18, 3) := by decide +kernel
theorem dX10_worthTo_161 : decode cX10_worthTo 161 = .ok (.iload 6, 2) := by decide +kernel
theorem dX10_worthTo_163 : decode cX10_worthTo 163 = .ok (.iaload, 1) := by decide +kernel
theorem dX10_worthTo_164 : decode cX10_worthTo 164 = .ok (.iastore, 1) := by decide +kernel
theorem dX10_worthTo_165 : decode cX10_worthTo 165 = .ok (.aload_n 0, 1) := by decide +kernel
theorem dX10_worthTo_166 : decode cX10_worthTo 166 = .ok (.aload_n 1, 1) := by decide +kernel
theorem dX10_worthTo_167 : decode cX10_worthTo 167 = .ok (.iload 9, 2) := by decide +kernel
theorem dX10_worthTo_169 : decode cX10_worthTo 169 = .ok (.iload_n 3, 1) := by decide +kernel
theorem dX10_worthTo_170 : decode cX10_worthTo 170 = .ok (.iload 10, 2) := by decide +kernel
theorem dX10_worthTo_172 : decode cX10_worthTo 172 = .ok (.invokevirtual 71, 3) := by decide +kernel
theorem dX10_worthTo_175 : decode cX10_worthTo 175 = .ok (.aload_n 0, 1) := by decide +kernel
theorem dX10_worthTo_176 : decode cX10_worthTo 176 = .ok (.getfield 9, 3) := by decide +kernel
theorem dX10_worthTo_179 : decode cX10_worthTo 179 = .ok (.iload 11, 2) := by decide +kernel
theorem dX10_worthTo_181 : decode cX10_worthTo 181 = .ok (.aload_n 1, 1) := by decide +kernel
theorem dX10_worthTo_182 : decode cX10_worthTo 182 = .ok (.getfield 53, 3) := by decide +kernel
theorem dX10_worthTo_185 : decode cX10_worthTo 185 = .ok (.iload 6, 2) := by decide +kernel
theorem dX10_worthTo_187 : decode cX10_worthTo 187 = .ok (.aaload, 1) := by decide +kernel
theorem dX10_worthTo_188 : decode cX10_worthTo 188 = .ok (.aload_n 0, 1) := by decide +kernel
theorem dX10_worthTo_189 : decode cX10_worthTo 189 = .ok (.getfield 26, 3) := by decide +kernel
theorem dX10_worthTo_192 : decode cX10_worthTo 192 = .ok (.aload_n 0, 1) := by decide +kernel
theorem dX10_worthTo_193 : decode cX10_worthTo 193 = .ok (.getfield 29, 3) := by decide +kernel
theorem dX10_worthTo_196 : decode cX10_worthTo 196 = .ok (.invokevirtual 75, 3) := by decide +kernel
theorem dX10_worthTo_199 : decode cX10_worthTo 199 = .ok (.iastore, 1) := by decide +kernel
theorem dX10_worthTo_200 : decode cX10_worthTo 200 = .ok (.aload_n 0, 1) := by decide +kernel
theorem dX10_worthTo_201 : decode cX10_worthTo 201 = .ok (.getfield 9, 3) := by decide +kernel
theorem dX10_worthTo_204 : decode cX10_worthTo 204 = .ok (.iload 11, 2) := by decide +kernel
theorem dX10_worthTo_206 : decode cX10_worthTo 206 = .ok (.iaload, 1) := by decide +kernel
theorem dX10_worthTo_207 : decode cX10_worthTo 207 = .ok (.ireturn, 1) := by decide +kernel
theorem dX10_gatherFacts_0 : decode cX10_gatherFacts 0 = .ok (.iload_n 3, 1) := by decide +kernel
theorem dX10_gatherFacts_1 : decode cX10_gatherFacts 1 = .ok (.bipush 30, 2) := by decide +kernel
theorem dX10_gatherFacts_3 : decode cX10_gatherFacts 3 = .ok (.idiv, 1) := by decide +kernel
theorem dX10_gatherFacts_4 : decode cX10_gatherFacts 4 = .ok (.bipush 12, 2) := by decide +kernel
theorem dX10_gatherFacts_6 : decode cX10_gatherFacts 6 = .ok (.irem, 1) := by decide +kernel
theorem dX10_gatherFacts_7 : decode cX10_gatherFacts 7 = .ok (.istore 5, 2) := by decide +kernel
theorem dX10_gatherFacts_9 : decode cX10_gatherFacts 9 = .ok (.aload_n 0, 1) := by decide +kernel
theorem dX10_gatherFacts_10 : decode cX10_gatherFacts 10 = .ok (.getfield 26, 3) := by decide +kernel
theorem dX10_gatherFacts_13 : decode cX10_gatherFacts 13 = .ok (.iconst 0, 1) := by decide +kernel
theorem dX10_gatherFacts_14 : decode cX10_gatherFacts 14 = .ok (.iload_n 2, 1) := by decide +kernel
theorem dX10_gatherFacts_15 : decode cX10_gatherFacts 15 = .ok (.iastore, 1) := by decide +kernel
theorem dX10_gatherFacts_16 : decode cX10_gatherFacts 16 = .ok (.iconst 0, 1) := by decide +kernel
theorem dX10_gatherFacts_17 : decode cX10_gatherFacts 17 = .ok (.istore 6, 2) := by decide +kernel
theorem dX10_gatherFacts_19 : decode cX10_gatherFacts 19 = .ok (.iload 6, 2) := by decide +kernel
theorem dX10_gatherFacts_21 : decode cX10_gatherFacts 21 = .ok (.iconst 3, 1) := by decide +kernel
theorem dX10_gatherFacts_22 : decode cX10_gatherFacts 22 = .ok (.if_icmp .ge 31, 3) := by decide +kernel
theorem dX10_gatherFacts_25 : decode cX10_gatherFacts 25 = .ok (.aload_n 0, 1) := by decide +kernel
theorem dX10_gatherFacts_26 : decode cX10_gatherFacts 26 = .ok (.getfield 26, 3) := by decide +kernel
theorem dX10_gatherFacts_29 : decode cX10_gatherFacts 29 = .ok (.iconst 1, 1) := by decide +kernel
theorem dX10_gatherFacts_30 : decode cX10_gatherFacts 30 = .ok (.iload 6, 2) := by decide +kernel
theorem dX10_gatherFacts_32 : decode cX10_gatherFacts 32 = .ok (.iadd, 1) := by decide +kernel
theorem dX10_gatherFacts_33 : decode cX10_gatherFacts 33 = .ok (.aload_n 1, 1) := by decide +kernel
theorem dX10_gatherFacts_34 : decode cX10_gatherFacts 34 = .ok (.getfield 79, 3) := by decide +kernel
theorem dX10_gatherFacts_37 : decode cX10_gatherFacts 37 = .ok (.iload 6, 2) := by decide +kernel
theorem dX10_gatherFacts_39 : decode cX10_gatherFacts 39 = .ok (.iload 5, 2) := by decide +kernel
theorem dX10_gatherFacts_41 : decode cX10_gatherFacts 41 = .ok (.iload_n 2, 1) := by decide +kernel
theorem dX10_gatherFacts_42 : decode cX10_gatherFacts 42 = .ok (.invokestatic 82, 3) := by decide +kernel
theorem dX10_gatherFacts_45 : decode cX10_gatherFacts 45 = .ok (.iaload, 1) := by decide +kernel
theorem dX10_gatherFacts_46 : decode cX10_gatherFacts 46 = .ok (.iastore, 1) := by decide +kernel
theorem dX10_gatherFacts_47 : decode cX10_gatherFacts 47 = .ok (.iinc 6 1, 3) := by decide +kernel
theorem dX10_gatherFacts_50 : decode cX10_gatherFacts 50 = .ok (.goto (-31), 3) := by decide +kernel
theorem dX10_gatherFacts_53 : decode cX10_gatherFacts 53 = .ok (.aload_n 0, 1) := by decide +kernel
theorem dX10_gatherFacts_54 : decode cX10_gatherFacts 54 = .ok (.getfield 26, 3) := by decide +kernel
theorem dX10_gatherFacts_57 : decode cX10_gatherFacts 57 = .ok (.iconst 4, 1) := by decide +kernel
theorem dX10_gatherFacts_58 : decode cX10_gatherFacts 58 = .ok (.iload 5, 2) := by decide +kernel
theorem dX10_gatherFacts_60 : decode cX10_gatherFacts 60 = .ok (.iastore, 1) := by decide +kernel
theorem dX10_gatherFacts_61 : decode cX10_gatherFacts 61 = .ok (.aload_n 0, 1) := by decide +kernel
theorem dX10_gatherFacts_62 : decode cX10_gatherFacts 62 = .ok (.getfield 26, 3) := by decide +kernel
theorem dX10_gatherFacts_65 : decode cX10_gatherFacts 65 = .ok (.iconst 5, 1) := by decide +kernel
theorem dX10_gatherFacts_66 : decode cX10_gatherFacts 66 = .ok (.iload_n 3, 1) := by decide +kernel
theorem dX10_gatherFacts_67 : decode cX10_gatherFacts 67 = .ok (.iastore, 1) := by decide +kernel
theorem dX10_gatherFacts_68 : decode cX10_gatherFacts 68 = .ok (.aload_n 0, 1) := by decide +kernel
theorem dX10_gatherFacts_69 : decode cX10_gatherFacts 69 = .ok (.getfield 26, 3) := by decide +kernel
theorem dX10_gatherFacts_72 : decode cX10_gatherFacts 72 = .ok (.bipush 6, 2) := by decide +kernel
theorem dX10_gatherFacts_74 : decode cX10_gatherFacts 74 = .ok (.iload 4, 2) := by decide +kernel
theorem dX10_gatherFacts_76 : decode cX10_gatherFacts 76 = .ok (.iastore, 1) := by decide +kernel
theorem dX10_gatherFacts_77 : decode cX10_gatherFacts 77 = .ok (.return_, 1) := by decide +kernel
theorem dX11_init_0 : decode cX11_init 0 = .ok (.aload_n 0, 1) := by decide +kernel
theorem dX11_init_1 : decode cX11_init 1 = .ok (.invokespecial 3, 3) := by decide +kernel
theorem dX11_init_4 : decode cX11_init 4 = .ok (.aload_n 0, 1) := by decide +kernel
theorem dX11_init_5 : decode cX11_init 5 = .ok (.new 9, 3) := by decide +kernel
theorem dX11_init_8 : decode cX11_init 8 = .ok (.dup, 1) := by decide +kernel
theorem dX11_init_9 : decode cX11_init 9 = .ok (.invokespecial 11, 3) := by decide +kernel
theorem dX11_init_12 : decode cX11_init 12 = .ok (.putfield 12, 3) := by decide +kernel
theorem dX11_init_15 : decode cX11_init 15 = .ok (.aload_n 0, 1) := by decide +kernel
theorem dX11_init_16 : decode cX11_init 16 = .ok (.getfield 12, 3) := by decide +kernel
theorem dX11_init_19 : decode cX11_init 19 = .ok (.bipush 12, 2) := by decide +kernel
theorem dX11_init_21 : decode cX11_init 21 = .ok (.invokevirtual 16, 3) := by decide +kernel
theorem dX11_init_24 : decode cX11_init 24 = .ok (.aload_n 0, 1) := by decide +kernel
theorem dX11_init_25 : decode cX11_init 25 = .ok (.new 20, 3) := by decide +kernel
theorem dX11_init_28 : decode cX11_init 28 = .ok (.dup, 1) := by decide +kernel
theorem dX11_init_29 : decode cX11_init 29 = .ok (.invokespecial 22, 3) := by decide +kernel
theorem dX11_init_32 : decode cX11_init 32 = .ok (.putfield 23, 3) := by decide +kernel
theorem dX11_init_35 : decode cX11_init 35 = .ok (.aload_n 0, 1) := by decide +kernel
theorem dX11_init_36 : decode cX11_init 36 = .ok (.new 27, 3) := by decide +kernel
theorem dX11_init_39 : decode cX11_init 39 = .ok (.dup, 1) := by decide +kernel
theorem dX11_init_40 : decode cX11_init 40 = .ok (.invokespecial 29, 3) := by decide +kernel
theorem dX11_init_43 : decode cX11_init 43 = .ok (.putfield 30, 3) := by decide +kernel
theorem dX11_init_46 : decode cX11_init 46 = .ok (.aload_n 0, 1) := by decide +kernel
theorem dX11_init_47 : decode cX11_init 47 = .ok (.new 34, 3) := by decide +kernel
theorem dX11_init_50 : decode cX11_init 50 = .ok (.dup, 1) := by decide +kernel
theorem dX11_init_51 : decode cX11_init 51 = .ok (.aload_n 0, 1) := by decide +kernel
theorem dX11_init_52 : decode cX11_init 52 = .ok (.getfield 30, 3) := by decide +kernel
theorem dX11_init_55 : decode cX11_init 55 = .ok (.invokespecial 36, 3) := by decide +kernel
theorem dX11_init_58 : decode cX11_init 58 = .ok (.putfield 39, 3) := by decide +kernel
theorem dX11_init_61 : decode cX11_init 61 = .ok (.aload_n 0, 1) := by decide +kernel
theorem dX11_init_62 : decode cX11_init 62 = .ok (.new 43, 3) := by decide +kernel
theorem dX11_init_65 : decode cX11_init 65 = .ok (.dup, 1) := by decide +kernel
theorem dX11_init_66 : decode cX11_init 66 = .ok (.invokespecial 45, 3) := by decide +kernel
theorem dX11_init_69 : decode cX11_init 69 = .ok (.putfield 46, 3) := by decide +kernel
theorem dX11_init_72 : decode cX11_init 72 = .ok (.aload_n 0, 1) := by decide +kernel
theorem dX11_init_73 : decode cX11_init 73 = .ok (.new 50, 3) := by decide +kernel
theorem dX11_init_76 : decode cX11_init 76 = .ok (.dup, 1) := by decide +kernel
theorem dX11_init_77 : decode cX11_init 77 = .ok (.invokespecial 52, 3) := by decide +kernel
theorem dX11_init_80 : decode cX11_init 80 = .ok (.putfield 53, 3) := by decide +kernel
theorem dX11_init_83 : decode cX11_init 83 = .ok (.aload_n 0, 1) := by decide +kernel
theorem dX11_init_84 : decode cX11_init 84 = .ok (.aconst_null, 1) := by decide +kernel
theorem dX11_init_85 : decode cX11_init 85 = .ok (.putfield 57, 3) := by decide +kernel
theorem dX11_init_88 : decode cX11_init 88 = .ok (.return_, 1) := by decide +kernel
theorem dX11_notches_0 : decode cX11_notches 0 = .ok (.iload_n 1, 1) := by decide +kernel
theorem dX11_notches_1 : decode cX11_notches 1 = .ok (.iconst 4, 1) := by decide +kernel
theorem dX11_notches_2 : decode cX11_notches 2 = .ok (.bipush 24, 2) := by decide +kernel
theorem dX11_notches_4 : decode cX11_notches 4 = .ok (.invokestatic 60, 3) := by decide +kernel
theorem dX11_notches_7 : decode cX11_notches 7 = .ok (.ifCond .ne 5, 3) := by decide +kernel
theorem dX11_notches_10 : decode cX11_notches 10 = .ok (.iconst 0, 1) := by decide +kernel
theorem dX11_notches_11 : decode cX11_notches 11 = .ok (.ireturn, 1) := by decide +kernel
theorem dX11_notches_12 : decode cX11_notches 12 = .ok (.aload_n 0, 1) := by decide +kernel
theorem dX11_notches_13 : decode cX11_notches 13 = .ok (.getfield 12, 3) := by decide +kernel
theorem dX11_notches_16 : decode cX11_notches 16 = .ok (.iload_n 1, 1) := by decide +kernel
theorem dX11_notches_17 : decode cX11_notches 17 = .ok (.invokevirtual 16, 3) := by decide +kernel
theorem dX11_notches_20 : decode cX11_notches 20 = .ok (.aload_n 0, 1) := by decide +kernel
theorem dX11_notches_21 : decode cX11_notches 21 = .ok (.getfield 30, 3) := by decide +kernel
theorem dX11_notches_24 : decode cX11_notches 24 = .ok (.invokevirtual 64, 3) := by decide +kernel
theorem dX11_notches_27 : decode cX11_notches 27 = .ok (.aload_n 0, 1) := by decide +kernel
theorem dX11_notches_28 : decode cX11_notches 28 = .ok (.getfield 53, 3) := by decide +kernel
theorem dX11_notches_31 : decode cX11_notches 31 = .ok (.invokevirtual 67, 3) := by decide +kernel
theorem dX11_notches_34 : decode cX11_notches 34 = .ok (.iconst 1, 1) := by decide +kernel
theorem dX11_notches_35 : decode cX11_notches 35 = .ok (.ireturn, 1) := by decide +kernel
theorem dX11_sky_0 : decode cX11_sky 0 = .ok (.iload_n 1, 1) := by decide +kernel
theorem dX11_sky_1 : decode cX11_sky 1 = .ok (.iconst 0, 1) := by decide +kernel
theorem dX11_sky_2 : decode cX11_sky 2 = .ok (.iconst 2, 1) := by decide +kernel
theorem dX11_sky_3 : decode cX11_sky 3 = .ok (.invokestatic 60, 3) := by decide +kernel
theorem dX11_sky_6 : decode cX11_sky 6 = .ok (.ifCond .eq 36, 3) := by decide +kernel
theorem dX11_sky_9 : decode cX11_sky 9 = .ok (.iload_n 2, 1) := by decide +kernel
theorem dX11_sky_10 : decode cX11_sky 10 = .ok (.iconst 0, 1) := by decide +kernel
theorem dX11_sky_11 : decode cX11_sky 11 = .ok (.bipush 11, 2) := by decide +kernel
theorem dX11_sky_13 : decode cX11_sky 13 = .ok (.invokestatic 60, 3) := by decide +kernel
theorem dX11_sky_16 : decode cX11_sky 16 = .ok (.ifCond .eq 26, 3) := by decide +kernel
theorem dX11_sky_19 : decode cX11_sky 19 = .ok (.aload_n 0, 1) := by decide +kernel
theorem dX11_sky_20 : decode cX11_sky 20 = .ok (.getfield 12, 3) := by decide +kernel
theorem dX11_sky_23 : decode cX11_sky 23 = .ok (.iload_n 3, 1) := by decide +kernel
theorem dX11_sky_24 : decode cX11_sky 24 = .ok (.invokevirtual 68, 3) := by decide +kernel
theorem dX11_sky_27 : decode cX11_sky 27 = .ok (.ifCond .eq 15, 3) := by decide +kernel
theorem dX11_sky_30 : decode cX11_sky 30 = .ok (.iload 4, 2) := by decide +kernel
theorem dX11_sky_32 : decode cX11_sky 32 = .ok (.bipush (-9), 2) := by decide +kernel
theorem dX11_sky_34 : decode cX11_sky 34 = .ok (.bipush 9, 2) := by decide +kernel
theorem dX11_sky_36 : decode cX11_sky 36 = .ok (.invokestatic 60, 3) := by decide +kernel
theorem dX11_sky_39 : decode cX11_sky 39 = .ok (.ifCond .ne 5, 3) := by decide +kernel
theorem dX11_sky_42 : decode cX11_sky 42 = .ok (.iconst 0, 1) := by decide +kernel
theorem dX11_sky_43 : decode cX11_sky 43 = .ok (.ireturn, 1) := by decide +kernel
theorem dX11_sky_44 : decode cX11_sky 44 = .ok (.aload_n 0, 1) := by decide +kernel
theorem dX11_sky_45 : decode cX11_sky 45 = .ok (.getfield 12, 3) := by decide +kernel
theorem dX11_sky_48 : decode cX11_sky 48 = .ok (.getfield 72, 3) := by decide +kernel
theorem dX11_sky_51 : decode cX11_sky 51 = .ok (.iload_n 1, 1) := by decide +kernel
theorem dX11_sky_52 : decode cX11_sky 52 = .ok (.iload_n 2, 1) := by decide +kernel
theorem dX11_sky_53 : decode cX11_sky 53 = .ok (.iload_n 3, 1) := by decide +kernel
theorem dX11_sky_54 : decode cX11_sky 54 = .ok (.invokestatic 76, 3) := by decide +kernel
theorem dX11_sky_57 : decode cX11_sky 57 = .ok (.iload 4, 2) := by decide +kernel
theorem dX11_sky_59 : decode cX11_sky 59 = .ok (.iastore, 1) := by decide +kernel
theorem dX11_sky_60 : decode cX11_sky 60 = .ok (.aload_n 0, 1) := by decide +kernel
theorem dX11_sky_61 : decode cX11_sky 61 = .ok (.getfield 30, 3) := by decide +kernel
theorem dX11_sky_64 : decode cX11_sky 64 = .ok (.invokevirtual 64, 3) := by decide +kernel
theorem dX11_sky_67 : decode cX11_sky 67 = .ok (.aload_n 0, 1) := by decide +kernel
theorem dX11_sky_68 : decode cX11_sky 68 = .ok (.getfield 53, 3) := by decide +kernel
theorem dX11_sky_71 : decode cX11_sky 71 = .ok (.invokevirtual 67, 3) := by decide +kernel
theorem dX11_sky_74 : decode cX11_sky 74 = .ok (.iconst 1, 1) := by decide +kernel
theorem dX11_sky_75 : decode cX11_sky 75 = .ok (.ireturn, 1) := by decide +kernel
theorem dX11_plot_0 : decode cX11_plot 0 = .ok (.aload_n 0, 1) := by decide +kernel
theorem dX11_plot_1 : decode cX11_plot 1 = .ok (.getfield 12, 3) := by decide +kernel
theorem dX11_plot_4 : decode cX11_plot 4 = .ok (.iload_n 1, 1) := by decide +kernel
theorem dX11_plot_5 : decode cX11_plot 5 = .ok (.invokevirtual 68, 3) := by decide +kernel
theorem dX11_plot_8 : decode cX11_plot 8 = .ok (.ifCond .eq 49, 3) := by decide +kernel
theorem dX11_plot_11 : decode cX11_plot 11 = .ok (.iload_n 2, 1) := by decide +kernel
theorem dX11_plot_12 : decode cX11_plot 12 = .ok (.iconst 1, 1) := by decide +kernel
theorem dX11_plot_13 : decode cX11_plot 13 = .ok (.bipush 9, 2) := by decide +kernel
theorem dX11_plot_15 : decode cX11_plot 15 = .ok (.invokestatic 60, 3) := by decide +kernel
theorem dX11_plot_18 : decode cX11_plot 18 = .ok (.ifCond .eq 39, 3) := by decide +kernel
theorem dX11_plot_21 : decode cX11_plot 21 = .ok (.iload_n 3, 1) := by decide +kernel
theorem dX11_plot_22 : decode cX11_plot 22 = .ok (.iconst 0, 1) := by decide +kernel
theorem dX11_plot_23 : decode cX11_plot 23 = .ok (.iconst 4, 1) := by decide +kernel
theorem dX11_plot_24 : decode cX11_plot 24 = .ok (.invokestatic 60, 3) := by decide +kernel
theorem dX11_plot_27 : decode cX11_plot 27 = .ok (.ifCond .eq 30, 3) := by decide +kernel
theorem dX11_plot_30 : decode cX11_plot 30 = .ok (.iload 4, 2) := by decide +kernel
theorem dX11_plot_32 : decode cX11_plot 32 = .ok (.ldc 80, 2) := by decide +kernel
theorem dX11_plot_34 : decode cX11_plot 34 = .ok (.ldc 81, 2) := by decide +kernel
theorem dX11_plot_36 : decode cX11_plot 36 = .ok (.invokestatic 60, 3) := by decide +kernel
theorem dX11_plot_39 : decode cX11_plot 39 = .ok (.ifCond .eq 18, 3) := by decide +kernel
theorem dX11_plot_42 : decode cX11_plot 42 = .ok (.aload_n 0, 1) := by decide +kernel
theorem dX11_plot_43 : decode cX11_plot 43 = .ok (.getfield 12, 3) := by decide +kernel
theorem dX11_plot_46 : decode cX11_plot 46 = .ok (.getfield 82, 3) := by decide +kernel
theorem dX11_plot_49 : decode cX11_plot 49 = .ok (.getfield 86, 3) := by decide +kernel
theorem dX11_plot_52 : decode cX11_plot 52 = .ok (.bipush 10, 2) := by decide +kernel
theorem dX11_plot_54 : decode cX11_plot 54 = .ok (.if_icmp .lt 5, 3) := by decide +kernel
theorem dX11_plot_57 : decode cX11_plot 57 = .ok (.iconst (-1), 1) := by decide +kernel
theorem dX11_plot_58 : decode cX11_plot 58 = .ok (.ireturn, 1) := by decide +kernel
theorem dX11_plot_59 : decode cX11_plot 59 = .ok (.aload_n 0, 1) := by decide +kernel
theorem dX11_plot_60 : decode cX11_plot 60 = .ok (.getfield 53, 3) := by decide +kernel
theorem dX11_plot_63 : decode cX11_plot 63 = .ok (.invokevirtual 67, 3) := by decide +kernel
theorem dX11_plot_66 : decode cX11_plot 66 = .ok (.aload_n 0, 1) := by decide +kernel
theorem dX11_plot_67 : decode cX11_plot 67 = .ok (.getfield 12, 3) := by decide +kernel
theorem dX11_plot_70 : decode cX11_plot 70 = .ok (.getfield 82, 3) := by decide +kernel
theorem dX11_plot_73 : decode cX11_plot 73 = .ok (.iload_n 1, 1) := by decide +kernel
theorem dX11_plot_74 : decode cX11_plot 74 = .ok (.iload_n 2, 1) := by decide +kernel
theorem dX11_plot_75 : decode cX11_plot 75 = .ok (.iload_n 3, 1) := by decide +kernel
theorem dX11_plot_76 : decode cX11_plot 76 = .ok (.iload 4, 2) := by decide +kernel
theorem dX11_plot_78 : decode cX11_plot 78 = .ok (.invokevirtual 92, 3) := by decide +kernel
theorem dX11_plot_81 : decode cX11_plot 81 = .ok (.ireturn, 1) := by decide +kernel
theorem dX11_set_0 : decode cX11_set 0 = .ok (.aload_n 0, 1) := by decide +kernel
theorem dX11_set_1 : decode cX11_set 1 = .ok (.iload_n 1, 1) := by decide +kernel
theorem dX11_set_2 : decode cX11_set 2 = .ok (.iload_n 2, 1) := by decide +kernel
theorem dX11_set_3 : decode cX11_set 3 = .ok (.invokevirtual 96, 3) := by decide +kernel
theorem dX11_set_6 : decode cX11_set 6 = .ok (.ifCond .ne 5, 3) := by decide +kernel
theorem dX11_set_9 : decode cX11_set 9 = .ok (.iconst 0, 1) := by decide +kernel
theorem dX11_set_10 : decode cX11_set 10 = .ok (.ireturn, 1) := by decide +kernel
theorem dX11_set_11 : decode cX11_set 11 = .ok (.iload_n 1, 1) := by decide +kernel
theorem dX11_set_12 : decode cX11_set 12 = .ok (.tableswitch 69 0 2 #[28, 39, 58], 28) := by decide +kernel
theorem dX11_set_40 : decode cX11_set 40 = .ok (.aload_n 0, 1) := by decide +kernel
theorem dX11_set_41 : decode cX11_set 41 = .ok (.getfield 12, 3) := by decide +kernel
theorem dX11_set_44 : decode cX11_set 44 = .ok (.iload_n 2, 1) := by decide +kernel
theorem dX11_set_45 : decode cX11_set 45 = .ok (.putfield 100, 3) := by decide +kernel
theorem dX11_set_48 : decode cX11_set 48 = .ok (.goto 41, 3) := by decide +kernel
theorem dX11_set_51 : decode cX11_set 51 = .ok (.aload_n 0, 1) := by decide +kernel
theorem dX11_set_52 : decode cX11_set 52 = .ok (.getfield 12, 3) := by decide +kernel
theorem dX11_set_55 : decode cX11_set 55 = .ok (.iload_n 2, 1) := by decide +kernel
theorem dX11_set_56 : decode cX11_set 56 = .ok (.putfield 103, 3) := by decide +kernel
theorem dX11_set_59 : decode cX11_set 59 = .ok (.aload_n 0, 1) := by decide +kernel
theorem dX11_set_60 : decode cX11_set 60 = .ok (.getfield 12, 3) := by decide +kernel
theorem dX11_set_63 : decode cX11_set 63 = .ok (.iconst 0, 1) := by decide +kernel
theorem dX11_set_64 : decode cX11_set 64 = .ok (.putfield 106, 3) := by decide +kernel
theorem dX11_set_67 : decode cX11_set 67 = .ok (.goto 22, 3) := by decide +kernel
theorem dX11_set_70 : decode cX11_set 70 = .ok (.aload_n 0, 1) := by decide +kernel
theorem dX11_set_71 : decode cX11_set 71 = .ok (.getfield 12, 3) := by decide +kernel
theorem dX11_set_74 : decode cX11_set 74 = .ok (.iload_n 2, 1) := by decide +kernel
theorem dX11_set_75 : decode cX11_set 75 = .ok (.putfield 109, 3) := by decide +kernel
theorem dX11_set_78 : decode cX11_set 78 = .ok (.goto 11, 3) := by decide +kernel
theorem dX11_set_81 : decode cX11_set 81 = .ok (.aload_n 0, 1) := by decide +kernel
theorem dX11_set_82 : decode cX11_set 82 = .ok (.getfield 12, 3) := by decide +kernel
theorem dX11_set_85 : decode cX11_set 85 = .ok (.iload_n 2, 1) := by decide +kernel
theorem dX11_set_86 : decode cX11_set 86 = .ok (.putfield 112, 3) := by decide +kernel
theorem dX11_set_89 : decode cX11_set 89 = .ok (.aload_n 0, 1) := by decide +kernel
theorem dX11_set_90 : decode cX11_set 90 = .ok (.getfield 53, 3) := by decide +kernel
theorem dX11_set_93 : decode cX11_set 93 = .ok (.invokevirtual 67, 3) := by decide +kernel
theorem dX11_set_96 : decode cX11_set 96 = .ok (.iconst 1, 1) := by decide +kernel
theorem dX11_set_97 : decode cX11_set 97 = .ok (.ireturn, 1) := by decide +kernel
theorem dX11_mayBeSet_0 : decode cX11_mayBeSet 0 = .ok (.iload_n 1, 1) := by decide +kernel
theorem dX11_mayBeSet_1 : decode cX11_mayBeSet 1 = .ok (.tableswitch 62 0 3 #[31, 40, 45, 54], 31) := by decide +kernel
theorem dX11_mayBeSet_32 : decode cX11_mayBeSet 32 = .ok (.aload_n 0, 1) := by decide +kernel
theorem dX11_mayBeSet_33 : decode cX11_mayBeSet 33 = .ok (.getfield 12, 3) := by decide +kernel
theorem dX11_mayBeSet_36 : decode cX11_mayBeSet 36 = .ok (.iload_n 2, 1) := by decide +kernel
theorem dX11_mayBeSet_37 : decode cX11_mayBeSet 37 = .ok (.invokevirtual 68, 3) := by decide +kernel
theorem dX11_mayBeSet_40 : decode cX11_mayBeSet 40 = .ok (.ireturn, 1) := by decide +kernel
theorem dX11_mayBeSet_41 : decode cX11_mayBeSet 41 = .ok (.iload_n 2, 1) := by decide +kernel
theorem dX11_mayBeSet_42 : decode cX11_mayBeSet 42 = .ok (.invokestatic 115, 3) := by decide +kernel
theorem dX11_mayBeSet_45 : decode cX11_mayBeSet 45 = .ok (.ireturn, 1) := by decide +kernel
theorem dX11_mayBeSet_46 : decode cX11_mayBeSet 46 = .ok (.iload_n 2, 1) := by decide +kernel
theorem dX11_mayBeSet_47 : decode cX11_mayBeSet 47 = .ok (.iconst 0, 1) := by decide +kernel
theorem dX11_mayBeSet_48 : decode cX11_mayBeSet 48 = .ok (.sipush 999, 3) := by decide +kernel
theorem dX11_mayBeSet_51 : decode cX11_mayBeSet 51 = .ok (.invokestatic 60, 3) := by decide +kernel
theorem dX11_mayBeSet_54 : decode cX11_mayBeSet 54 = .ok (.ireturn, 1) := by decide +kernel
theorem dX11_mayBeSet_55 : decode cX11_mayBeSet 55 = .ok (.iload_n 2, 1) := by decide +kernel
theorem dX11_mayBeSet_56 : decode cX11_mayBeSet 56 = .ok (.iconst 0, 1) := by decide +kernel
theorem dX11_mayBeSet_57 : decode cX11_mayBeSet 57 = .ok (.bipush 99, 2) := by decide +kernel
theorem dX11_mayBeSet_59 : decode cX11_mayBeSet 59 = .ok (.invokestatic 60, 3) := by decide +kernel
theorem dX11_mayBeSet_62 : decode cX11_mayBeSet 62 = .ok (.ireturn, 1) := by decide +kernel
theorem dX11_mayBeSet_63 : decode cX11_mayBeSet 63 = .ok (.iconst 0, 1) := by decide +kernel
theorem dX11_mayBeSet_64 : decode cX11_mayBeSet 64 = .ok (.ireturn, 1) := by decide +kernel
theorem dX11_feed_0 : decode cX11_feed 0 = .ok (.aload_n 0, 1) := by decide +kernel
theorem dX11_feed_1 : decode cX11_feed 1 = .ok (.getfield 23, 3) := by decide +kernel
theorem dX11_feed_4 : decode cX11_feed 4 = .ok (.invokevirtual 118, 3) := by decide +kernel
theorem dX11_feed_7 : decode cX11_feed 7 = .ok (.ifCond .ne 5, 3) := by decide +kernel
theorem dX11_feed_10 : decode cX11_feed 10 = .ok (.iconst (-1), 1) := by decide +kernel
theorem dX11_feed_11 : decode cX11_feed 11 = .ok (.ireturn, 1) := by decide +kernel
theorem dX11_feed_12 : decode cX11_feed 12 = .ok (.aload_n 0, 1) := by decide +kernel
theorem dX11_feed_13 : decode cX11_feed 13 = .ok (.getfield 23, 3) := by decide +kernel
theorem dX11_feed_16 : decode cX11_feed 16 = .ok (.iload_n 1, 1) := by decide +kernel
theorem dX11_feed_17 : decode cX11_feed 17 = .ok (.invokevirtual 122, 3) := by decide +kernel
theorem dX11_feed_20 : decode cX11_feed 20 = .ok (.aload_n 0, 1) := by decide +kernel
theorem dX11_feed_21 : decode cX11_feed 21 = .ok (.getfield 23, 3) := by decide +kernel
theorem dX11_feed_24 : decode cX11_feed 24 = .ok (.iload_n 2, 1) := by decide +kernel
theorem dX11_feed_25 : decode cX11_feed 25 = .ok (.invokevirtual 122, 3) := by decide +kernel
theorem dX11_feed_28 : decode cX11_feed 28 = .ok (.aload_n 0, 1) := by decide +kernel
theorem dX11_feed_29 : decode cX11_feed 29 = .ok (.getfield 23, 3) := by decide +kernel
theorem dX11_feed_32 : decode cX11_feed 32 = .ok (.iload_n 3, 1) := by decide +kernel
theorem dX11_feed_33 : decode cX11_feed 33 = .ok (.invokevirtual 122, 3) := by decide +kernel
theorem dX11_feed_36 : decode cX11_feed 36 = .ok (.aload_n 0, 1) := by decide +kernel
theorem dX11_feed_37 : decode cX11_feed 37 = .ok (.getfield 23, 3) := by decide +kernel
theorem dX11_feed_40 : decode cX11_feed 40 = .ok (.iload 4, 2) := by decide +kernel
theorem dX11_feed_42 : decode cX11_feed 42 = .ok (.invokevirtual 122, 3) := by decide +kernel
theorem dX11_feed_45 : decode cX11_feed 45 = .ok (.aload_n 0, 1) := by decide +kernel
theorem dX11_feed_46 : decode cX11_feed 46 = .ok (.getfield 23, 3) := by decide +kernel
theorem dX11_feed_49 : decode cX11_feed 49 = .ok (.iload 5, 2) := by decide +kernel
theorem dX11_feed_51 : decode cX11_feed 51 = .ok (.invokevirtual 122, 3) := by decide +kernel
theorem dX11_feed_54 : decode cX11_feed 54 = .ok (.aload_n 0, 1) := by decide +kernel
theorem dX11_feed_55 : decode cX11_feed 55 = .ok (.getfield 23, 3) := by decide +kernel
theorem dX11_feed_58 : decode cX11_feed 58 = .ok (.getfield 125, 3) := by decide +kernel
theorem dX11_feed_61 : decode cX11_feed 61 = .ok (.ireturn, 1) := by decide +kernel
theorem dX11_end_0 : decode cX11_end 0 = .ok (.iload_n 1, 1) := by decide +kernel
theorem dX11_end_1 : decode cX11_end 1 = .ok (.iconst 0, 1) := by decide +kernel
theorem dX11_end_2 : decode cX11_end 2 = .ok (.aload_n 0, 1) := by decide +kernel
theorem dX11_end_3 : decode cX11_end 3 = .ok (.getfield 23, 3) := by decide +kernel
theorem dX11_end_6 : decode cX11_end 6 = .ok (.getfield 125, 3) := by decide +kernel
theorem dX11_end_9 : decode cX11_end 9 = .ok (.invokestatic 60, 3) := by decide +kernel
theorem dX11_end_12 : decode cX11_end 12 = .ok (.ifCond .ne 5, 3) := by decide +kernel
theorem dX11_end_15 : decode cX11_end 15 = .ok (.iconst 0, 1) := by decide +kernel
theorem dX11_end_16 : decode cX11_end 16 = .ok (.ireturn, 1) := by decide +kernel
theorem dX11_end_17 : decode cX11_end 17 = .ok (.aload_n 0, 1) := by decide +kernel
theorem dX11_end_18 : decode cX11_end 18 = .ok (.getfield 23, 3) := by decide +kernel
theorem dX11_end_21 : decode cX11_end 21 = .ok (.iload_n 1, 1) := by decide +kernel
theorem dX11_end_22 : decode cX11_end 22 = .ok (.putfield 125, 3) := by decide +kernel
theorem dX11_end_25 : decode cX11_end 25 = .ok (.iconst 1, 1) := by decide +kernel
theorem dX11_end_26 : decode cX11_end 26 = .ok (.ireturn, 1) := by decide +kernel
theorem dX11_text_0 : decode cX11_text 0 = .ok (.iload_n 1, 1) := by decide +kernel
theorem dX11_text_1 : decode cX11_text 1 = .ok (.iconst 0, 1) := by decide +kernel
theorem dX11_text_2 : decode cX11_text 2 = .ok (.iconst 3, 1) := by decide +kernel
theorem dX11_text_3 : decode cX11_text 3 = .ok (.invokestatic 60, 3) := by decide +kernel
theorem dX11_text_6 : decode cX11_text 6 = .ok (.ifCond .ne 12, 3) := by decide +kernel
theorem dX11_text_9 : decode cX11_text 9 = .ok (.aload_n 0, 1) := by decide +kernel
theorem dX11_text_10 : decode cX11_text 10 = .ok (.getfield 23, 3) := by decide +kernel
theorem dX11_text_13 : decode cX11_text 13 = .ok (.invokevirtual 128, 3) := by decide +kernel
theorem dX11_text_16 : decode cX11_text 16 = .ok (.iconst (-1), 1) := by decide +kernel
theorem dX11_text_17 : decode cX11_text 17 = .ok (.ireturn, 1) := by decide +kernel
theorem dX11_text_18 : decode cX11_text 18 = .ok (.aload_n 0, 1) := by decide +kernel
theorem dX11_text_19 : decode cX11_text 19 = .ok (.getfield 23, 3) := by decide +kernel
theorem dX11_text_22 : decode cX11_text 22 = .ok (.aload_n 0, 1) := by decide +kernel
theorem dX11_text_23 : decode cX11_text 23 = .ok (.getfield 12, 3) := by decide +kernel
theorem dX11_text_26 : decode cX11_text 26 = .ok (.getfield 131, 3) := by decide +kernel
theorem dX11_text_29 : decode cX11_text 29 = .ok (.iload_n 1, 1) := by decide +kernel
theorem dX11_text_30 : decode cX11_text 30 = .ok (.aaload, 1) := by decide +kernel
theorem dX11_text_31 : decode cX11_text 31 = .ok (.invokevirtual 135, 3) := by decide +kernel
theorem dX11_text_34 : decode cX11_text 34 = .ok (.istore_n 2, 1) := by decide +kernel
theorem dX11_text_35 : decode cX11_text 35 = .ok (.iload_n 2, 1) := by decide +kernel
theorem dX11_text_36 : decode cX11_text 36 = .ok (.iconst (-1), 1) := by decide +kernel
theorem dX11_text_37 : decode cX11_text 37 = .ok (.if_icmp .eq 10, 3) := by decide +kernel
theorem dX11_text_40 : decode cX11_text 40 = .ok (.aload_n 0, 1) := by decide +kernel
theorem dX11_text_41 : decode cX11_text 41 = .ok (.getfield 30, 3) := by decide +kernel
theorem dX11_text_44 : decode cX11_text 44 = .ok (.invokevirtual 64, 3) := by decide +kernel
theorem dX11_text_47 : decode cX11_text 47 = .ok (.iload_n 2, 1) := by decide +kernel
theorem dX11_text_48 : decode cX11_text 48 = .ok (.ireturn, 1) := by decide +kernel
theorem dX11_fault_0 : decode cX11_fault 0 = .ok (.iload_n 1, 1) := by decide +kernel
theorem dX11_fault_1 : decode cX11_fault 1 = .ok (.ifCond .ne 11, 3) := by decide +kernel
theorem dX11_fault_4 : decode cX11_fault 4 = .ok (.aload_n 0, 1) := by decide +kernel
theorem dX11_fault_5 : decode cX11_fault 5 = .ok (.getfield 23, 3) := by decide +kernel
theorem dX11_fault_8 : decode cX11_fault 8 = .ok (.getfield 139, 3) := by decide +kernel
theorem dX11_fault_11 : decode cX11_fault 11 = .ok (.ireturn, 1) := by decide +kernel
theorem dX11_fault_12 : decode cX11_fault 12 = .ok (.iload_n 1, 1) := by decide +kernel
theorem dX11_fault_13 : decode cX11_fault 13 = .ok (.iconst 1, 1) := by decide +kernel
theorem dX11_fault_14 : decode cX11_fault 14 = .ok (.if_icmp .ne 13, 3) := by decide +kernel
theorem dX11_fault_17 : decode cX11_fault 17 = .ok (.aload_n 0, 1) := by decide +kernel
theorem dX11_fault_18 : decode cX11_fault 18 = .ok (.getfield 23, 3) := by decide +kernel
theorem dX11_fault_21 : decode cX11_fault 21 = .ok (.getfield 142, 3) := by decide +kernel
theorem dX11_fault_24 : decode cX11_fault 24 = .ok (.goto 4, 3) := by decide +kernel
theorem dX11_fault_27 : decode cX11_fault 27 = .ok (.iconst (-1), 1) := by decide +kernel
theorem dX11_fault_28 : decode cX11_fault 28 = .ok (.ireturn, 1) := by decide +kernel
theorem dX11_worth_0 : decode cX11_worth 0 = .ok (.aload_n 0, 1) := by decide +kernel
theorem dX11_worth_1 : decode cX11_worth 1 = .ok (.getfield 12, 3) := by decide +kernel
theorem dX11_worth_4 : decode cX11_worth 4 = .ok (.getfield 82, 3) := by decide +kernel
theorem dX11_worth_7 : decode cX11_worth 7 = .ok (.iload_n 1, 1) := by decide +kernel
theorem dX11_worth_8 : decode cX11_worth 8 = .ok (.invokevirtual 145, 3) := by decide +kernel
theorem dX11_worth_11 : decode cX11_worth 11 = .ok (.ifCond .eq 29, 3) := by decide +kernel
theorem dX11_worth_14 : decode cX11_worth 14 = .ok (.iload_n 2, 1) := by decide +kernel
theorem dX11_worth_15 : decode cX11_worth 15 = .ok (.invokestatic 115, 3) := by decide +kernel
theorem dX11_worth_18 : decode cX11_worth 18 = .ok (.ifCond .eq 22, 3) := by decide +kernel
theorem dX11_worth_21 : decode cX11_worth 21 = .ok (.aload_n 0, 1) := by decide +kernel
theorem dX11_worth_22 : decode cX11_worth 22 = .ok (.getfield 12, 3) := by decide +kernel
theorem dX11_worth_25 : decode cX11_worth 25 = .ok (.iload_n 3, 1) := by decide +kernel
theorem dX11_worth_26 : decode cX11_worth 26 = .ok (.invokevirtual 68, 3) := by decide +kernel
theorem dX11_worth_29 : decode cX11_worth 29 = .ok (.ifCond .eq 11, 3) := by decide +kernel
theorem dX11_worth_32 : decode cX11_worth 32 = .ok (.iload 4, 2) := by decide +kernel
theorem dX11_worth_34 : decode cX11_worth 34 = .ok (.invokestatic 148, 3) := by decide +kernel
theorem dX11_worth_37 : decode cX11_worth 37 = .ok (.ifCond .ne 6, 3) := by decide +kernel
theorem dX11_worth_40 : decode cX11_worth 40 = .ok (.ldc 151, 2) := by decide +kernel
theorem dX11_worth_42 : decode cX11_worth 42 = .ok (.ireturn, 1) := by decide +kernel
theorem dX11_worth_43 : decode cX11_worth 43 = .ok (.aload_n 0, 1) := by decide +kernel
theorem dX11_worth_44 : decode cX11_worth 44 = .ok (.getfield 30, 3) := by decide +kernel
theorem dX11_worth_47 : decode cX11_worth 47 = .ok (.aload_n 0, 1) := by decide +kernel
theorem dX11_worth_48 : decode cX11_worth 48 = .ok (.getfield 12, 3) := by decide +kernel
theorem dX11_worth_51 : decode cX11_worth 51 = .ok (.iload_n 1, 1) := by decide +kernel
theorem dX11_worth_52 : decode cX11_worth 52 = .ok (.iload_n 2, 1) := by decide +kernel
theorem dX11_worth_53 : decode cX11_worth 53 = .ok (.iload_n 3, 1) := by decide +kernel
theorem dX11_worth_54 : decode cX11_worth 54 = .ok (.iload 4, 2) := by decide +kernel
theorem dX11_worth_56 : decode cX11_worth 56 = .ok (.invokevirtual 152, 3) := by decide +kernel
theorem dX11_worth_59 : decode cX11_worth 59 = .ok (.ireturn, 1) := by decide +kernel
theorem dX11_sell_0 : decode cX11_sell 0 = .ok (.aload_n 0, 1) := by decide +kernel
theorem dX11_sell_1 : decode cX11_sell 1 = .ok (.getfield 12, 3) := by decide +kernel
theorem dX11_sell_4 : decode cX11_sell 4 = .ok (.getfield 82, 3) := by decide +kernel
theorem dX11_sell_7 : decode cX11_sell 7 = .ok (.iload_n 1, 1) := by decide +kernel
theorem dX11_sell_8 : decode cX11_sell 8 = .ok (.invokevirtual 145, 3) := by decide +kernel
theorem dX11_sell_11 : decode cX11_sell 11 = .ok (.ifCond .eq 71, 3) := by decide +kernel
theorem dX11_sell_14 : decode cX11_sell 14 = .ok (.aload_n 0, 1) := by decide +kernel
theorem dX11_sell_15 : decode cX11_sell 15 = .ok (.getfield 12, 3) := by decide +kernel
theorem dX11_sell_18 : decode cX11_sell 18 = .ok (.getfield 82, 3) := by decide +kernel
theorem dX11_sell_21 : decode cX11_sell 21 = .ok (.iload_n 2, 1) := by decide +kernel
theorem dX11_sell_22 : decode cX11_sell 22 = .ok (.invokevirtual 145, 3) := by decide +kernel
theorem dX11_sell_25 : decode cX11_sell 25 = .ok (.ifCond .eq 57, 3) := by decide +kernel
theorem dX11_sell_28 : decode cX11_sell 28 = .ok (.iload_n 1, 1) := by decide +kernel
theorem dX11_sell_29 : decode cX11_sell 29 = .ok (.iload_n 2, 1) := by decide +kernel
theorem dX11_sell_30 : decode cX11_sell 30 = .ok (.if_icmp .eq 52, 3) := by decide +kernel
theorem dX11_sell_33 : decode cX11_sell 33 = .ok (.iload_n 3, 1) := by decide +kernel
theorem dX11_sell_34 : decode cX11_sell 34 = .ok (.aload_n 0, 1) := by decide +kernel
theorem dX11_sell_35 : decode cX11_sell 35 = .ok (.getfield 12, 3) := by decide +kernel
theorem dX11_sell_38 : decode cX11_sell 38 = .ok (.getfield 103, 3) := by decide +kernel
theorem dX11_sell_41 : decode cX11_sell 41 = .ok (.if_icmp .lt 41, 3) := by decide +kernel
theorem dX11_sell_44 : decode cX11_sell 44 = .ok (.iload_n 3, 1) := by decide +kernel
theorem dX11_sell_45 : decode cX11_sell 45 = .ok (.iload 4, 2) := by decide +kernel
theorem dX11_sell_47 : decode cX11_sell 47 = .ok (.invokestatic 156, 3) := by decide +kernel
theorem dX11_sell_50 : decode cX11_sell 50 = .ok (.ifCond .eq 32, 3) := by decide +kernel
theorem dX11_sell_53 : decode cX11_sell 53 = .ok (.iload 5, 2) := by decide +kernel
theorem dX11_sell_55 : decode cX11_sell 55 = .ok (.iconst 0, 1) := by decide +kernel
theorem dX11_sell_56 : decode cX11_sell 56 = .ok (.sipush 9999, 3) := by decide +kernel
theorem dX11_sell_59 : decode cX11_sell 59 = .ok (.invokestatic 60, 3) := by decide +kernel
theorem dX11_sell_62 : decode cX11_sell 62 = .ok (.ifCond .eq 20, 3) := by decide +kernel
theorem dX11_sell_65 : decode cX11_sell 65 = .ok (.aload_n 0, 1) := by decide +kernel
theorem dX11_sell_66 : decode cX11_sell 66 = .ok (.getfield 12, 3) := by decide +kernel
theorem dX11_sell_69 : decode cX11_sell 69 = .ok (.getfield 159, 3) := by decide +kernel
theorem dX11_sell_72 : decode cX11_sell 72 = .ok (.iload_n 1, 1) := by decide +kernel
theorem dX11_sell_73 : decode cX11_sell 73 = .ok (.iload_n 3, 1) := by decide +kernel
theorem dX11_sell_74 : decode cX11_sell 74 = .ok (.iload 4, 2) := by decide +kernel
theorem dX11_sell_76 : decode cX11_sell 76 = .ok (.invokevirtual 163, 3) := by decide +kernel
theorem dX11_sell_79 : decode cX11_sell 79 = .ok (.ifCond .ne 5, 3) := by decide +kernel
theorem dX11_sell_82 : decode cX11_sell 82 = .ok (.iconst 0, 1) := by decide +kernel
theorem dX11_sell_83 : decode cX11_sell 83 = .ok (.ireturn, 1) := by decide +kernel
theorem dX11_sell_84 : decode cX11_sell 84 = .ok (.aload_n 0, 1) := by decide +kernel
theorem dX11_sell_85 : decode cX11_sell 85 = .ok (.getfield 12, 3) := by decide +kernel
theorem dX11_sell_88 : decode cX11_sell 88 = .ok (.getfield 159, 3) := by decide +kernel
theorem dX11_sell_91 : decode cX11_sell 91 = .ok (.iload_n 1, 1) := by decide +kernel
theorem dX11_sell_92 : decode cX11_sell 92 = .ok (.iload_n 2, 1) := by decide +kernel
theorem dX11_sell_93 : decode cX11_sell 93 = .ok (.iload_n 3, 1) := by decide +kernel
theorem dX11_sell_94 : decode cX11_sell 94 = .ok (.iload 4, 2) := by decide +kernel
theorem dX11_sell_96 : decode cX11_sell 96 = .ok (.invokevirtual 168, 3) := by decide +kernel
theorem dX11_sell_99 : decode cX11_sell 99 = .ok (.aload_n 0, 1) := by decide +kernel
theorem dX11_sell_100 : decode cX11_sell 100 = .ok (.getfield 12, 3) := by decide +kernel
theorem dX11_sell_103 : decode cX11_sell 103 = .ok (.getfield 82, 3) := by decide +kernel
theorem dX11_sell_106 : decode cX11_sell 106 = .ok (.getfield 172, 3) := by decide +kernel
theorem dX11_sell_109 : decode cX11_sell 109 = .ok (.iload_n 2, 1) := by decide +kernel
theorem dX11_sell_110 : decode cX11_sell 110 = .ok (.dup2, 1) := by decide +kernel
theorem dX11_sell_111 : decode cX11_sell 111 = .ok (.iaload, 1) := by decide +kernel
theorem dX11_sell_112 : decode cX11_sell 112 = .ok (.iload 5, 2) := by decide +kernel
theorem dX11_sell_114 : decode cX11_sell 114 = .ok (.isub, 1) := by decide +kernel
theorem dX11_sell_115 : decode cX11_sell 115 = .ok (.iastore, 1) := by decide +kernel
theorem dX11_sell_116 : decode cX11_sell 116 = .ok (.aload_n 0, 1) := by decide +kernel
theorem dX11_sell_117 : decode cX11_sell 117 = .ok (.getfield 12, 3) := by decide +kernel
theorem dX11_sell_120 : decode cX11_sell 120 = .ok (.getfield 82, 3) := by decide +kernel
theorem dX11_sell_123 : decode cX11_sell 123 = .ok (.getfield 172, 3) := by decide +kernel
theorem dX11_sell_126 : decode cX11_sell 126 = .ok (.iload_n 1, 1) := by decide +kernel
theorem dX11_sell_127 : decode cX11_sell 127 = .ok (.dup2, 1) := by decide +kernel
theorem dX11_sell_128 : decode cX11_sell 128 = .ok (.iaload, 1) := by decide +kernel
theorem dX11_sell_129 : decode cX11_sell 129 = .ok (.iload 5, 2) := by decide +kernel
theorem dX11_sell_131 : decode cX11_sell 131 = .ok (.iadd, 1) := by decide +kernel
theorem dX11_sell_132 : decode cX11_sell 132 = .ok (.iastore, 1) := by decide +kernel
theorem dX11_sell_133 : decode cX11_sell 133 = .ok (.aload_n 0, 1) := by decide +kernel
theorem dX11_sell_134 : decode cX11_sell 134 = .ok (.getfield 53, 3) := by decide +kernel
theorem dX11_sell_137 : decode cX11_sell 137 = .ok (.invokevirtual 67, 3) := by decide +kernel
theorem dX11_sell_140 : decode cX11_sell 140 = .ok (.iconst 1, 1) := by decide +kernel
theorem dX11_sell_141 : decode cX11_sell 141 = .ok (.ireturn, 1) := by decide +kernel
theorem dX11_promise_0 : decode cX11_promise 0 = .ok (.aload_n 0, 1) := by decide +kernel
theorem dX11_promise_1 : decode cX11_promise 1 = .ok (.getfield 12, 3) := by decide +kernel
theorem dX11_promise_4 : decode cX11_promise 4 = .ok (.getfield 82, 3) := by decide +kernel
theorem dX11_promise_7 : decode cX11_promise 7 = .ok (.iload_n 1, 1) := by decide +kernel
theorem dX11_promise_8 : decode cX11_promise 8 = .ok (.invokevirtual 145, 3) := by decide +kernel
theorem dX11_promise_11 : decode cX11_promise 11 = .ok (.ifCond .eq 33, 3) := by decide +kernel
theorem dX11_promise_14 : decode cX11_promise 14 = .ok (.iload_n 2, 1) := by decide +kernel
theorem dX11_promise_15 : decode cX11_promise 15 = .ok (.invokestatic 148, 3) := by decide +kernel
theorem dX11_promise_18 : decode cX11_promise 18 = .ok (.ifCond .eq 26, 3) := by decide +kernel
theorem dX11_promise_21 : decode cX11_promise 21 = .ok (.iload_n 3, 1) := by decide +kernel
theorem dX11_promise_22 : decode cX11_promise 22 = .ok (.iload 4, 2) := by decide +kernel
theorem dX11_promise_24 : decode cX11_promise 24 = .ok (.invokestatic 156, 3) := by decide +kernel
theorem dX11_promise_27 : decode cX11_promise 27 = .ok (.ifCond .eq 17, 3) := by decide +kernel
theorem dX11_promise_30 : decode cX11_promise 30 = .ok (.aload_n 0, 1) := by decide +kernel
theorem dX11_promise_31 : decode cX11_promise 31 = .ok (.getfield 12, 3) := by decide +kernel
theorem dX11_promise_34 : decode cX11_promise 34 = .ok (.getfield 175, 3) := by decide +kernel
theorem dX11_promise_37 : decode cX11_promise 37 = .ok (.iload_n 1, 1) := by decide +kernel
theorem dX11_promise_38 : decode cX11_promise 38 = .ok (.invokevirtual 179, 3) := by decide +kernel
theorem dX11_promise_41 : decode cX11_promise 41 = .ok (.ifCond .ne 5, 3) := by decide +kernel
theorem dX11_promise_44 : decode cX11_promise 44 = .ok (.iconst (-1), 1) := by decide +kernel
theorem dX11_promise_45 : decode cX11_promise 45 = .ok (.ireturn, 1) := by decide +kernel
theorem dX11_promise_46 : decode cX11_promise 46 = .ok (.aload_n 0, 1) := by decide +kernel
theorem dX11_promise_47 : decode cX11_promise 47 = .ok (.getfield 53, 3) := by decide +kernel
theorem dX11_promise_50 : decode cX11_promise 50 = .ok (.invokevirtual 67, 3) := by decide +kernel
theorem dX11_promise_53 : decode cX11_promise 53 = .ok (.aload_n 0, 1) := by decide +kernel
theorem dX11_promise_54 : decode cX11_promise 54 = .ok (.getfield 12, 3) := by decide +kernel
theorem dX11_promise_57 : decode cX11_promise 57 = .ok (.getfield 175, 3) := by decide +kernel
theorem dX11_promise_60 : decode cX11_promise 60 = .ok (.iload_n 1, 1) := by decide +kernel
theorem dX11_promise_61 : decode cX11_promise 61 = .ok (.iload_n 2, 1) := by decide +kernel
theorem dX11_promise_62 : decode cX11_promise 62 = .ok (.iload_n 3, 1) := by decide +kernel
theorem dX11_promise_63 : decode cX11_promise 63 = .ok (.iload 4, 2) := by decide +kernel
theorem dX11_promise_65 : decode cX11_promise 65 = .ok (.invokevirtual 183, 3) := by decide +kernel
theorem dX11_promise_68 : decode cX11_promise 68 = .ok (.ireturn, 1) := by decide +kernel
theorem dX11_drop_0 : decode cX11_drop 0 = .ok (.aload_n 0, 1) := by decide +kernel
theorem dX11_drop_1 : decode cX11_drop 1 = .ok (.getfield 12, 3) := by decide +kernel
theorem dX11_drop_4 : decode cX11_drop 4 = .ok (.getfield 175, 3) := by decide +kernel
theorem dX11_drop_7 : decode cX11_drop 7 = .ok (.iload_n 1, 1) := by decide +kernel
theorem dX11_drop_8 : decode cX11_drop 8 = .ok (.invokevirtual 185, 3) := by decide +kernel
theorem dX11_drop_11 : decode cX11_drop 11 = .ok (.ifCond .ne 5, 3) := by decide +kernel
theorem dX11_drop_14 : decode cX11_drop 14 = .ok (.iconst 0, 1) := by decide +kernel
theorem dX11_drop_15 : decode cX11_drop 15 = .ok (.ireturn, 1) := by decide +kernel
theorem dX11_drop_16 : decode cX11_drop 16 = .ok (.aload_n 0, 1) := by decide +kernel
theorem dX11_drop_17 : decode cX11_drop 17 = .ok (.getfield 12, 3) := by decide +kernel
theorem dX11_drop_20 : decode cX11_drop 20 = .ok (.getfield 175, 3) := by decide +kernel
theorem dX11_drop_23 : decode cX11_drop 23 = .ok (.iload_n 1, 1) := by decide +kernel
theorem dX11_drop_24 : decode cX11_drop 24 = .ok (.invokevirtual 188, 3) := by decide +kernel
theorem dX11_drop_27 : decode cX11_drop 27 = .ok (.aload_n 0, 1) := by decide +kernel
theorem dX11_drop_28 : decode cX11_drop 28 = .ok (.getfield 53, 3) := by decide +kernel
theorem dX11_drop_31 : decode cX11_drop 31 = .ok (.invokevirtual 67, 3) := by decide +kernel
theorem dX11_drop_34 : decode cX11_drop 34 = .ok (.iconst 1, 1) := by decide +kernel
theorem dX11_drop_35 : decode cX11_drop 35 = .ok (.ireturn, 1) := by decide +kernel
theorem dX11_votes_0 : decode cX11_votes 0 = .ok (.aload_n 0, 1) := by decide +kernel
theorem dX11_votes_1 : decode cX11_votes 1 = .ok (.getfield 12, 3) := by decide +kernel
theorem dX11_votes_4 : decode cX11_votes 4 = .ok (.getfield 82, 3) := by decide +kernel
theorem dX11_votes_7 : decode cX11_votes 7 = .ok (.iload_n 1, 1) := by decide +kernel
theorem dX11_votes_8 : decode cX11_votes 8 = .ok (.invokevirtual 145, 3) := by decide +kernel
theorem dX11_votes_11 : decode cX11_votes 11 = .ok (.ifCond .ne 5, 3) := by decide +kernel
theorem dX11_votes_14 : decode cX11_votes 14 = .ok (.iconst (-1), 1) := by decide +kernel
theorem dX11_votes_15 : decode cX11_votes 15 = .ok (.ireturn, 1) := by decide +kernel
theorem dX11_votes_16 : decode cX11_votes 16 = .ok (.aload_n 0, 1) := by decide +kernel
theorem dX11_votes_17 : decode cX11_votes 17 = .ok (.aload_n 0, 1) := by decide +kernel
theorem dX11_votes_18 : decode cX11_votes 18 = .ok (.getfield 12, 3) := by decide +kernel
theorem dX11_votes_21 : decode cX11_votes 21 = .ok (.iload_n 1, 1) := by decide +kernel
theorem dX11_votes_22 : decode cX11_votes 22 = .ok (.aload_n 0, 1) := by decide +kernel
theorem dX11_votes_23 : decode cX11_votes 23 = .ok (.getfield 12, 3) := by decide +kernel
theorem dX11_votes_26 : decode cX11_votes 26 = .ok (.getfield 103, 3) := by decide +kernel
theorem dX11_votes_29 : decode cX11_votes 29 = .ok (.invokevirtual 191, 3) := by decide +kernel
theorem dX11_votes_32 : decode cX11_votes 32 = .ok (.invokevirtual 195, 3) := by decide +kernel
theorem dX11_votes_35 : decode cX11_votes 35 = .ok (.iconst 2, 1) := by decide +kernel
theorem dX11_votes_36 : decode cX11_votes 36 = .ok (.iadd, 1) := by decide +kernel
theorem dX11_votes_37 : decode cX11_votes 37 = .ok (.ireturn, 1) := by decide +kernel
theorem dX11_holder_0 : decode cX11_holder 0 = .ok (.aload_n 0, 1) := by decide +kernel
theorem dX11_holder_1 : decode cX11_holder 1 = .ok (.getfield 12, 3) := by decide +kernel
theorem dX11_holder_4 : decode cX11_holder 4 = .ok (.getfield 82, 3) := by decide +kernel
theorem dX11_holder_7 : decode cX11_holder 7 = .ok (.iload_n 1, 1) := by decide +kernel
theorem dX11_holder_8 : decode cX11_holder 8 = .ok (.invokevirtual 145, 3) := by decide +kernel
theorem dX11_holder_11 : decode cX11_holder 11 = .ok (.ifCond .eq 10, 3) := by decide +kernel
theorem dX11_holder_14 : decode cX11_holder 14 = .ok (.iload_n 2, 1) := by decide +kernel
theorem dX11_holder_15 : decode cX11_holder 15 = .ok (.invokestatic 115, 3) := by decide +kernel
theorem dX11_holder_18 : decode cX11_holder 18 = .ok (.ifCond .ne 5, 3) := by decide +kernel
theorem dX11_holder_21 : decode cX11_holder 21 = .ok (.iconst (-1), 1) := by decide +kernel
theorem dX11_holder_22 : decode cX11_holder 22 = .ok (.ireturn, 1) := by decide +kernel
theorem dX11_holder_23 : decode cX11_holder 23 = .ok (.aload_n 0, 1) := by decide +kernel
theorem dX11_holder_24 : decode cX11_holder 24 = .ok (.getfield 12, 3) := by decide +kernel
theorem dX11_holder_27 : decode cX11_holder 27 = .ok (.iload_n 1, 1) := by decide +kernel
theorem dX11_holder_28 : decode cX11_holder 28 = .ok (.iload_n 2, 1) := by decide +kernel
theorem dX11_holder_29 : decode cX11_holder 29 = .ok (.invokevirtual 191, 3) := by decide +kernel
theorem dX11_holder_32 : decode cX11_holder 32 = .ok (.ireturn, 1) := by decide +kernel
theorem dX11_noons_0 : decode cX11_noons 0 = .ok (.iload_n 1, 1) := by decide +kernel
theorem dX11_noons_1 : decode cX11_noons 1 = .ok (.iconst 1, 1) := by decide +kernel
theorem dX11_noons_2 : decode cX11_noons 2 = .ok (.sipush 400, 3) := by decide +kernel
theorem dX11_noons_5 : decode cX11_noons 5 = .ok (.invokestatic 60, 3) := by decide +kernel
theorem dX11_noons_8 : decode cX11_noons 8 = .ok (.ifCond .eq 18, 3) := by decide +kernel
theorem dX11_noons_11 : decode cX11_noons 11 = .ok (.aload_n 0, 1) := by decide +kernel
theorem dX11_noons_12 : decode cX11_noons 12 = .ok (.getfield 12, 3) := by decide +kernel
theorem dX11_noons_15 : decode cX11_noons 15 = .ok (.getfield 103, 3) := by decide +kernel
theorem dX11_noons_18 : decode cX11_noons 18 = .ok (.iload_n 1, 1) := by decide +kernel
theorem dX11_noons_19 : decode cX11_noons 19 = .ok (.iadd, 1) := by decide +kernel
theorem dX11_noons_20 : decode cX11_noons 20 = .ok (.sipush 9999, 3) := by decide +kernel
theorem dX11_noons_23 : decode cX11_noons 23 = .ok (.if_icmp .le 5, 3) := by decide +kernel
theorem dX11_noons_26 : decode cX11_noons 26 = .ok (.iconst (-1), 1) := by decide +kernel
theorem dX11_noons_27 : decode cX11_noons 27 = .ok (.ireturn, 1) := by decide +kernel
theorem dX11_noons_28 : decode cX11_noons 28 = .ok (.iconst 0, 1) := by decide +kernel
theorem dX11_noons_29 : decode cX11_noons 29 = .ok (.istore_n 2, 1) := by decide +kernel
theorem dX11_noons_30 : decode cX11_noons 30 = .ok (.iconst 0, 1) := by decide +kernel
theorem dX11_noons_31 : decode cX11_noons 31 = .ok (.istore_n 3, 1) := by decide +kernel
theorem dX11_noons_32 : decode cX11_noons 32 = .ok (.iload_n 3, 1) := by decide +kernel
theorem dX11_noons_33 : decode cX11_noons 33 = .ok (.iload_n 1, 1) := by decide +kernel
theorem dX11_noons_34 : decode cX11_noons 34 = .ok (.if_icmp .ge 30, 3) := by decide +kernel
theorem dX11_noons_37 : decode cX11_noons 37 = .ok (.aload_n 0, 1) := by decide +kernel
