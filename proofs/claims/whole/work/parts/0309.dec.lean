theorem dX12_both_64 : decode cX12_both 64 = .ok (.iload_n 1, 1) := by decide +kernel
theorem dX12_both_65 : decode cX12_both 65 = .ok (.iload_n 2, 1) := by decide +kernel
theorem dX12_both_66 : decode cX12_both 66 = .ok (.if_icmp .ge 7, 3) := by decide +kernel
theorem dX12_both_69 : decode cX12_both 69 = .ok (.iconst 1, 1) := by decide +kernel
theorem dX12_both_70 : decode cX12_both 70 = .ok (.goto 4, 3) := by decide +kernel
theorem dX12_both_73 : decode cX12_both 73 = .ok (.iconst 0, 1) := by decide +kernel
theorem dX12_both_74 : decode cX12_both 74 = .ok (.ireturn, 1) := by decide +kernel
theorem dX12_both_75 : decode cX12_both 75 = .ok (.iload_n 1, 1) := by decide +kernel
theorem dX12_both_76 : decode cX12_both 76 = .ok (.iload_n 2, 1) := by decide +kernel
theorem dX12_both_77 : decode cX12_both 77 = .ok (.if_icmp .ne 7, 3) := by decide +kernel
theorem dX12_both_80 : decode cX12_both 80 = .ok (.iconst 1, 1) := by decide +kernel
theorem dX12_both_81 : decode cX12_both 81 = .ok (.goto 4, 3) := by decide +kernel
theorem dX12_both_84 : decode cX12_both 84 = .ok (.iconst 0, 1) := by decide +kernel
theorem dX12_both_85 : decode cX12_both 85 = .ok (.ireturn, 1) := by decide +kernel
theorem dX12_both_86 : decode cX12_both 86 = .ok (.iload_n 1, 1) := by decide +kernel
theorem dX12_both_87 : decode cX12_both 87 = .ok (.iload_n 2, 1) := by decide +kernel
theorem dX12_both_88 : decode cX12_both 88 = .ok (.if_icmp .le 7, 3) := by decide +kernel
theorem dX12_both_91 : decode cX12_both 91 = .ok (.iconst 1, 1) := by decide +kernel
theorem dX12_both_92 : decode cX12_both 92 = .ok (.goto 4, 3) := by decide +kernel
theorem dX12_both_95 : decode cX12_both 95 = .ok (.iconst 0, 1) := by decide +kernel
theorem dX12_both_96 : decode cX12_both 96 = .ok (.ireturn, 1) := by decide +kernel
theorem dX12_both_97 : decode cX12_both 97 = .ok (.iload_n 1, 1) := by decide +kernel
theorem dX12_both_98 : decode cX12_both 98 = .ok (.iload_n 2, 1) := by decide +kernel
theorem dX12_both_99 : decode cX12_both 99 = .ok (.iand, 1) := by decide +kernel
theorem dX12_both_100 : decode cX12_both 100 = .ok (.ireturn, 1) := by decide +kernel
theorem dX12_both_101 : decode cX12_both 101 = .ok (.iload_n 1, 1) := by decide +kernel
theorem dX12_both_102 : decode cX12_both 102 = .ok (.iload_n 2, 1) := by decide +kernel
theorem dX12_both_103 : decode cX12_both 103 = .ok (.ior, 1) := by decide +kernel
theorem dX12_both_104 : decode cX12_both 104 = .ok (.ireturn, 1) := by decide +kernel
theorem dX12_comesTo_0 : decode cX12_comesTo 0 = .ok (.iconst 0, 1) := by decide +kernel
theorem dX12_comesTo_1 : decode cX12_comesTo 1 = .ok (.istore 4, 2) := by decide +kernel
theorem dX12_comesTo_3 : decode cX12_comesTo 3 = .ok (.iload_n 2, 1) := by decide +kernel
theorem dX12_comesTo_4 : decode cX12_comesTo 4 = .ok (.istore 5, 2) := by decide +kernel
theorem dX12_comesTo_6 : decode cX12_comesTo 6 = .ok (.iload 5, 2) := by decide +kernel
theorem dX12_comesTo_8 : decode cX12_comesTo 8 = .ok (.iload_n 3, 1) := by decide +kernel
theorem dX12_comesTo_9 : decode cX12_comesTo 9 = .ok (.if_icmp .ge 177, 3) := by decide +kernel
theorem dX12_comesTo_12 : decode cX12_comesTo 12 = .ok (.aload_n 0, 1) := by decide +kernel
theorem dX12_comesTo_13 : decode cX12_comesTo 13 = .ok (.getfield 7, 3) := by decide +kernel
theorem dX12_comesTo_16 : decode cX12_comesTo 16 = .ok (.sipush 2540, 3) := by decide +kernel
theorem dX12_comesTo_19 : decode cX12_comesTo 19 = .ok (.sipush 820, 3) := by decide +kernel
theorem dX12_comesTo_22 : decode cX12_comesTo 22 = .ok (.iload_n 1, 1) := by decide +kernel
theorem dX12_comesTo_23 : decode cX12_comesTo 23 = .ok (.imul, 1) := by decide +kernel
theorem dX12_comesTo_24 : decode cX12_comesTo 24 = .ok (.iadd, 1) := by decide +kernel
theorem dX12_comesTo_25 : decode cX12_comesTo 25 = .ok (.iconst 2, 1) := by decide +kernel
theorem dX12_comesTo_26 : decode cX12_comesTo 26 = .ok (.iload 5, 2) := by decide +kernel
theorem dX12_comesTo_28 : decode cX12_comesTo 28 = .ok (.imul, 1) := by decide +kernel
theorem dX12_comesTo_29 : decode cX12_comesTo 29 = .ok (.iadd, 1) := by decide +kernel
theorem dX12_comesTo_30 : decode cX12_comesTo 30 = .ok (.iaload, 1) := by decide +kernel
theorem dX12_comesTo_31 : decode cX12_comesTo 31 = .ok (.istore 6, 2) := by decide +kernel
theorem dX12_comesTo_33 : decode cX12_comesTo 33 = .ok (.aload_n 0, 1) := by decide +kernel
theorem dX12_comesTo_34 : decode cX12_comesTo 34 = .ok (.getfield 7, 3) := by decide +kernel
theorem dX12_comesTo_37 : decode cX12_comesTo 37 = .ok (.sipush 2540, 3) := by decide +kernel
theorem dX12_comesTo_40 : decode cX12_comesTo 40 = .ok (.sipush 820, 3) := by decide +kernel
theorem dX12_comesTo_43 : decode cX12_comesTo 43 = .ok (.iload_n 1, 1) := by decide +kernel
theorem dX12_comesTo_44 : decode cX12_comesTo 44 = .ok (.imul, 1) := by decide +kernel
theorem dX12_comesTo_45 : decode cX12_comesTo 45 = .ok (.iadd, 1) := by decide +kernel
theorem dX12_comesTo_46 : decode cX12_comesTo 46 = .ok (.iconst 2, 1) := by decide +kernel
theorem dX12_comesTo_47 : decode cX12_comesTo 47 = .ok (.iload 5, 2) := by decide +kernel
theorem dX12_comesTo_49 : decode cX12_comesTo 49 = .ok (.imul, 1) := by decide +kernel
theorem dX12_comesTo_50 : decode cX12_comesTo 50 = .ok (.iadd, 1) := by decide +kernel
theorem dX12_comesTo_51 : decode cX12_comesTo 51 = .ok (.iconst 1, 1) := by decide +kernel
theorem dX12_comesTo_52 : decode cX12_comesTo 52 = .ok (.iadd, 1) := by decide +kernel
theorem dX12_comesTo_53 : decode cX12_comesTo 53 = .ok (.iaload, 1) := by decide +kernel
theorem dX12_comesTo_54 : decode cX12_comesTo 54 = .ok (.istore 7, 2) := by decide +kernel
theorem dX12_comesTo_56 : decode cX12_comesTo 56 = .ok (.iload 6, 2) := by decide +kernel
theorem dX12_comesTo_58 : decode cX12_comesTo 58 = .ok (.bipush 13, 2) := by decide +kernel
theorem dX12_comesTo_60 : decode cX12_comesTo 60 = .ok (.if_icmp .ge 33, 3) := by decide +kernel
theorem dX12_comesTo_63 : decode cX12_comesTo 63 = .ok (.aload_n 0, 1) := by decide +kernel
theorem dX12_comesTo_64 : decode cX12_comesTo 64 = .ok (.getfield 28, 3) := by decide +kernel
theorem dX12_comesTo_67 : decode cX12_comesTo 67 = .ok (.iload 4, 2) := by decide +kernel
theorem dX12_comesTo_69 : decode cX12_comesTo 69 = .ok (.iload 6, 2) := by decide +kernel
theorem dX12_comesTo_71 : decode cX12_comesTo 71 = .ok (.ifCond .ne 8, 3) := by decide +kernel
theorem dX12_comesTo_74 : decode cX12_comesTo 74 = .ok (.iload 7, 2) := by decide +kernel
theorem dX12_comesTo_76 : decode cX12_comesTo 76 = .ok (.goto 10, 3) := by decide +kernel
theorem dX12_comesTo_79 : decode cX12_comesTo 79 = .ok (.aload_n 0, 1) := by decide +kernel
theorem dX12_comesTo_80 : decode cX12_comesTo 80 = .ok (.getfield 31, 3) := by decide +kernel
theorem dX12_comesTo_83 : decode cX12_comesTo 83 = .ok (.iload 6, 2) := by decide +kernel
theorem dX12_comesTo_85 : decode cX12_comesTo 85 = .ok (.iaload, 1) := by decide +kernel
theorem dX12_comesTo_86 : decode cX12_comesTo 86 = .ok (.iastore, 1) := by decide +kernel
theorem dX12_comesTo_87 : decode cX12_comesTo 87 = .ok (.iinc 4 1, 3) := by decide +kernel
theorem dX12_comesTo_90 : decode cX12_comesTo 90 = .ok (.goto 90, 3) := by decide +kernel
theorem dX12_comesTo_93 : decode cX12_comesTo 93 = .ok (.iload 6, 2) := by decide +kernel
theorem dX12_comesTo_95 : decode cX12_comesTo 95 = .ok (.bipush 16, 2) := by decide +kernel
theorem dX12_comesTo_97 : decode cX12_comesTo 97 = .ok (.if_icmp .ne 20, 3) := by decide +kernel
theorem dX12_comesTo_100 : decode cX12_comesTo 100 = .ok (.aload_n 0, 1) := by decide +kernel
theorem dX12_comesTo_101 : decode cX12_comesTo 101 = .ok (.getfield 28, 3) := by decide +kernel
theorem dX12_comesTo_104 : decode cX12_comesTo 104 = .ok (.iload 4, 2) := by decide +kernel
theorem dX12_comesTo_106 : decode cX12_comesTo 106 = .ok (.iconst 1, 1) := by decide +kernel
theorem dX12_comesTo_107 : decode cX12_comesTo 107 = .ok (.isub, 1) := by decide +kernel
theorem dX12_comesTo_108 : decode cX12_comesTo 108 = .ok (.dup2, 1) := by decide +kernel
theorem dX12_comesTo_109 : decode cX12_comesTo 109 = .ok (.iaload, 1) := by decide +kernel
theorem dX12_comesTo_110 : decode cX12_comesTo 110 = .ok (.iload 7, 2) := by decide +kernel
theorem dX12_comesTo_112 : decode cX12_comesTo 112 = .ok (.idiv, 1) := by decide +kernel
theorem dX12_comesTo_113 : decode cX12_comesTo 113 = .ok (.iastore, 1) := by decide +kernel
theorem dX12_comesTo_114 : decode cX12_comesTo 114 = .ok (.goto 66, 3) := by decide +kernel
theorem dX12_comesTo_117 : decode cX12_comesTo 117 = .ok (.iload 6, 2) := by decide +kernel
theorem dX12_comesTo_119 : decode cX12_comesTo 119 = .ok (.bipush 20, 2) := by decide +kernel
theorem dX12_comesTo_121 : decode cX12_comesTo 121 = .ok (.if_icmp .ne 26, 3) := by decide +kernel
theorem dX12_comesTo_124 : decode cX12_comesTo 124 = .ok (.aload_n 0, 1) := by decide +kernel
theorem dX12_comesTo_125 : decode cX12_comesTo 125 = .ok (.getfield 28, 3) := by decide +kernel
theorem dX12_comesTo_128 : decode cX12_comesTo 128 = .ok (.iload 4, 2) := by decide +kernel
theorem dX12_comesTo_130 : decode cX12_comesTo 130 = .ok (.iconst 1, 1) := by decide +kernel
theorem dX12_comesTo_131 : decode cX12_comesTo 131 = .ok (.isub, 1) := by decide +kernel
theorem dX12_comesTo_132 : decode cX12_comesTo 132 = .ok (.iconst 1, 1) := by decide +kernel
theorem dX12_comesTo_133 : decode cX12_comesTo 133 = .ok (.aload_n 0, 1) := by decide +kernel
theorem dX12_comesTo_134 : decode cX12_comesTo 134 = .ok (.getfield 28, 3) := by decide +kernel
theorem dX12_comesTo_137 : decode cX12_comesTo 137 = .ok (.iload 4, 2) := by decide +kernel
theorem dX12_comesTo_139 : decode cX12_comesTo 139 = .ok (.iconst 1, 1) := by decide +kernel
theorem dX12_comesTo_140 : decode cX12_comesTo 140 = .ok (.isub, 1) := by decide +kernel
theorem dX12_comesTo_141 : decode cX12_comesTo 141 = .ok (.iaload, 1) := by decide +kernel
theorem dX12_comesTo_142 : decode cX12_comesTo 142 = .ok (.isub, 1) := by decide +kernel
theorem dX12_comesTo_143 : decode cX12_comesTo 143 = .ok (.iastore, 1) := by decide +kernel
theorem dX12_comesTo_144 : decode cX12_comesTo 144 = .ok (.goto 36, 3) := by decide +kernel
theorem dX12_comesTo_147 : decode cX12_comesTo 147 = .ok (.iinc 4 (-1), 3) := by decide +kernel
theorem dX12_comesTo_150 : decode cX12_comesTo 150 = .ok (.aload_n 0, 1) := by decide +kernel
theorem dX12_comesTo_151 : decode cX12_comesTo 151 = .ok (.getfield 28, 3) := by decide +kernel
theorem dX12_comesTo_154 : decode cX12_comesTo 154 = .ok (.iload 4, 2) := by decide +kernel
theorem dX12_comesTo_156 : decode cX12_comesTo 156 = .ok (.iconst 1, 1) := by decide +kernel
theorem dX12_comesTo_157 : decode cX12_comesTo 157 = .ok (.isub, 1) := by decide +kernel
theorem dX12_comesTo_158 : decode cX12_comesTo 158 = .ok (.iload 6, 2) := by decide +kernel
theorem dX12_comesTo_160 : decode cX12_comesTo 160 = .ok (.aload_n 0, 1) := by decide +kernel
theorem dX12_comesTo_161 : decode cX12_comesTo 161 = .ok (.getfield 28, 3) := by decide +kernel
theorem dX12_comesTo_164 : decode cX12_comesTo 164 = .ok (.iload 4, 2) := by decide +kernel
theorem dX12_comesTo_166 : decode cX12_comesTo 166 = .ok (.iconst 1, 1) := by decide +kernel
theorem dX12_comesTo_167 : decode cX12_comesTo 167 = .ok (.isub, 1) := by decide +kernel
theorem dX12_comesTo_168 : decode cX12_comesTo 168 = .ok (.iaload, 1) := by decide +kernel
theorem dX12_comesTo_169 : decode cX12_comesTo 169 = .ok (.aload_n 0, 1) := by decide +kernel
theorem dX12_comesTo_170 : decode cX12_comesTo 170 = .ok (.getfield 28, 3) := by decide +kernel
theorem dX12_comesTo_173 : decode cX12_comesTo 173 = .ok (.iload 4, 2) := by decide +kernel
theorem dX12_comesTo_175 : decode cX12_comesTo 175 = .ok (.iaload, 1) := by decide +kernel
theorem dX12_comesTo_176 : decode cX12_comesTo 176 = .ok (.invokestatic 208, 3) := by decide +kernel
theorem dX12_comesTo_179 : decode cX12_comesTo 179 = .ok (.iastore, 1) := by decide +kernel
theorem dX12_comesTo_180 : decode cX12_comesTo 180 = .ok (.iinc 5 1, 3) := by decide +kernel
theorem dX12_comesTo_183 : decode cX12_comesTo 183 = .ok (.goto (-177), 3) := by decide +kernel
theorem dX12_comesTo_186 : decode cX12_comesTo 186 = .ok (.aload_n 0, 1) := by decide +kernel
theorem dX12_comesTo_187 : decode cX12_comesTo 187 = .ok (.getfield 28, 3) := by decide +kernel
theorem dX12_comesTo_190 : decode cX12_comesTo 190 = .ok (.iconst 0, 1) := by decide +kernel
theorem dX12_comesTo_191 : decode cX12_comesTo 191 = .ok (.iaload, 1) := by decide +kernel
theorem dX12_comesTo_192 : decode cX12_comesTo 192 = .ok (.ireturn, 1) := by decide +kernel
theorem dX12_modulo_0 : decode cX12_modulo 0 = .ok (.iload_n 1, 1) := by decide +kernel
theorem dX12_modulo_1 : decode cX12_modulo 1 = .ok (.aload_n 0, 1) := by decide +kernel
theorem dX12_modulo_2 : decode cX12_modulo 2 = .ok (.getfield 7, 3) := by decide +kernel
theorem dX12_modulo_5 : decode cX12_modulo 5 = .ok (.iconst 0, 1) := by decide +kernel
theorem dX12_modulo_6 : decode cX12_modulo 6 = .ok (.iaload, 1) := by decide +kernel
theorem dX12_modulo_7 : decode cX12_modulo 7 = .ok (.irem, 1) := by decide +kernel
theorem dX12_modulo_8 : decode cX12_modulo 8 = .ok (.aload_n 0, 1) := by decide +kernel
theorem dX12_modulo_9 : decode cX12_modulo 9 = .ok (.getfield 7, 3) := by decide +kernel
theorem dX12_modulo_12 : decode cX12_modulo 12 = .ok (.iconst 0, 1) := by decide +kernel
theorem dX12_modulo_13 : decode cX12_modulo 13 = .ok (.iaload, 1) := by decide +kernel
theorem dX12_modulo_14 : decode cX12_modulo 14 = .ok (.iadd, 1) := by decide +kernel
theorem dX12_modulo_15 : decode cX12_modulo 15 = .ok (.aload_n 0, 1) := by decide +kernel
theorem dX12_modulo_16 : decode cX12_modulo 16 = .ok (.getfield 7, 3) := by decide +kernel
theorem dX12_modulo_19 : decode cX12_modulo 19 = .ok (.iconst 0, 1) := by decide +kernel
theorem dX12_modulo_20 : decode cX12_modulo 20 = .ok (.iaload, 1) := by decide +kernel
theorem dX12_modulo_21 : decode cX12_modulo 21 = .ok (.irem, 1) := by decide +kernel
theorem dX12_modulo_22 : decode cX12_modulo 22 = .ok (.ireturn, 1) := by decide +kernel
theorem dX12_worthOf_0 : decode cX12_worthOf 0 = .ok (.aload_n 0, 1) := by decide +kernel
theorem dX12_worthOf_1 : decode cX12_worthOf 1 = .ok (.iload_n 1, 1) := by decide +kernel
theorem dX12_worthOf_2 : decode cX12_worthOf 2 = .ok (.iconst 2, 1) := by decide +kernel
theorem dX12_worthOf_3 : decode cX12_worthOf 3 = .ok (.invokevirtual 212, 3) := by decide +kernel
theorem dX12_worthOf_6 : decode cX12_worthOf 6 = .ok (.istore 5, 2) := by decide +kernel
theorem dX12_worthOf_8 : decode cX12_worthOf 8 = .ok (.iload 5, 2) := by decide +kernel
theorem dX12_worthOf_10 : decode cX12_worthOf 10 = .ok (.iconst 4, 1) := by decide +kernel
theorem dX12_worthOf_11 : decode cX12_worthOf 11 = .ok (.if_icmp .ne 5, 3) := by decide +kernel
theorem dX12_worthOf_14 : decode cX12_worthOf 14 = .ok (.iconst 0, 1) := by decide +kernel
theorem dX12_worthOf_15 : decode cX12_worthOf 15 = .ok (.ireturn, 1) := by decide +kernel
theorem dX12_worthOf_16 : decode cX12_worthOf 16 = .ok (.iload_n 2, 1) := by decide +kernel
theorem dX12_worthOf_17 : decode cX12_worthOf 17 = .ok (.bipush 30, 2) := by decide +kernel
theorem dX12_worthOf_19 : decode cX12_worthOf 19 = .ok (.idiv, 1) := by decide +kernel
theorem dX12_worthOf_20 : decode cX12_worthOf 20 = .ok (.bipush 12, 2) := by decide +kernel
theorem dX12_worthOf_22 : decode cX12_worthOf 22 = .ok (.irem, 1) := by decide +kernel
theorem dX12_worthOf_23 : decode cX12_worthOf 23 = .ok (.istore 6, 2) := by decide +kernel
theorem dX12_worthOf_25 : decode cX12_worthOf 25 = .ok (.aload_n 0, 1) := by decide +kernel
theorem dX12_worthOf_26 : decode cX12_worthOf 26 = .ok (.aload_n 0, 1) := by decide +kernel
theorem dX12_worthOf_27 : decode cX12_worthOf 27 = .ok (.iload_n 1, 1) := by decide +kernel
theorem dX12_worthOf_28 : decode cX12_worthOf 28 = .ok (.iconst 0, 1) := by decide +kernel
theorem dX12_worthOf_29 : decode cX12_worthOf 29 = .ok (.invokevirtual 212, 3) := by decide +kernel
theorem dX12_worthOf_32 : decode cX12_worthOf 32 = .ok (.iload_n 3, 1) := by decide +kernel
theorem dX12_worthOf_33 : decode cX12_worthOf 33 = .ok (.iadd, 1) := by decide +kernel
theorem dX12_worthOf_34 : decode cX12_worthOf 34 = .ok (.invokevirtual 216, 3) := by decide +kernel
theorem dX12_worthOf_37 : decode cX12_worthOf 37 = .ok (.istore 7, 2) := by decide +kernel
theorem dX12_worthOf_39 : decode cX12_worthOf 39 = .ok (.aload_n 0, 1) := by decide +kernel
theorem dX12_worthOf_40 : decode cX12_worthOf 40 = .ok (.getfield 31, 3) := by decide +kernel
theorem dX12_worthOf_43 : decode cX12_worthOf 43 = .ok (.iconst 1, 1) := by decide +kernel
theorem dX12_worthOf_44 : decode cX12_worthOf 44 = .ok (.iload 7, 2) := by decide +kernel
theorem dX12_worthOf_46 : decode cX12_worthOf 46 = .ok (.iastore, 1) := by decide +kernel
theorem dX12_worthOf_47 : decode cX12_worthOf 47 = .ok (.iconst 0, 1) := by decide +kernel
theorem dX12_worthOf_48 : decode cX12_worthOf 48 = .ok (.istore 8, 2) := by decide +kernel
theorem dX12_worthOf_50 : decode cX12_worthOf 50 = .ok (.iload 8, 2) := by decide +kernel
theorem dX12_worthOf_52 : decode cX12_worthOf 52 = .ok (.iconst 3, 1) := by decide +kernel
theorem dX12_worthOf_53 : decode cX12_worthOf 53 = .ok (.if_icmp .ge 41, 3) := by decide +kernel
theorem dX12_worthOf_56 : decode cX12_worthOf 56 = .ok (.aload_n 0, 1) := by decide +kernel
theorem dX12_worthOf_57 : decode cX12_worthOf 57 = .ok (.getfield 31, 3) := by decide +kernel
theorem dX12_worthOf_60 : decode cX12_worthOf 60 = .ok (.iconst 2, 1) := by decide +kernel
theorem dX12_worthOf_61 : decode cX12_worthOf 61 = .ok (.iload 8, 2) := by decide +kernel
theorem dX12_worthOf_63 : decode cX12_worthOf 63 = .ok (.iadd, 1) := by decide +kernel
theorem dX12_worthOf_64 : decode cX12_worthOf 64 = .ok (.aload_n 0, 1) := by decide +kernel
theorem dX12_worthOf_65 : decode cX12_worthOf 65 = .ok (.getfield 7, 3) := by decide +kernel
theorem dX12_worthOf_68 : decode cX12_worthOf 68 = .ok (.sipush 620, 3) := by decide +kernel
theorem dX12_worthOf_71 : decode cX12_worthOf 71 = .ok (.bipush 24, 2) := by decide +kernel
theorem dX12_worthOf_73 : decode cX12_worthOf 73 = .ok (.bipush 12, 2) := by decide +kernel
theorem dX12_worthOf_75 : decode cX12_worthOf 75 = .ok (.iload 8, 2) := by decide +kernel
theorem dX12_worthOf_77 : decode cX12_worthOf 77 = .ok (.imul, 1) := by decide +kernel
theorem dX12_worthOf_78 : decode cX12_worthOf 78 = .ok (.iload 6, 2) := by decide +kernel
theorem dX12_worthOf_80 : decode cX12_worthOf 80 = .ok (.iadd, 1) := by decide +kernel
theorem dX12_worthOf_81 : decode cX12_worthOf 81 = .ok (.imul, 1) := by decide +kernel
theorem dX12_worthOf_82 : decode cX12_worthOf 82 = .ok (.iadd, 1) := by decide +kernel
theorem dX12_worthOf_83 : decode cX12_worthOf 83 = .ok (.iload 7, 2) := by decide +kernel
theorem dX12_worthOf_85 : decode cX12_worthOf 85 = .ok (.iadd, 1) := by decide +kernel
theorem dX12_worthOf_86 : decode cX12_worthOf 86 = .ok (.iaload, 1) := by decide +kernel
theorem dX12_worthOf_87 : decode cX12_worthOf 87 = .ok (.iastore, 1) := by decide +kernel
theorem dX12_worthOf_88 : decode cX12_worthOf 88 = .ok (.iinc 8 1, 3) := by decide +kernel
theorem dX12_worthOf_91 : decode cX12_worthOf 91 = .ok (.goto (-41), 3) := by decide +kernel
theorem dX12_worthOf_94 : decode cX12_worthOf 94 = .ok (.aload_n 0, 1) := by decide +kernel
theorem dX12_worthOf_95 : decode cX12_worthOf 95 = .ok (.getfield 31, 3) := by decide +kernel
theorem dX12_worthOf_98 : decode cX12_worthOf 98 = .ok (.iconst 5, 1) := by decide +kernel
theorem dX12_worthOf_99 : decode cX12_worthOf 99 = .ok (.iload 6, 2) := by decide +kernel
theorem dX12_worthOf_101 : decode cX12_worthOf 101 = .ok (.iastore, 1) := by decide +kernel
theorem dX12_worthOf_102 : decode cX12_worthOf 102 = .ok (.aload_n 0, 1) := by decide +kernel
theorem dX12_worthOf_103 : decode cX12_worthOf 103 = .ok (.getfield 31, 3) := by decide +kernel
theorem dX12_worthOf_106 : decode cX12_worthOf 106 = .ok (.bipush 6, 2) := by decide +kernel
theorem dX12_worthOf_108 : decode cX12_worthOf 108 = .ok (.iload_n 2, 1) := by decide +kernel
theorem dX12_worthOf_109 : decode cX12_worthOf 109 = .ok (.iastore, 1) := by decide +kernel
theorem dX12_worthOf_110 : decode cX12_worthOf 110 = .ok (.aload_n 0, 1) := by decide +kernel
theorem dX12_worthOf_111 : decode cX12_worthOf 111 = .ok (.getfield 31, 3) := by decide +kernel
theorem dX12_worthOf_114 : decode cX12_worthOf 114 = .ok (.bipush 7, 2) := by decide +kernel
theorem dX12_worthOf_116 : decode cX12_worthOf 116 = .ok (.iload 4, 2) := by decide +kernel
theorem dX12_worthOf_118 : decode cX12_worthOf 118 = .ok (.ifCond .ne 7, 3) := by decide +kernel
theorem dX12_worthOf_121 : decode cX12_worthOf 121 = .ok (.iconst 0, 1) := by decide +kernel
theorem dX12_worthOf_122 : decode cX12_worthOf 122 = .ok (.goto 4, 3) := by decide +kernel
theorem dX12_worthOf_125 : decode cX12_worthOf 125 = .ok (.iconst 1, 1) := by decide +kernel
theorem dX12_worthOf_126 : decode cX12_worthOf 126 = .ok (.iastore, 1) := by decide +kernel
theorem dX12_worthOf_127 : decode cX12_worthOf 127 = .ok (.lconst 0, 1) := by decide +kernel
theorem dX12_worthOf_128 : decode cX12_worthOf 128 = .ok (.lstore 8, 2) := by decide +kernel
theorem dX12_worthOf_130 : decode cX12_worthOf 130 = .ok (.iconst 0, 1) := by decide +kernel
theorem dX12_worthOf_131 : decode cX12_worthOf 131 = .ok (.istore 10, 2) := by decide +kernel
theorem dX12_worthOf_133 : decode cX12_worthOf 133 = .ok (.iload 10, 2) := by decide +kernel
theorem dX12_worthOf_135 : decode cX12_worthOf 135 = .ok (.aload_n 0, 1) := by decide +kernel
theorem dX12_worthOf_136 : decode cX12_worthOf 136 = .ok (.getfield 7, 3) := by decide +kernel
theorem dX12_worthOf_139 : decode cX12_worthOf 139 = .ok (.sipush 2320, 3) := by decide +kernel
theorem dX12_worthOf_142 : decode cX12_worthOf 142 = .ok (.iload 5, 2) := by decide +kernel
theorem dX12_worthOf_144 : decode cX12_worthOf 144 = .ok (.iadd, 1) := by decide +kernel
theorem dX12_worthOf_145 : decode cX12_worthOf 145 = .ok (.iaload, 1) := by decide +kernel
theorem dX12_worthOf_146 : decode cX12_worthOf 146 = .ok (.if_icmp .ge 110, 3) := by decide +kernel
theorem dX12_worthOf_149 : decode cX12_worthOf 149 = .ok (.bipush 16, 2) := by decide +kernel
theorem dX12_worthOf_151 : decode cX12_worthOf 151 = .ok (.iload 5, 2) := by decide +kernel
theorem dX12_worthOf_153 : decode cX12_worthOf 153 = .ok (.imul, 1) := by decide +kernel
theorem dX12_worthOf_154 : decode cX12_worthOf 154 = .ok (.iload 10, 2) := by decide +kernel
theorem dX12_worthOf_156 : decode cX12_worthOf 156 = .ok (.iadd, 1) := by decide +kernel
theorem dX12_worthOf_157 : decode cX12_worthOf 157 = .ok (.istore 11, 2) := by decide +kernel
theorem dX12_worthOf_159 : decode cX12_worthOf 159 = .ok (.aload_n 0, 1) := by decide +kernel
theorem dX12_worthOf_160 : decode cX12_worthOf 160 = .ok (.getfield 7, 3) := by decide +kernel
theorem dX12_worthOf_163 : decode cX12_worthOf 163 = .ok (.sipush 2470, 3) := by decide +kernel
theorem dX12_worthOf_166 : decode cX12_worthOf 166 = .ok (.iload 11, 2) := by decide +kernel
theorem dX12_worthOf_168 : decode cX12_worthOf 168 = .ok (.iadd, 1) := by decide +kernel
theorem dX12_worthOf_169 : decode cX12_worthOf 169 = .ok (.iaload, 1) := by decide +kernel
theorem dX12_worthOf_170 : decode cX12_worthOf 170 = .ok (.aload_n 0, 1) := by decide +kernel
theorem dX12_worthOf_171 : decode cX12_worthOf 171 = .ok (.getfield 7, 3) := by decide +kernel
theorem dX12_worthOf_174 : decode cX12_worthOf 174 = .ok (.sipush 2400, 3) := by decide +kernel
theorem dX12_worthOf_177 : decode cX12_worthOf 177 = .ok (.iload 11, 2) := by decide +kernel
theorem dX12_worthOf_179 : decode cX12_worthOf 179 = .ok (.iadd, 1) := by decide +kernel
theorem dX12_worthOf_180 : decode cX12_worthOf 180 = .ok (.iaload, 1) := by decide +kernel
theorem dX12_worthOf_181 : decode cX12_worthOf 181 = .ok (.if_icmp .eq 35, 3) := by decide +kernel
theorem dX12_worthOf_184 : decode cX12_worthOf 184 = .ok (.aload_n 0, 1) := by decide +kernel
theorem dX12_worthOf_185 : decode cX12_worthOf 185 = .ok (.iload 5, 2) := by decide +kernel
theorem dX12_worthOf_187 : decode cX12_worthOf 187 = .ok (.aload_n 0, 1) := by decide +kernel
theorem dX12_worthOf_188 : decode cX12_worthOf 188 = .ok (.getfield 7, 3) := by decide +kernel
theorem dX12_worthOf_191 : decode cX12_worthOf 191 = .ok (.sipush 2400, 3) := by decide +kernel
theorem dX12_worthOf_194 : decode cX12_worthOf 194 = .ok (.iload 11, 2) := by decide +kernel
theorem dX12_worthOf_196 : decode cX12_worthOf 196 = .ok (.iadd, 1) := by decide +kernel
theorem dX12_worthOf_197 : decode cX12_worthOf 197 = .ok (.iaload, 1) := by decide +kernel
theorem dX12_worthOf_198 : decode cX12_worthOf 198 = .ok (.aload_n 0, 1) := by decide +kernel
theorem dX12_worthOf_199 : decode cX12_worthOf 199 = .ok (.getfield 7, 3) := by decide +kernel
theorem dX12_worthOf_202 : decode cX12_worthOf 202 = .ok (.sipush 2470, 3) := by decide +kernel
theorem dX12_worthOf_205 : decode cX12_worthOf 205 = .ok (.iload 11, 2) := by decide +kernel
theorem dX12_worthOf_207 : decode cX12_worthOf 207 = .ok (.iadd, 1) := by decide +kernel
theorem dX12_worthOf_208 : decode cX12_worthOf 208 = .ok (.iaload, 1) := by decide +kernel
theorem dX12_worthOf_209 : decode cX12_worthOf 209 = .ok (.invokevirtual 219, 3) := by decide +kernel
theorem dX12_worthOf_212 : decode cX12_worthOf 212 = .ok (.iconst 1, 1) := by decide +kernel
theorem dX12_worthOf_213 : decode cX12_worthOf 213 = .ok (.if_icmp .ne 37, 3) := by decide +kernel
theorem dX12_worthOf_216 : decode cX12_worthOf 216 = .ok (.lload 8, 2) := by decide +kernel
theorem dX12_worthOf_218 : decode cX12_worthOf 218 = .ok (.aload_n 0, 1) := by decide +kernel
theorem dX12_worthOf_219 : decode cX12_worthOf 219 = .ok (.iload 5, 2) := by decide +kernel
theorem dX12_worthOf_221 : decode cX12_worthOf 221 = .ok (.aload_n 0, 1) := by decide +kernel
theorem dX12_worthOf_222 : decode cX12_worthOf 222 = .ok (.getfield 7, 3) := by decide +kernel
theorem dX12_worthOf_225 : decode cX12_worthOf 225 = .ok (.sipush 2330, 3) := by decide +kernel
theorem dX12_worthOf_228 : decode cX12_worthOf 228 = .ok (.iload 11, 2) := by decide +kernel
theorem dX12_worthOf_230 : decode cX12_worthOf 230 = .ok (.iadd, 1) := by decide +kernel
theorem dX12_worthOf_231 : decode cX12_worthOf 231 = .ok (.iaload, 1) := by decide +kernel
theorem dX12_worthOf_232 : decode cX12_worthOf 232 = .ok (.aload_n 0, 1) := by decide +kernel
theorem dX12_worthOf_233 : decode cX12_worthOf 233 = .ok (.getfield 7, 3) := by decide +kernel
theorem dX12_worthOf_236 : decode cX12_worthOf 236 = .ok (.sipush 2400, 3) := by decide +kernel
theorem dX12_worthOf_239 : decode cX12_worthOf 239 = .ok (.iload 11, 2) := by decide +kernel
theorem dX12_worthOf_241 : decode cX12_worthOf 241 = .ok (.iadd, 1) := by decide +kernel
theorem dX12_worthOf_242 : decode cX12_worthOf 242 = .ok (.iaload, 1) := by decide +kernel
theorem dX12_worthOf_243 : decode cX12_worthOf 243 = .ok (.invokevirtual 219, 3) := by decide +kernel
theorem dX12_worthOf_246 : decode cX12_worthOf 246 = .ok (.i2l, 1) := by decide +kernel
theorem dX12_worthOf_247 : decode cX12_worthOf 247 = .ok (.ladd, 1) := by decide +kernel
theorem dX12_worthOf_248 : decode cX12_worthOf 248 = .ok (.lstore 8, 2) := by decide +kernel
theorem dX12_worthOf_250 : decode cX12_worthOf 250 = .ok (.iinc 10 1, 3) := by decide +kernel
theorem dX12_worthOf_253 : decode cX12_worthOf 253 = .ok (.goto (-120), 3) := by decide +kernel
theorem dX12_worthOf_256 : decode cX12_worthOf 256 = .ok (.lload 8, 2) := by decide +kernel
theorem dX12_worthOf_258 : decode cX12_worthOf 258 = .ok (.ldc2_w 222, 3) := by decide +kernel
theorem dX12_worthOf_261 : decode cX12_worthOf 261 = .ok (.lcmp, 1) := by decide +kernel
theorem dX12_worthOf_262 : decode cX12_worthOf 262 = .ok (.ifCond .ge 9, 3) := by decide +kernel
theorem dX12_worthOf_265 : decode cX12_worthOf 265 = .ok (.ldc2_w 222, 3) := by decide +kernel
theorem dX12_worthOf_268 : decode cX12_worthOf 268 = .ok (.goto 20, 3) := by decide +kernel
theorem dX12_worthOf_271 : decode cX12_worthOf 271 = .ok (.lload 8, 2) := by decide +kernel
theorem dX12_worthOf_273 : decode cX12_worthOf 273 = .ok (.ldc2_w 224, 3) := by decide +kernel
theorem dX12_worthOf_276 : decode cX12_worthOf 276 = .ok (.lcmp, 1) := by decide +kernel
theorem dX12_worthOf_277 : decode cX12_worthOf 277 = .ok (.ifCond .le 9, 3) := by decide +kernel
theorem dX12_worthOf_280 : decode cX12_worthOf 280 = .ok (.ldc2_w 224, 3) := by decide +kernel
theorem dX12_worthOf_283 : decode cX12_worthOf 283 = .ok (.goto 5, 3) := by decide +kernel
theorem dX12_worthOf_286 : decode cX12_worthOf 286 = .ok (.lload 8, 2) := by decide +kernel
theorem dX12_worthOf_288 : decode cX12_worthOf 288 = .ok (.l2i, 1) := by decide +kernel
theorem dX12_worthOf_289 : decode cX12_worthOf 289 = .ok (.ireturn, 1) := by decide +kernel
theorem dX12_worth_0 : decode cX12_worth 0 = .ok (.aload_n 0, 1) := by decide +kernel
theorem dX12_worth_1 : decode cX12_worth 1 = .ok (.iload_n 1, 1) := by decide +kernel
theorem dX12_worth_2 : decode cX12_worth 2 = .ok (.invokevirtual 226, 3) := by decide +kernel
theorem dX12_worth_5 : decode cX12_worth 5 = .ok (.ifCond .eq 40, 3) := by decide +kernel
theorem dX12_worth_8 : decode cX12_worth 8 = .ok (.iload_n 2, 1) := by decide +kernel
theorem dX12_worth_9 : decode cX12_worth 9 = .ok (.invokestatic 229, 3) := by decide +kernel
theorem dX12_worth_12 : decode cX12_worth 12 = .ok (.ifCond .eq 33, 3) := by decide +kernel
theorem dX12_worth_15 : decode cX12_worth 15 = .ok (.aload_n 0, 1) := by decide +kernel
theorem dX12_worth_16 : decode cX12_worth 16 = .ok (.iload_n 3, 1) := by decide +kernel
theorem dX12_worth_17 : decode cX12_worth 17 = .ok (.invokevirtual 74, 3) := by decide +kernel
theorem dX12_worth_20 : decode cX12_worth 20 = .ok (.ifCond .eq 25, 3) := by decide +kernel
theorem dX12_worth_23 : decode cX12_worth 23 = .ok (.iload 4, 2) := by decide +kernel
theorem dX12_worth_25 : decode cX12_worth 25 = .ok (.iconst (-1), 1) := by decide +kernel
theorem dX12_worth_26 : decode cX12_worth 26 = .ok (.iconst 1, 1) := by decide +kernel
theorem dX12_worth_27 : decode cX12_worth 27 = .ok (.invokestatic 70, 3) := by decide +kernel
theorem dX12_worth_30 : decode cX12_worth 30 = .ok (.ifCond .eq 15, 3) := by decide +kernel
theorem dX12_worth_33 : decode cX12_worth 33 = .ok (.aload_n 0, 1) := by decide +kernel
theorem dX12_worth_34 : decode cX12_worth 34 = .ok (.iload_n 1, 1) := by decide +kernel
theorem dX12_worth_35 : decode cX12_worth 35 = .ok (.iload_n 2, 1) := by decide +kernel
theorem dX12_worth_36 : decode cX12_worth 36 = .ok (.iload_n 3, 1) := by decide +kernel
theorem dX12_worth_37 : decode cX12_worth 37 = .ok (.iload 4, 2) := by decide +kernel
theorem dX12_worth_39 : decode cX12_worth 39 = .ok (.invokevirtual 232, 3) := by decide +kernel
theorem dX12_worth_42 : decode cX12_worth 42 = .ok (.goto 5, 3) := by decide +kernel
theorem dX12_worth_45 : decode cX12_worth 45 = .ok (.ldc 236, 2) := by decide +kernel
theorem dX12_worth_47 : decode cX12_worth 47 = .ok (.ireturn, 1) := by decide +kernel
theorem dX12_saleOf_0 : decode cX12_saleOf 0 = .ok (.iconst 0, 1) := by decide +kernel
theorem dX12_saleOf_1 : decode cX12_saleOf 1 = .ok (.istore_n 3, 1) := by decide +kernel
theorem dX12_saleOf_2 : decode cX12_saleOf 2 = .ok (.iload_n 3, 1) := by decide +kernel
theorem dX12_saleOf_3 : decode cX12_saleOf 3 = .ok (.aload_n 0, 1) := by decide +kernel
theorem dX12_saleOf_4 : decode cX12_saleOf 4 = .ok (.getfield 7, 3) := by decide +kernel
theorem dX12_saleOf_7 : decode cX12_saleOf 7 = .ok (.bipush 6, 2) := by decide +kernel
theorem dX12_saleOf_9 : decode cX12_saleOf 9 = .ok (.iaload, 1) := by decide +kernel
theorem dX12_saleOf_10 : decode cX12_saleOf 10 = .ok (.if_icmp .ge 56, 3) := by decide +kernel
theorem dX12_saleOf_13 : decode cX12_saleOf 13 = .ok (.sipush 130, 3) := by decide +kernel
theorem dX12_saleOf_16 : decode cX12_saleOf 16 = .ok (.iconst 4, 1) := by decide +kernel
theorem dX12_saleOf_17 : decode cX12_saleOf 17 = .ok (.iload_n 3, 1) := by decide +kernel
theorem dX12_saleOf_18 : decode cX12_saleOf 18 = .ok (.imul, 1) := by decide +kernel
theorem dX12_saleOf_19 : decode cX12_saleOf 19 = .ok (.iadd, 1) := by decide +kernel
theorem dX12_saleOf_20 : decode cX12_saleOf 20 = .ok (.istore 4, 2) := by decide +kernel
theorem dX12_saleOf_22 : decode cX12_saleOf 22 = .ok (.aload_n 0, 1) := by decide +kernel
theorem dX12_saleOf_23 : decode cX12_saleOf 23 = .ok (.getfield 7, 3) := by decide +kernel
theorem dX12_saleOf_26 : decode cX12_saleOf 26 = .ok (.iload 4, 2) := by decide +kernel
theorem dX12_saleOf_28 : decode cX12_saleOf 28 = .ok (.iaload, 1) := by decide +kernel
theorem dX12_saleOf_29 : decode cX12_saleOf 29 = .ok (.iload_n 1, 1) := by decide +kernel
theorem dX12_saleOf_30 : decode cX12_saleOf 30 = .ok (.if_icmp .ne 30, 3) := by decide +kernel
theorem dX12_saleOf_33 : decode cX12_saleOf 33 = .ok (.iload_n 2, 1) := by decide +kernel
theorem dX12_saleOf_34 : decode cX12_saleOf 34 = .ok (.aload_n 0, 1) := by decide +kernel
theorem dX12_saleOf_35 : decode cX12_saleOf 35 = .ok (.getfield 7, 3) := by decide +kernel
theorem dX12_saleOf_38 : decode cX12_saleOf 38 = .ok (.iload 4, 2) := by decide +kernel
theorem dX12_saleOf_40 : decode cX12_saleOf 40 = .ok (.iconst 2, 1) := by decide +kernel
theorem dX12_saleOf_41 : decode cX12_saleOf 41 = .ok (.iadd, 1) := by decide +kernel
theorem dX12_saleOf_42 : decode cX12_saleOf 42 = .ok (.iaload, 1) := by decide +kernel
theorem dX12_saleOf_43 : decode cX12_saleOf 43 = .ok (.aload_n 0, 1) := by decide +kernel
theorem dX12_saleOf_44 : decode cX12_saleOf 44 = .ok (.getfield 7, 3) := by decide +kernel
theorem dX12_saleOf_47 : decode cX12_saleOf 47 = .ok (.iload 4, 2) := by decide +kernel
theorem dX12_saleOf_49 : decode cX12_saleOf 49 = .ok (.iconst 3, 1) := by decide +kernel
theorem dX12_saleOf_50 : decode cX12_saleOf 50 = .ok (.iadd, 1) := by decide +kernel
theorem dX12_saleOf_51 : decode cX12_saleOf 51 = .ok (.iaload, 1) := by decide +kernel
theorem dX12_saleOf_52 : decode cX12_saleOf 52 = .ok (.invokestatic 70, 3) := by decide +kernel
theorem dX12_saleOf_55 : decode cX12_saleOf 55 = .ok (.ifCond .eq 5, 3) := by decide +kernel
theorem dX12_saleOf_58 : decode cX12_saleOf 58 = .ok (.iload_n 3, 1) := by decide +kernel
theorem dX12_saleOf_59 : decode cX12_saleOf 59 = .ok (.ireturn, 1) := by decide +kernel
theorem dX12_saleOf_60 : decode cX12_saleOf 60 = .ok (.iinc 3 1, 3) := by decide +kernel
theorem dX12_saleOf_63 : decode cX12_saleOf 63 = .ok (.goto (-61), 3) := by decide +kernel
theorem dX12_saleOf_66 : decode cX12_saleOf 66 = .ok (.iconst (-1), 1) := by decide +kernel
theorem dX12_saleOf_67 : decode cX12_saleOf 67 = .ok (.ireturn, 1) := by decide +kernel
theorem dX12_holderOf_0 : decode cX12_holderOf 0 = .ok (.aload_n 0, 1) := by decide +kernel
theorem dX12_holderOf_1 : decode cX12_holderOf 1 = .ok (.iload_n 1, 1) := by decide +kernel
theorem dX12_holderOf_2 : decode cX12_holderOf 2 = .ok (.iload_n 2, 1) := by decide +kernel
theorem dX12_holderOf_3 : decode cX12_holderOf 3 = .ok (.invokevirtual 237, 3) := by decide +kernel
theorem dX12_holderOf_6 : decode cX12_holderOf 6 = .ok (.istore_n 3, 1) := by decide +kernel
theorem dX12_holderOf_7 : decode cX12_holderOf 7 = .ok (.iload_n 3, 1) := by decide +kernel
theorem dX12_holderOf_8 : decode cX12_holderOf 8 = .ok (.iconst (-1), 1) := by decide +kernel
theorem dX12_holderOf_9 : decode cX12_holderOf 9 = .ok (.if_icmp .ne 7, 3) := by decide +kernel
theorem dX12_holderOf_12 : decode cX12_holderOf 12 = .ok (.iload_n 1, 1) := by decide +kernel
theorem dX12_holderOf_13 : decode cX12_holderOf 13 = .ok (.goto 17, 3) := by decide +kernel
theorem dX12_holderOf_16 : decode cX12_holderOf 16 = .ok (.aload_n 0, 1) := by decide +kernel
theorem dX12_holderOf_17 : decode cX12_holderOf 17 = .ok (.getfield 7, 3) := by decide +kernel
theorem dX12_holderOf_20 : decode cX12_holderOf 20 = .ok (.sipush 130, 3) := by decide +kernel
theorem dX12_holderOf_23 : decode cX12_holderOf 23 = .ok (.iconst 4, 1) := by decide +kernel
theorem dX12_holderOf_24 : decode cX12_holderOf 24 = .ok (.iload_n 3, 1) := by decide +kernel
theorem dX12_holderOf_25 : decode cX12_holderOf 25 = .ok (.imul, 1) := by decide +kernel
theorem dX12_holderOf_26 : decode cX12_holderOf 26 = .ok (.iadd, 1) := by decide +kernel
theorem dX12_holderOf_27 : decode cX12_holderOf 27 = .ok (.iconst 1, 1) := by decide +kernel
theorem dX12_holderOf_28 : decode cX12_holderOf 28 = .ok (.iadd, 1) := by decide +kernel
theorem dX12_holderOf_29 : decode cX12_holderOf 29 = .ok (.iaload, 1) := by decide +kernel
theorem dX12_holderOf_30 : decode cX12_holderOf 30 = .ok (.ireturn, 1) := by decide +kernel
theorem dX12_holder_0 : decode cX12_holder 0 = .ok (.aload_n 0, 1) := by decide +kernel
theorem dX12_holder_1 : decode cX12_holder 1 = .ok (.iload_n 1, 1) := by decide +kernel
theorem dX12_holder_2 : decode cX12_holder 2 = .ok (.invokevirtual 226, 3) := by decide +kernel
theorem dX12_holder_5 : decode cX12_holder 5 = .ok (.ifCond .eq 19, 3) := by decide +kernel
theorem dX12_holder_8 : decode cX12_holder 8 = .ok (.iload_n 2, 1) := by decide +kernel
theorem dX12_holder_9 : decode cX12_holder 9 = .ok (.invokestatic 229, 3) := by decide +kernel
theorem dX12_holder_12 : decode cX12_holder 12 = .ok (.ifCond .eq 12, 3) := by decide +kernel
theorem dX12_holder_15 : decode cX12_holder 15 = .ok (.aload_n 0, 1) := by decide +kernel
theorem dX12_holder_16 : decode cX12_holder 16 = .ok (.iload_n 1, 1) := by decide +kernel
theorem dX12_holder_17 : decode cX12_holder 17 = .ok (.iload_n 2, 1) := by decide +kernel
theorem dX12_holder_18 : decode cX12_holder 18 = .ok (.invokevirtual 240, 3) := by decide +kernel
theorem dX12_holder_21 : decode cX12_holder 21 = .ok (.goto 4, 3) := by decide +kernel
theorem dX12_holder_24 : decode cX12_holder 24 = .ok (.iconst (-1), 1) := by decide +kernel
theorem dX12_holder_25 : decode cX12_holder 25 = .ok (.ireturn, 1) := by decide +kernel
theorem dX12_sell_0 : decode cX12_sell 0 = .ok (.aload_n 0, 1) := by decide +kernel
theorem dX12_sell_1 : decode cX12_sell 1 = .ok (.iload_n 1, 1) := by decide +kernel
theorem dX12_sell_2 : decode cX12_sell 2 = .ok (.invokevirtual 226, 3) := by decide +kernel
theorem dX12_sell_5 : decode cX12_sell 5 = .ok (.ifCond .eq 63, 3) := by decide +kernel
theorem dX12_sell_8 : decode cX12_sell 8 = .ok (.aload_n 0, 1) := by decide +kernel
theorem dX12_sell_9 : decode cX12_sell 9 = .ok (.iload_n 2, 1) := by decide +kernel
theorem dX12_sell_10 : decode cX12_sell 10 = .ok (.invokevirtual 226, 3) := by decide +kernel
theorem dX12_sell_13 : decode cX12_sell 13 = .ok (.ifCond .eq 55, 3) := by decide +kernel
theorem dX12_sell_16 : decode cX12_sell 16 = .ok (.iload_n 1, 1) := by decide +kernel
theorem dX12_sell_17 : decode cX12_sell 17 = .ok (.iload_n 2, 1) := by decide +kernel
theorem dX12_sell_18 : decode cX12_sell 18 = .ok (.if_icmp .eq 50, 3) := by decide +kernel
theorem dX12_sell_21 : decode cX12_sell 21 = .ok (.iload_n 3, 1) := by decide +kernel
theorem dX12_sell_22 : decode cX12_sell 22 = .ok (.aload_n 0, 1) := by decide +kernel
theorem dX12_sell_23 : decode cX12_sell 23 = .ok (.getfield 7, 3) := by decide +kernel
theorem dX12_sell_26 : decode cX12_sell 26 = .ok (.iconst 2, 1) := by decide +kernel
theorem dX12_sell_27 : decode cX12_sell 27 = .ok (.iaload, 1) := by decide +kernel
theorem dX12_sell_28 : decode cX12_sell 28 = .ok (.iload 4, 2) := by decide +kernel
theorem dX12_sell_30 : decode cX12_sell 30 = .ok (.invokestatic 70, 3) := by decide +kernel
theorem dX12_sell_33 : decode cX12_sell 33 = .ok (.ifCond .eq 35, 3) := by decide +kernel
theorem dX12_sell_36 : decode cX12_sell 36 = .ok (.iload 4, 2) := by decide +kernel
theorem dX12_sell_38 : decode cX12_sell 38 = .ok (.sipush 9999, 3) := by decide +kernel
theorem dX12_sell_41 : decode cX12_sell 41 = .ok (.if_icmp .gt 27, 3) := by decide +kernel
theorem dX12_sell_44 : decode cX12_sell 44 = .ok (.iload 5, 2) := by decide +kernel
theorem dX12_sell_46 : decode cX12_sell 46 = .ok (.iconst 0, 1) := by decide +kernel
theorem dX12_sell_47 : decode cX12_sell 47 = .ok (.sipush 9999, 3) := by decide +kernel
theorem dX12_sell_50 : decode cX12_sell 50 = .ok (.invokestatic 70, 3) := by decide +kernel
theorem dX12_sell_53 : decode cX12_sell 53 = .ok (.ifCond .eq 15, 3) := by decide +kernel
theorem dX12_sell_56 : decode cX12_sell 56 = .ok (.aload_n 0, 1) := by decide +kernel
theorem dX12_sell_57 : decode cX12_sell 57 = .ok (.getfield 7, 3) := by decide +kernel
theorem dX12_sell_60 : decode cX12_sell 60 = .ok (.bipush 6, 2) := by decide +kernel
theorem dX12_sell_62 : decode cX12_sell 62 = .ok (.iaload, 1) := by decide +kernel
theorem dX12_sell_63 : decode cX12_sell 63 = .ok (.bipush 60, 2) := by decide +kernel
theorem dX12_sell_65 : decode cX12_sell 65 = .ok (.if_icmp .ne 5, 3) := by decide +kernel
theorem dX12_sell_68 : decode cX12_sell 68 = .ok (.iconst 0, 1) := by decide +kernel
theorem dX12_sell_69 : decode cX12_sell 69 = .ok (.ireturn, 1) := by decide +kernel
theorem dX12_sell_70 : decode cX12_sell 70 = .ok (.iconst 0, 1) := by decide +kernel
theorem dX12_sell_71 : decode cX12_sell 71 = .ok (.istore 6, 2) := by decide +kernel
theorem dX12_sell_73 : decode cX12_sell 73 = .ok (.iload 6, 2) := by decide +kernel
theorem dX12_sell_75 : decode cX12_sell 75 = .ok (.aload_n 0, 1) := by decide +kernel
theorem dX12_sell_76 : decode cX12_sell 76 = .ok (.getfield 7, 3) := by decide +kernel
theorem dX12_sell_79 : decode cX12_sell 79 = .ok (.bipush 6, 2) := by decide +kernel
theorem dX12_sell_81 : decode cX12_sell 81 = .ok (.iaload, 1) := by decide +kernel
theorem dX12_sell_82 : decode cX12_sell 82 = .ok (.if_icmp .ge 67, 3) := by decide +kernel
theorem dX12_sell_85 : decode cX12_sell 85 = .ok (.aload_n 0, 1) := by decide +kernel
theorem dX12_sell_86 : decode cX12_sell 86 = .ok (.getfield 7, 3) := by decide +kernel
theorem dX12_sell_89 : decode cX12_sell 89 = .ok (.sipush 130, 3) := by decide +kernel
theorem dX12_sell_92 : decode cX12_sell 92 = .ok (.iconst 4, 1) := by decide +kernel
theorem dX12_sell_93 : decode cX12_sell 93 = .ok (.iload 6, 2) := by decide +kernel
theorem dX12_sell_95 : decode cX12_sell 95 = .ok (.imul, 1) := by decide +kernel
theorem dX12_sell_96 : decode cX12_sell 96 = .ok (.iadd, 1) := by decide +kernel
theorem dX12_sell_97 : decode cX12_sell 97 = .ok (.iaload, 1) := by decide +kernel
theorem dX12_sell_98 : decode cX12_sell 98 = .ok (.iload_n 1, 1) := by decide +kernel
theorem dX12_sell_99 : decode cX12_sell 99 = .ok (.if_icmp .ne 44, 3) := by decide +kernel
theorem dX12_sell_102 : decode cX12_sell 102 = .ok (.aload_n 0, 1) := by decide +kernel
theorem dX12_sell_103 : decode cX12_sell 103 = .ok (.getfield 7, 3) := by decide +kernel
theorem dX12_sell_106 : decode cX12_sell 106 = .ok (.sipush 130, 3) := by decide +kernel
theorem dX12_sell_109 : decode cX12_sell 109 = .ok (.iconst 4, 1) := by decide +kernel
theorem dX12_sell_110 : decode cX12_sell 110 = .ok (.iload 6, 2) := by decide +kernel
theorem dX12_sell_112 : decode cX12_sell 112 = .ok (.imul, 1) := by decide +kernel
theorem dX12_sell_113 : decode cX12_sell 113 = .ok (.iadd, 1) := by decide +kernel
theorem dX12_sell_114 : decode cX12_sell 114 = .ok (.iconst 2, 1) := by decide +kernel
theorem dX12_sell_115 : decode cX12_sell 115 = .ok (.iadd, 1) := by decide +kernel
theorem dX12_sell_116 : decode cX12_sell 116 = .ok (.iaload, 1) := by decide +kernel
theorem dX12_sell_117 : decode cX12_sell 117 = .ok (.iload 4, 2) := by decide +kernel
theorem dX12_sell_119 : decode cX12_sell 119 = .ok (.if_icmp .gt 24, 3) := by decide +kernel
theorem dX12_sell_122 : decode cX12_sell 122 = .ok (.aload_n 0, 1) := by decide +kernel
theorem dX12_sell_123 : decode cX12_sell 123 = .ok (.getfield 7, 3) := by decide +kernel
theorem dX12_sell_126 : decode cX12_sell 126 = .ok (.sipush 130, 3) := by decide +kernel
theorem dX12_sell_129 : decode cX12_sell 129 = .ok (.iconst 4, 1) := by decide +kernel
theorem dX12_sell_130 : decode cX12_sell 130 = .ok (.iload 6, 2) := by decide +kernel
theorem dX12_sell_132 : decode cX12_sell 132 = .ok (.imul, 1) := by decide +kernel
theorem dX12_sell_133 : decode cX12_sell 133 = .ok (.iadd, 1) := by decide +kernel
theorem dX12_sell_134 : decode cX12_sell 134 = .ok (.iconst 3, 1) := by decide +kernel
theorem dX12_sell_135 : decode cX12_sell 135 = .ok (.iadd, 1) := by decide +kernel
theorem dX12_sell_136 : decode cX12_sell 136 = .ok (.iaload, 1) := by decide +kernel
theorem dX12_sell_137 : decode cX12_sell 137 = .ok (.iload_n 3, 1) := by decide +kernel
theorem dX12_sell_138 : decode cX12_sell 138 = .ok (.if_icmp .lt 5, 3) := by decide +kernel
theorem dX12_sell_141 : decode cX12_sell 141 = .ok (.iconst 0, 1) := by decide +kernel
theorem dX12_sell_142 : decode cX12_sell 142 = .ok (.ireturn, 1) := by decide +kernel
theorem dX12_sell_143 : decode cX12_sell 143 = .ok (.iinc 6 1, 3) := by decide +kernel
theorem dX12_sell_146 : decode cX12_sell 146 = .ok (.goto (-73), 3) := by decide +kernel
theorem dX12_sell_149 : decode cX12_sell 149 = .ok (.sipush 130, 3) := by decide +kernel
theorem dX12_sell_152 : decode cX12_sell 152 = .ok (.iconst 4, 1) := by decide +kernel
theorem dX12_sell_153 : decode cX12_sell 153 = .ok (.aload_n 0, 1) := by decide +kernel
theorem dX12_sell_154 : decode cX12_sell 154 = .ok (.getfield 7, 3) := by decide +kernel
theorem dX12_sell_157 : decode cX12_sell 157 = .ok (.bipush 6, 2) := by decide +kernel
theorem dX12_sell_159 : decode cX12_sell 159 = .ok (.iaload, 1) := by decide +kernel
theorem dX12_sell_160 : decode cX12_sell 160 = .ok (.imul, 1) := by decide +kernel
theorem dX12_sell_161 : decode cX12_sell 161 = .ok (.iadd, 1) := by decide +kernel
theorem dX12_sell_162 : decode cX12_sell 162 = .ok (.istore 6, 2) := by decide +kernel
theorem dX12_sell_164 : decode cX12_sell 164 = .ok (.aload_n 0, 1) := by decide +kernel
theorem dX12_sell_165 : decode cX12_sell 165 = .ok (.getfield 7, 3) := by decide +kernel
theorem dX12_sell_168 : decode cX12_sell 168 = .ok (.iload 6, 2) := by decide +kernel
theorem dX12_sell_170 : decode cX12_sell 170 = .ok (.iload_n 1, 1) := by decide +kernel
theorem dX12_sell_171 : decode cX12_sell 171 = .ok (.iastore, 1) := by decide +kernel
theorem dX12_sell_172 : decode cX12_sell 172 = .ok (.aload_n 0, 1) := by decide +kernel
theorem dX12_sell_173 : decode cX12_sell 173 = .ok (.getfield 7, 3) := by decide +kernel
theorem dX12_sell_176 : decode cX12_sell 176 = .ok (.iload 6, 2) := by decide +kernel
theorem dX12_sell_178 : decode cX12_sell 178 = .ok (.iconst 1, 1) := by decide +kernel
theorem dX12_sell_179 : decode cX12_sell 179 = .ok (.iadd, 1) := by decide +kernel
theorem dX12_sell_180 : decode cX12_sell 180 = .ok (.iload_n 2, 1) := by decide +kernel
theorem dX12_sell_181 : decode cX12_sell 181 = .ok (.iastore, 1) := by decide +kernel
theorem dX12_sell_182 : decode cX12_sell 182 = .ok (.aload_n 0, 1) := by decide +kernel
theorem dX12_sell_183 : decode cX12_sell 183 = .ok (.getfield 7, 3) := by decide +kernel
theorem dX12_sell_186 : decode cX12_sell 186 = .ok (.iload 6, 2) := by decide +kernel
theorem dX12_sell_188 : decode cX12_sell 188 = .ok (.iconst 2, 1) := by decide +kernel
theorem dX12_sell_189 : decode cX12_sell 189 = .ok (.iadd, 1) := by decide +kernel
theorem dX12_sell_190 : decode cX12_sell 190 = .ok (.iload_n 3, 1) := by decide +kernel
theorem dX12_sell_191 : decode cX12_sell 191 = .ok (.iastore, 1) := by decide +kernel
theorem dX12_sell_192 : decode cX12_sell 192 = .ok (.aload_n 0, 1) := by decide +kernel
theorem dX12_sell_193 : decode cX12_sell 193 = .ok (.getfield 7, 3) := by decide +kernel
theorem dX12_sell_196 : decode cX12_sell 196 = .ok (.iload 6, 2) := by decide +kernel
theorem dX12_sell_198 : decode cX12_sell 198 = .ok (.iconst 3, 1) := by decide +kernel
theorem dX12_sell_199 : decode cX12_sell 199 = .ok (.iadd, 1) := by decide +kernel
theorem dX12_sell_200 : decode cX12_sell 200 = .ok (.iload 4, 2) := by decide +kernel
theorem dX12_sell_202 : decode cX12_sell 202 = .ok (.iastore, 1) := by decide +kernel
theorem dX12_sell_203 : decode cX12_sell 203 = .ok (.aload_n 0, 1) := by decide +kernel
theorem dX12_sell_204 : decode cX12_sell 204 = .ok (.getfield 7, 3) := by decide +kernel
theorem dX12_sell_207 : decode cX12_sell 207 = .ok (.bipush 6, 2) := by decide +kernel
theorem dX12_sell_209 : decode cX12_sell 209 = .ok (.dup2, 1) := by decide +kernel
theorem dX12_sell_210 : decode cX12_sell 210 = .ok (.iaload, 1) := by decide +kernel
theorem dX12_sell_211 : decode cX12_sell 211 = .ok (.iconst 1, 1) := by decide +kernel
theorem dX12_sell_212 : decode cX12_sell 212 = .ok (.iadd, 1) := by decide +kernel
theorem dX12_sell_213 : decode cX12_sell 213 = .ok (.iastore, 1) := by decide +kernel
theorem dX12_sell_214 : decode cX12_sell 214 = .ok (.aload_n 0, 1) := by decide +kernel
theorem dX12_sell_215 : decode cX12_sell 215 = .ok (.iload_n 2, 1) := by decide +kernel
theorem dX12_sell_216 : decode cX12_sell 216 = .ok (.iload 5, 2) := by decide +kernel
theorem dX12_sell_218 : decode cX12_sell 218 = .ok (.ineg, 1) := by decide +kernel
theorem dX12_sell_219 : decode cX12_sell 219 = .ok (.invokevirtual 243, 3) := by decide +kernel
theorem dX12_sell_222 : decode cX12_sell 222 = .ok (.aload_n 0, 1) := by decide +kernel
theorem dX12_sell_223 : decode cX12_sell 223 = .ok (.iload_n 1, 1) := by decide +kernel
theorem dX12_sell_224 : decode cX12_sell 224 = .ok (.iload 5, 2) := by decide +kernel
theorem dX12_sell_226 : decode cX12_sell 226 = .ok (.invokevirtual 243, 3) := by decide +kernel
theorem dX12_sell_229 : decode cX12_sell 229 = .ok (.aload_n 0, 1) := by decide +kernel
theorem dX12_sell_230 : decode cX12_sell 230 = .ok (.invokevirtual 78, 3) := by decide +kernel
theorem dX12_sell_233 : decode cX12_sell 233 = .ok (.iconst 1, 1) := by decide +kernel
theorem dX12_sell_234 : decode cX12_sell 234 = .ok (.ireturn, 1) := by decide +kernel
theorem dX12_promise_0 : decode cX12_promise 0 = .ok (.aload_n 0, 1) := by decide +kernel
theorem dX12_promise_1 : decode cX12_promise 1 = .ok (.iload_n 1, 1) := by decide +kernel
theorem dX12_promise_2 : decode cX12_promise 2 = .ok (.invokevirtual 226, 3) := by decide +kernel
theorem dX12_promise_5 : decode cX12_promise 5 = .ok (.ifCond .eq 42, 3) := by decide +kernel
theorem dX12_promise_8 : decode cX12_promise 8 = .ok (.iload_n 2, 1) := by decide +kernel
theorem dX12_promise_9 : decode cX12_promise 9 = .ok (.iconst (-1), 1) := by decide +kernel
theorem dX12_promise_10 : decode cX12_promise 10 = .ok (.iconst 1, 1) := by decide +kernel
theorem dX12_promise_11 : decode cX12_promise 11 = .ok (.invokestatic 70, 3) := by decide +kernel
theorem dX12_promise_14 : decode cX12_promise 14 = .ok (.ifCond .eq 33, 3) := by decide +kernel
theorem dX12_promise_17 : decode cX12_promise 17 = .ok (.iload_n 3, 1) := by decide +kernel
theorem dX12_promise_18 : decode cX12_promise 18 = .ok (.iconst 0, 1) := by decide +kernel
theorem dX12_promise_19 : decode cX12_promise 19 = .ok (.iload 4, 2) := by decide +kernel
theorem dX12_promise_21 : decode cX12_promise 21 = .ok (.invokestatic 70, 3) := by decide +kernel
theorem dX12_promise_24 : decode cX12_promise 24 = .ok (.ifCond .eq 23, 3) := by decide +kernel
theorem dX12_promise_27 : decode cX12_promise 27 = .ok (.iload 4, 2) := by decide +kernel
theorem dX12_promise_29 : decode cX12_promise 29 = .ok (.sipush 9999, 3) := by decide +kernel
theorem dX12_promise_32 : decode cX12_promise 32 = .ok (.if_icmp .gt 15, 3) := by decide +kernel
theorem dX12_promise_35 : decode cX12_promise 35 = .ok (.aload_n 0, 1) := by decide +kernel
theorem dX12_promise_36 : decode cX12_promise 36 = .ok (.getfield 7, 3) := by decide +kernel
theorem dX12_promise_39 : decode cX12_promise 39 = .ok (.bipush 7, 2) := by decide +kernel
theorem dX12_promise_41 : decode cX12_promise 41 = .ok (.iaload, 1) := by decide +kernel
theorem dX12_promise_42 : decode cX12_promise 42 = .ok (.bipush 24, 2) := by decide +kernel
theorem dX12_promise_44 : decode cX12_promise 44 = .ok (.if_icmp .ne 5, 3) := by decide +kernel
theorem dX12_promise_47 : decode cX12_promise 47 = .ok (.iconst (-1), 1) := by decide +kernel
theorem dX12_promise_48 : decode cX12_promise 48 = .ok (.ireturn, 1) := by decide +kernel
theorem dX12_promise_49 : decode cX12_promise 49 = .ok (.iconst 0, 1) := by decide +kernel
theorem dX12_promise_50 : decode cX12_promise 50 = .ok (.istore 5, 2) := by decide +kernel
theorem dX12_promise_52 : decode cX12_promise 52 = .ok (.iconst 0, 1) := by decide +kernel
theorem dX12_promise_53 : decode cX12_promise 53 = .ok (.istore 6, 2) := by decide +kernel
theorem dX12_promise_55 : decode cX12_promise 55 = .ok (.iload 6, 2) := by decide +kernel
theorem dX12_promise_57 : decode cX12_promise 57 = .ok (.aload_n 0, 1) := by decide +kernel
theorem dX12_promise_58 : decode cX12_promise 58 = .ok (.getfield 7, 3) := by decide +kernel
theorem dX12_promise_61 : decode cX12_promise 61 = .ok (.bipush 7, 2) := by decide +kernel
theorem dX12_promise_63 : decode cX12_promise 63 = .ok (.iaload, 1) := by decide +kernel
theorem dX12_promise_64 : decode cX12_promise 64 = .ok (.if_icmp .ge 36, 3) := by decide +kernel
theorem dX12_promise_67 : decode cX12_promise 67 = .ok (.iload 5, 2) := by decide +kernel
theorem dX12_promise_69 : decode cX12_promise 69 = .ok (.aload_n 0, 1) := by decide +kernel
theorem dX12_promise_70 : decode cX12_promise 70 = .ok (.getfield 7, 3) := by decide +kernel
theorem dX12_promise_73 : decode cX12_promise 73 = .ok (.sipush 370, 3) := by decide +kernel
theorem dX12_promise_76 : decode cX12_promise 76 = .ok (.iconst 5, 1) := by decide +kernel
theorem dX12_promise_77 : decode cX12_promise 77 = .ok (.iload 6, 2) := by decide +kernel
theorem dX12_promise_79 : decode cX12_promise 79 = .ok (.imul, 1) := by decide +kernel
theorem dX12_promise_80 : decode cX12_promise 80 = .ok (.iadd, 1) := by decide +kernel
theorem dX12_promise_81 : decode cX12_promise 81 = .ok (.iaload, 1) := by decide +kernel
theorem dX12_promise_82 : decode cX12_promise 82 = .ok (.iload_n 1, 1) := by decide +kernel
theorem dX12_promise_83 : decode cX12_promise 83 = .ok (.if_icmp .ne 7, 3) := by decide +kernel
theorem dX12_promise_86 : decode cX12_promise 86 = .ok (.iconst 1, 1) := by decide +kernel
theorem dX12_promise_87 : decode cX12_promise 87 = .ok (.goto 4, 3) := by decide +kernel
theorem dX12_promise_90 : decode cX12_promise 90 = .ok (.iconst 0, 1) := by decide +kernel
theorem dX12_promise_91 : decode cX12_promise 91 = .ok (.iadd, 1) := by decide +kernel
theorem dX12_promise_92 : decode cX12_promise 92 = .ok (.istore 5, 2) := by decide +kernel
theorem dX12_promise_94 : decode cX12_promise 94 = .ok (.iinc 6 1, 3) := by decide +kernel
theorem dX12_promise_97 : decode cX12_promise 97 = .ok (.goto (-42), 3) := by decide +kernel
theorem dX12_promise_100 : decode cX12_promise 100 = .ok (.iload 5, 2) := by decide +kernel
theorem dX12_promise_102 : decode cX12_promise 102 = .ok (.bipush 10, 2) := by decide +kernel
theorem dX12_promise_104 : decode cX12_promise 104 = .ok (.if_icmp .ne 5, 3) := by decide +kernel
theorem dX12_promise_107 : decode cX12_promise 107 = .ok (.iconst (-1), 1) := by decide +kernel
theorem dX12_promise_108 : decode cX12_promise 108 = .ok (.ireturn, 1) := by decide +kernel
theorem dX12_promise_109 : decode cX12_promise 109 = .ok (.sipush 370, 3) := by decide +kernel
theorem dX12_promise_112 : decode cX12_promise 112 = .ok (.iconst 5, 1) := by decide +kernel
theorem dX12_promise_113 : decode cX12_promise 113 = .ok (.aload_n 0, 1) := by decide +kernel
theorem dX12_promise_114 : decode cX12_promise 114 = .ok (.getfield 7, 3) := by decide +kernel
theorem dX12_promise_117 : decode cX12_promise 117 = .ok (.bipush 7, 2) := by decide +kernel
theorem dX12_promise_119 : decode cX12_promise 119 = .ok (.iaload, 1) := by decide +kernel
theorem dX12_promise_120 : decode cX12_promise 120 = .ok (.imul, 1) := by decide +kernel
theorem dX12_promise_121 : decode cX12_promise 121 = .ok (.iadd, 1) := by decide +kernel
theorem dX12_promise_122 : decode cX12_promise 122 = .ok (.istore 6, 2) := by decide +kernel
theorem dX12_promise_124 : decode cX12_promise 124 = .ok (.aload_n 0, 1) := by decide +kernel
theorem dX12_promise_125 : decode cX12_promise 125 = .ok (.getfield 7, 3) := by decide +kernel
theorem dX12_promise_128 : decode cX12_promise 128 = .ok (.iload 6, 2) := by decide +kernel
theorem dX12_promise_130 : decode cX12_promise 130 = .ok (.iload_n 1, 1) := by decide +kernel
theorem dX12_promise_131 : decode cX12_promise 131 = .ok (.iastore, 1) := by decide +kernel
theorem dX12_promise_132 : decode cX12_promise 132 = .ok (.aload_n 0, 1) := by decide +kernel
theorem dX12_promise_133 : decode cX12_promise 133 = .ok (.getfield 7, 3) := by decide +kernel
theorem dX12_promise_136 : decode cX12_promise 136 = .ok (.iload 6, 2) := by decide +kernel
theorem dX12_promise_138 : decode cX12_promise 138 = .ok (.iconst 1, 1) := by decide +kernel
theorem dX12_promise_139 : decode cX12_promise 139 = .ok (.iadd, 1) := by decide +kernel
theorem dX12_promise_140 : decode cX12_promise 140 = .ok (.iload_n 2, 1) := by decide +kernel
theorem dX12_promise_141 : decode cX12_promise 141 = .ok (.iastore, 1) := by decide +kernel
theorem dX12_promise_142 : decode cX12_promise 142 = .ok (.aload_n 0, 1) := by decide +kernel
theorem dX12_promise_143 : decode cX12_promise 143 = .ok (.getfield 7, 3) := by decide +kernel
theorem dX12_promise_146 : decode cX12_promise 146 = .ok (.iload 6, 2) := by decide +kernel
theorem dX12_promise_148 : decode cX12_promise 148 = .ok (.iconst 2, 1) := by decide +kernel
theorem dX12_promise_149 : decode cX12_promise 149 = .ok (.iadd, 1) := by decide +kernel
theorem dX12_promise_150 : decode cX12_promise 150 = .ok (.iload_n 3, 1) := by decide +kernel
theorem dX12_promise_151 : decode cX12_promise 151 = .ok (.iastore, 1) := by decide +kernel
theorem dX12_promise_152 : decode cX12_promise 152 = .ok (.aload_n 0, 1) := by decide +kernel
theorem dX12_promise_153 : decode cX12_promise 153 = .ok (.getfield 7, 3) := by decide +kernel
theorem dX12_promise_156 : decode cX12_promise 156 = .ok (.iload 6, 2) := by decide +kernel
theorem dX12_promise_158 : decode cX12_promise 158 = .ok (.iconst 3, 1) := by decide +kernel
theorem dX12_promise_159 : decode cX12_promise 159 = .ok (.iadd, 1) := by decide +kernel
theorem dX12_promise_160 : decode cX12_promise 160 = .ok (.iload 4, 2) := by decide +kernel
theorem dX12_promise_162 : decode cX12_promise 162 = .ok (.iastore, 1) := by decide +kernel
theorem dX12_promise_163 : decode cX12_promise 163 = .ok (.aload_n 0, 1) := by decide +kernel
theorem dX12_promise_164 : decode cX12_promise 164 = .ok (.getfield 7, 3) := by decide +kernel
theorem dX12_promise_167 : decode cX12_promise 167 = .ok (.iload 6, 2) := by decide +kernel
theorem dX12_promise_169 : decode cX12_promise 169 = .ok (.iconst 4, 1) := by decide +kernel
theorem dX12_promise_170 : decode cX12_promise 170 = .ok (.iadd, 1) := by decide +kernel
theorem dX12_promise_171 : decode cX12_promise 171 = .ok (.iconst 0, 1) := by decide +kernel
theorem dX12_promise_172 : decode cX12_promise 172 = .ok (.iastore, 1) := by decide +kernel
theorem dX12_promise_173 : decode cX12_promise 173 = .ok (.aload_n 0, 1) := by decide +kernel
theorem dX12_promise_174 : decode cX12_promise 174 = .ok (.getfield 7, 3) := by decide +kernel
theorem dX12_promise_177 : decode cX12_promise 177 = .ok (.bipush 7, 2) := by decide +kernel
theorem dX12_promise_179 : decode cX12_promise 179 = .ok (.dup2, 1) := by decide +kernel
theorem dX12_promise_180 : decode cX12_promise 180 = .ok (.iaload, 1) := by decide +kernel
theorem dX12_promise_181 : decode cX12_promise 181 = .ok (.iconst 1, 1) := by decide +kernel
theorem dX12_promise_182 : decode cX12_promise 182 = .ok (.iadd, 1) := by decide +kernel
theorem dX12_promise_183 : decode cX12_promise 183 = .ok (.iastore, 1) := by decide +kernel
theorem dX12_promise_184 : decode cX12_promise 184 = .ok (.aload_n 0, 1) := by decide +kernel
theorem dX12_promise_185 : decode cX12_promise 185 = .ok (.invokevirtual 78, 3) := by decide +kernel
theorem dX12_promise_188 : decode cX12_promise 188 = .ok (.aload_n 0, 1) := by decide +kernel
theorem dX12_promise_189 : decode cX12_promise 189 = .ok (.getfield 7, 3) := by decide +kernel
theorem dX12_promise_192 : decode cX12_promise 192 = .ok (.bipush 7, 2) := by decide +kernel
theorem dX12_promise_194 : decode cX12_promise 194 = .ok (.iaload, 1) := by decide +kernel
theorem dX12_promise_195 : decode cX12_promise 195 = .ok (.iconst 1, 1) := by decide +kernel
theorem dX12_promise_196 : decode cX12_promise 196 = .ok (.isub, 1) := by decide +kernel
theorem dX12_promise_197 : decode cX12_promise 197 = .ok (.ireturn, 1) := by decide +kernel
theorem dX12_stands_0 : decode cX12_stands 0 = .ok (.aload_n 0, 1) := by decide +kernel
theorem dX12_stands_1 : decode cX12_stands 1 = .ok (.getfield 7, 3) := by decide +kernel
theorem dX12_stands_4 : decode cX12_stands 4 = .ok (.sipush 370, 3) := by decide +kernel
theorem dX12_stands_7 : decode cX12_stands 7 = .ok (.iconst 5, 1) := by decide +kernel
theorem dX12_stands_8 : decode cX12_stands 8 = .ok (.iload_n 1, 1) := by decide +kernel
theorem dX12_stands_9 : decode cX12_stands 9 = .ok (.imul, 1) := by decide +kernel
theorem dX12_stands_10 : decode cX12_stands 10 = .ok (.iadd, 1) := by decide +kernel
theorem dX12_stands_11 : decode cX12_stands 11 = .ok (.iconst 4, 1) := by decide +kernel
theorem dX12_stands_12 : decode cX12_stands 12 = .ok (.iadd, 1) := by decide +kernel
theorem dX12_stands_13 : decode cX12_stands 13 = .ok (.iaload, 1) := by decide +kernel
theorem dX12_stands_14 : decode cX12_stands 14 = .ok (.ifCond .ne 7, 3) := by decide +kernel
theorem dX12_stands_17 : decode cX12_stands 17 = .ok (.iconst 1, 1) := by decide +kernel
theorem dX12_stands_18 : decode cX12_stands 18 = .ok (.goto 4, 3) := by decide +kernel
theorem dX12_stands_21 : decode cX12_stands 21 = .ok (.iconst 0, 1) := by decide +kernel
theorem dX12_stands_22 : decode cX12_stands 22 = .ok (.ireturn, 1) := by decide +kernel
theorem dX12_drop_0 : decode cX12_drop 0 = .ok (.iload_n 1, 1) := by decide +kernel
theorem dX12_drop_1 : decode cX12_drop 1 = .ok (.iconst 0, 1) := by decide +kernel
theorem dX12_drop_2 : decode cX12_drop 2 = .ok (.aload_n 0, 1) := by decide +kernel
theorem dX12_drop_3 : decode cX12_drop 3 = .ok (.getfield 7, 3) := by decide +kernel
theorem dX12_drop_6 : decode cX12_drop 6 = .ok (.bipush 7, 2) := by decide +kernel
theorem dX12_drop_8 : decode cX12_drop 8 = .ok (.iaload, 1) := by decide +kernel
theorem dX12_drop_9 : decode cX12_drop 9 = .ok (.iconst 1, 1) := by decide +kernel
theorem dX12_drop_10 : decode cX12_drop 10 = .ok (.isub, 1) := by decide +kernel
theorem dX12_drop_11 : decode cX12_drop 11 = .ok (.invokestatic 70, 3) := by decide +kernel
theorem dX12_drop_14 : decode cX12_drop 14 = .ok (.ifCond .eq 11, 3) := by decide +kernel
theorem dX12_drop_17 : decode cX12_drop 17 = .ok (.aload_n 0, 1) := by decide +kernel
theorem dX12_drop_18 : decode cX12_drop 18 = .ok (.iload_n 1, 1) := by decide +kernel
theorem dX12_drop_19 : decode cX12_drop 19 = .ok (.invokevirtual 246, 3) := by decide +kernel
theorem dX12_drop_22 : decode cX12_drop 22 = .ok (.ifCond .ne 5, 3) := by decide +kernel
