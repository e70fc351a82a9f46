theorem dX11_noons_38 : decode cX11_noons 38 = .ok (.getfield 53, 3) := by decide +kernel
theorem dX11_noons_41 : decode cX11_noons 41 = .ok (.aload_n 0, 1) := by decide +kernel
theorem dX11_noons_42 : decode cX11_noons 42 = .ok (.getfield 12, 3) := by decide +kernel
theorem dX11_noons_45 : decode cX11_noons 45 = .ok (.invokevirtual 199, 3) := by decide +kernel
theorem dX11_noons_48 : decode cX11_noons 48 = .ok (.aload_n 0, 1) := by decide +kernel
theorem dX11_noons_49 : decode cX11_noons 49 = .ok (.invokevirtual 203, 3) := by decide +kernel
theorem dX11_noons_52 : decode cX11_noons 52 = .ok (.ifCond .eq 6, 3) := by decide +kernel
theorem dX11_noons_55 : decode cX11_noons 55 = .ok (.iinc 2 1, 3) := by decide +kernel
theorem dX11_noons_58 : decode cX11_noons 58 = .ok (.iinc 3 1, 3) := by decide +kernel
theorem dX11_noons_61 : decode cX11_noons 61 = .ok (.goto (-29), 3) := by decide +kernel
theorem dX11_noons_64 : decode cX11_noons 64 = .ok (.iload_n 2, 1) := by decide +kernel
theorem dX11_noons_65 : decode cX11_noons 65 = .ok (.ireturn, 1) := by decide +kernel
theorem dX11_passNoon_0 : decode cX11_passNoon 0 = .ok (.aload_n 0, 1) := by decide +kernel
theorem dX11_passNoon_1 : decode cX11_passNoon 1 = .ok (.getfield 12, 3) := by decide +kernel
theorem dX11_passNoon_4 : decode cX11_passNoon 4 = .ok (.getfield 82, 3) := by decide +kernel
theorem dX11_passNoon_7 : decode cX11_passNoon 7 = .ok (.getfield 207, 3) := by decide +kernel
theorem dX11_passNoon_10 : decode cX11_passNoon 10 = .ok (.astore_n 1, 1) := by decide +kernel
theorem dX11_passNoon_11 : decode cX11_passNoon 11 = .ok (.iconst 0, 1) := by decide +kernel
theorem dX11_passNoon_12 : decode cX11_passNoon 12 = .ok (.istore_n 2, 1) := by decide +kernel
theorem dX11_passNoon_13 : decode cX11_passNoon 13 = .ok (.iload_n 2, 1) := by decide +kernel
theorem dX11_passNoon_14 : decode cX11_passNoon 14 = .ok (.aload_n 0, 1) := by decide +kernel
theorem dX11_passNoon_15 : decode cX11_passNoon 15 = .ok (.getfield 12, 3) := by decide +kernel
theorem dX11_passNoon_18 : decode cX11_passNoon 18 = .ok (.getfield 82, 3) := by decide +kernel
theorem dX11_passNoon_21 : decode cX11_passNoon 21 = .ok (.getfield 86, 3) := by decide +kernel
theorem dX11_passNoon_24 : decode cX11_passNoon 24 = .ok (.if_icmp .ge 31, 3) := by decide +kernel
theorem dX11_passNoon_27 : decode cX11_passNoon 27 = .ok (.aload_n 1, 1) := by decide +kernel
theorem dX11_passNoon_28 : decode cX11_passNoon 28 = .ok (.iload_n 2, 1) := by decide +kernel
theorem dX11_passNoon_29 : decode cX11_passNoon 29 = .ok (.aload_n 0, 1) := by decide +kernel
theorem dX11_passNoon_30 : decode cX11_passNoon 30 = .ok (.aload_n 0, 1) := by decide +kernel
theorem dX11_passNoon_31 : decode cX11_passNoon 31 = .ok (.getfield 12, 3) := by decide +kernel
theorem dX11_passNoon_34 : decode cX11_passNoon 34 = .ok (.iload_n 2, 1) := by decide +kernel
theorem dX11_passNoon_35 : decode cX11_passNoon 35 = .ok (.aload_n 0, 1) := by decide +kernel
theorem dX11_passNoon_36 : decode cX11_passNoon 36 = .ok (.getfield 12, 3) := by decide +kernel
theorem dX11_passNoon_39 : decode cX11_passNoon 39 = .ok (.getfield 103, 3) := by decide +kernel
theorem dX11_passNoon_42 : decode cX11_passNoon 42 = .ok (.invokevirtual 191, 3) := by decide +kernel
theorem dX11_passNoon_45 : decode cX11_passNoon 45 = .ok (.invokevirtual 195, 3) := by decide +kernel
theorem dX11_passNoon_48 : decode cX11_passNoon 48 = .ok (.iastore, 1) := by decide +kernel
theorem dX11_passNoon_49 : decode cX11_passNoon 49 = .ok (.iinc 2 1, 3) := by decide +kernel
theorem dX11_passNoon_52 : decode cX11_passNoon 52 = .ok (.goto (-39), 3) := by decide +kernel
theorem dX11_passNoon_55 : decode cX11_passNoon 55 = .ok (.aload_n 0, 1) := by decide +kernel
theorem dX11_passNoon_56 : decode cX11_passNoon 56 = .ok (.getfield 12, 3) := by decide +kernel
theorem dX11_passNoon_59 : decode cX11_passNoon 59 = .ok (.getfield 109, 3) := by decide +kernel
theorem dX11_passNoon_62 : decode cX11_passNoon 62 = .ok (.ifCond .le 16, 3) := by decide +kernel
theorem dX11_passNoon_65 : decode cX11_passNoon 65 = .ok (.aload_n 0, 1) := by decide +kernel
theorem dX11_passNoon_66 : decode cX11_passNoon 66 = .ok (.getfield 12, 3) := by decide +kernel
theorem dX11_passNoon_69 : decode cX11_passNoon 69 = .ok (.getfield 82, 3) := by decide +kernel
theorem dX11_passNoon_72 : decode cX11_passNoon 72 = .ok (.invokevirtual 210, 3) := by decide +kernel
theorem dX11_passNoon_75 : decode cX11_passNoon 75 = .ok (.goto 4, 3) := by decide +kernel
theorem dX11_passNoon_78 : decode cX11_passNoon 78 = .ok (.iconst 0, 1) := by decide +kernel
theorem dX11_passNoon_79 : decode cX11_passNoon 79 = .ok (.istore_n 2, 1) := by decide +kernel
theorem dX11_passNoon_80 : decode cX11_passNoon 80 = .ok (.iload_n 2, 1) := by decide +kernel
theorem dX11_passNoon_81 : decode cX11_passNoon 81 = .ok (.ifCond .eq 11, 3) := by decide +kernel
theorem dX11_passNoon_84 : decode cX11_passNoon 84 = .ok (.aload_n 0, 1) := by decide +kernel
theorem dX11_passNoon_85 : decode cX11_passNoon 85 = .ok (.getfield 12, 3) := by decide +kernel
theorem dX11_passNoon_88 : decode cX11_passNoon 88 = .ok (.iload_n 2, 1) := by decide +kernel
theorem dX11_passNoon_89 : decode cX11_passNoon 89 = .ok (.invokevirtual 213, 3) := by decide +kernel
theorem dX11_passNoon_92 : decode cX11_passNoon 92 = .ok (.iconst 0, 1) := by decide +kernel
theorem dX11_passNoon_93 : decode cX11_passNoon 93 = .ok (.istore_n 3, 1) := by decide +kernel
theorem dX11_passNoon_94 : decode cX11_passNoon 94 = .ok (.iload_n 3, 1) := by decide +kernel
theorem dX11_passNoon_95 : decode cX11_passNoon 95 = .ok (.aload_n 0, 1) := by decide +kernel
theorem dX11_passNoon_96 : decode cX11_passNoon 96 = .ok (.getfield 12, 3) := by decide +kernel
theorem dX11_passNoon_99 : decode cX11_passNoon 99 = .ok (.getfield 82, 3) := by decide +kernel
theorem dX11_passNoon_102 : decode cX11_passNoon 102 = .ok (.getfield 86, 3) := by decide +kernel
theorem dX11_passNoon_105 : decode cX11_passNoon 105 = .ok (.if_icmp .ge 51, 3) := by decide +kernel
theorem dX11_passNoon_108 : decode cX11_passNoon 108 = .ok (.aload_n 0, 1) := by decide +kernel
theorem dX11_passNoon_109 : decode cX11_passNoon 109 = .ok (.getfield 12, 3) := by decide +kernel
theorem dX11_passNoon_112 : decode cX11_passNoon 112 = .ok (.getfield 82, 3) := by decide +kernel
theorem dX11_passNoon_115 : decode cX11_passNoon 115 = .ok (.getfield 172, 3) := by decide +kernel
theorem dX11_passNoon_118 : decode cX11_passNoon 118 = .ok (.iload_n 3, 1) := by decide +kernel
theorem dX11_passNoon_119 : decode cX11_passNoon 119 = .ok (.dup2, 1) := by decide +kernel
theorem dX11_passNoon_120 : decode cX11_passNoon 120 = .ok (.iaload, 1) := by decide +kernel
theorem dX11_passNoon_121 : decode cX11_passNoon 121 = .ok (.aload_n 0, 1) := by decide +kernel
theorem dX11_passNoon_122 : decode cX11_passNoon 122 = .ok (.getfield 30, 3) := by decide +kernel
theorem dX11_passNoon_125 : decode cX11_passNoon 125 = .ok (.aload_n 0, 1) := by decide +kernel
theorem dX11_passNoon_126 : decode cX11_passNoon 126 = .ok (.getfield 12, 3) := by decide +kernel
theorem dX11_passNoon_129 : decode cX11_passNoon 129 = .ok (.iload_n 3, 1) := by decide +kernel
theorem dX11_passNoon_130 : decode cX11_passNoon 130 = .ok (.aload_n 0, 1) := by decide +kernel
theorem dX11_passNoon_131 : decode cX11_passNoon 131 = .ok (.getfield 12, 3) := by decide +kernel
theorem dX11_passNoon_134 : decode cX11_passNoon 134 = .ok (.getfield 103, 3) := by decide +kernel
theorem dX11_passNoon_137 : decode cX11_passNoon 137 = .ok (.aload_n 0, 1) := by decide +kernel
theorem dX11_passNoon_138 : decode cX11_passNoon 138 = .ok (.getfield 12, 3) := by decide +kernel
theorem dX11_passNoon_141 : decode cX11_passNoon 141 = .ok (.getfield 100, 3) := by decide +kernel
theorem dX11_passNoon_144 : decode cX11_passNoon 144 = .ok (.iload_n 2, 1) := by decide +kernel
theorem dX11_passNoon_145 : decode cX11_passNoon 145 = .ok (.invokevirtual 152, 3) := by decide +kernel
theorem dX11_passNoon_148 : decode cX11_passNoon 148 = .ok (.iadd, 1) := by decide +kernel
theorem dX11_passNoon_149 : decode cX11_passNoon 149 = .ok (.iastore, 1) := by decide +kernel
theorem dX11_passNoon_150 : decode cX11_passNoon 150 = .ok (.iinc 3 1, 3) := by decide +kernel
theorem dX11_passNoon_153 : decode cX11_passNoon 153 = .ok (.goto (-59), 3) := by decide +kernel
theorem dX11_passNoon_156 : decode cX11_passNoon 156 = .ok (.aload_n 0, 1) := by decide +kernel
theorem dX11_passNoon_157 : decode cX11_passNoon 157 = .ok (.getfield 12, 3) := by decide +kernel
theorem dX11_passNoon_160 : decode cX11_passNoon 160 = .ok (.iload_n 2, 1) := by decide +kernel
theorem dX11_passNoon_161 : decode cX11_passNoon 161 = .ok (.invokevirtual 216, 3) := by decide +kernel
theorem dX11_passNoon_164 : decode cX11_passNoon 164 = .ok (.iload_n 2, 1) := by decide +kernel
theorem dX11_passNoon_165 : decode cX11_passNoon 165 = .ok (.ireturn, 1) := by decide +kernel
theorem dX11_voteOf_0 : decode cX11_voteOf 0 = .ok (.aload_n 0, 1) := by decide +kernel
theorem dX11_voteOf_1 : decode cX11_voteOf 1 = .ok (.getfield 12, 3) := by decide +kernel
theorem dX11_voteOf_4 : decode cX11_voteOf 4 = .ok (.getfield 175, 3) := by decide +kernel
theorem dX11_voteOf_7 : decode cX11_voteOf 7 = .ok (.iload_n 1, 1) := by decide +kernel
theorem dX11_voteOf_8 : decode cX11_voteOf 8 = .ok (.aload_n 0, 1) := by decide +kernel
theorem dX11_voteOf_9 : decode cX11_voteOf 9 = .ok (.getfield 12, 3) := by decide +kernel
theorem dX11_voteOf_12 : decode cX11_voteOf 12 = .ok (.getfield 103, 3) := by decide +kernel
theorem dX11_voteOf_15 : decode cX11_voteOf 15 = .ok (.invokevirtual 219, 3) := by decide +kernel
theorem dX11_voteOf_18 : decode cX11_voteOf 18 = .ok (.istore_n 2, 1) := by decide +kernel
theorem dX11_voteOf_19 : decode cX11_voteOf 19 = .ok (.iload_n 2, 1) := by decide +kernel
theorem dX11_voteOf_20 : decode cX11_voteOf 20 = .ok (.iconst (-1), 1) := by decide +kernel
theorem dX11_voteOf_21 : decode cX11_voteOf 21 = .ok (.if_icmp .eq 16, 3) := by decide +kernel
theorem dX11_voteOf_24 : decode cX11_voteOf 24 = .ok (.aload_n 0, 1) := by decide +kernel
theorem dX11_voteOf_25 : decode cX11_voteOf 25 = .ok (.getfield 12, 3) := by decide +kernel
theorem dX11_voteOf_28 : decode cX11_voteOf 28 = .ok (.getfield 175, 3) := by decide +kernel
theorem dX11_voteOf_31 : decode cX11_voteOf 31 = .ok (.getfield 222, 3) := by decide +kernel
theorem dX11_voteOf_34 : decode cX11_voteOf 34 = .ok (.iload_n 2, 1) := by decide +kernel
theorem dX11_voteOf_35 : decode cX11_voteOf 35 = .ok (.iaload, 1) := by decide +kernel
theorem dX11_voteOf_36 : decode cX11_voteOf 36 = .ok (.ireturn, 1) := by decide +kernel
theorem dX11_voteOf_37 : decode cX11_voteOf 37 = .ok (.iconst 0, 1) := by decide +kernel
theorem dX11_voteOf_38 : decode cX11_voteOf 38 = .ok (.istore_n 3, 1) := by decide +kernel
theorem dX11_voteOf_39 : decode cX11_voteOf 39 = .ok (.aload_n 0, 1) := by decide +kernel
theorem dX11_voteOf_40 : decode cX11_voteOf 40 = .ok (.getfield 30, 3) := by decide +kernel
theorem dX11_voteOf_43 : decode cX11_voteOf 43 = .ok (.aload_n 0, 1) := by decide +kernel
theorem dX11_voteOf_44 : decode cX11_voteOf 44 = .ok (.getfield 12, 3) := by decide +kernel
theorem dX11_voteOf_47 : decode cX11_voteOf 47 = .ok (.iload_n 1, 1) := by decide +kernel
theorem dX11_voteOf_48 : decode cX11_voteOf 48 = .ok (.aload_n 0, 1) := by decide +kernel
theorem dX11_voteOf_49 : decode cX11_voteOf 49 = .ok (.getfield 12, 3) := by decide +kernel
theorem dX11_voteOf_52 : decode cX11_voteOf 52 = .ok (.getfield 103, 3) := by decide +kernel
theorem dX11_voteOf_55 : decode cX11_voteOf 55 = .ok (.aload_n 0, 1) := by decide +kernel
theorem dX11_voteOf_56 : decode cX11_voteOf 56 = .ok (.getfield 12, 3) := by decide +kernel
theorem dX11_voteOf_59 : decode cX11_voteOf 59 = .ok (.getfield 100, 3) := by decide +kernel
theorem dX11_voteOf_62 : decode cX11_voteOf 62 = .ok (.iconst 0, 1) := by decide +kernel
theorem dX11_voteOf_63 : decode cX11_voteOf 63 = .ok (.invokevirtual 152, 3) := by decide +kernel
theorem dX11_voteOf_66 : decode cX11_voteOf 66 = .ok (.istore 4, 2) := by decide +kernel
theorem dX11_voteOf_68 : decode cX11_voteOf 68 = .ok (.iconst 1, 1) := by decide +kernel
theorem dX11_voteOf_69 : decode cX11_voteOf 69 = .ok (.istore 5, 2) := by decide +kernel
theorem dX11_voteOf_71 : decode cX11_voteOf 71 = .ok (.iload 5, 2) := by decide +kernel
theorem dX11_voteOf_73 : decode cX11_voteOf 73 = .ok (.getstatic 225, 3) := by decide +kernel
theorem dX11_voteOf_76 : decode cX11_voteOf 76 = .ok (.arraylength, 1) := by decide +kernel
theorem dX11_voteOf_77 : decode cX11_voteOf 77 = .ok (.if_icmp .ge 78, 3) := by decide +kernel
theorem dX11_voteOf_80 : decode cX11_voteOf 80 = .ok (.getstatic 225, 3) := by decide +kernel
theorem dX11_voteOf_83 : decode cX11_voteOf 83 = .ok (.iload 5, 2) := by decide +kernel
theorem dX11_voteOf_85 : decode cX11_voteOf 85 = .ok (.iaload, 1) := by decide +kernel
theorem dX11_voteOf_86 : decode cX11_voteOf 86 = .ok (.istore 6, 2) := by decide +kernel
theorem dX11_voteOf_88 : decode cX11_voteOf 88 = .ok (.aload_n 0, 1) := by decide +kernel
theorem dX11_voteOf_89 : decode cX11_voteOf 89 = .ok (.getfield 12, 3) := by decide +kernel
theorem dX11_voteOf_92 : decode cX11_voteOf 92 = .ok (.getfield 100, 3) := by decide +kernel
theorem dX11_voteOf_95 : decode cX11_voteOf 95 = .ok (.iload 6, 2) := by decide +kernel
theorem dX11_voteOf_97 : decode cX11_voteOf 97 = .ok (.iadd, 1) := by decide +kernel
theorem dX11_voteOf_98 : decode cX11_voteOf 98 = .ok (.aload_n 0, 1) := by decide +kernel
theorem dX11_voteOf_99 : decode cX11_voteOf 99 = .ok (.getfield 12, 3) := by decide +kernel
theorem dX11_voteOf_102 : decode cX11_voteOf 102 = .ok (.getfield 228, 3) := by decide +kernel
theorem dX11_voteOf_105 : decode cX11_voteOf 105 = .ok (.invokestatic 231, 3) := by decide +kernel
theorem dX11_voteOf_108 : decode cX11_voteOf 108 = .ok (.istore 7, 2) := by decide +kernel
theorem dX11_voteOf_110 : decode cX11_voteOf 110 = .ok (.aload_n 0, 1) := by decide +kernel
theorem dX11_voteOf_111 : decode cX11_voteOf 111 = .ok (.getfield 30, 3) := by decide +kernel
theorem dX11_voteOf_114 : decode cX11_voteOf 114 = .ok (.aload_n 0, 1) := by decide +kernel
theorem dX11_voteOf_115 : decode cX11_voteOf 115 = .ok (.getfield 12, 3) := by decide +kernel
theorem dX11_voteOf_118 : decode cX11_voteOf 118 = .ok (.iload_n 1, 1) := by decide +kernel
theorem dX11_voteOf_119 : decode cX11_voteOf 119 = .ok (.aload_n 0, 1) := by decide +kernel
theorem dX11_voteOf_120 : decode cX11_voteOf 120 = .ok (.getfield 12, 3) := by decide +kernel
theorem dX11_voteOf_123 : decode cX11_voteOf 123 = .ok (.getfield 103, 3) := by decide +kernel
theorem dX11_voteOf_126 : decode cX11_voteOf 126 = .ok (.iload 7, 2) := by decide +kernel
theorem dX11_voteOf_128 : decode cX11_voteOf 128 = .ok (.iload 6, 2) := by decide +kernel
theorem dX11_voteOf_130 : decode cX11_voteOf 130 = .ok (.invokevirtual 152, 3) := by decide +kernel
theorem dX11_voteOf_133 : decode cX11_voteOf 133 = .ok (.istore 8, 2) := by decide +kernel
theorem dX11_voteOf_135 : decode cX11_voteOf 135 = .ok (.iload 8, 2) := by decide +kernel
theorem dX11_voteOf_137 : decode cX11_voteOf 137 = .ok (.iload 4, 2) := by decide +kernel
theorem dX11_voteOf_139 : decode cX11_voteOf 139 = .ok (.if_icmp .le 10, 3) := by decide +kernel
theorem dX11_voteOf_142 : decode cX11_voteOf 142 = .ok (.iload 8, 2) := by decide +kernel
theorem dX11_voteOf_144 : decode cX11_voteOf 144 = .ok (.istore 4, 2) := by decide +kernel
theorem dX11_voteOf_146 : decode cX11_voteOf 146 = .ok (.iload 6, 2) := by decide +kernel
theorem dX11_voteOf_148 : decode cX11_voteOf 148 = .ok (.istore_n 3, 1) := by decide +kernel
theorem dX11_voteOf_149 : decode cX11_voteOf 149 = .ok (.iinc 5 1, 3) := by decide +kernel
theorem dX11_voteOf_152 : decode cX11_voteOf 152 = .ok (.goto (-81), 3) := by decide +kernel
theorem dX11_voteOf_155 : decode cX11_voteOf 155 = .ok (.iload_n 3, 1) := by decide +kernel
theorem dX11_voteOf_156 : decode cX11_voteOf 156 = .ok (.ireturn, 1) := by decide +kernel
theorem dX11_of_0 : decode cX11_of 0 = .ok (.aload_n 0, 1) := by decide +kernel
theorem dX11_of_1 : decode cX11_of 1 = .ok (.getfield 12, 3) := by decide +kernel
theorem dX11_of_4 : decode cX11_of 4 = .ok (.getfield 82, 3) := by decide +kernel
theorem dX11_of_7 : decode cX11_of 7 = .ok (.iload_n 1, 1) := by decide +kernel
theorem dX11_of_8 : decode cX11_of 8 = .ok (.invokevirtual 145, 3) := by decide +kernel
theorem dX11_of_11 : decode cX11_of 11 = .ok (.ifCond .ne 6, 3) := by decide +kernel
theorem dX11_of_14 : decode cX11_of 14 = .ok (.ldc 151, 2) := by decide +kernel
theorem dX11_of_16 : decode cX11_of 16 = .ok (.ireturn, 1) := by decide +kernel
theorem dX11_of_17 : decode cX11_of 17 = .ok (.iload_n 2, 1) := by decide +kernel
theorem dX11_of_18 : decode cX11_of 18 = .ok (.tableswitch 136 0 6 #[42, 55, 68, 81, 94, 110, 123], 42) := by decide +kernel
theorem dX11_of_60 : decode cX11_of 60 = .ok (.aload_n 0, 1) := by decide +kernel
theorem dX11_of_61 : decode cX11_of 61 = .ok (.getfield 12, 3) := by decide +kernel
theorem dX11_of_64 : decode cX11_of 64 = .ok (.getfield 82, 3) := by decide +kernel
theorem dX11_of_67 : decode cX11_of 67 = .ok (.getfield 234, 3) := by decide +kernel
theorem dX11_of_70 : decode cX11_of 70 = .ok (.iload_n 1, 1) := by decide +kernel
theorem dX11_of_71 : decode cX11_of 71 = .ok (.iaload, 1) := by decide +kernel
theorem dX11_of_72 : decode cX11_of 72 = .ok (.ireturn, 1) := by decide +kernel
theorem dX11_of_73 : decode cX11_of 73 = .ok (.aload_n 0, 1) := by decide +kernel
theorem dX11_of_74 : decode cX11_of 74 = .ok (.getfield 12, 3) := by decide +kernel
theorem dX11_of_77 : decode cX11_of 77 = .ok (.getfield 82, 3) := by decide +kernel
theorem dX11_of_80 : decode cX11_of 80 = .ok (.getfield 237, 3) := by decide +kernel
theorem dX11_of_83 : decode cX11_of 83 = .ok (.iload_n 1, 1) := by decide +kernel
theorem dX11_of_84 : decode cX11_of 84 = .ok (.iaload, 1) := by decide +kernel
theorem dX11_of_85 : decode cX11_of 85 = .ok (.ireturn, 1) := by decide +kernel
theorem dX11_of_86 : decode cX11_of 86 = .ok (.aload_n 0, 1) := by decide +kernel
theorem dX11_of_87 : decode cX11_of 87 = .ok (.getfield 12, 3) := by decide +kernel
theorem dX11_of_90 : decode cX11_of 90 = .ok (.getfield 82, 3) := by decide +kernel
theorem dX11_of_93 : decode cX11_of 93 = .ok (.getfield 240, 3) := by decide +kernel
theorem dX11_of_96 : decode cX11_of 96 = .ok (.iload_n 1, 1) := by decide +kernel
theorem dX11_of_97 : decode cX11_of 97 = .ok (.iaload, 1) := by decide +kernel
theorem dX11_of_98 : decode cX11_of 98 = .ok (.ireturn, 1) := by decide +kernel
theorem dX11_of_99 : decode cX11_of 99 = .ok (.aload_n 0, 1) := by decide +kernel
theorem dX11_of_100 : decode cX11_of 100 = .ok (.getfield 12, 3) := by decide +kernel
theorem dX11_of_103 : decode cX11_of 103 = .ok (.getfield 82, 3) := by decide +kernel
theorem dX11_of_106 : decode cX11_of 106 = .ok (.getfield 172, 3) := by decide +kernel
theorem dX11_of_109 : decode cX11_of 109 = .ok (.iload_n 1, 1) := by decide +kernel
theorem dX11_of_110 : decode cX11_of 110 = .ok (.iaload, 1) := by decide +kernel
theorem dX11_of_111 : decode cX11_of 111 = .ok (.ireturn, 1) := by decide +kernel
theorem dX11_of_112 : decode cX11_of 112 = .ok (.aload_n 0, 1) := by decide +kernel
theorem dX11_of_113 : decode cX11_of 113 = .ok (.getfield 12, 3) := by decide +kernel
theorem dX11_of_116 : decode cX11_of 116 = .ok (.iload_n 1, 1) := by decide +kernel
theorem dX11_of_117 : decode cX11_of 117 = .ok (.aload_n 0, 1) := by decide +kernel
theorem dX11_of_118 : decode cX11_of 118 = .ok (.getfield 12, 3) := by decide +kernel
theorem dX11_of_121 : decode cX11_of 121 = .ok (.getfield 100, 3) := by decide +kernel
theorem dX11_of_124 : decode cX11_of 124 = .ok (.invokevirtual 243, 3) := by decide +kernel
theorem dX11_of_127 : decode cX11_of 127 = .ok (.ireturn, 1) := by decide +kernel
theorem dX11_of_128 : decode cX11_of 128 = .ok (.aload_n 0, 1) := by decide +kernel
theorem dX11_of_129 : decode cX11_of 129 = .ok (.getfield 12, 3) := by decide +kernel
theorem dX11_of_132 : decode cX11_of 132 = .ok (.getfield 82, 3) := by decide +kernel
theorem dX11_of_135 : decode cX11_of 135 = .ok (.iload_n 1, 1) := by decide +kernel
theorem dX11_of_136 : decode cX11_of 136 = .ok (.iconst 1, 1) := by decide +kernel
theorem dX11_of_137 : decode cX11_of 137 = .ok (.invokevirtual 246, 3) := by decide +kernel
theorem dX11_of_140 : decode cX11_of 140 = .ok (.ireturn, 1) := by decide +kernel
theorem dX11_of_141 : decode cX11_of 141 = .ok (.aload_n 0, 1) := by decide +kernel
theorem dX11_of_142 : decode cX11_of 142 = .ok (.getfield 12, 3) := by decide +kernel
theorem dX11_of_145 : decode cX11_of 145 = .ok (.getfield 82, 3) := by decide +kernel
theorem dX11_of_148 : decode cX11_of 148 = .ok (.iload_n 1, 1) := by decide +kernel
theorem dX11_of_149 : decode cX11_of 149 = .ok (.iconst 0, 1) := by decide +kernel
theorem dX11_of_150 : decode cX11_of 150 = .ok (.invokevirtual 246, 3) := by decide +kernel
theorem dX11_of_153 : decode cX11_of 153 = .ok (.ireturn, 1) := by decide +kernel
theorem dX11_of_154 : decode cX11_of 154 = .ok (.ldc 151, 2) := by decide +kernel
theorem dX11_of_156 : decode cX11_of 156 = .ok (.ireturn, 1) := by decide +kernel
theorem dX11_turned_0 : decode cX11_turned 0 = .ok (.iload_n 1, 1) := by decide +kernel
theorem dX11_turned_1 : decode cX11_turned 1 = .ok (.aload_n 0, 1) := by decide +kernel
theorem dX11_turned_2 : decode cX11_turned 2 = .ok (.getfield 12, 3) := by decide +kernel
theorem dX11_turned_5 : decode cX11_turned 5 = .ok (.getfield 103, 3) := by decide +kernel
theorem dX11_turned_8 : decode cX11_turned 8 = .ok (.if_icmp .ge 22, 3) := by decide +kernel
theorem dX11_turned_11 : decode cX11_turned 11 = .ok (.iload_n 1, 1) := by decide +kernel
theorem dX11_turned_12 : decode cX11_turned 12 = .ok (.aload_n 0, 1) := by decide +kernel
theorem dX11_turned_13 : decode cX11_turned 13 = .ok (.getfield 12, 3) := by decide +kernel
theorem dX11_turned_16 : decode cX11_turned 16 = .ok (.getfield 103, 3) := by decide +kernel
theorem dX11_turned_19 : decode cX11_turned 19 = .ok (.aload_n 0, 1) := by decide +kernel
theorem dX11_turned_20 : decode cX11_turned 20 = .ok (.getfield 12, 3) := by decide +kernel
theorem dX11_turned_23 : decode cX11_turned 23 = .ok (.getfield 106, 3) := by decide +kernel
theorem dX11_turned_26 : decode cX11_turned 26 = .ok (.isub, 1) := by decide +kernel
theorem dX11_turned_27 : decode cX11_turned 27 = .ok (.if_icmp .ge 5, 3) := by decide +kernel
theorem dX11_turned_30 : decode cX11_turned 30 = .ok (.iconst (-1), 1) := by decide +kernel
theorem dX11_turned_31 : decode cX11_turned 31 = .ok (.ireturn, 1) := by decide +kernel
theorem dX11_turned_32 : decode cX11_turned 32 = .ok (.aload_n 0, 1) := by decide +kernel
theorem dX11_turned_33 : decode cX11_turned 33 = .ok (.getfield 12, 3) := by decide +kernel
theorem dX11_turned_36 : decode cX11_turned 36 = .ok (.getfield 250, 3) := by decide +kernel
theorem dX11_turned_39 : decode cX11_turned 39 = .ok (.iload_n 1, 1) := by decide +kernel
theorem dX11_turned_40 : decode cX11_turned 40 = .ok (.invokestatic 253, 3) := by decide +kernel
theorem dX11_turned_43 : decode cX11_turned 43 = .ok (.iaload, 1) := by decide +kernel
theorem dX11_turned_44 : decode cX11_turned 44 = .ok (.iconst 2, 1) := by decide +kernel
theorem dX11_turned_45 : decode cX11_turned 45 = .ok (.iadd, 1) := by decide +kernel
theorem dX11_turned_46 : decode cX11_turned 46 = .ok (.ireturn, 1) := by decide +kernel
theorem dX11_best_0 : decode cX11_best 0 = .ok (.iload_n 1, 1) := by decide +kernel
theorem dX11_best_1 : decode cX11_best 1 = .ok (.iconst 1, 1) := by decide +kernel
theorem dX11_best_2 : decode cX11_best 2 = .ok (.bipush 30, 2) := by decide +kernel
theorem dX11_best_4 : decode cX11_best 4 = .ok (.invokestatic 60, 3) := by decide +kernel
theorem dX11_best_7 : decode cX11_best 7 = .ok (.ifCond .eq 15, 3) := by decide +kernel
theorem dX11_best_10 : decode cX11_best 10 = .ok (.iload_n 2, 1) := by decide +kernel
theorem dX11_best_11 : decode cX11_best 11 = .ok (.ifCond .eq 15, 3) := by decide +kernel
theorem dX11_best_14 : decode cX11_best 14 = .ok (.iload_n 2, 1) := by decide +kernel
theorem dX11_best_15 : decode cX11_best 15 = .ok (.iload_n 1, 1) := by decide +kernel
theorem dX11_best_16 : decode cX11_best 16 = .ok (.invokestatic 256, 3) := by decide +kernel
theorem dX11_best_19 : decode cX11_best 19 = .ok (.ifCond .ne 7, 3) := by decide +kernel
theorem dX11_best_22 : decode cX11_best 22 = .ok (.ldc_w 259, 3) := by decide +kernel
theorem dX11_best_25 : decode cX11_best 25 = .ok (.ireturn, 1) := by decide +kernel
theorem dX11_best_26 : decode cX11_best 26 = .ok (.aload_n 0, 1) := by decide +kernel
theorem dX11_best_27 : decode cX11_best 27 = .ok (.getfield 39, 3) := by decide +kernel
theorem dX11_best_30 : decode cX11_best 30 = .ok (.aload_n 0, 1) := by decide +kernel
theorem dX11_best_31 : decode cX11_best 31 = .ok (.getfield 12, 3) := by decide +kernel
theorem dX11_best_34 : decode cX11_best 34 = .ok (.iload_n 1, 1) := by decide +kernel
theorem dX11_best_35 : decode cX11_best 35 = .ok (.invokevirtual 260, 3) := by decide +kernel
theorem dX11_best_38 : decode cX11_best 38 = .ok (.istore_n 3, 1) := by decide +kernel
theorem dX11_best_39 : decode cX11_best 39 = .ok (.iload_n 2, 1) := by decide +kernel
theorem dX11_best_40 : decode cX11_best 40 = .ok (.ifCond .ne 7, 3) := by decide +kernel
theorem dX11_best_43 : decode cX11_best 43 = .ok (.iload_n 3, 1) := by decide +kernel
theorem dX11_best_44 : decode cX11_best 44 = .ok (.goto 17, 3) := by decide +kernel
theorem dX11_best_47 : decode cX11_best 47 = .ok (.aload_n 0, 1) := by decide +kernel
theorem dX11_best_48 : decode cX11_best 48 = .ok (.getfield 39, 3) := by decide +kernel
theorem dX11_best_51 : decode cX11_best 51 = .ok (.getfield 264, 3) := by decide +kernel
theorem dX11_best_54 : decode cX11_best 54 = .ok (.iload_n 2, 1) := by decide +kernel
theorem dX11_best_55 : decode cX11_best 55 = .ok (.bipush 10, 2) := by decide +kernel
theorem dX11_best_57 : decode cX11_best 57 = .ok (.isub, 1) := by decide +kernel
theorem dX11_best_58 : decode cX11_best 58 = .ok (.iaload, 1) := by decide +kernel
theorem dX11_best_59 : decode cX11_best 59 = .ok (.iconst 2, 1) := by decide +kernel
theorem dX11_best_60 : decode cX11_best 60 = .ok (.iadd, 1) := by decide +kernel
theorem dX11_best_61 : decode cX11_best 61 = .ok (.ireturn, 1) := by decide +kernel
theorem dX11_fair_0 : decode cX11_fair 0 = .ok (.iload_n 1, 1) := by decide +kernel
theorem dX11_fair_1 : decode cX11_fair 1 = .ok (.iconst 1, 1) := by decide +kernel
theorem dX11_fair_2 : decode cX11_fair 2 = .ok (.bipush 6, 2) := by decide +kernel
theorem dX11_fair_4 : decode cX11_fair 4 = .ok (.invokestatic 60, 3) := by decide +kernel
theorem dX11_fair_7 : decode cX11_fair 7 = .ok (.ifCond .eq 20, 3) := by decide +kernel
theorem dX11_fair_10 : decode cX11_fair 10 = .ok (.iload_n 2, 1) := by decide +kernel
theorem dX11_fair_11 : decode cX11_fair 11 = .ok (.ifCond .eq 20, 3) := by decide +kernel
theorem dX11_fair_14 : decode cX11_fair 14 = .ok (.iload_n 2, 1) := by decide +kernel
theorem dX11_fair_15 : decode cX11_fair 15 = .ok (.iconst 1, 1) := by decide +kernel
theorem dX11_fair_16 : decode cX11_fair 16 = .ok (.if_icmp .eq 15, 3) := by decide +kernel
theorem dX11_fair_19 : decode cX11_fair 19 = .ok (.iload_n 2, 1) := by decide +kernel
theorem dX11_fair_20 : decode cX11_fair 20 = .ok (.iload_n 1, 1) := by decide +kernel
theorem dX11_fair_21 : decode cX11_fair 21 = .ok (.invokestatic 256, 3) := by decide +kernel
theorem dX11_fair_24 : decode cX11_fair 24 = .ok (.ifCond .ne 7, 3) := by decide +kernel
theorem dX11_fair_27 : decode cX11_fair 27 = .ok (.ldc_w 259, 3) := by decide +kernel
theorem dX11_fair_30 : decode cX11_fair 30 = .ok (.ireturn, 1) := by decide +kernel
theorem dX11_fair_31 : decode cX11_fair 31 = .ok (.aload_n 0, 1) := by decide +kernel
theorem dX11_fair_32 : decode cX11_fair 32 = .ok (.getfield 39, 3) := by decide +kernel
theorem dX11_fair_35 : decode cX11_fair 35 = .ok (.aload_n 0, 1) := by decide +kernel
theorem dX11_fair_36 : decode cX11_fair 36 = .ok (.getfield 12, 3) := by decide +kernel
theorem dX11_fair_39 : decode cX11_fair 39 = .ok (.iload_n 1, 1) := by decide +kernel
theorem dX11_fair_40 : decode cX11_fair 40 = .ok (.invokevirtual 267, 3) := by decide +kernel
theorem dX11_fair_43 : decode cX11_fair 43 = .ok (.iload_n 2, 1) := by decide +kernel
theorem dX11_fair_44 : decode cX11_fair 44 = .ok (.ifCond .ne 11, 3) := by decide +kernel
theorem dX11_fair_47 : decode cX11_fair 47 = .ok (.aload_n 0, 1) := by decide +kernel
theorem dX11_fair_48 : decode cX11_fair 48 = .ok (.getfield 39, 3) := by decide +kernel
theorem dX11_fair_51 : decode cX11_fair 51 = .ok (.getfield 271, 3) := by decide +kernel
theorem dX11_fair_54 : decode cX11_fair 54 = .ok (.ireturn, 1) := by decide +kernel
theorem dX11_fair_55 : decode cX11_fair 55 = .ok (.iload_n 2, 1) := by decide +kernel
theorem dX11_fair_56 : decode cX11_fair 56 = .ok (.iconst 1, 1) := by decide +kernel
theorem dX11_fair_57 : decode cX11_fair 57 = .ok (.if_icmp .ne 13, 3) := by decide +kernel
theorem dX11_fair_60 : decode cX11_fair 60 = .ok (.aload_n 0, 1) := by decide +kernel
theorem dX11_fair_61 : decode cX11_fair 61 = .ok (.getfield 39, 3) := by decide +kernel
theorem dX11_fair_64 : decode cX11_fair 64 = .ok (.getfield 274, 3) := by decide +kernel
theorem dX11_fair_67 : decode cX11_fair 67 = .ok (.goto 17, 3) := by decide +kernel
theorem dX11_fair_70 : decode cX11_fair 70 = .ok (.aload_n 0, 1) := by decide +kernel
theorem dX11_fair_71 : decode cX11_fair 71 = .ok (.getfield 39, 3) := by decide +kernel
theorem dX11_fair_74 : decode cX11_fair 74 = .ok (.getfield 264, 3) := by decide +kernel
theorem dX11_fair_77 : decode cX11_fair 77 = .ok (.iload_n 2, 1) := by decide +kernel
theorem dX11_fair_78 : decode cX11_fair 78 = .ok (.bipush 10, 2) := by decide +kernel
theorem dX11_fair_80 : decode cX11_fair 80 = .ok (.isub, 1) := by decide +kernel
theorem dX11_fair_81 : decode cX11_fair 81 = .ok (.iaload, 1) := by decide +kernel
theorem dX11_fair_82 : decode cX11_fair 82 = .ok (.iconst 2, 1) := by decide +kernel
theorem dX11_fair_83 : decode cX11_fair 83 = .ok (.iadd, 1) := by decide +kernel
theorem dX11_fair_84 : decode cX11_fair 84 = .ok (.ireturn, 1) := by decide +kernel
theorem dX11_alone_0 : decode cX11_alone 0 = .ok (.iload_n 1, 1) := by decide +kernel
theorem dX11_alone_1 : decode cX11_alone 1 = .ok (.iconst 1, 1) := by decide +kernel
theorem dX11_alone_2 : decode cX11_alone 2 = .ok (.aload_n 0, 1) := by decide +kernel
theorem dX11_alone_3 : decode cX11_alone 3 = .ok (.getfield 12, 3) := by decide +kernel
theorem dX11_alone_6 : decode cX11_alone 6 = .ok (.getfield 82, 3) := by decide +kernel
theorem dX11_alone_9 : decode cX11_alone 9 = .ok (.invokevirtual 277, 3) := by decide +kernel
theorem dX11_alone_12 : decode cX11_alone 12 = .ok (.invokestatic 60, 3) := by decide +kernel
theorem dX11_alone_15 : decode cX11_alone 15 = .ok (.ifCond .eq 13, 3) := by decide +kernel
theorem dX11_alone_18 : decode cX11_alone 18 = .ok (.iload_n 2, 1) := by decide +kernel
theorem dX11_alone_19 : decode cX11_alone 19 = .ok (.iconst 1, 1) := by decide +kernel
theorem dX11_alone_20 : decode cX11_alone 20 = .ok (.bipush 6, 2) := by decide +kernel
theorem dX11_alone_22 : decode cX11_alone 22 = .ok (.invokestatic 60, 3) := by decide +kernel
theorem dX11_alone_25 : decode cX11_alone 25 = .ok (.ifCond .ne 7, 3) := by decide +kernel
theorem dX11_alone_28 : decode cX11_alone 28 = .ok (.ldc_w 259, 3) := by decide +kernel
theorem dX11_alone_31 : decode cX11_alone 31 = .ok (.ireturn, 1) := by decide +kernel
theorem dX11_alone_32 : decode cX11_alone 32 = .ok (.aload_n 0, 1) := by decide +kernel
theorem dX11_alone_33 : decode cX11_alone 33 = .ok (.getfield 39, 3) := by decide +kernel
theorem dX11_alone_36 : decode cX11_alone 36 = .ok (.aload_n 0, 1) := by decide +kernel
theorem dX11_alone_37 : decode cX11_alone 37 = .ok (.getfield 12, 3) := by decide +kernel
theorem dX11_alone_40 : decode cX11_alone 40 = .ok (.iload_n 1, 1) := by decide +kernel
theorem dX11_alone_41 : decode cX11_alone 41 = .ok (.iload_n 2, 1) := by decide +kernel
theorem dX11_alone_42 : decode cX11_alone 42 = .ok (.invokevirtual 280, 3) := by decide +kernel
theorem dX11_alone_45 : decode cX11_alone 45 = .ok (.ireturn, 1) := by decide +kernel
theorem dX11_pay_0 : decode cX11_pay 0 = .ok (.aload_n 0, 1) := by decide +kernel
theorem dX11_pay_1 : decode cX11_pay 1 = .ok (.getfield 12, 3) := by decide +kernel
theorem dX11_pay_4 : decode cX11_pay 4 = .ok (.getfield 82, 3) := by decide +kernel
theorem dX11_pay_7 : decode cX11_pay 7 = .ok (.iload_n 1, 1) := by decide +kernel
theorem dX11_pay_8 : decode cX11_pay 8 = .ok (.invokevirtual 145, 3) := by decide +kernel
theorem dX11_pay_11 : decode cX11_pay 11 = .ok (.ifCond .eq 14, 3) := by decide +kernel
theorem dX11_pay_14 : decode cX11_pay 14 = .ok (.iload_n 2, 1) := by decide +kernel
theorem dX11_pay_15 : decode cX11_pay 15 = .ok (.ldc 80, 2) := by decide +kernel
theorem dX11_pay_17 : decode cX11_pay 17 = .ok (.ldc 81, 2) := by decide +kernel
theorem dX11_pay_19 : decode cX11_pay 19 = .ok (.invokestatic 60, 3) := by decide +kernel
theorem dX11_pay_22 : decode cX11_pay 22 = .ok (.ifCond .ne 5, 3) := by decide +kernel
theorem dX11_pay_25 : decode cX11_pay 25 = .ok (.iconst 0, 1) := by decide +kernel
theorem dX11_pay_26 : decode cX11_pay 26 = .ok (.ireturn, 1) := by decide +kernel
theorem dX11_pay_27 : decode cX11_pay 27 = .ok (.aload_n 0, 1) := by decide +kernel
theorem dX11_pay_28 : decode cX11_pay 28 = .ok (.getfield 12, 3) := by decide +kernel
theorem dX11_pay_31 : decode cX11_pay 31 = .ok (.getfield 82, 3) := by decide +kernel
theorem dX11_pay_34 : decode cX11_pay 34 = .ok (.getfield 284, 3) := by decide +kernel
theorem dX11_pay_37 : decode cX11_pay 37 = .ok (.iload_n 1, 1) := by decide +kernel
theorem dX11_pay_38 : decode cX11_pay 38 = .ok (.iload_n 2, 1) := by decide +kernel
theorem dX11_pay_39 : decode cX11_pay 39 = .ok (.iastore, 1) := by decide +kernel
theorem dX11_pay_40 : decode cX11_pay 40 = .ok (.iconst 1, 1) := by decide +kernel
theorem dX11_pay_41 : decode cX11_pay 41 = .ok (.ireturn, 1) := by decide +kernel
theorem dX11_leave_0 : decode cX11_leave 0 = .ok (.iload_n 1, 1) := by decide +kernel
theorem dX11_leave_1 : decode cX11_leave 1 = .ok (.iconst 1, 1) := by decide +kernel
theorem dX11_leave_2 : decode cX11_leave 2 = .ok (.bipush 6, 2) := by decide +kernel
theorem dX11_leave_4 : decode cX11_leave 4 = .ok (.invokestatic 60, 3) := by decide +kernel
theorem dX11_leave_7 : decode cX11_leave 7 = .ok (.ifCond .eq 18, 3) := by decide +kernel
theorem dX11_leave_10 : decode cX11_leave 10 = .ok (.aload_n 0, 1) := by decide +kernel
theorem dX11_leave_11 : decode cX11_leave 11 = .ok (.getfield 39, 3) := by decide +kernel
theorem dX11_leave_14 : decode cX11_leave 14 = .ok (.aload_n 0, 1) := by decide +kernel
theorem dX11_leave_15 : decode cX11_leave 15 = .ok (.getfield 12, 3) := by decide +kernel
theorem dX11_leave_18 : decode cX11_leave 18 = .ok (.iload_n 1, 1) := by decide +kernel
theorem dX11_leave_19 : decode cX11_leave 19 = .ok (.invokevirtual 287, 3) := by decide +kernel
theorem dX11_leave_22 : decode cX11_leave 22 = .ok (.goto 4, 3) := by decide +kernel
theorem dX11_leave_25 : decode cX11_leave 25 = .ok (.iconst (-1), 1) := by decide +kernel
theorem dX11_leave_26 : decode cX11_leave 26 = .ok (.ireturn, 1) := by decide +kernel
theorem dX11_quarrel_0 : decode cX11_quarrel 0 = .ok (.aload_n 0, 1) := by decide +kernel
theorem dX11_quarrel_1 : decode cX11_quarrel 1 = .ok (.getfield 12, 3) := by decide +kernel
theorem dX11_quarrel_4 : decode cX11_quarrel 4 = .ok (.getfield 175, 3) := by decide +kernel
theorem dX11_quarrel_7 : decode cX11_quarrel 7 = .ok (.invokevirtual 290, 3) := by decide +kernel
theorem dX11_quarrel_10 : decode cX11_quarrel 10 = .ok (.ireturn, 1) := by decide +kernel
theorem dX11_fewest_0 : decode cX11_fewest 0 = .ok (.aload_n 0, 1) := by decide +kernel
theorem dX11_fewest_1 : decode cX11_fewest 1 = .ok (.getfield 12, 3) := by decide +kernel
theorem dX11_fewest_4 : decode cX11_fewest 4 = .ok (.getfield 82, 3) := by decide +kernel
theorem dX11_fewest_7 : decode cX11_fewest 7 = .ok (.iload_n 1, 1) := by decide +kernel
theorem dX11_fewest_8 : decode cX11_fewest 8 = .ok (.invokevirtual 145, 3) := by decide +kernel
theorem dX11_fewest_11 : decode cX11_fewest 11 = .ok (.ifCond .eq 17, 3) := by decide +kernel
theorem dX11_fewest_14 : decode cX11_fewest 14 = .ok (.aload_n 0, 1) := by decide +kernel
theorem dX11_fewest_15 : decode cX11_fewest 15 = .ok (.getfield 12, 3) := by decide +kernel
theorem dX11_fewest_18 : decode cX11_fewest 18 = .ok (.getfield 175, 3) := by decide +kernel
theorem dX11_fewest_21 : decode cX11_fewest 21 = .ok (.iload_n 1, 1) := by decide +kernel
theorem dX11_fewest_22 : decode cX11_fewest 22 = .ok (.invokevirtual 293, 3) := by decide +kernel
theorem dX11_fewest_25 : decode cX11_fewest 25 = .ok (.goto 4, 3) := by decide +kernel
theorem dX11_fewest_28 : decode cX11_fewest 28 = .ok (.iconst (-1), 1) := by decide +kernel
theorem dX11_fewest_29 : decode cX11_fewest 29 = .ok (.ireturn, 1) := by decide +kernel
theorem dX11_plan_0 : decode cX11_plan 0 = .ok (.iload_n 1, 1) := by decide +kernel
theorem dX11_plan_1 : decode cX11_plan 1 = .ok (.iconst 0, 1) := by decide +kernel
theorem dX11_plan_2 : decode cX11_plan 2 = .ok (.bipush 59, 2) := by decide +kernel
theorem dX11_plan_4 : decode cX11_plan 4 = .ok (.invokestatic 60, 3) := by decide +kernel
theorem dX11_plan_7 : decode cX11_plan 7 = .ok (.ifCond .eq 10, 3) := by decide +kernel
theorem dX11_plan_10 : decode cX11_plan 10 = .ok (.iload_n 2, 1) := by decide +kernel
theorem dX11_plan_11 : decode cX11_plan 11 = .ok (.invokestatic 148, 3) := by decide +kernel
theorem dX11_plan_14 : decode cX11_plan 14 = .ok (.ifCond .ne 5, 3) := by decide +kernel
theorem dX11_plan_17 : decode cX11_plan 17 = .ok (.iconst 0, 1) := by decide +kernel
theorem dX11_plan_18 : decode cX11_plan 18 = .ok (.ireturn, 1) := by decide +kernel
theorem dX11_plan_19 : decode cX11_plan 19 = .ok (.aload_n 0, 1) := by decide +kernel
theorem dX11_plan_20 : decode cX11_plan 20 = .ok (.getfield 12, 3) := by decide +kernel
theorem dX11_plan_23 : decode cX11_plan 23 = .ok (.getfield 296, 3) := by decide +kernel
theorem dX11_plan_26 : decode cX11_plan 26 = .ok (.iload_n 1, 1) := by decide +kernel
theorem dX11_plan_27 : decode cX11_plan 27 = .ok (.iload_n 2, 1) := by decide +kernel
theorem dX11_plan_28 : decode cX11_plan 28 = .ok (.iastore, 1) := by decide +kernel
theorem dX11_plan_29 : decode cX11_plan 29 = .ok (.iconst 1, 1) := by decide +kernel
theorem dX11_plan_30 : decode cX11_plan 30 = .ok (.ireturn, 1) := by decide +kernel
theorem dX11_boat_0 : decode cX11_boat 0 = .ok (.aload_n 0, 1) := by decide +kernel
theorem dX11_boat_1 : decode cX11_boat 1 = .ok (.getfield 12, 3) := by decide +kernel
theorem dX11_boat_4 : decode cX11_boat 4 = .ok (.getfield 82, 3) := by decide +kernel
theorem dX11_boat_7 : decode cX11_boat 7 = .ok (.iload_n 1, 1) := by decide +kernel
theorem dX11_boat_8 : decode cX11_boat 8 = .ok (.invokevirtual 145, 3) := by decide +kernel
theorem dX11_boat_11 : decode cX11_boat 11 = .ok (.ifCond .eq 24, 3) := by decide +kernel
theorem dX11_boat_14 : decode cX11_boat 14 = .ok (.iload_n 2, 1) := by decide +kernel
theorem dX11_boat_15 : decode cX11_boat 15 = .ok (.iconst 0, 1) := by decide +kernel
theorem dX11_boat_16 : decode cX11_boat 16 = .ok (.bipush 59, 2) := by decide +kernel
theorem dX11_boat_18 : decode cX11_boat 18 = .ok (.invokestatic 60, 3) := by decide +kernel
theorem dX11_boat_21 : decode cX11_boat 21 = .ok (.ifCond .eq 14, 3) := by decide +kernel
theorem dX11_boat_24 : decode cX11_boat 24 = .ok (.aload_n 0, 1) := by decide +kernel
theorem dX11_boat_25 : decode cX11_boat 25 = .ok (.getfield 12, 3) := by decide +kernel
theorem dX11_boat_28 : decode cX11_boat 28 = .ok (.iload_n 3, 1) := by decide +kernel
theorem dX11_boat_29 : decode cX11_boat 29 = .ok (.invokevirtual 68, 3) := by decide +kernel
theorem dX11_boat_32 : decode cX11_boat 32 = .ok (.ifCond .ne 5, 3) := by decide +kernel
theorem dX11_boat_35 : decode cX11_boat 35 = .ok (.iconst (-1), 1) := by decide +kernel
theorem dX11_boat_36 : decode cX11_boat 36 = .ok (.ireturn, 1) := by decide +kernel
theorem dX11_boat_37 : decode cX11_boat 37 = .ok (.aload_n 0, 1) := by decide +kernel
theorem dX11_boat_38 : decode cX11_boat 38 = .ok (.getfield 12, 3) := by decide +kernel
theorem dX11_boat_41 : decode cX11_boat 41 = .ok (.getfield 100, 3) := by decide +kernel
theorem dX11_boat_44 : decode cX11_boat 44 = .ok (.istore 4, 2) := by decide +kernel
theorem dX11_boat_46 : decode cX11_boat 46 = .ok (.iconst 0, 1) := by decide +kernel
theorem dX11_boat_47 : decode cX11_boat 47 = .ok (.istore 5, 2) := by decide +kernel
theorem dX11_boat_49 : decode cX11_boat 49 = .ok (.iload 5, 2) := by decide +kernel
theorem dX11_boat_51 : decode cX11_boat 51 = .ok (.bipush 60, 2) := by decide +kernel
theorem dX11_boat_53 : decode cX11_boat 53 = .ok (.if_icmp .ge 59, 3) := by decide +kernel
theorem dX11_boat_56 : decode cX11_boat 56 = .ok (.iload 4, 2) := by decide +kernel
theorem dX11_boat_58 : decode cX11_boat 58 = .ok (.aload_n 0, 1) := by decide +kernel
theorem dX11_boat_59 : decode cX11_boat 59 = .ok (.getfield 12, 3) := by decide +kernel
theorem dX11_boat_62 : decode cX11_boat 62 = .ok (.getfield 296, 3) := by decide +kernel
theorem dX11_boat_65 : decode cX11_boat 65 = .ok (.iload 5, 2) := by decide +kernel
theorem dX11_boat_67 : decode cX11_boat 67 = .ok (.iaload, 1) := by decide +kernel
theorem dX11_boat_68 : decode cX11_boat 68 = .ok (.iadd, 1) := by decide +kernel
theorem dX11_boat_69 : decode cX11_boat 69 = .ok (.aload_n 0, 1) := by decide +kernel
theorem dX11_boat_70 : decode cX11_boat 70 = .ok (.getfield 12, 3) := by decide +kernel
theorem dX11_boat_73 : decode cX11_boat 73 = .ok (.getfield 228, 3) := by decide +kernel
theorem dX11_boat_76 : decode cX11_boat 76 = .ok (.invokestatic 231, 3) := by decide +kernel
theorem dX11_boat_79 : decode cX11_boat 79 = .ok (.istore 4, 2) := by decide +kernel
theorem dX11_boat_81 : decode cX11_boat 81 = .ok (.iload 5, 2) := by decide +kernel
theorem dX11_boat_83 : decode cX11_boat 83 = .ok (.iload_n 2, 1) := by decide +kernel
theorem dX11_boat_84 : decode cX11_boat 84 = .ok (.if_icmp .lt 22, 3) := by decide +kernel
theorem dX11_boat_87 : decode cX11_boat 87 = .ok (.aload_n 0, 1) := by decide +kernel
theorem dX11_boat_88 : decode cX11_boat 88 = .ok (.getfield 12, 3) := by decide +kernel
theorem dX11_boat_91 : decode cX11_boat 91 = .ok (.iload_n 1, 1) := by decide +kernel
theorem dX11_boat_92 : decode cX11_boat 92 = .ok (.iload 4, 2) := by decide +kernel
theorem dX11_boat_94 : decode cX11_boat 94 = .ok (.invokevirtual 243, 3) := by decide +kernel
theorem dX11_boat_97 : decode cX11_boat 97 = .ok (.iload_n 3, 1) := by decide +kernel
theorem dX11_boat_98 : decode cX11_boat 98 = .ok (.if_icmp .ne 8, 3) := by decide +kernel
theorem dX11_boat_101 : decode cX11_boat 101 = .ok (.iload 5, 2) := by decide +kernel
theorem dX11_boat_103 : decode cX11_boat 103 = .ok (.iload_n 2, 1) := by decide +kernel
theorem dX11_boat_104 : decode cX11_boat 104 = .ok (.isub, 1) := by decide +kernel
theorem dX11_boat_105 : decode cX11_boat 105 = .ok (.ireturn, 1) := by decide +kernel
theorem dX11_boat_106 : decode cX11_boat 106 = .ok (.iinc 5 1, 3) := by decide +kernel
theorem dX11_boat_109 : decode cX11_boat 109 = .ok (.goto (-60), 3) := by decide +kernel
theorem dX11_boat_112 : decode cX11_boat 112 = .ok (.iconst (-1), 1) := by decide +kernel
theorem dX11_boat_113 : decode cX11_boat 113 = .ok (.ireturn, 1) := by decide +kernel
theorem dX11_log_0 : decode cX11_log 0 = .ok (.iload_n 1, 1) := by decide +kernel
theorem dX11_log_1 : decode cX11_log 1 = .ok (.invokestatic 115, 3) := by decide +kernel
theorem dX11_log_4 : decode cX11_log 4 = .ok (.ifCond .eq 43, 3) := by decide +kernel
theorem dX11_log_7 : decode cX11_log 7 = .ok (.aload_n 0, 1) := by decide +kernel
theorem dX11_log_8 : decode cX11_log 8 = .ok (.getfield 12, 3) := by decide +kernel
theorem dX11_log_11 : decode cX11_log 11 = .ok (.getfield 82, 3) := by decide +kernel
theorem dX11_log_14 : decode cX11_log 14 = .ok (.iload_n 2, 1) := by decide +kernel
theorem dX11_log_15 : decode cX11_log 15 = .ok (.invokevirtual 145, 3) := by decide +kernel
theorem dX11_log_18 : decode cX11_log 18 = .ok (.ifCond .eq 29, 3) := by decide +kernel
theorem dX11_log_21 : decode cX11_log 21 = .ok (.aload_n 0, 1) := by decide +kernel
theorem dX11_log_22 : decode cX11_log 22 = .ok (.getfield 12, 3) := by decide +kernel
theorem dX11_log_25 : decode cX11_log 25 = .ok (.iload_n 3, 1) := by decide +kernel
theorem dX11_log_26 : decode cX11_log 26 = .ok (.invokevirtual 68, 3) := by decide +kernel
theorem dX11_log_29 : decode cX11_log 29 = .ok (.ifCond .eq 18, 3) := by decide +kernel
theorem dX11_log_32 : decode cX11_log 32 = .ok (.aload_n 0, 1) := by decide +kernel
theorem dX11_log_33 : decode cX11_log 33 = .ok (.getfield 12, 3) := by decide +kernel
theorem dX11_log_36 : decode cX11_log 36 = .ok (.getfield 299, 3) := by decide +kernel
theorem dX11_log_39 : decode cX11_log 39 = .ok (.getfield 303, 3) := by decide +kernel
theorem dX11_log_42 : decode cX11_log 42 = .ok (.bipush 40, 2) := by decide +kernel
theorem dX11_log_44 : decode cX11_log 44 = .ok (.if_icmp .lt 5, 3) := by decide +kernel
theorem dX11_log_47 : decode cX11_log 47 = .ok (.iconst 0, 1) := by decide +kernel
theorem dX11_log_48 : decode cX11_log 48 = .ok (.ireturn, 1) := by decide +kernel
theorem dX11_log_49 : decode cX11_log 49 = .ok (.aload_n 0, 1) := by decide +kernel
theorem dX11_log_50 : decode cX11_log 50 = .ok (.getfield 12, 3) := by decide +kernel
theorem dX11_log_53 : decode cX11_log 53 = .ok (.getfield 299, 3) := by decide +kernel
theorem dX11_log_56 : decode cX11_log 56 = .ok (.iload_n 1, 1) := by decide +kernel
theorem dX11_log_57 : decode cX11_log 57 = .ok (.iload_n 2, 1) := by decide +kernel
theorem dX11_log_58 : decode cX11_log 58 = .ok (.iload_n 3, 1) := by decide +kernel
theorem dX11_log_59 : decode cX11_log 59 = .ok (.invokevirtual 306, 3) := by decide +kernel
theorem dX11_log_62 : decode cX11_log 62 = .ok (.iconst 1, 1) := by decide +kernel
theorem dX11_log_63 : decode cX11_log 63 = .ok (.ireturn, 1) := by decide +kernel
theorem dX11_back_0 : decode cX11_back 0 = .ok (.iload_n 1, 1) := by decide +kernel
theorem dX11_back_1 : decode cX11_back 1 = .ok (.iload_n 2, 1) := by decide +kernel
theorem dX11_back_2 : decode cX11_back 2 = .ok (.invokestatic 156, 3) := by decide +kernel
theorem dX11_back_5 : decode cX11_back 5 = .ok (.ifCond .eq 11, 3) := by decide +kernel
theorem dX11_back_8 : decode cX11_back 8 = .ok (.iload_n 2, 1) := by decide +kernel
theorem dX11_back_9 : decode cX11_back 9 = .ok (.iload_n 1, 1) := by decide +kernel
theorem dX11_back_10 : decode cX11_back 10 = .ok (.isub, 1) := by decide +kernel
theorem dX11_back_11 : decode cX11_back 11 = .ok (.bipush 40, 2) := by decide +kernel
theorem dX11_back_13 : decode cX11_back 13 = .ok (.if_icmp .lt 7, 3) := by decide +kernel
theorem dX11_back_16 : decode cX11_back 16 = .ok (.ldc2_w 309, 3) := by decide +kernel
theorem dX11_back_19 : decode cX11_back 19 = .ok (.lreturn, 1) := by decide +kernel
theorem dX11_back_20 : decode cX11_back 20 = .ok (.iload_n 3, 1) := by decide +kernel
theorem dX11_back_21 : decode cX11_back 21 = .ok (.ifCond .eq 24, 3) := by decide +kernel
theorem dX11_back_24 : decode cX11_back 24 = .ok (.iload_n 3, 1) := by decide +kernel
theorem dX11_back_25 : decode cX11_back 25 = .ok (.iconst 1, 1) := by decide +kernel
theorem dX11_back_26 : decode cX11_back 26 = .ok (.if_icmp .eq 19, 3) := by decide +kernel
theorem dX11_back_29 : decode cX11_back 29 = .ok (.iload_n 3, 1) := by decide +kernel
theorem dX11_back_30 : decode cX11_back 30 = .ok (.iload_n 2, 1) := by decide +kernel
theorem dX11_back_31 : decode cX11_back 31 = .ok (.iload_n 1, 1) := by decide +kernel
theorem dX11_back_32 : decode cX11_back 32 = .ok (.isub, 1) := by decide +kernel
theorem dX11_back_33 : decode cX11_back 33 = .ok (.iconst 1, 1) := by decide +kernel
theorem dX11_back_34 : decode cX11_back 34 = .ok (.iadd, 1) := by decide +kernel
theorem dX11_back_35 : decode cX11_back 35 = .ok (.invokestatic 256, 3) := by decide +kernel
theorem dX11_back_38 : decode cX11_back 38 = .ok (.ifCond .ne 7, 3) := by decide +kernel
theorem dX11_back_41 : decode cX11_back 41 = .ok (.ldc2_w 309, 3) := by decide +kernel
theorem dX11_back_44 : decode cX11_back 44 = .ok (.lreturn, 1) := by decide +kernel
theorem dX11_back_45 : decode cX11_back 45 = .ok (.aload_n 0, 1) := by decide +kernel
theorem dX11_back_46 : decode cX11_back 46 = .ok (.getfield 46, 3) := by decide +kernel
theorem dX11_back_49 : decode cX11_back 49 = .ok (.aload_n 0, 1) := by decide +kernel
theorem dX11_back_50 : decode cX11_back 50 = .ok (.getfield 12, 3) := by decide +kernel
theorem dX11_back_53 : decode cX11_back 53 = .ok (.iload_n 1, 1) := by decide +kernel
theorem dX11_back_54 : decode cX11_back 54 = .ok (.iload_n 2, 1) := by decide +kernel
theorem dX11_back_55 : decode cX11_back 55 = .ok (.invokevirtual 311, 3) := by decide +kernel
theorem dX11_back_58 : decode cX11_back 58 = .ok (.lstore 4, 2) := by decide +kernel
theorem dX11_back_60 : decode cX11_back 60 = .ok (.iload_n 3, 1) := by decide +kernel
theorem dX11_back_61 : decode cX11_back 61 = .ok (.ifCond .ne 6, 3) := by decide +kernel
theorem dX11_back_64 : decode cX11_back 64 = .ok (.lload 4, 2) := by decide +kernel
theorem dX11_back_66 : decode cX11_back 66 = .ok (.lreturn, 1) := by decide +kernel
theorem dX11_back_67 : decode cX11_back 67 = .ok (.lload 4, 2) := by decide +kernel
theorem dX11_back_69 : decode cX11_back 69 = .ok (.lconst 0, 1) := by decide +kernel
theorem dX11_back_70 : decode cX11_back 70 = .ok (.lcmp, 1) := by decide +kernel
theorem dX11_back_71 : decode cX11_back 71 = .ok (.ifCond .ne 7, 3) := by decide +kernel
theorem dX11_back_74 : decode cX11_back 74 = .ok (.ldc2_w 309, 3) := by decide +kernel
theorem dX11_back_77 : decode cX11_back 77 = .ok (.lreturn, 1) := by decide +kernel
theorem dX11_back_78 : decode cX11_back 78 = .ok (.aload_n 0, 1) := by decide +kernel
theorem dX11_back_79 : decode cX11_back 79 = .ok (.getfield 46, 3) := by decide +kernel
theorem dX11_back_82 : decode cX11_back 82 = .ok (.aload_n 0, 1) := by decide +kernel
theorem dX11_back_83 : decode cX11_back 83 = .ok (.getfield 12, 3) := by decide +kernel
theorem dX11_back_86 : decode cX11_back 86 = .ok (.getfield 228, 3) := by decide +kernel
theorem dX11_back_89 : decode cX11_back 89 = .ok (.invokevirtual 315, 3) := by decide +kernel
theorem dX11_back_92 : decode cX11_back 92 = .ok (.iload_n 3, 1) := by decide +kernel
theorem dX11_back_93 : decode cX11_back 93 = .ok (.iconst 1, 1) := by decide +kernel
theorem dX11_back_94 : decode cX11_back 94 = .ok (.if_icmp .ne 14, 3) := by decide +kernel
theorem dX11_back_97 : decode cX11_back 97 = .ok (.aload_n 0, 1) := by decide +kernel
theorem dX11_back_98 : decode cX11_back 98 = .ok (.getfield 46, 3) := by decide +kernel
theorem dX11_back_101 : decode cX11_back 101 = .ok (.getfield 318, 3) := by decide +kernel
theorem dX11_back_104 : decode cX11_back 104 = .ok (.i2l, 1) := by decide +kernel
theorem dX11_back_105 : decode cX11_back 105 = .ok (.goto 18, 3) := by decide +kernel
theorem dX11_back_108 : decode cX11_back 108 = .ok (.aload_n 0, 1) := by decide +kernel
theorem dX11_back_109 : decode cX11_back 109 = .ok (.getfield 46, 3) := by decide +kernel
theorem dX11_back_112 : decode cX11_back 112 = .ok (.getfield 321, 3) := by decide +kernel
theorem dX11_back_115 : decode cX11_back 115 = .ok (.iload_n 3, 1) := by decide +kernel
theorem dX11_back_116 : decode cX11_back 116 = .ok (.bipush 10, 2) := by decide +kernel
theorem dX11_back_118 : decode cX11_back 118 = .ok (.isub, 1) := by decide +kernel
theorem dX11_back_119 : decode cX11_back 119 = .ok (.iaload, 1) := by decide +kernel
theorem dX11_back_120 : decode cX11_back 120 = .ok (.iconst 2, 1) := by decide +kernel
theorem dX11_back_121 : decode cX11_back 121 = .ok (.iadd, 1) := by decide +kernel
theorem dX11_back_122 : decode cX11_back 122 = .ok (.i2l, 1) := by decide +kernel
theorem dX11_back_123 : decode cX11_back 123 = .ok (.lreturn, 1) := by decide +kernel
theorem dX11_undo_0 : decode cX11_undo 0 = .ok (.aload_n 0, 1) := by decide +kernel
theorem dX11_undo_1 : decode cX11_undo 1 = .ok (.getfield 53, 3) := by decide +kernel
theorem dX11_undo_4 : decode cX11_undo 4 = .ok (.getfield 322, 3) := by decide +kernel
theorem dX11_undo_7 : decode cX11_undo 7 = .ok (.ifCond .ne 5, 3) := by decide +kernel
theorem dX11_undo_10 : decode cX11_undo 10 = .ok (.iconst 0, 1) := by decide +kernel
theorem dX11_undo_11 : decode cX11_undo 11 = .ok (.ireturn, 1) := by decide +kernel
theorem dX11_undo_12 : decode cX11_undo 12 = .ok (.aload_n 0, 1) := by decide +kernel
theorem dX11_undo_13 : decode cX11_undo 13 = .ok (.getfield 53, 3) := by decide +kernel
theorem dX11_undo_16 : decode cX11_undo 16 = .ok (.aload_n 0, 1) := by decide +kernel
theorem dX11_undo_17 : decode cX11_undo 17 = .ok (.getfield 12, 3) := by decide +kernel
theorem dX11_undo_20 : decode cX11_undo 20 = .ok (.invokevirtual 323, 3) := by decide +kernel
theorem dX11_undo_23 : decode cX11_undo 23 = .ok (.iconst 1, 1) := by decide +kernel
theorem dX11_undo_24 : decode cX11_undo 24 = .ok (.ireturn, 1) := by decide +kernel
theorem dX11_image_0 : decode cX11_image 0 = .ok (.iload_n 1, 1) := by decide +kernel
theorem dX11_image_1 : decode cX11_image 1 = .ok (.ifCond .eq 9, 3) := by decide +kernel
theorem dX11_image_4 : decode cX11_image 4 = .ok (.aload_n 0, 1) := by decide +kernel
theorem dX11_image_5 : decode cX11_image 5 = .ok (.invokevirtual 326, 3) := by decide +kernel
theorem dX11_image_8 : decode cX11_image 8 = .ok (.iconst 1, 1) := by decide +kernel
theorem dX11_image_9 : decode cX11_image 9 = .ok (.ireturn, 1) := by decide +kernel
theorem dX11_image_10 : decode cX11_image 10 = .ok (.aload_n 0, 1) := by decide +kernel
theorem dX11_image_11 : decode cX11_image 11 = .ok (.getfield 57, 3) := by decide +kernel
theorem dX11_image_14 : decode cX11_image 14 = .ok (.ifnonnull 5, 3) := by decide +kernel
theorem dX11_image_17 : decode cX11_image 17 = .ok (.iconst 0, 1) := by decide +kernel
theorem dX11_image_18 : decode cX11_image 18 = .ok (.ireturn, 1) := by decide +kernel
theorem dX11_image_19 : decode cX11_image 19 = .ok (.aload_n 0, 1) := by decide +kernel
theorem dX11_image_20 : decode cX11_image 20 = .ok (.getfield 12, 3) := by decide +kernel
theorem dX11_image_23 : decode cX11_image 23 = .ok (.aload_n 0, 1) := by decide +kernel
theorem dX11_image_24 : decode cX11_image 24 = .ok (.getfield 57, 3) := by decide +kernel
theorem dX11_image_27 : decode cX11_image 27 = .ok (.invokevirtual 329, 3) := by decide +kernel
theorem dX11_image_30 : decode cX11_image 30 = .ok (.aload_n 0, 1) := by decide +kernel
theorem dX11_image_31 : decode cX11_image 31 = .ok (.getfield 30, 3) := by decide +kernel
theorem dX11_image_34 : decode cX11_image 34 = .ok (.invokevirtual 64, 3) := by decide +kernel
theorem dX11_image_37 : decode cX11_image 37 = .ok (.aload_n 0, 1) := by decide +kernel
theorem dX11_image_38 : decode cX11_image 38 = .ok (.getfield 53, 3) := by decide +kernel
theorem dX11_image_41 : decode cX11_image 41 = .ok (.invokevirtual 67, 3) := by decide +kernel
theorem dX11_image_44 : decode cX11_image 44 = .ok (.iconst 1, 1) := by decide +kernel
theorem dX11_image_45 : decode cX11_image 45 = .ok (.ireturn, 1) := by decide +kernel
theorem dX11_takeImage_0 : decode cX11_takeImage 0 = .ok (.aload_n 0, 1) := by decide +kernel
theorem dX11_takeImage_1 : decode cX11_takeImage 1 = .ok (.getfield 57, 3) := by decide +kernel
theorem dX11_takeImage_4 : decode cX11_takeImage 4 = .ok (.ifnonnull 14, 3) := by decide +kernel
theorem dX11_takeImage_7 : decode cX11_takeImage 7 = .ok (.aload_n 0, 1) := by decide +kernel
theorem dX11_takeImage_8 : decode cX11_takeImage 8 = .ok (.new 9, 3) := by decide +kernel
theorem dX11_takeImage_11 : decode cX11_takeImage 11 = .ok (.dup, 1) := by decide +kernel
theorem dX11_takeImage_12 : decode cX11_takeImage 12 = .ok (.invokespecial 11, 3) := by decide +kernel
theorem dX11_takeImage_15 : decode cX11_takeImage 15 = .ok (.putfield 57, 3) := by decide +kernel
theorem dX11_takeImage_18 : decode cX11_takeImage 18 = .ok (.aload_n 0, 1) := by decide +kernel
theorem dX11_takeImage_19 : decode cX11_takeImage 19 = .ok (.getfield 57, 3) := by decide +kernel
theorem dX11_takeImage_22 : decode cX11_takeImage 22 = .ok (.aload_n 0, 1) := by decide +kernel
theorem dX11_takeImage_23 : decode cX11_takeImage 23 = .ok (.getfield 12, 3) := by decide +kernel
theorem dX11_takeImage_26 : decode cX11_takeImage 26 = .ok (.invokevirtual 329, 3) := by decide +kernel
theorem dX11_takeImage_29 : decode cX11_takeImage 29 = .ok (.return_, 1) := by decide +kernel
theorem dX11_look_0 : decode cX11_look 0 = .ok (.iload_n 1, 1) := by decide +kernel
theorem dX11_look_1 : decode cX11_look 1 = .ok (.bipush 10, 2) := by decide +kernel
theorem dX11_look_3 : decode cX11_look 3 = .ok (.bipush 13, 2) := by decide +kernel
theorem dX11_look_5 : decode cX11_look 5 = .ok (.invokestatic 60, 3) := by decide +kernel
theorem dX11_look_8 : decode cX11_look 8 = .ok (.ifCond .eq 19, 3) := by decide +kernel
theorem dX11_look_11 : decode cX11_look 11 = .ok (.aload_n 0, 1) := by decide +kernel
theorem dX11_look_12 : decode cX11_look 12 = .ok (.getfield 12, 3) := by decide +kernel
theorem dX11_look_15 : decode cX11_look 15 = .ok (.getfield 131, 3) := by decide +kernel
theorem dX11_look_18 : decode cX11_look 18 = .ok (.iload_n 1, 1) := by decide +kernel
theorem dX11_look_19 : decode cX11_look 19 = .ok (.bipush 10, 2) := by decide +kernel
theorem dX11_look_21 : decode cX11_look 21 = .ok (.isub, 1) := by decide +kernel
theorem dX11_look_22 : decode cX11_look 22 = .ok (.aaload, 1) := by decide +kernel
theorem dX11_look_23 : decode cX11_look 23 = .ok (.getfield 332, 3) := by decide +kernel
theorem dX11_look_26 : decode cX11_look 26 = .ok (.ireturn, 1) := by decide +kernel
theorem dX11_look_27 : decode cX11_look 27 = .ok (.iload_n 1, 1) := by decide +kernel
theorem dX11_look_28 : decode cX11_look 28 = .ok (.bipush 20, 2) := by decide +kernel
theorem dX11_look_30 : decode cX11_look 30 = .ok (.bipush 20, 2) := by decide +kernel
theorem dX11_look_32 : decode cX11_look 32 = .ok (.aload_n 0, 1) := by decide +kernel
theorem dX11_look_33 : decode cX11_look 33 = .ok (.getfield 12, 3) := by decide +kernel
theorem dX11_look_36 : decode cX11_look 36 = .ok (.getfield 82, 3) := by decide +kernel
theorem dX11_look_39 : decode cX11_look 39 = .ok (.getfield 86, 3) := by decide +kernel
theorem dX11_look_42 : decode cX11_look 42 = .ok (.iadd, 1) := by decide +kernel
theorem dX11_look_43 : decode cX11_look 43 = .ok (.iconst 1, 1) := by decide +kernel
theorem dX11_look_44 : decode cX11_look 44 = .ok (.isub, 1) := by decide +kernel
theorem dX11_look_45 : decode cX11_look 45 = .ok (.invokestatic 60, 3) := by decide +kernel
theorem dX11_look_48 : decode cX11_look 48 = .ok (.ifCond .eq 19, 3) := by decide +kernel
theorem dX11_look_51 : decode cX11_look 51 = .ok (.aload_n 0, 1) := by decide +kernel
theorem dX11_look_52 : decode cX11_look 52 = .ok (.getfield 12, 3) := by decide +kernel
theorem dX11_look_55 : decode cX11_look 55 = .ok (.getfield 82, 3) := by decide +kernel
theorem dX11_look_58 : decode cX11_look 58 = .ok (.getfield 284, 3) := by decide +kernel
theorem dX11_look_61 : decode cX11_look 61 = .ok (.iload_n 1, 1) := by decide +kernel
theorem dX11_look_62 : decode cX11_look 62 = .ok (.bipush 20, 2) := by decide +kernel
theorem dX11_look_64 : decode cX11_look 64 = .ok (.isub, 1) := by decide +kernel
theorem dX11_look_65 : decode cX11_look 65 = .ok (.iaload, 1) := by decide +kernel
theorem dX11_look_66 : decode cX11_look 66 = .ok (.ireturn, 1) := by decide +kernel
theorem dX11_look_67 : decode cX11_look 67 = .ok (.iload_n 1, 1) := by decide +kernel
theorem dX11_look_68 : decode cX11_look 68 = .ok (.tableswitch 148 0 9 #[56, 64, 72, 80, 88, 96, 107, 118, 129, 140], 56) := by decide +kernel
theorem dX11_look_124 : decode cX11_look 124 = .ok (.aload_n 0, 1) := by decide +kernel
theorem dX11_look_125 : decode cX11_look 125 = .ok (.getfield 12, 3) := by decide +kernel
theorem dX11_look_128 : decode cX11_look 128 = .ok (.getfield 228, 3) := by decide +kernel
theorem dX11_look_131 : decode cX11_look 131 = .ok (.ireturn, 1) := by decide +kernel
theorem dX11_look_132 : decode cX11_look 132 = .ok (.aload_n 0, 1) := by decide +kernel
theorem dX11_look_133 : decode cX11_look 133 = .ok (.getfield 12, 3) := by decide +kernel
theorem dX11_look_136 : decode cX11_look 136 = .ok (.getfield 100, 3) := by decide +kernel
theorem dX11_look_139 : decode cX11_look 139 = .ok (.ireturn, 1) := by decide +kernel
theorem dX11_look_140 : decode cX11_look 140 = .ok (.aload_n 0, 1) := by decide +kernel
theorem dX11_look_141 : decode cX11_look 141 = .ok (.getfield 12, 3) := by decide +kernel
theorem dX11_look_144 : decode cX11_look 144 = .ok (.getfield 103, 3) := by decide +kernel
theorem dX11_look_147 : decode cX11_look 147 = .ok (.ireturn, 1) := by decide +kernel
theorem dX11_look_148 : decode cX11_look 148 = .ok (.aload_n 0, 1) := by decide +kernel
theorem dX11_look_149 : decode cX11_look 149 = .ok (.getfield 12, 3) := by decide +kernel
theorem dX11_look_152 : decode cX11_look 152 = .ok (.getfield 109, 3) := by decide +kernel
theorem dX11_look_155 : decode cX11_look 155 = .ok (.ireturn, 1) := by decide +kernel
theorem dX11_look_156 : decode cX11_look 156 = .ok (.aload_n 0, 1) := by decide +kernel
theorem dX11_look_157 : decode cX11_look 157 = .ok (.getfield 12, 3) := by decide +kernel
theorem dX11_look_160 : decode cX11_look 160 = .ok (.getfield 112, 3) := by decide +kernel
theorem dX11_look_163 : decode cX11_look 163 = .ok (.ireturn, 1) := by decide +kernel
theorem dX11_look_164 : decode cX11_look 164 = .ok (.aload_n 0, 1) := by decide +kernel
