theorem dX3_gatherEach_7 : decode cX3_gatherEach 7 = .ok (.getfield 59, 3) := by decide +kernel
theorem dX3_gatherEach_10 : decode cX3_gatherEach 10 = .ok (.if_icmp .ge 23, 3) := by decide +kernel
theorem dX3_gatherEach_13 : decode cX3_gatherEach 13 = .ok (.aload_n 0, 1) := by decide +kernel
theorem dX3_gatherEach_14 : decode cX3_gatherEach 14 = .ok (.aload_n 1, 1) := by decide +kernel
theorem dX3_gatherEach_15 : decode cX3_gatherEach 15 = .ok (.iconst 1, 1) := by decide +kernel
theorem dX3_gatherEach_16 : decode cX3_gatherEach 16 = .ok (.iload_n 2, 1) := by decide +kernel
theorem dX3_gatherEach_17 : decode cX3_gatherEach 17 = .ok (.ishl, 1) := by decide +kernel
theorem dX3_gatherEach_18 : decode cX3_gatherEach 18 = .ok (.aload_n 0, 1) := by decide +kernel
theorem dX3_gatherEach_19 : decode cX3_gatherEach 19 = .ok (.getfield 17, 3) := by decide +kernel
theorem dX3_gatherEach_22 : decode cX3_gatherEach 22 = .ok (.iload_n 2, 1) := by decide +kernel
theorem dX3_gatherEach_23 : decode cX3_gatherEach 23 = .ok (.aaload, 1) := by decide +kernel
theorem dX3_gatherEach_24 : decode cX3_gatherEach 24 = .ok (.invokevirtual 77, 3) := by decide +kernel
theorem dX3_gatherEach_27 : decode cX3_gatherEach 27 = .ok (.iinc 2 1, 3) := by decide +kernel
theorem dX3_gatherEach_30 : decode cX3_gatherEach 30 = .ok (.goto (-28), 3) := by decide +kernel
theorem dX3_gatherEach_33 : decode cX3_gatherEach 33 = .ok (.return_, 1) := by decide +kernel
theorem dX3_reckon_0 : decode cX3_reckon 0 = .ok (.aload_n 0, 1) := by decide +kernel
theorem dX3_reckon_1 : decode cX3_reckon 1 = .ok (.getfield 39, 3) := by decide +kernel
theorem dX3_reckon_4 : decode cX3_reckon 4 = .ok (.ineg, 1) := by decide +kernel
theorem dX3_reckon_5 : decode cX3_reckon 5 = .ok (.istore_n 2, 1) := by decide +kernel
theorem dX3_reckon_6 : decode cX3_reckon 6 = .ok (.iload_n 2, 1) := by decide +kernel
theorem dX3_reckon_7 : decode cX3_reckon 7 = .ok (.aload_n 0, 1) := by decide +kernel
theorem dX3_reckon_8 : decode cX3_reckon 8 = .ok (.getfield 39, 3) := by decide +kernel
theorem dX3_reckon_11 : decode cX3_reckon 11 = .ok (.if_icmp .gt 24, 3) := by decide +kernel
theorem dX3_reckon_14 : decode cX3_reckon 14 = .ok (.aload_n 0, 1) := by decide +kernel
theorem dX3_reckon_15 : decode cX3_reckon 15 = .ok (.getfield 20, 3) := by decide +kernel
theorem dX3_reckon_18 : decode cX3_reckon 18 = .ok (.aload_n 0, 1) := by decide +kernel
theorem dX3_reckon_19 : decode cX3_reckon 19 = .ok (.aload_n 0, 1) := by decide +kernel
theorem dX3_reckon_20 : decode cX3_reckon 20 = .ok (.getfield 39, 3) := by decide +kernel
theorem dX3_reckon_23 : decode cX3_reckon 23 = .ok (.iload_n 2, 1) := by decide +kernel
theorem dX3_reckon_24 : decode cX3_reckon 24 = .ok (.invokevirtual 81, 3) := by decide +kernel
theorem dX3_reckon_27 : decode cX3_reckon 27 = .ok (.iconst 0, 1) := by decide +kernel
theorem dX3_reckon_28 : decode cX3_reckon 28 = .ok (.iastore, 1) := by decide +kernel
theorem dX3_reckon_29 : decode cX3_reckon 29 = .ok (.iinc 2 1, 3) := by decide +kernel
theorem dX3_reckon_32 : decode cX3_reckon 32 = .ok (.goto (-26), 3) := by decide +kernel
theorem dX3_reckon_35 : decode cX3_reckon 35 = .ok (.aload_n 0, 1) := by decide +kernel
theorem dX3_reckon_36 : decode cX3_reckon 36 = .ok (.getfield 39, 3) := by decide +kernel
theorem dX3_reckon_39 : decode cX3_reckon 39 = .ok (.iconst 1, 1) := by decide +kernel
theorem dX3_reckon_40 : decode cX3_reckon 40 = .ok (.isub, 1) := by decide +kernel
theorem dX3_reckon_41 : decode cX3_reckon 41 = .ok (.istore_n 2, 1) := by decide +kernel
theorem dX3_reckon_42 : decode cX3_reckon 42 = .ok (.iload_n 2, 1) := by decide +kernel
theorem dX3_reckon_43 : decode cX3_reckon 43 = .ok (.ifCond .lt 92, 3) := by decide +kernel
theorem dX3_reckon_46 : decode cX3_reckon 46 = .ok (.iload_n 2, 1) := by decide +kernel
theorem dX3_reckon_47 : decode cX3_reckon 47 = .ok (.ineg, 1) := by decide +kernel
theorem dX3_reckon_48 : decode cX3_reckon 48 = .ok (.istore_n 3, 1) := by decide +kernel
theorem dX3_reckon_49 : decode cX3_reckon 49 = .ok (.iload_n 3, 1) := by decide +kernel
theorem dX3_reckon_50 : decode cX3_reckon 50 = .ok (.iload_n 2, 1) := by decide +kernel
theorem dX3_reckon_51 : decode cX3_reckon 51 = .ok (.if_icmp .gt 78, 3) := by decide +kernel
theorem dX3_reckon_54 : decode cX3_reckon 54 = .ok (.aload_n 0, 1) := by decide +kernel
theorem dX3_reckon_55 : decode cX3_reckon 55 = .ok (.iload_n 2, 1) := by decide +kernel
theorem dX3_reckon_56 : decode cX3_reckon 56 = .ok (.iload_n 3, 1) := by decide +kernel
theorem dX3_reckon_57 : decode cX3_reckon 57 = .ok (.iconst 0, 1) := by decide +kernel
theorem dX3_reckon_58 : decode cX3_reckon 58 = .ok (.invokevirtual 84, 3) := by decide +kernel
theorem dX3_reckon_61 : decode cX3_reckon 61 = .ok (.istore 4, 2) := by decide +kernel
theorem dX3_reckon_63 : decode cX3_reckon 63 = .ok (.aload_n 0, 1) := by decide +kernel
theorem dX3_reckon_64 : decode cX3_reckon 64 = .ok (.iload_n 2, 1) := by decide +kernel
theorem dX3_reckon_65 : decode cX3_reckon 65 = .ok (.iload_n 3, 1) := by decide +kernel
theorem dX3_reckon_66 : decode cX3_reckon 66 = .ok (.iconst 1, 1) := by decide +kernel
theorem dX3_reckon_67 : decode cX3_reckon 67 = .ok (.invokevirtual 84, 3) := by decide +kernel
theorem dX3_reckon_70 : decode cX3_reckon 70 = .ok (.istore 5, 2) := by decide +kernel
theorem dX3_reckon_72 : decode cX3_reckon 72 = .ok (.aload_n 0, 1) := by decide +kernel
theorem dX3_reckon_73 : decode cX3_reckon 73 = .ok (.iload_n 2, 1) := by decide +kernel
theorem dX3_reckon_74 : decode cX3_reckon 74 = .ok (.iload_n 3, 1) := by decide +kernel
theorem dX3_reckon_75 : decode cX3_reckon 75 = .ok (.iconst (-1), 1) := by decide +kernel
theorem dX3_reckon_76 : decode cX3_reckon 76 = .ok (.invokevirtual 84, 3) := by decide +kernel
theorem dX3_reckon_79 : decode cX3_reckon 79 = .ok (.istore 6, 2) := by decide +kernel
theorem dX3_reckon_81 : decode cX3_reckon 81 = .ok (.aload_n 0, 1) := by decide +kernel
theorem dX3_reckon_82 : decode cX3_reckon 82 = .ok (.getfield 20, 3) := by decide +kernel
theorem dX3_reckon_85 : decode cX3_reckon 85 = .ok (.aload_n 0, 1) := by decide +kernel
theorem dX3_reckon_86 : decode cX3_reckon 86 = .ok (.iload_n 2, 1) := by decide +kernel
theorem dX3_reckon_87 : decode cX3_reckon 87 = .ok (.iload_n 3, 1) := by decide +kernel
theorem dX3_reckon_88 : decode cX3_reckon 88 = .ok (.invokevirtual 81, 3) := by decide +kernel
theorem dX3_reckon_91 : decode cX3_reckon 91 = .ok (.iload_n 1, 1) := by decide +kernel
theorem dX3_reckon_92 : decode cX3_reckon 92 = .ok (.ifCond .eq 18, 3) := by decide +kernel
theorem dX3_reckon_95 : decode cX3_reckon 95 = .ok (.iload 4, 2) := by decide +kernel
theorem dX3_reckon_97 : decode cX3_reckon 97 = .ok (.iload 5, 2) := by decide +kernel
theorem dX3_reckon_99 : decode cX3_reckon 99 = .ok (.iload 6, 2) := by decide +kernel
theorem dX3_reckon_101 : decode cX3_reckon 101 = .ok (.invokestatic 87, 3) := by decide +kernel
theorem dX3_reckon_104 : decode cX3_reckon 104 = .ok (.invokestatic 87, 3) := by decide +kernel
theorem dX3_reckon_107 : decode cX3_reckon 107 = .ok (.goto 15, 3) := by decide +kernel
theorem dX3_reckon_110 : decode cX3_reckon 110 = .ok (.iload 4, 2) := by decide +kernel
theorem dX3_reckon_112 : decode cX3_reckon 112 = .ok (.iload 5, 2) := by decide +kernel
theorem dX3_reckon_114 : decode cX3_reckon 114 = .ok (.iload 6, 2) := by decide +kernel
theorem dX3_reckon_116 : decode cX3_reckon 116 = .ok (.invokestatic 92, 3) := by decide +kernel
theorem dX3_reckon_119 : decode cX3_reckon 119 = .ok (.invokestatic 92, 3) := by decide +kernel
theorem dX3_reckon_122 : decode cX3_reckon 122 = .ok (.iastore, 1) := by decide +kernel
theorem dX3_reckon_123 : decode cX3_reckon 123 = .ok (.iinc 3 1, 3) := by decide +kernel
theorem dX3_reckon_126 : decode cX3_reckon 126 = .ok (.goto (-77), 3) := by decide +kernel
theorem dX3_reckon_129 : decode cX3_reckon 129 = .ok (.iinc 2 (-1), 3) := by decide +kernel
theorem dX3_reckon_132 : decode cX3_reckon 132 = .ok (.goto (-90), 3) := by decide +kernel
theorem dX3_reckon_135 : decode cX3_reckon 135 = .ok (.aload_n 0, 1) := by decide +kernel
theorem dX3_reckon_136 : decode cX3_reckon 136 = .ok (.getfield 20, 3) := by decide +kernel
theorem dX3_reckon_139 : decode cX3_reckon 139 = .ok (.aload_n 0, 1) := by decide +kernel
theorem dX3_reckon_140 : decode cX3_reckon 140 = .ok (.iconst 0, 1) := by decide +kernel
theorem dX3_reckon_141 : decode cX3_reckon 141 = .ok (.iconst 0, 1) := by decide +kernel
theorem dX3_reckon_142 : decode cX3_reckon 142 = .ok (.invokevirtual 81, 3) := by decide +kernel
theorem dX3_reckon_145 : decode cX3_reckon 145 = .ok (.iaload, 1) := by decide +kernel
theorem dX3_reckon_146 : decode cX3_reckon 146 = .ok (.ireturn, 1) := by decide +kernel
theorem dX3_withTurn_0 : decode cX3_withTurn 0 = .ok (.aload_n 0, 1) := by decide +kernel
theorem dX3_withTurn_1 : decode cX3_withTurn 1 = .ok (.getfield 11, 3) := by decide +kernel
theorem dX3_withTurn_4 : decode cX3_withTurn 4 = .ok (.aload_n 0, 1) := by decide +kernel
theorem dX3_withTurn_5 : decode cX3_withTurn 5 = .ok (.iload_n 1, 1) := by decide +kernel
theorem dX3_withTurn_6 : decode cX3_withTurn 6 = .ok (.iload_n 2, 1) := by decide +kernel
theorem dX3_withTurn_7 : decode cX3_withTurn 7 = .ok (.iload_n 3, 1) := by decide +kernel
theorem dX3_withTurn_8 : decode cX3_withTurn 8 = .ok (.iadd, 1) := by decide +kernel
theorem dX3_withTurn_9 : decode cX3_withTurn 9 = .ok (.iload_n 3, 1) := by decide +kernel
theorem dX3_withTurn_10 : decode cX3_withTurn 10 = .ok (.invokevirtual 73, 3) := by decide +kernel
theorem dX3_withTurn_13 : decode cX3_withTurn 13 = .ok (.iaload, 1) := by decide +kernel
theorem dX3_withTurn_14 : decode cX3_withTurn 14 = .ok (.aload_n 0, 1) := by decide +kernel
theorem dX3_withTurn_15 : decode cX3_withTurn 15 = .ok (.getfield 20, 3) := by decide +kernel
theorem dX3_withTurn_18 : decode cX3_withTurn 18 = .ok (.aload_n 0, 1) := by decide +kernel
theorem dX3_withTurn_19 : decode cX3_withTurn 19 = .ok (.iload_n 1, 1) := by decide +kernel
theorem dX3_withTurn_20 : decode cX3_withTurn 20 = .ok (.iconst 1, 1) := by decide +kernel
theorem dX3_withTurn_21 : decode cX3_withTurn 21 = .ok (.iadd, 1) := by decide +kernel
theorem dX3_withTurn_22 : decode cX3_withTurn 22 = .ok (.iload_n 2, 1) := by decide +kernel
theorem dX3_withTurn_23 : decode cX3_withTurn 23 = .ok (.iload_n 3, 1) := by decide +kernel
theorem dX3_withTurn_24 : decode cX3_withTurn 24 = .ok (.iadd, 1) := by decide +kernel
theorem dX3_withTurn_25 : decode cX3_withTurn 25 = .ok (.invokevirtual 81, 3) := by decide +kernel
theorem dX3_withTurn_28 : decode cX3_withTurn 28 = .ok (.iaload, 1) := by decide +kernel
theorem dX3_withTurn_29 : decode cX3_withTurn 29 = .ok (.iadd, 1) := by decide +kernel
theorem dX3_withTurn_30 : decode cX3_withTurn 30 = .ok (.ireturn, 1) := by decide +kernel
theorem dX3_findBest_0 : decode cX3_findBest 0 = .ok (.aload_n 0, 1) := by decide +kernel
theorem dX3_findBest_1 : decode cX3_findBest 1 = .ok (.iload_n 2, 1) := by decide +kernel
theorem dX3_findBest_2 : decode cX3_findBest 2 = .ok (.putfield 39, 3) := by decide +kernel
theorem dX3_findBest_5 : decode cX3_findBest 5 = .ok (.aload_n 0, 1) := by decide +kernel
theorem dX3_findBest_6 : decode cX3_findBest 6 = .ok (.aload_n 1, 1) := by decide +kernel
theorem dX3_findBest_7 : decode cX3_findBest 7 = .ok (.aload_n 1, 1) := by decide +kernel
theorem dX3_findBest_8 : decode cX3_findBest 8 = .ok (.getfield 55, 3) := by decide +kernel
theorem dX3_findBest_11 : decode cX3_findBest 11 = .ok (.invokevirtual 95, 3) := by decide +kernel
theorem dX3_findBest_14 : decode cX3_findBest 14 = .ok (.aload_n 0, 1) := by decide +kernel
theorem dX3_findBest_15 : decode cX3_findBest 15 = .ok (.getfield 11, 3) := by decide +kernel
theorem dX3_findBest_18 : decode cX3_findBest 18 = .ok (.invokevirtual 77, 3) := by decide +kernel
theorem dX3_findBest_21 : decode cX3_findBest 21 = .ok (.aload_n 0, 1) := by decide +kernel
theorem dX3_findBest_22 : decode cX3_findBest 22 = .ok (.iconst 1, 1) := by decide +kernel
theorem dX3_findBest_23 : decode cX3_findBest 23 = .ok (.invokevirtual 99, 3) := by decide +kernel
theorem dX3_findBest_26 : decode cX3_findBest 26 = .ok (.istore_n 3, 1) := by decide +kernel
theorem dX3_findBest_27 : decode cX3_findBest 27 = .ok (.iconst 0, 1) := by decide +kernel
theorem dX3_findBest_28 : decode cX3_findBest 28 = .ok (.istore 4, 2) := by decide +kernel
theorem dX3_findBest_30 : decode cX3_findBest 30 = .ok (.iconst 0, 1) := by decide +kernel
theorem dX3_findBest_31 : decode cX3_findBest 31 = .ok (.istore 5, 2) := by decide +kernel
theorem dX3_findBest_33 : decode cX3_findBest 33 = .ok (.iload 5, 2) := by decide +kernel
theorem dX3_findBest_35 : decode cX3_findBest 35 = .ok (.aload_n 0, 1) := by decide +kernel
theorem dX3_findBest_36 : decode cX3_findBest 36 = .ok (.getfield 39, 3) := by decide +kernel
theorem dX3_findBest_39 : decode cX3_findBest 39 = .ok (.if_icmp .ge 36, 3) := by decide +kernel
theorem dX3_findBest_42 : decode cX3_findBest 42 = .ok (.aload_n 0, 1) := by decide +kernel
theorem dX3_findBest_43 : decode cX3_findBest 43 = .ok (.getfield 23, 3) := by decide +kernel
theorem dX3_findBest_46 : decode cX3_findBest 46 = .ok (.iload 5, 2) := by decide +kernel
theorem dX3_findBest_48 : decode cX3_findBest 48 = .ok (.aload_n 0, 1) := by decide +kernel
theorem dX3_findBest_49 : decode cX3_findBest 49 = .ok (.iload 5, 2) := by decide +kernel
theorem dX3_findBest_51 : decode cX3_findBest 51 = .ok (.iload 4, 2) := by decide +kernel
theorem dX3_findBest_53 : decode cX3_findBest 53 = .ok (.invokevirtual 103, 3) := by decide +kernel
theorem dX3_findBest_56 : decode cX3_findBest 56 = .ok (.iastore, 1) := by decide +kernel
theorem dX3_findBest_57 : decode cX3_findBest 57 = .ok (.iload 4, 2) := by decide +kernel
theorem dX3_findBest_59 : decode cX3_findBest 59 = .ok (.aload_n 0, 1) := by decide +kernel
theorem dX3_findBest_60 : decode cX3_findBest 60 = .ok (.getfield 23, 3) := by decide +kernel
theorem dX3_findBest_63 : decode cX3_findBest 63 = .ok (.iload 5, 2) := by decide +kernel
theorem dX3_findBest_65 : decode cX3_findBest 65 = .ok (.iaload, 1) := by decide +kernel
theorem dX3_findBest_66 : decode cX3_findBest 66 = .ok (.iadd, 1) := by decide +kernel
theorem dX3_findBest_67 : decode cX3_findBest 67 = .ok (.istore 4, 2) := by decide +kernel
theorem dX3_findBest_69 : decode cX3_findBest 69 = .ok (.iinc 5 1, 3) := by decide +kernel
theorem dX3_findBest_72 : decode cX3_findBest 72 = .ok (.goto (-39), 3) := by decide +kernel
theorem dX3_findBest_75 : decode cX3_findBest 75 = .ok (.iload_n 3, 1) := by decide +kernel
theorem dX3_findBest_76 : decode cX3_findBest 76 = .ok (.ireturn, 1) := by decide +kernel
theorem dX3_firstTurn_0 : decode cX3_firstTurn 0 = .ok (.iconst 0, 1) := by decide +kernel
theorem dX3_firstTurn_1 : decode cX3_firstTurn 1 = .ok (.istore_n 3, 1) := by decide +kernel
theorem dX3_firstTurn_2 : decode cX3_firstTurn 2 = .ok (.iload_n 3, 1) := by decide +kernel
theorem dX3_firstTurn_3 : decode cX3_firstTurn 3 = .ok (.getstatic 106, 3) := by decide +kernel
theorem dX3_firstTurn_6 : decode cX3_firstTurn 6 = .ok (.arraylength, 1) := by decide +kernel
theorem dX3_firstTurn_7 : decode cX3_firstTurn 7 = .ok (.if_icmp .ge 40, 3) := by decide +kernel
theorem dX3_firstTurn_10 : decode cX3_firstTurn 10 = .ok (.aload_n 0, 1) := by decide +kernel
theorem dX3_firstTurn_11 : decode cX3_firstTurn 11 = .ok (.iload_n 1, 1) := by decide +kernel
theorem dX3_firstTurn_12 : decode cX3_firstTurn 12 = .ok (.iload_n 2, 1) := by decide +kernel
theorem dX3_firstTurn_13 : decode cX3_firstTurn 13 = .ok (.getstatic 106, 3) := by decide +kernel
theorem dX3_firstTurn_16 : decode cX3_firstTurn 16 = .ok (.iload_n 3, 1) := by decide +kernel
theorem dX3_firstTurn_17 : decode cX3_firstTurn 17 = .ok (.iaload, 1) := by decide +kernel
theorem dX3_firstTurn_18 : decode cX3_firstTurn 18 = .ok (.invokevirtual 84, 3) := by decide +kernel
theorem dX3_firstTurn_21 : decode cX3_firstTurn 21 = .ok (.aload_n 0, 1) := by decide +kernel
theorem dX3_firstTurn_22 : decode cX3_firstTurn 22 = .ok (.getfield 20, 3) := by decide +kernel
theorem dX3_firstTurn_25 : decode cX3_firstTurn 25 = .ok (.aload_n 0, 1) := by decide +kernel
theorem dX3_firstTurn_26 : decode cX3_firstTurn 26 = .ok (.iload_n 1, 1) := by decide +kernel
theorem dX3_firstTurn_27 : decode cX3_firstTurn 27 = .ok (.iload_n 2, 1) := by decide +kernel
theorem dX3_firstTurn_28 : decode cX3_firstTurn 28 = .ok (.invokevirtual 81, 3) := by decide +kernel
theorem dX3_firstTurn_31 : decode cX3_firstTurn 31 = .ok (.iaload, 1) := by decide +kernel
theorem dX3_firstTurn_32 : decode cX3_firstTurn 32 = .ok (.if_icmp .ne 9, 3) := by decide +kernel
theorem dX3_firstTurn_35 : decode cX3_firstTurn 35 = .ok (.getstatic 106, 3) := by decide +kernel
theorem dX3_firstTurn_38 : decode cX3_firstTurn 38 = .ok (.iload_n 3, 1) := by decide +kernel
theorem dX3_firstTurn_39 : decode cX3_firstTurn 39 = .ok (.iaload, 1) := by decide +kernel
theorem dX3_firstTurn_40 : decode cX3_firstTurn 40 = .ok (.ireturn, 1) := by decide +kernel
theorem dX3_firstTurn_41 : decode cX3_firstTurn 41 = .ok (.iinc 3 1, 3) := by decide +kernel
theorem dX3_firstTurn_44 : decode cX3_firstTurn 44 = .ok (.goto (-42), 3) := by decide +kernel
theorem dX3_firstTurn_47 : decode cX3_firstTurn 47 = .ok (.iconst 0, 1) := by decide +kernel
theorem dX3_firstTurn_48 : decode cX3_firstTurn 48 = .ok (.ireturn, 1) := by decide +kernel
theorem dX3_findAlone_0 : decode cX3_findAlone 0 = .ok (.aload_n 0, 1) := by decide +kernel
theorem dX3_findAlone_1 : decode cX3_findAlone 1 = .ok (.iload_n 3, 1) := by decide +kernel
theorem dX3_findAlone_2 : decode cX3_findAlone 2 = .ok (.putfield 39, 3) := by decide +kernel
theorem dX3_findAlone_5 : decode cX3_findAlone 5 = .ok (.aload_n 0, 1) := by decide +kernel
theorem dX3_findAlone_6 : decode cX3_findAlone 6 = .ok (.aload_n 1, 1) := by decide +kernel
theorem dX3_findAlone_7 : decode cX3_findAlone 7 = .ok (.iload_n 2, 1) := by decide +kernel
theorem dX3_findAlone_8 : decode cX3_findAlone 8 = .ok (.aload_n 0, 1) := by decide +kernel
theorem dX3_findAlone_9 : decode cX3_findAlone 9 = .ok (.getfield 11, 3) := by decide +kernel
theorem dX3_findAlone_12 : decode cX3_findAlone 12 = .ok (.invokevirtual 77, 3) := by decide +kernel
theorem dX3_findAlone_15 : decode cX3_findAlone 15 = .ok (.aload_n 0, 1) := by decide +kernel
theorem dX3_findAlone_16 : decode cX3_findAlone 16 = .ok (.aload_n 1, 1) := by decide +kernel
theorem dX3_findAlone_17 : decode cX3_findAlone 17 = .ok (.getfield 55, 3) := by decide +kernel
theorem dX3_findAlone_20 : decode cX3_findAlone 20 = .ok (.aload_n 1, 1) := by decide +kernel
theorem dX3_findAlone_21 : decode cX3_findAlone 21 = .ok (.getfield 55, 3) := by decide +kernel
theorem dX3_findAlone_24 : decode cX3_findAlone 24 = .ok (.iload_n 2, 1) := by decide +kernel
theorem dX3_findAlone_25 : decode cX3_findAlone 25 = .ok (.invokevirtual 109, 3) := by decide +kernel
theorem dX3_findAlone_28 : decode cX3_findAlone 28 = .ok (.invokevirtual 113, 3) := by decide +kernel
theorem dX3_findAlone_31 : decode cX3_findAlone 31 = .ok (.invokevirtual 99, 3) := by decide +kernel
theorem dX3_findAlone_34 : decode cX3_findAlone 34 = .ok (.ireturn, 1) := by decide +kernel
theorem dX3_findFair_0 : decode cX3_findFair 0 = .ok (.aload_n 0, 1) := by decide +kernel
theorem dX3_findFair_1 : decode cX3_findFair 1 = .ok (.iload_n 2, 1) := by decide +kernel
theorem dX3_findFair_2 : decode cX3_findFair 2 = .ok (.putfield 39, 3) := by decide +kernel
theorem dX3_findFair_5 : decode cX3_findFair 5 = .ok (.aload_n 0, 1) := by decide +kernel
theorem dX3_findFair_6 : decode cX3_findFair 6 = .ok (.aload_n 1, 1) := by decide +kernel
theorem dX3_findFair_7 : decode cX3_findFair 7 = .ok (.invokevirtual 117, 3) := by decide +kernel
theorem dX3_findFair_10 : decode cX3_findFair 10 = .ok (.aload_n 0, 1) := by decide +kernel
theorem dX3_findFair_11 : decode cX3_findFair 11 = .ok (.iconst 0, 1) := by decide +kernel
theorem dX3_findFair_12 : decode cX3_findFair 12 = .ok (.putfield 121, 3) := by decide +kernel
theorem dX3_findFair_15 : decode cX3_findFair 15 = .ok (.aload_n 0, 1) := by decide +kernel
theorem dX3_findFair_16 : decode cX3_findFair 16 = .ok (.getfield 29, 3) := by decide +kernel
theorem dX3_findFair_19 : decode cX3_findFair 19 = .ok (.iconst 0, 1) := by decide +kernel
theorem dX3_findFair_20 : decode cX3_findFair 20 = .ok (.aaload, 1) := by decide +kernel
theorem dX3_findFair_21 : decode cX3_findFair 21 = .ok (.iconst 0, 1) := by decide +kernel
theorem dX3_findFair_22 : decode cX3_findFair 22 = .ok (.invokestatic 125, 3) := by decide +kernel
theorem dX3_findFair_25 : decode cX3_findFair 25 = .ok (.aload_n 0, 1) := by decide +kernel
theorem dX3_findFair_26 : decode cX3_findFair 26 = .ok (.aload_n 1, 1) := by decide +kernel
theorem dX3_findFair_27 : decode cX3_findFair 27 = .ok (.getfield 55, 3) := by decide +kernel
theorem dX3_findFair_30 : decode cX3_findFair 30 = .ok (.getfield 59, 3) := by decide +kernel
theorem dX3_findFair_33 : decode cX3_findFair 33 = .ok (.iconst 0, 1) := by decide +kernel
theorem dX3_findFair_34 : decode cX3_findFair 34 = .ok (.iconst 0, 1) := by decide +kernel
theorem dX3_findFair_35 : decode cX3_findFair 35 = .ok (.invokevirtual 131, 3) := by decide +kernel
theorem dX3_findFair_38 : decode cX3_findFair 38 = .ok (.return_, 1) := by decide +kernel
theorem dX3_tryTurns_0 : decode cX3_tryTurns 0 = .ok (.iload_n 2, 1) := by decide +kernel
theorem dX3_tryTurns_1 : decode cX3_tryTurns 1 = .ok (.aload_n 0, 1) := by decide +kernel
theorem dX3_tryTurns_2 : decode cX3_tryTurns 2 = .ok (.getfield 39, 3) := by decide +kernel
theorem dX3_tryTurns_5 : decode cX3_tryTurns 5 = .ok (.if_icmp .ge 9, 3) := by decide +kernel
theorem dX3_tryTurns_8 : decode cX3_tryTurns 8 = .ok (.iload_n 2, 1) := by decide +kernel
theorem dX3_tryTurns_9 : decode cX3_tryTurns 9 = .ok (.bipush 6, 2) := by decide +kernel
theorem dX3_tryTurns_11 : decode cX3_tryTurns 11 = .ok (.if_icmp .lt 9, 3) := by decide +kernel
theorem dX3_tryTurns_14 : decode cX3_tryTurns 14 = .ok (.aload_n 0, 1) := by decide +kernel
theorem dX3_tryTurns_15 : decode cX3_tryTurns 15 = .ok (.iload_n 1, 1) := by decide +kernel
theorem dX3_tryTurns_16 : decode cX3_tryTurns 16 = .ok (.invokevirtual 135, 3) := by decide +kernel
theorem dX3_tryTurns_19 : decode cX3_tryTurns 19 = .ok (.return_, 1) := by decide +kernel
theorem dX3_tryTurns_20 : decode cX3_tryTurns 20 = .ok (.iconst 0, 1) := by decide +kernel
theorem dX3_tryTurns_21 : decode cX3_tryTurns 21 = .ok (.istore 4, 2) := by decide +kernel
theorem dX3_tryTurns_23 : decode cX3_tryTurns 23 = .ok (.iload 4, 2) := by decide +kernel
theorem dX3_tryTurns_25 : decode cX3_tryTurns 25 = .ok (.getstatic 106, 3) := by decide +kernel
theorem dX3_tryTurns_28 : decode cX3_tryTurns 28 = .ok (.arraylength, 1) := by decide +kernel
theorem dX3_tryTurns_29 : decode cX3_tryTurns 29 = .ok (.if_icmp .ge 96, 3) := by decide +kernel
theorem dX3_tryTurns_32 : decode cX3_tryTurns 32 = .ok (.getstatic 106, 3) := by decide +kernel
theorem dX3_tryTurns_35 : decode cX3_tryTurns 35 = .ok (.iload 4, 2) := by decide +kernel
theorem dX3_tryTurns_37 : decode cX3_tryTurns 37 = .ok (.iaload, 1) := by decide +kernel
theorem dX3_tryTurns_38 : decode cX3_tryTurns 38 = .ok (.istore 5, 2) := by decide +kernel
theorem dX3_tryTurns_40 : decode cX3_tryTurns 40 = .ok (.aload_n 0, 1) := by decide +kernel
theorem dX3_tryTurns_41 : decode cX3_tryTurns 41 = .ok (.iload_n 2, 1) := by decide +kernel
theorem dX3_tryTurns_42 : decode cX3_tryTurns 42 = .ok (.iload_n 3, 1) := by decide +kernel
theorem dX3_tryTurns_43 : decode cX3_tryTurns 43 = .ok (.iload 5, 2) := by decide +kernel
theorem dX3_tryTurns_45 : decode cX3_tryTurns 45 = .ok (.iadd, 1) := by decide +kernel
theorem dX3_tryTurns_46 : decode cX3_tryTurns 46 = .ok (.iload 5, 2) := by decide +kernel
theorem dX3_tryTurns_48 : decode cX3_tryTurns 48 = .ok (.invokevirtual 73, 3) := by decide +kernel
theorem dX3_tryTurns_51 : decode cX3_tryTurns 51 = .ok (.istore 6, 2) := by decide +kernel
theorem dX3_tryTurns_53 : decode cX3_tryTurns 53 = .ok (.iconst 0, 1) := by decide +kernel
theorem dX3_tryTurns_54 : decode cX3_tryTurns 54 = .ok (.istore 7, 2) := by decide +kernel
theorem dX3_tryTurns_56 : decode cX3_tryTurns 56 = .ok (.iload 7, 2) := by decide +kernel
theorem dX3_tryTurns_58 : decode cX3_tryTurns 58 = .ok (.iload_n 1, 1) := by decide +kernel
theorem dX3_tryTurns_59 : decode cX3_tryTurns 59 = .ok (.if_icmp .ge 40, 3) := by decide +kernel
theorem dX3_tryTurns_62 : decode cX3_tryTurns 62 = .ok (.aload_n 0, 1) := by decide +kernel
theorem dX3_tryTurns_63 : decode cX3_tryTurns 63 = .ok (.getfield 29, 3) := by decide +kernel
theorem dX3_tryTurns_66 : decode cX3_tryTurns 66 = .ok (.iload_n 2, 1) := by decide +kernel
theorem dX3_tryTurns_67 : decode cX3_tryTurns 67 = .ok (.iconst 1, 1) := by decide +kernel
theorem dX3_tryTurns_68 : decode cX3_tryTurns 68 = .ok (.iadd, 1) := by decide +kernel
theorem dX3_tryTurns_69 : decode cX3_tryTurns 69 = .ok (.aaload, 1) := by decide +kernel
theorem dX3_tryTurns_70 : decode cX3_tryTurns 70 = .ok (.iload 7, 2) := by decide +kernel
theorem dX3_tryTurns_72 : decode cX3_tryTurns 72 = .ok (.aload_n 0, 1) := by decide +kernel
theorem dX3_tryTurns_73 : decode cX3_tryTurns 73 = .ok (.getfield 29, 3) := by decide +kernel
theorem dX3_tryTurns_76 : decode cX3_tryTurns 76 = .ok (.iload_n 2, 1) := by decide +kernel
theorem dX3_tryTurns_77 : decode cX3_tryTurns 77 = .ok (.aaload, 1) := by decide +kernel
theorem dX3_tryTurns_78 : decode cX3_tryTurns 78 = .ok (.iload 7, 2) := by decide +kernel
theorem dX3_tryTurns_80 : decode cX3_tryTurns 80 = .ok (.iaload, 1) := by decide +kernel
theorem dX3_tryTurns_81 : decode cX3_tryTurns 81 = .ok (.aload_n 0, 1) := by decide +kernel
theorem dX3_tryTurns_82 : decode cX3_tryTurns 82 = .ok (.getfield 17, 3) := by decide +kernel
theorem dX3_tryTurns_85 : decode cX3_tryTurns 85 = .ok (.iload 7, 2) := by decide +kernel
theorem dX3_tryTurns_87 : decode cX3_tryTurns 87 = .ok (.aaload, 1) := by decide +kernel
theorem dX3_tryTurns_88 : decode cX3_tryTurns 88 = .ok (.iload 6, 2) := by decide +kernel
theorem dX3_tryTurns_90 : decode cX3_tryTurns 90 = .ok (.iaload, 1) := by decide +kernel
theorem dX3_tryTurns_91 : decode cX3_tryTurns 91 = .ok (.iadd, 1) := by decide +kernel
theorem dX3_tryTurns_92 : decode cX3_tryTurns 92 = .ok (.iastore, 1) := by decide +kernel
theorem dX3_tryTurns_93 : decode cX3_tryTurns 93 = .ok (.iinc 7 1, 3) := by decide +kernel
theorem dX3_tryTurns_96 : decode cX3_tryTurns 96 = .ok (.goto (-40), 3) := by decide +kernel
theorem dX3_tryTurns_99 : decode cX3_tryTurns 99 = .ok (.aload_n 0, 1) := by decide +kernel
theorem dX3_tryTurns_100 : decode cX3_tryTurns 100 = .ok (.getfield 26, 3) := by decide +kernel
theorem dX3_tryTurns_103 : decode cX3_tryTurns 103 = .ok (.iload_n 2, 1) := by decide +kernel
theorem dX3_tryTurns_104 : decode cX3_tryTurns 104 = .ok (.iload 5, 2) := by decide +kernel
theorem dX3_tryTurns_106 : decode cX3_tryTurns 106 = .ok (.iastore, 1) := by decide +kernel
theorem dX3_tryTurns_107 : decode cX3_tryTurns 107 = .ok (.aload_n 0, 1) := by decide +kernel
theorem dX3_tryTurns_108 : decode cX3_tryTurns 108 = .ok (.iload_n 1, 1) := by decide +kernel
theorem dX3_tryTurns_109 : decode cX3_tryTurns 109 = .ok (.iload_n 2, 1) := by decide +kernel
theorem dX3_tryTurns_110 : decode cX3_tryTurns 110 = .ok (.iconst 1, 1) := by decide +kernel
theorem dX3_tryTurns_111 : decode cX3_tryTurns 111 = .ok (.iadd, 1) := by decide +kernel
theorem dX3_tryTurns_112 : decode cX3_tryTurns 112 = .ok (.iload_n 3, 1) := by decide +kernel
theorem dX3_tryTurns_113 : decode cX3_tryTurns 113 = .ok (.iload 5, 2) := by decide +kernel
theorem dX3_tryTurns_115 : decode cX3_tryTurns 115 = .ok (.iadd, 1) := by decide +kernel
theorem dX3_tryTurns_116 : decode cX3_tryTurns 116 = .ok (.invokevirtual 131, 3) := by decide +kernel
theorem dX3_tryTurns_119 : decode cX3_tryTurns 119 = .ok (.iinc 4 1, 3) := by decide +kernel
theorem dX3_tryTurns_122 : decode cX3_tryTurns 122 = .ok (.goto (-99), 3) := by decide +kernel
theorem dX3_tryTurns_125 : decode cX3_tryTurns 125 = .ok (.return_, 1) := by decide +kernel
theorem dX3_weighTried_0 : decode cX3_weighTried 0 = .ok (.aload_n 0, 1) := by decide +kernel
theorem dX3_weighTried_1 : decode cX3_weighTried 1 = .ok (.getfield 29, 3) := by decide +kernel
theorem dX3_weighTried_4 : decode cX3_weighTried 4 = .ok (.aload_n 0, 1) := by decide +kernel
theorem dX3_weighTried_5 : decode cX3_weighTried 5 = .ok (.getfield 39, 3) := by decide +kernel
theorem dX3_weighTried_8 : decode cX3_weighTried 8 = .ok (.aaload, 1) := by decide +kernel
theorem dX3_weighTried_9 : decode cX3_weighTried 9 = .ok (.astore_n 2, 1) := by decide +kernel
theorem dX3_weighTried_10 : decode cX3_weighTried 10 = .ok (.iload_n 1, 1) := by decide +kernel
theorem dX3_weighTried_11 : decode cX3_weighTried 11 = .ok (.ifCond .le 9, 3) := by decide +kernel
theorem dX3_weighTried_14 : decode cX3_weighTried 14 = .ok (.aload_n 2, 1) := by decide +kernel
theorem dX3_weighTried_15 : decode cX3_weighTried 15 = .ok (.iconst 0, 1) := by decide +kernel
theorem dX3_weighTried_16 : decode cX3_weighTried 16 = .ok (.iaload, 1) := by decide +kernel
theorem dX3_weighTried_17 : decode cX3_weighTried 17 = .ok (.goto 4, 3) := by decide +kernel
theorem dX3_weighTried_20 : decode cX3_weighTried 20 = .ok (.iconst 0, 1) := by decide +kernel
theorem dX3_weighTried_21 : decode cX3_weighTried 21 = .ok (.istore_n 3, 1) := by decide +kernel
theorem dX3_weighTried_22 : decode cX3_weighTried 22 = .ok (.iconst 0, 1) := by decide +kernel
theorem dX3_weighTried_23 : decode cX3_weighTried 23 = .ok (.istore 4, 2) := by decide +kernel
theorem dX3_weighTried_25 : decode cX3_weighTried 25 = .ok (.iconst 0, 1) := by decide +kernel
theorem dX3_weighTried_26 : decode cX3_weighTried 26 = .ok (.istore 5, 2) := by decide +kernel
theorem dX3_weighTried_28 : decode cX3_weighTried 28 = .ok (.iload 5, 2) := by decide +kernel
theorem dX3_weighTried_30 : decode cX3_weighTried 30 = .ok (.iload_n 1, 1) := by decide +kernel
theorem dX3_weighTried_31 : decode cX3_weighTried 31 = .ok (.if_icmp .ge 27, 3) := by decide +kernel
theorem dX3_weighTried_34 : decode cX3_weighTried 34 = .ok (.iload_n 3, 1) := by decide +kernel
theorem dX3_weighTried_35 : decode cX3_weighTried 35 = .ok (.aload_n 2, 1) := by decide +kernel
theorem dX3_weighTried_36 : decode cX3_weighTried 36 = .ok (.iload 5, 2) := by decide +kernel
theorem dX3_weighTried_38 : decode cX3_weighTried 38 = .ok (.iaload, 1) := by decide +kernel
theorem dX3_weighTried_39 : decode cX3_weighTried 39 = .ok (.invokestatic 92, 3) := by decide +kernel
theorem dX3_weighTried_42 : decode cX3_weighTried 42 = .ok (.istore_n 3, 1) := by decide +kernel
theorem dX3_weighTried_43 : decode cX3_weighTried 43 = .ok (.iload 4, 2) := by decide +kernel
theorem dX3_weighTried_45 : decode cX3_weighTried 45 = .ok (.aload_n 2, 1) := by decide +kernel
theorem dX3_weighTried_46 : decode cX3_weighTried 46 = .ok (.iload 5, 2) := by decide +kernel
theorem dX3_weighTried_48 : decode cX3_weighTried 48 = .ok (.iaload, 1) := by decide +kernel
theorem dX3_weighTried_49 : decode cX3_weighTried 49 = .ok (.iadd, 1) := by decide +kernel
theorem dX3_weighTried_50 : decode cX3_weighTried 50 = .ok (.istore 4, 2) := by decide +kernel
theorem dX3_weighTried_52 : decode cX3_weighTried 52 = .ok (.iinc 5 1, 3) := by decide +kernel
theorem dX3_weighTried_55 : decode cX3_weighTried 55 = .ok (.goto (-27), 3) := by decide +kernel
theorem dX3_weighTried_58 : decode cX3_weighTried 58 = .ok (.aload_n 0, 1) := by decide +kernel
theorem dX3_weighTried_59 : decode cX3_weighTried 59 = .ok (.getfield 121, 3) := by decide +kernel
theorem dX3_weighTried_62 : decode cX3_weighTried 62 = .ok (.ifCond .eq 28, 3) := by decide +kernel
theorem dX3_weighTried_65 : decode cX3_weighTried 65 = .ok (.iload_n 3, 1) := by decide +kernel
theorem dX3_weighTried_66 : decode cX3_weighTried 66 = .ok (.aload_n 0, 1) := by decide +kernel
theorem dX3_weighTried_67 : decode cX3_weighTried 67 = .ok (.getfield 139, 3) := by decide +kernel
theorem dX3_weighTried_70 : decode cX3_weighTried 70 = .ok (.if_icmp .gt 20, 3) := by decide +kernel
theorem dX3_weighTried_73 : decode cX3_weighTried 73 = .ok (.iload_n 3, 1) := by decide +kernel
theorem dX3_weighTried_74 : decode cX3_weighTried 74 = .ok (.aload_n 0, 1) := by decide +kernel
theorem dX3_weighTried_75 : decode cX3_weighTried 75 = .ok (.getfield 139, 3) := by decide +kernel
theorem dX3_weighTried_78 : decode cX3_weighTried 78 = .ok (.if_icmp .ne 45, 3) := by decide +kernel
theorem dX3_weighTried_81 : decode cX3_weighTried 81 = .ok (.iload 4, 2) := by decide +kernel
theorem dX3_weighTried_83 : decode cX3_weighTried 83 = .ok (.aload_n 0, 1) := by decide +kernel
theorem dX3_weighTried_84 : decode cX3_weighTried 84 = .ok (.getfield 142, 3) := by decide +kernel
theorem dX3_weighTried_87 : decode cX3_weighTried 87 = .ok (.if_icmp .le 36, 3) := by decide +kernel
theorem dX3_weighTried_90 : decode cX3_weighTried 90 = .ok (.aload_n 0, 1) := by decide +kernel
theorem dX3_weighTried_91 : decode cX3_weighTried 91 = .ok (.iconst 1, 1) := by decide +kernel
theorem dX3_weighTried_92 : decode cX3_weighTried 92 = .ok (.putfield 121, 3) := by decide +kernel
theorem dX3_weighTried_95 : decode cX3_weighTried 95 = .ok (.aload_n 0, 1) := by decide +kernel
theorem dX3_weighTried_96 : decode cX3_weighTried 96 = .ok (.iload_n 3, 1) := by decide +kernel
theorem dX3_weighTried_97 : decode cX3_weighTried 97 = .ok (.putfield 139, 3) := by decide +kernel
theorem dX3_weighTried_100 : decode cX3_weighTried 100 = .ok (.aload_n 0, 1) := by decide +kernel
theorem dX3_weighTried_101 : decode cX3_weighTried 101 = .ok (.iload 4, 2) := by decide +kernel
theorem dX3_weighTried_103 : decode cX3_weighTried 103 = .ok (.putfield 142, 3) := by decide +kernel
theorem dX3_weighTried_106 : decode cX3_weighTried 106 = .ok (.aload_n 0, 1) := by decide +kernel
theorem dX3_weighTried_107 : decode cX3_weighTried 107 = .ok (.getfield 26, 3) := by decide +kernel
theorem dX3_weighTried_110 : decode cX3_weighTried 110 = .ok (.iconst 0, 1) := by decide +kernel
theorem dX3_weighTried_111 : decode cX3_weighTried 111 = .ok (.aload_n 0, 1) := by decide +kernel
theorem dX3_weighTried_112 : decode cX3_weighTried 112 = .ok (.getfield 23, 3) := by decide +kernel
theorem dX3_weighTried_115 : decode cX3_weighTried 115 = .ok (.iconst 0, 1) := by decide +kernel
theorem dX3_weighTried_116 : decode cX3_weighTried 116 = .ok (.aload_n 0, 1) := by decide +kernel
theorem dX3_weighTried_117 : decode cX3_weighTried 117 = .ok (.getfield 39, 3) := by decide +kernel
theorem dX3_weighTried_120 : decode cX3_weighTried 120 = .ok (.invokestatic 145, 3) := by decide +kernel
theorem dX3_weighTried_123 : decode cX3_weighTried 123 = .ok (.return_, 1) := by decide +kernel
theorem dX3_findLeavers_0 : decode cX3_findLeavers 0 = .ok (.aload_n 0, 1) := by decide +kernel
theorem dX3_findLeavers_1 : decode cX3_findLeavers 1 = .ok (.aload_n 1, 1) := by decide +kernel
theorem dX3_findLeavers_2 : decode cX3_findLeavers 2 = .ok (.iload_n 2, 1) := by decide +kernel
theorem dX3_findLeavers_3 : decode cX3_findLeavers 3 = .ok (.invokevirtual 151, 3) := by decide +kernel
theorem dX3_findLeavers_6 : decode cX3_findLeavers 6 = .ok (.pop, 1) := by decide +kernel
theorem dX3_findLeavers_7 : decode cX3_findLeavers 7 = .ok (.aload_n 0, 1) := by decide +kernel
theorem dX3_findLeavers_8 : decode cX3_findLeavers 8 = .ok (.aload_n 1, 1) := by decide +kernel
theorem dX3_findLeavers_9 : decode cX3_findLeavers 9 = .ok (.invokevirtual 117, 3) := by decide +kernel
theorem dX3_findLeavers_12 : decode cX3_findLeavers 12 = .ok (.aload_n 0, 1) := by decide +kernel
theorem dX3_findLeavers_13 : decode cX3_findLeavers 13 = .ok (.aload_n 1, 1) := by decide +kernel
theorem dX3_findLeavers_14 : decode cX3_findLeavers 14 = .ok (.getfield 55, 3) := by decide +kernel
theorem dX3_findLeavers_17 : decode cX3_findLeavers 17 = .ok (.invokevirtual 155, 3) := by decide +kernel
theorem dX3_findLeavers_20 : decode cX3_findLeavers 20 = .ok (.aload_n 0, 1) := by decide +kernel
theorem dX3_findLeavers_21 : decode cX3_findLeavers 21 = .ok (.getfield 11, 3) := by decide +kernel
theorem dX3_findLeavers_24 : decode cX3_findLeavers 24 = .ok (.iconst 0, 1) := by decide +kernel
theorem dX3_findLeavers_25 : decode cX3_findLeavers 25 = .ok (.invokestatic 125, 3) := by decide +kernel
theorem dX3_findLeavers_28 : decode cX3_findLeavers 28 = .ok (.aload_n 1, 1) := by decide +kernel
theorem dX3_findLeavers_29 : decode cX3_findLeavers 29 = .ok (.getfield 55, 3) := by decide +kernel
theorem dX3_findLeavers_32 : decode cX3_findLeavers 32 = .ok (.invokevirtual 95, 3) := by decide +kernel
theorem dX3_findLeavers_35 : decode cX3_findLeavers 35 = .ok (.istore_n 3, 1) := by decide +kernel
theorem dX3_findLeavers_36 : decode cX3_findLeavers 36 = .ok (.iconst (-1), 1) := by decide +kernel
theorem dX3_findLeavers_37 : decode cX3_findLeavers 37 = .ok (.istore 4, 2) := by decide +kernel
theorem dX3_findLeavers_39 : decode cX3_findLeavers 39 = .ok (.iconst 0, 1) := by decide +kernel
theorem dX3_findLeavers_40 : decode cX3_findLeavers 40 = .ok (.istore 5, 2) := by decide +kernel
theorem dX3_findLeavers_42 : decode cX3_findLeavers 42 = .ok (.iconst 0, 1) := by decide +kernel
theorem dX3_findLeavers_43 : decode cX3_findLeavers 43 = .ok (.istore 6, 2) := by decide +kernel
theorem dX3_findLeavers_45 : decode cX3_findLeavers 45 = .ok (.iconst 0, 1) := by decide +kernel
theorem dX3_findLeavers_46 : decode cX3_findLeavers 46 = .ok (.istore 7, 2) := by decide +kernel
theorem dX3_findLeavers_48 : decode cX3_findLeavers 48 = .ok (.iconst 1, 1) := by decide +kernel
theorem dX3_findLeavers_49 : decode cX3_findLeavers 49 = .ok (.istore 8, 2) := by decide +kernel
theorem dX3_findLeavers_51 : decode cX3_findLeavers 51 = .ok (.iload 8, 2) := by decide +kernel
theorem dX3_findLeavers_53 : decode cX3_findLeavers 53 = .ok (.iload_n 3, 1) := by decide +kernel
theorem dX3_findLeavers_54 : decode cX3_findLeavers 54 = .ok (.if_icmp .gt 120, 3) := by decide +kernel
theorem dX3_findLeavers_57 : decode cX3_findLeavers 57 = .ok (.iload 8, 2) := by decide +kernel
theorem dX3_findLeavers_59 : decode cX3_findLeavers 59 = .ok (.invokestatic 159, 3) := by decide +kernel
theorem dX3_findLeavers_62 : decode cX3_findLeavers 62 = .ok (.bipush 9, 2) := by decide +kernel
theorem dX3_findLeavers_64 : decode cX3_findLeavers 64 = .ok (.invokestatic 92, 3) := by decide +kernel
theorem dX3_findLeavers_67 : decode cX3_findLeavers 67 = .ok (.istore 9, 2) := by decide +kernel
theorem dX3_findLeavers_69 : decode cX3_findLeavers 69 = .ok (.iload 5, 2) := by decide +kernel
theorem dX3_findLeavers_71 : decode cX3_findLeavers 71 = .ok (.iconst 1, 1) := by decide +kernel
theorem dX3_findLeavers_72 : decode cX3_findLeavers 72 = .ok (.iload 9, 2) := by decide +kernel
theorem dX3_findLeavers_74 : decode cX3_findLeavers 74 = .ok (.ishl, 1) := by decide +kernel
theorem dX3_findLeavers_75 : decode cX3_findLeavers 75 = .ok (.ixor, 1) := by decide +kernel
theorem dX3_findLeavers_76 : decode cX3_findLeavers 76 = .ok (.istore 5, 2) := by decide +kernel
theorem dX3_findLeavers_78 : decode cX3_findLeavers 78 = .ok (.iload 5, 2) := by decide +kernel
theorem dX3_findLeavers_80 : decode cX3_findLeavers 80 = .ok (.iload 9, 2) := by decide +kernel
theorem dX3_findLeavers_82 : decode cX3_findLeavers 82 = .ok (.ishr, 1) := by decide +kernel
theorem dX3_findLeavers_83 : decode cX3_findLeavers 83 = .ok (.iconst 1, 1) := by decide +kernel
theorem dX3_findLeavers_84 : decode cX3_findLeavers 84 = .ok (.iand, 1) := by decide +kernel
theorem dX3_findLeavers_85 : decode cX3_findLeavers 85 = .ok (.ifCond .eq 7, 3) := by decide +kernel
theorem dX3_findLeavers_88 : decode cX3_findLeavers 88 = .ok (.iconst 1, 1) := by decide +kernel
theorem dX3_findLeavers_89 : decode cX3_findLeavers 89 = .ok (.goto 4, 3) := by decide +kernel
theorem dX3_findLeavers_92 : decode cX3_findLeavers 92 = .ok (.iconst (-1), 1) := by decide +kernel
theorem dX3_findLeavers_93 : decode cX3_findLeavers 93 = .ok (.istore 10, 2) := by decide +kernel
theorem dX3_findLeavers_95 : decode cX3_findLeavers 95 = .ok (.iload 6, 2) := by decide +kernel
theorem dX3_findLeavers_97 : decode cX3_findLeavers 97 = .ok (.iload 10, 2) := by decide +kernel
theorem dX3_findLeavers_99 : decode cX3_findLeavers 99 = .ok (.aload_n 0, 1) := by decide +kernel
theorem dX3_findLeavers_100 : decode cX3_findLeavers 100 = .ok (.getfield 32, 3) := by decide +kernel
theorem dX3_findLeavers_103 : decode cX3_findLeavers 103 = .ok (.iload 9, 2) := by decide +kernel
theorem dX3_findLeavers_105 : decode cX3_findLeavers 105 = .ok (.iaload, 1) := by decide +kernel
theorem dX3_findLeavers_106 : decode cX3_findLeavers 106 = .ok (.imul, 1) := by decide +kernel
theorem dX3_findLeavers_107 : decode cX3_findLeavers 107 = .ok (.iadd, 1) := by decide +kernel
theorem dX3_findLeavers_108 : decode cX3_findLeavers 108 = .ok (.istore 6, 2) := by decide +kernel
theorem dX3_findLeavers_110 : decode cX3_findLeavers 110 = .ok (.iload 7, 2) := by decide +kernel
theorem dX3_findLeavers_112 : decode cX3_findLeavers 112 = .ok (.iload 10, 2) := by decide +kernel
theorem dX3_findLeavers_114 : decode cX3_findLeavers 114 = .ok (.aload_n 1, 1) := by decide +kernel
theorem dX3_findLeavers_115 : decode cX3_findLeavers 115 = .ok (.getfield 55, 3) := by decide +kernel
theorem dX3_findLeavers_118 : decode cX3_findLeavers 118 = .ok (.getfield 164, 3) := by decide +kernel
theorem dX3_findLeavers_121 : decode cX3_findLeavers 121 = .ok (.iload 9, 2) := by decide +kernel
theorem dX3_findLeavers_123 : decode cX3_findLeavers 123 = .ok (.iaload, 1) := by decide +kernel
theorem dX3_findLeavers_124 : decode cX3_findLeavers 124 = .ok (.imul, 1) := by decide +kernel
theorem dX3_findLeavers_125 : decode cX3_findLeavers 125 = .ok (.iadd, 1) := by decide +kernel
theorem dX3_findLeavers_126 : decode cX3_findLeavers 126 = .ok (.istore 7, 2) := by decide +kernel
theorem dX3_findLeavers_128 : decode cX3_findLeavers 128 = .ok (.aload_n 0, 1) := by decide +kernel
theorem dX3_findLeavers_129 : decode cX3_findLeavers 129 = .ok (.iload 9, 2) := by decide +kernel
theorem dX3_findLeavers_131 : decode cX3_findLeavers 131 = .ok (.iload 10, 2) := by decide +kernel
theorem dX3_findLeavers_133 : decode cX3_findLeavers 133 = .ok (.invokevirtual 167, 3) := by decide +kernel
theorem dX3_findLeavers_136 : decode cX3_findLeavers 136 = .ok (.iload 5, 2) := by decide +kernel
theorem dX3_findLeavers_138 : decode cX3_findLeavers 138 = .ok (.iload 4, 2) := by decide +kernel
theorem dX3_findLeavers_140 : decode cX3_findLeavers 140 = .ok (.invokestatic 171, 3) := by decide +kernel
theorem dX3_findLeavers_143 : decode cX3_findLeavers 143 = .ok (.ifCond .eq 25, 3) := by decide +kernel
theorem dX3_findLeavers_146 : decode cX3_findLeavers 146 = .ok (.iload 6, 2) := by decide +kernel
theorem dX3_findLeavers_148 : decode cX3_findLeavers 148 = .ok (.aload_n 0, 1) := by decide +kernel
theorem dX3_findLeavers_149 : decode cX3_findLeavers 149 = .ok (.aload_n 1, 1) := by decide +kernel
theorem dX3_findLeavers_150 : decode cX3_findLeavers 150 = .ok (.getfield 55, 3) := by decide +kernel
theorem dX3_findLeavers_153 : decode cX3_findLeavers 153 = .ok (.iload 7, 2) := by decide +kernel
theorem dX3_findLeavers_155 : decode cX3_findLeavers 155 = .ok (.invokevirtual 113, 3) := by decide +kernel
theorem dX3_findLeavers_158 : decode cX3_findLeavers 158 = .ok (.invokevirtual 99, 3) := by decide +kernel
theorem dX3_findLeavers_161 : decode cX3_findLeavers 161 = .ok (.if_icmp .ge 7, 3) := by decide +kernel
theorem dX3_findLeavers_164 : decode cX3_findLeavers 164 = .ok (.iload 5, 2) := by decide +kernel
theorem dX3_findLeavers_166 : decode cX3_findLeavers 166 = .ok (.istore 4, 2) := by decide +kernel
theorem dX3_findLeavers_168 : decode cX3_findLeavers 168 = .ok (.iinc 8 1, 3) := by decide +kernel
theorem dX3_findLeavers_171 : decode cX3_findLeavers 171 = .ok (.goto (-120), 3) := by decide +kernel
theorem dX3_findLeavers_174 : decode cX3_findLeavers 174 = .ok (.iload 4, 2) := by decide +kernel
theorem dX3_findLeavers_176 : decode cX3_findLeavers 176 = .ok (.ireturn, 1) := by decide +kernel
theorem dX3_shareOut_0 : decode cX3_shareOut 0 = .ok (.iconst 0, 1) := by decide +kernel
theorem dX3_shareOut_1 : decode cX3_shareOut 1 = .ok (.istore_n 2, 1) := by decide +kernel
theorem dX3_shareOut_2 : decode cX3_shareOut 2 = .ok (.iload_n 2, 1) := by decide +kernel
theorem dX3_shareOut_3 : decode cX3_shareOut 3 = .ok (.aload_n 1, 1) := by decide +kernel
theorem dX3_shareOut_4 : decode cX3_shareOut 4 = .ok (.getfield 59, 3) := by decide +kernel
theorem dX3_shareOut_7 : decode cX3_shareOut 7 = .ok (.if_icmp .ge 81, 3) := by decide +kernel
theorem dX3_shareOut_10 : decode cX3_shareOut 10 = .ok (.aload_n 0, 1) := by decide +kernel
theorem dX3_shareOut_11 : decode cX3_shareOut 11 = .ok (.getfield 32, 3) := by decide +kernel
theorem dX3_shareOut_14 : decode cX3_shareOut 14 = .ok (.iload_n 2, 1) := by decide +kernel
theorem dX3_shareOut_15 : decode cX3_shareOut 15 = .ok (.aload_n 1, 1) := by decide +kernel
theorem dX3_shareOut_16 : decode cX3_shareOut 16 = .ok (.getfield 175, 3) := by decide +kernel
theorem dX3_shareOut_19 : decode cX3_shareOut 19 = .ok (.iload_n 2, 1) := by decide +kernel
theorem dX3_shareOut_20 : decode cX3_shareOut 20 = .ok (.iaload, 1) := by decide +kernel
theorem dX3_shareOut_21 : decode cX3_shareOut 21 = .ok (.iastore, 1) := by decide +kernel
theorem dX3_shareOut_22 : decode cX3_shareOut 22 = .ok (.iconst 0, 1) := by decide +kernel
theorem dX3_shareOut_23 : decode cX3_shareOut 23 = .ok (.istore_n 3, 1) := by decide +kernel
theorem dX3_shareOut_24 : decode cX3_shareOut 24 = .ok (.iconst 0, 1) := by decide +kernel
theorem dX3_shareOut_25 : decode cX3_shareOut 25 = .ok (.istore 4, 2) := by decide +kernel
theorem dX3_shareOut_27 : decode cX3_shareOut 27 = .ok (.iload 4, 2) := by decide +kernel
theorem dX3_shareOut_29 : decode cX3_shareOut 29 = .ok (.aload_n 0, 1) := by decide +kernel
theorem dX3_shareOut_30 : decode cX3_shareOut 30 = .ok (.getfield 39, 3) := by decide +kernel
theorem dX3_shareOut_33 : decode cX3_shareOut 33 = .ok (.if_icmp .ge 49, 3) := by decide +kernel
theorem dX3_shareOut_36 : decode cX3_shareOut 36 = .ok (.iload_n 3, 1) := by decide +kernel
theorem dX3_shareOut_37 : decode cX3_shareOut 37 = .ok (.aload_n 0, 1) := by decide +kernel
theorem dX3_shareOut_38 : decode cX3_shareOut 38 = .ok (.getfield 23, 3) := by decide +kernel
theorem dX3_shareOut_41 : decode cX3_shareOut 41 = .ok (.iload 4, 2) := by decide +kernel
theorem dX3_shareOut_43 : decode cX3_shareOut 43 = .ok (.iaload, 1) := by decide +kernel
theorem dX3_shareOut_44 : decode cX3_shareOut 44 = .ok (.iadd, 1) := by decide +kernel
theorem dX3_shareOut_45 : decode cX3_shareOut 45 = .ok (.istore_n 3, 1) := by decide +kernel
theorem dX3_shareOut_46 : decode cX3_shareOut 46 = .ok (.aload_n 0, 1) := by decide +kernel
theorem dX3_shareOut_47 : decode cX3_shareOut 47 = .ok (.getfield 32, 3) := by decide +kernel
theorem dX3_shareOut_50 : decode cX3_shareOut 50 = .ok (.iload_n 2, 1) := by decide +kernel
theorem dX3_shareOut_51 : decode cX3_shareOut 51 = .ok (.dup2, 1) := by decide +kernel
theorem dX3_shareOut_52 : decode cX3_shareOut 52 = .ok (.iaload, 1) := by decide +kernel
theorem dX3_shareOut_53 : decode cX3_shareOut 53 = .ok (.aload_n 0, 1) := by decide +kernel
theorem dX3_shareOut_54 : decode cX3_shareOut 54 = .ok (.getfield 17, 3) := by decide +kernel
theorem dX3_shareOut_57 : decode cX3_shareOut 57 = .ok (.iload_n 2, 1) := by decide +kernel
theorem dX3_shareOut_58 : decode cX3_shareOut 58 = .ok (.aaload, 1) := by decide +kernel
theorem dX3_shareOut_59 : decode cX3_shareOut 59 = .ok (.aload_n 0, 1) := by decide +kernel
theorem dX3_shareOut_60 : decode cX3_shareOut 60 = .ok (.iload 4, 2) := by decide +kernel
theorem dX3_shareOut_62 : decode cX3_shareOut 62 = .ok (.iload_n 3, 1) := by decide +kernel
theorem dX3_shareOut_63 : decode cX3_shareOut 63 = .ok (.aload_n 0, 1) := by decide +kernel
theorem dX3_shareOut_64 : decode cX3_shareOut 64 = .ok (.getfield 23, 3) := by decide +kernel
theorem dX3_shareOut_67 : decode cX3_shareOut 67 = .ok (.iload 4, 2) := by decide +kernel
theorem dX3_shareOut_69 : decode cX3_shareOut 69 = .ok (.iaload, 1) := by decide +kernel
theorem dX3_shareOut_70 : decode cX3_shareOut 70 = .ok (.invokevirtual 73, 3) := by decide +kernel
theorem dX3_shareOut_73 : decode cX3_shareOut 73 = .ok (.iaload, 1) := by decide +kernel
theorem dX3_shareOut_74 : decode cX3_shareOut 74 = .ok (.iadd, 1) := by decide +kernel
theorem dX3_shareOut_75 : decode cX3_shareOut 75 = .ok (.iastore, 1) := by decide +kernel
theorem dX3_shareOut_76 : decode cX3_shareOut 76 = .ok (.iinc 4 1, 3) := by decide +kernel
theorem dX3_shareOut_79 : decode cX3_shareOut 79 = .ok (.goto (-52), 3) := by decide +kernel
theorem dX3_shareOut_82 : decode cX3_shareOut 82 = .ok (.iinc 2 1, 3) := by decide +kernel
theorem dX3_shareOut_85 : decode cX3_shareOut 85 = .ok (.goto (-83), 3) := by decide +kernel
theorem dX3_shareOut_88 : decode cX3_shareOut 88 = .ok (.return_, 1) := by decide +kernel
theorem dX3_addOwn_0 : decode cX3_addOwn 0 = .ok (.aload_n 0, 1) := by decide +kernel
theorem dX3_addOwn_1 : decode cX3_addOwn 1 = .ok (.getfield 17, 3) := by decide +kernel
theorem dX3_addOwn_4 : decode cX3_addOwn 4 = .ok (.iload_n 1, 1) := by decide +kernel
theorem dX3_addOwn_5 : decode cX3_addOwn 5 = .ok (.aaload, 1) := by decide +kernel
theorem dX3_addOwn_6 : decode cX3_addOwn 6 = .ok (.astore_n 3, 1) := by decide +kernel
theorem dX3_addOwn_7 : decode cX3_addOwn 7 = .ok (.aload_n 3, 1) := by decide +kernel
theorem dX3_addOwn_8 : decode cX3_addOwn 8 = .ok (.arraylength, 1) := by decide +kernel
theorem dX3_addOwn_9 : decode cX3_addOwn 9 = .ok (.aload_n 0, 1) := by decide +kernel
theorem dX3_addOwn_10 : decode cX3_addOwn 10 = .ok (.getfield 39, 3) := by decide +kernel
theorem dX3_addOwn_13 : decode cX3_addOwn 13 = .ok (.iconst 2, 1) := by decide +kernel
theorem dX3_addOwn_14 : decode cX3_addOwn 14 = .ok (.aload_n 0, 1) := by decide +kernel
theorem dX3_addOwn_15 : decode cX3_addOwn 15 = .ok (.getfield 39, 3) := by decide +kernel
theorem dX3_addOwn_18 : decode cX3_addOwn 18 = .ok (.imul, 1) := by decide +kernel
theorem dX3_addOwn_19 : decode cX3_addOwn 19 = .ok (.iconst 1, 1) := by decide +kernel
theorem dX3_addOwn_20 : decode cX3_addOwn 20 = .ok (.iadd, 1) := by decide +kernel
theorem dX3_addOwn_21 : decode cX3_addOwn 21 = .ok (.imul, 1) := by decide +kernel
theorem dX3_addOwn_22 : decode cX3_addOwn 22 = .ok (.iconst 2, 1) := by decide +kernel
theorem dX3_addOwn_23 : decode cX3_addOwn 23 = .ok (.imul, 1) := by decide +kernel
theorem dX3_addOwn_24 : decode cX3_addOwn 24 = .ok (.invokestatic 92, 3) := by decide +kernel
theorem dX3_addOwn_27 : decode cX3_addOwn 27 = .ok (.istore 4, 2) := by decide +kernel
theorem dX3_addOwn_29 : decode cX3_addOwn 29 = .ok (.iconst 0, 1) := by decide +kernel
theorem dX3_addOwn_30 : decode cX3_addOwn 30 = .ok (.istore 5, 2) := by decide +kernel
theorem dX3_addOwn_32 : decode cX3_addOwn 32 = .ok (.iload 5, 2) := by decide +kernel
theorem dX3_addOwn_34 : decode cX3_addOwn 34 = .ok (.iload 4, 2) := by decide +kernel
theorem dX3_addOwn_36 : decode cX3_addOwn 36 = .ok (.if_icmp .ge 25, 3) := by decide +kernel
theorem dX3_addOwn_39 : decode cX3_addOwn 39 = .ok (.aload_n 0, 1) := by decide +kernel
theorem dX3_addOwn_40 : decode cX3_addOwn 40 = .ok (.getfield 11, 3) := by decide +kernel
theorem dX3_addOwn_43 : decode cX3_addOwn 43 = .ok (.iload 5, 2) := by decide +kernel
theorem dX3_addOwn_45 : decode cX3_addOwn 45 = .ok (.dup2, 1) := by decide +kernel
theorem dX3_addOwn_46 : decode cX3_addOwn 46 = .ok (.iaload, 1) := by decide +kernel
theorem dX3_addOwn_47 : decode cX3_addOwn 47 = .ok (.iload_n 2, 1) := by decide +kernel
theorem dX3_addOwn_48 : decode cX3_addOwn 48 = .ok (.aload_n 3, 1) := by decide +kernel
theorem dX3_addOwn_49 : decode cX3_addOwn 49 = .ok (.iload 5, 2) := by decide +kernel
theorem dX3_addOwn_51 : decode cX3_addOwn 51 = .ok (.iaload, 1) := by decide +kernel
theorem dX3_addOwn_52 : decode cX3_addOwn 52 = .ok (.imul, 1) := by decide +kernel
theorem dX3_addOwn_53 : decode cX3_addOwn 53 = .ok (.iadd, 1) := by decide +kernel
theorem dX3_addOwn_54 : decode cX3_addOwn 54 = .ok (.iastore, 1) := by decide +kernel
theorem dX3_addOwn_55 : decode cX3_addOwn 55 = .ok (.iinc 5 1, 3) := by decide +kernel
theorem dX3_addOwn_58 : decode cX3_addOwn 58 = .ok (.goto (-26), 3) := by decide +kernel
theorem dX3_addOwn_61 : decode cX3_addOwn 61 = .ok (.return_, 1) := by decide +kernel
theorem dX3_isAhead_0 : decode cX3_isAhead 0 = .ok (.iload_n 1, 1) := by decide +kernel
theorem dX3_isAhead_1 : decode cX3_isAhead 1 = .ok (.iconst (-1), 1) := by decide +kernel
theorem dX3_isAhead_2 : decode cX3_isAhead 2 = .ok (.if_icmp .ne 5, 3) := by decide +kernel
theorem dX3_isAhead_5 : decode cX3_isAhead 5 = .ok (.iconst 1, 1) := by decide +kernel
theorem dX3_isAhead_6 : decode cX3_isAhead 6 = .ok (.ireturn, 1) := by decide +kernel
theorem dX3_isAhead_7 : decode cX3_isAhead 7 = .ok (.iload_n 0, 1) := by decide +kernel
theorem dX3_isAhead_8 : decode cX3_isAhead 8 = .ok (.invokestatic 178, 3) := by decide +kernel
theorem dX3_isAhead_11 : decode cX3_isAhead 11 = .ok (.iload_n 1, 1) := by decide +kernel
theorem dX3_isAhead_12 : decode cX3_isAhead 12 = .ok (.invokestatic 178, 3) := by decide +kernel
theorem dX3_isAhead_15 : decode cX3_isAhead 15 = .ok (.isub, 1) := by decide +kernel
theorem dX3_isAhead_16 : decode cX3_isAhead 16 = .ok (.istore_n 2, 1) := by decide +kernel
theorem dX3_isAhead_17 : decode cX3_isAhead 17 = .ok (.iload_n 2, 1) := by decide +kernel
theorem dX3_isAhead_18 : decode cX3_isAhead 18 = .ok (.ifCond .lt 12, 3) := by decide +kernel
theorem dX3_isAhead_21 : decode cX3_isAhead 21 = .ok (.iload_n 2, 1) := by decide +kernel
theorem dX3_isAhead_22 : decode cX3_isAhead 22 = .ok (.ifCond .ne 12, 3) := by decide +kernel
theorem dX3_isAhead_25 : decode cX3_isAhead 25 = .ok (.iload_n 0, 1) := by decide +kernel
theorem dX3_isAhead_26 : decode cX3_isAhead 26 = .ok (.iload_n 1, 1) := by decide +kernel
theorem dX3_isAhead_27 : decode cX3_isAhead 27 = .ok (.if_icmp .ge 7, 3) := by decide +kernel
theorem dX3_isAhead_30 : decode cX3_isAhead 30 = .ok (.iconst 1, 1) := by decide +kernel
theorem dX3_isAhead_31 : decode cX3_isAhead 31 = .ok (.goto 4, 3) := by decide +kernel
theorem dX3_isAhead_34 : decode cX3_isAhead 34 = .ok (.iconst 0, 1) := by decide +kernel
theorem dX3_isAhead_35 : decode cX3_isAhead 35 = .ok (.ireturn, 1) := by decide +kernel
theorem dX4_init_0 : decode cX4_init 0 = .ok (.aload_n 0, 1) := by decide +kernel
theorem dX4_init_1 : decode cX4_init 1 = .ok (.invokespecial 3, 3) := by decide +kernel
theorem dX4_init_4 : decode cX4_init 4 = .ok (.aload_n 0, 1) := by decide +kernel
theorem dX4_init_5 : decode cX4_init 5 = .ok (.bipush 10, 2) := by decide +kernel
theorem dX4_init_7 : decode cX4_init 7 = .ok (.newarray .int, 2) := by decide +kernel
theorem dX4_init_9 : decode cX4_init 9 = .ok (.putfield 9, 3) := by decide +kernel
theorem dX4_init_12 : decode cX4_init 12 = .ok (.aload_n 0, 1) := by decide +kernel
theorem dX4_init_13 : decode cX4_init 13 = .ok (.bipush 10, 2) := by decide +kernel
theorem dX4_init_15 : decode cX4_init 15 = .ok (.newarray .int, 2) := by decide +kernel
theorem dX4_init_17 : decode cX4_init 17 = .ok (.putfield 15, 3) := by decide +kernel
theorem dX4_init_20 : decode cX4_init 20 = .ok (.aload_n 0, 1) := by decide +kernel
theorem dX4_init_21 : decode cX4_init 21 = .ok (.bipush 10, 2) := by decide +kernel
theorem dX4_init_23 : decode cX4_init 23 = .ok (.newarray .int, 2) := by decide +kernel
theorem dX4_init_25 : decode cX4_init 25 = .ok (.putfield 18, 3) := by decide +kernel
theorem dX4_init_28 : decode cX4_init 28 = .ok (.aload_n 0, 1) := by decide +kernel
theorem dX4_init_29 : decode cX4_init 29 = .ok (.bipush 10, 2) := by decide +kernel
theorem dX4_init_31 : decode cX4_init 31 = .ok (.newarray .int, 2) := by decide +kernel
theorem dX4_init_33 : decode cX4_init 33 = .ok (.putfield 21, 3) := by decide +kernel
theorem dX4_init_36 : decode cX4_init 36 = .ok (.aload_n 0, 1) := by decide +kernel
theorem dX4_init_37 : decode cX4_init 37 = .ok (.bipush 10, 2) := by decide +kernel
theorem dX4_init_39 : decode cX4_init 39 = .ok (.newarray .int, 2) := by decide +kernel
theorem dX4_init_41 : decode cX4_init 41 = .ok (.putfield 24, 3) := by decide +kernel
theorem dX4_init_44 : decode cX4_init 44 = .ok (.aload_n 0, 1) := by decide +kernel
theorem dX4_init_45 : decode cX4_init 45 = .ok (.bipush 10, 2) := by decide +kernel
theorem dX4_init_47 : decode cX4_init 47 = .ok (.newarray .int, 2) := by decide +kernel
theorem dX4_init_49 : decode cX4_init 49 = .ok (.putfield 27, 3) := by decide +kernel
theorem dX4_init_52 : decode cX4_init 52 = .ok (.return_, 1) := by decide +kernel
theorem dX4_copyFrom_0 : decode cX4_copyFrom 0 = .ok (.aload_n 0, 1) := by decide +kernel
theorem dX4_copyFrom_1 : decode cX4_copyFrom 1 = .ok (.aload_n 1, 1) := by decide +kernel
theorem dX4_copyFrom_2 : decode cX4_copyFrom 2 = .ok (.getfield 30, 3) := by decide +kernel
theorem dX4_copyFrom_5 : decode cX4_copyFrom 5 = .ok (.putfield 30, 3) := by decide +kernel
theorem dX4_copyFrom_8 : decode cX4_copyFrom 8 = .ok (.aload_n 1, 1) := by decide +kernel
theorem dX4_copyFrom_9 : decode cX4_copyFrom 9 = .ok (.getfield 9, 3) := by decide +kernel
theorem dX4_copyFrom_12 : decode cX4_copyFrom 12 = .ok (.iconst 0, 1) := by decide +kernel
theorem dX4_copyFrom_13 : decode cX4_copyFrom 13 = .ok (.aload_n 0, 1) := by decide +kernel
theorem dX4_copyFrom_14 : decode cX4_copyFrom 14 = .ok (.getfield 9, 3) := by decide +kernel
theorem dX4_copyFrom_17 : decode cX4_copyFrom 17 = .ok (.iconst 0, 1) := by decide +kernel
theorem dX4_copyFrom_18 : decode cX4_copyFrom 18 = .ok (.bipush 10, 2) := by decide +kernel
theorem dX4_copyFrom_20 : decode cX4_copyFrom 20 = .ok (.invokestatic 34, 3) := by decide +kernel
theorem dX4_copyFrom_23 : decode cX4_copyFrom 23 = .ok (.aload_n 1, 1) := by decide +kernel
theorem dX4_copyFrom_24 : decode cX4_copyFrom 24 = .ok (.getfield 15, 3) := by decide +kernel
theorem dX4_copyFrom_27 : decode cX4_copyFrom 27 = .ok (.iconst 0, 1) := by decide +kernel
theorem dX4_copyFrom_28 : decode cX4_copyFrom 28 = .ok (.aload_n 0, 1) := by decide +kernel
theorem dX4_copyFrom_29 : decode cX4_copyFrom 29 = .ok (.getfield 15, 3) := by decide +kernel
theorem dX4_copyFrom_32 : decode cX4_copyFrom 32 = .ok (.iconst 0, 1) := by decide +kernel
theorem dX4_copyFrom_33 : decode cX4_copyFrom 33 = .ok (.bipush 10, 2) := by decide +kernel
theorem dX4_copyFrom_35 : decode cX4_copyFrom 35 = .ok (.invokestatic 34, 3) := by decide +kernel
theorem dX4_copyFrom_38 : decode cX4_copyFrom 38 = .ok (.aload_n 1, 1) := by decide +kernel
theorem dX4_copyFrom_39 : decode cX4_copyFrom 39 = .ok (.getfield 18, 3) := by decide +kernel
theorem dX4_copyFrom_42 : decode cX4_copyFrom 42 = .ok (.iconst 0, 1) := by decide +kernel
theorem dX4_copyFrom_43 : decode cX4_copyFrom 43 = .ok (.aload_n 0, 1) := by decide +kernel
theorem dX4_copyFrom_44 : decode cX4_copyFrom 44 = .ok (.getfield 18, 3) := by decide +kernel
theorem dX4_copyFrom_47 : decode cX4_copyFrom 47 = .ok (.iconst 0, 1) := by decide +kernel
theorem dX4_copyFrom_48 : decode cX4_copyFrom 48 = .ok (.bipush 10, 2) := by decide +kernel
theorem dX4_copyFrom_50 : decode cX4_copyFrom 50 = .ok (.invokestatic 34, 3) := by decide +kernel
theorem dX4_copyFrom_53 : decode cX4_copyFrom 53 = .ok (.aload_n 1, 1) := by decide +kernel
theorem dX4_copyFrom_54 : decode cX4_copyFrom 54 = .ok (.getfield 21, 3) := by decide +kernel
theorem dX4_copyFrom_57 : decode cX4_copyFrom 57 = .ok (.iconst 0, 1) := by decide +kernel
theorem dX4_copyFrom_58 : decode cX4_copyFrom 58 = .ok (.aload_n 0, 1) := by decide +kernel
theorem dX4_copyFrom_59 : decode cX4_copyFrom 59 = .ok (.getfield 21, 3) := by decide +kernel
theorem dX4_copyFrom_62 : decode cX4_copyFrom 62 = .ok (.iconst 0, 1) := by decide +kernel
theorem dX4_copyFrom_63 : decode cX4_copyFrom 63 = .ok (.bipush 10, 2) := by decide +kernel
theorem dX4_copyFrom_65 : decode cX4_copyFrom 65 = .ok (.invokestatic 34, 3) := by decide +kernel
theorem dX4_copyFrom_68 : decode cX4_copyFrom 68 = .ok (.aload_n 1, 1) := by decide +kernel
theorem dX4_copyFrom_69 : decode cX4_copyFrom 69 = .ok (.getfield 24, 3) := by decide +kernel
theorem dX4_copyFrom_72 : decode cX4_copyFrom 72 = .ok (.iconst 0, 1) := by decide +kernel
theorem dX4_copyFrom_73 : decode cX4_copyFrom 73 = .ok (.aload_n 0, 1) := by decide +kernel
theorem dX4_copyFrom_74 : decode cX4_copyFrom 74 = .ok (.getfield 24, 3) := by decide +kernel
theorem dX4_copyFrom_77 : decode cX4_copyFrom 77 = .ok (.iconst 0, 1) := by decide +kernel
theorem dX4_copyFrom_78 : decode cX4_copyFrom 78 = .ok (.bipush 10, 2) := by decide +kernel
theorem dX4_copyFrom_80 : decode cX4_copyFrom 80 = .ok (.invokestatic 34, 3) := by decide +kernel
theorem dX4_copyFrom_83 : decode cX4_copyFrom 83 = .ok (.return_, 1) := by decide +kernel
theorem dX4_has_0 : decode cX4_has 0 = .ok (.iload_n 1, 1) := by decide +kernel
theorem dX4_has_1 : decode cX4_has 1 = .ok (.iconst 0, 1) := by decide +kernel
theorem dX4_has_2 : decode cX4_has 2 = .ok (.aload_n 0, 1) := by decide +kernel
theorem dX4_has_3 : decode cX4_has 3 = .ok (.getfield 30, 3) := by decide +kernel
theorem dX4_has_6 : decode cX4_has 6 = .ok (.iconst 1, 1) := by decide +kernel
theorem dX4_has_7 : decode cX4_has 7 = .ok (.isub, 1) := by decide +kernel
theorem dX4_has_8 : decode cX4_has 8 = .ok (.invokestatic 40, 3) := by decide +kernel
theorem dX4_has_11 : decode cX4_has 11 = .ok (.ireturn, 1) := by decide +kernel
theorem dX4_all_0 : decode cX4_all 0 = .ok (.iconst 1, 1) := by decide +kernel
theorem dX4_all_1 : decode cX4_all 1 = .ok (.aload_n 0, 1) := by decide +kernel
theorem dX4_all_2 : decode cX4_all 2 = .ok (.getfield 30, 3) := by decide +kernel
theorem dX4_all_5 : decode cX4_all 5 = .ok (.ishl, 1) := by decide +kernel
theorem dX4_all_6 : decode cX4_all 6 = .ok (.iconst 1, 1) := by decide +kernel
theorem dX4_all_7 : decode cX4_all 7 = .ok (.isub, 1) := by decide +kernel
theorem dX4_all_8 : decode cX4_all 8 = .ok (.ireturn, 1) := by decide +kernel
theorem dX4_join_0 : decode cX4_join 0 = .ok (.aload_n 0, 1) := by decide +kernel
theorem dX4_join_1 : decode cX4_join 1 = .ok (.getfield 30, 3) := by decide +kernel
theorem dX4_join_4 : decode cX4_join 4 = .ok (.istore 5, 2) := by decide +kernel
theorem dX4_join_6 : decode cX4_join 6 = .ok (.aload_n 0, 1) := by decide +kernel
theorem dX4_join_7 : decode cX4_join 7 = .ok (.getfield 9, 3) := by decide +kernel
theorem dX4_join_10 : decode cX4_join 10 = .ok (.iload 5, 2) := by decide +kernel
theorem dX4_join_12 : decode cX4_join 12 = .ok (.iload_n 1, 1) := by decide +kernel
theorem dX4_join_13 : decode cX4_join 13 = .ok (.iastore, 1) := by decide +kernel
theorem dX4_join_14 : decode cX4_join 14 = .ok (.aload_n 0, 1) := by decide +kernel
theorem dX4_join_15 : decode cX4_join 15 = .ok (.getfield 15, 3) := by decide +kernel
theorem dX4_join_18 : decode cX4_join 18 = .ok (.iload 5, 2) := by decide +kernel
theorem dX4_join_20 : decode cX4_join 20 = .ok (.iload_n 2, 1) := by decide +kernel
theorem dX4_join_21 : decode cX4_join 21 = .ok (.iastore, 1) := by decide +kernel
theorem dX4_join_22 : decode cX4_join 22 = .ok (.aload_n 0, 1) := by decide +kernel
theorem dX4_join_23 : decode cX4_join 23 = .ok (.getfield 18, 3) := by decide +kernel
theorem dX4_join_26 : decode cX4_join 26 = .ok (.iload 5, 2) := by decide +kernel
theorem dX4_join_28 : decode cX4_join 28 = .ok (.iload_n 3, 1) := by decide +kernel
theorem dX4_join_29 : decode cX4_join 29 = .ok (.iastore, 1) := by decide +kernel
theorem dX4_join_30 : decode cX4_join 30 = .ok (.aload_n 0, 1) := by decide +kernel
theorem dX4_join_31 : decode cX4_join 31 = .ok (.getfield 21, 3) := by decide +kernel
theorem dX4_join_34 : decode cX4_join 34 = .ok (.iload 5, 2) := by decide +kernel
theorem dX4_join_36 : decode cX4_join 36 = .ok (.iload 4, 2) := by decide +kernel
theorem dX4_join_38 : decode cX4_join 38 = .ok (.iastore, 1) := by decide +kernel
theorem dX4_join_39 : decode cX4_join 39 = .ok (.aload_n 0, 1) := by decide +kernel
theorem dX4_join_40 : decode cX4_join 40 = .ok (.getfield 24, 3) := by decide +kernel
theorem dX4_join_43 : decode cX4_join 43 = .ok (.iload 5, 2) := by decide +kernel
