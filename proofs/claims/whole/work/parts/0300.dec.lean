theorem dX0_init_0 : decode cX0_init 0 = .ok (.aload_n 0, 1) := by decide +kernel
theorem dX0_init_1 : decode cX0_init 1 = .ok (.invokespecial 3, 3) := by decide +kernel
theorem dX0_init_4 : decode cX0_init 4 = .ok (.aload_n 0, 1) := by decide +kernel
theorem dX0_init_5 : decode cX0_init 5 = .ok (.bipush 10, 2) := by decide +kernel
theorem dX0_init_7 : decode cX0_init 7 = .ok (.newarray .int, 2) := by decide +kernel
theorem dX0_init_9 : decode cX0_init 9 = .ok (.putfield 11, 3) := by decide +kernel
theorem dX0_init_12 : decode cX0_init 12 = .ok (.aload_n 0, 1) := by decide +kernel
theorem dX0_init_13 : decode cX0_init 13 = .ok (.bipush 10, 2) := by decide +kernel
theorem dX0_init_15 : decode cX0_init 15 = .ok (.newarray .int, 2) := by decide +kernel
theorem dX0_init_17 : decode cX0_init 17 = .ok (.putfield 15, 3) := by decide +kernel
theorem dX0_init_20 : decode cX0_init 20 = .ok (.aload_n 0, 1) := by decide +kernel
theorem dX0_init_21 : decode cX0_init 21 = .ok (.bipush 10, 2) := by decide +kernel
theorem dX0_init_23 : decode cX0_init 23 = .ok (.newarray .int, 2) := by decide +kernel
theorem dX0_init_25 : decode cX0_init 25 = .ok (.putfield 18, 3) := by decide +kernel
theorem dX0_init_28 : decode cX0_init 28 = .ok (.aload_n 0, 1) := by decide +kernel
theorem dX0_init_29 : decode cX0_init 29 = .ok (.bipush 10, 2) := by decide +kernel
theorem dX0_init_31 : decode cX0_init 31 = .ok (.bipush 10, 2) := by decide +kernel
theorem dX0_init_33 : decode cX0_init 33 = .ok (.multianewarray 21 2, 4) := by decide +kernel
theorem dX0_init_37 : decode cX0_init 37 = .ok (.putfield 23, 3) := by decide +kernel
theorem dX0_init_40 : decode cX0_init 40 = .ok (.return_, 1) := by decide +kernel
theorem dX0_forget_0 : decode cX0_forget 0 = .ok (.aload_n 0, 1) := by decide +kernel
theorem dX0_forget_1 : decode cX0_forget 1 = .ok (.iconst 0, 1) := by decide +kernel
theorem dX0_forget_2 : decode cX0_forget 2 = .ok (.putfield 26, 3) := by decide +kernel
theorem dX0_forget_5 : decode cX0_forget 5 = .ok (.return_, 1) := by decide +kernel
theorem dX0_keep_0 : decode cX0_keep 0 = .ok (.aload_n 0, 1) := by decide +kernel
theorem dX0_keep_1 : decode cX0_keep 1 = .ok (.getfield 11, 3) := by decide +kernel
theorem dX0_keep_4 : decode cX0_keep 4 = .ok (.aload_n 0, 1) := by decide +kernel
theorem dX0_keep_5 : decode cX0_keep 5 = .ok (.getfield 30, 3) := by decide +kernel
theorem dX0_keep_8 : decode cX0_keep 8 = .ok (.aload_n 1, 1) := by decide +kernel
theorem dX0_keep_9 : decode cX0_keep 9 = .ok (.getfield 33, 3) := by decide +kernel
theorem dX0_keep_12 : decode cX0_keep 12 = .ok (.iastore, 1) := by decide +kernel
theorem dX0_keep_13 : decode cX0_keep 13 = .ok (.aload_n 0, 1) := by decide +kernel
theorem dX0_keep_14 : decode cX0_keep 14 = .ok (.getfield 15, 3) := by decide +kernel
theorem dX0_keep_17 : decode cX0_keep 17 = .ok (.aload_n 0, 1) := by decide +kernel
theorem dX0_keep_18 : decode cX0_keep 18 = .ok (.getfield 30, 3) := by decide +kernel
theorem dX0_keep_21 : decode cX0_keep 21 = .ok (.aload_n 1, 1) := by decide +kernel
theorem dX0_keep_22 : decode cX0_keep 22 = .ok (.getfield 37, 3) := by decide +kernel
theorem dX0_keep_25 : decode cX0_keep 25 = .ok (.iastore, 1) := by decide +kernel
theorem dX0_keep_26 : decode cX0_keep 26 = .ok (.aload_n 0, 1) := by decide +kernel
theorem dX0_keep_27 : decode cX0_keep 27 = .ok (.getfield 18, 3) := by decide +kernel
theorem dX0_keep_30 : decode cX0_keep 30 = .ok (.aload_n 0, 1) := by decide +kernel
theorem dX0_keep_31 : decode cX0_keep 31 = .ok (.getfield 30, 3) := by decide +kernel
theorem dX0_keep_34 : decode cX0_keep 34 = .ok (.aload_n 1, 1) := by decide +kernel
theorem dX0_keep_35 : decode cX0_keep 35 = .ok (.getfield 39, 3) := by decide +kernel
theorem dX0_keep_38 : decode cX0_keep 38 = .ok (.iastore, 1) := by decide +kernel
theorem dX0_keep_39 : decode cX0_keep 39 = .ok (.aload_n 1, 1) := by decide +kernel
theorem dX0_keep_40 : decode cX0_keep 40 = .ok (.getfield 41, 3) := by decide +kernel
theorem dX0_keep_43 : decode cX0_keep 43 = .ok (.getfield 45, 3) := by decide +kernel
theorem dX0_keep_46 : decode cX0_keep 46 = .ok (.iconst 0, 1) := by decide +kernel
theorem dX0_keep_47 : decode cX0_keep 47 = .ok (.aload_n 0, 1) := by decide +kernel
theorem dX0_keep_48 : decode cX0_keep 48 = .ok (.getfield 23, 3) := by decide +kernel
theorem dX0_keep_51 : decode cX0_keep 51 = .ok (.aload_n 0, 1) := by decide +kernel
theorem dX0_keep_52 : decode cX0_keep 52 = .ok (.getfield 30, 3) := by decide +kernel
theorem dX0_keep_55 : decode cX0_keep 55 = .ok (.aaload, 1) := by decide +kernel
theorem dX0_keep_56 : decode cX0_keep 56 = .ok (.iconst 0, 1) := by decide +kernel
theorem dX0_keep_57 : decode cX0_keep 57 = .ok (.bipush 10, 2) := by decide +kernel
theorem dX0_keep_59 : decode cX0_keep 59 = .ok (.invokestatic 49, 3) := by decide +kernel
theorem dX0_keep_62 : decode cX0_keep 62 = .ok (.aload_n 0, 1) := by decide +kernel
theorem dX0_keep_63 : decode cX0_keep 63 = .ok (.aload_n 0, 1) := by decide +kernel
theorem dX0_keep_64 : decode cX0_keep 64 = .ok (.getfield 30, 3) := by decide +kernel
theorem dX0_keep_67 : decode cX0_keep 67 = .ok (.iconst 1, 1) := by decide +kernel
theorem dX0_keep_68 : decode cX0_keep 68 = .ok (.iadd, 1) := by decide +kernel
theorem dX0_keep_69 : decode cX0_keep 69 = .ok (.bipush 10, 2) := by decide +kernel
theorem dX0_keep_71 : decode cX0_keep 71 = .ok (.irem, 1) := by decide +kernel
theorem dX0_keep_72 : decode cX0_keep 72 = .ok (.putfield 30, 3) := by decide +kernel
theorem dX0_keep_75 : decode cX0_keep 75 = .ok (.aload_n 0, 1) := by decide +kernel
theorem dX0_keep_76 : decode cX0_keep 76 = .ok (.aload_n 0, 1) := by decide +kernel
theorem dX0_keep_77 : decode cX0_keep 77 = .ok (.getfield 26, 3) := by decide +kernel
theorem dX0_keep_80 : decode cX0_keep 80 = .ok (.iconst 1, 1) := by decide +kernel
theorem dX0_keep_81 : decode cX0_keep 81 = .ok (.iadd, 1) := by decide +kernel
theorem dX0_keep_82 : decode cX0_keep 82 = .ok (.bipush 10, 2) := by decide +kernel
theorem dX0_keep_84 : decode cX0_keep 84 = .ok (.invokestatic 55, 3) := by decide +kernel
theorem dX0_keep_87 : decode cX0_keep 87 = .ok (.putfield 26, 3) := by decide +kernel
theorem dX0_keep_90 : decode cX0_keep 90 = .ok (.return_, 1) := by decide +kernel
theorem dX0_giveBack_0 : decode cX0_giveBack 0 = .ok (.aload_n 0, 1) := by decide +kernel
theorem dX0_giveBack_1 : decode cX0_giveBack 1 = .ok (.aload_n 0, 1) := by decide +kernel
theorem dX0_giveBack_2 : decode cX0_giveBack 2 = .ok (.getfield 30, 3) := by decide +kernel
theorem dX0_giveBack_5 : decode cX0_giveBack 5 = .ok (.bipush 10, 2) := by decide +kernel
theorem dX0_giveBack_7 : decode cX0_giveBack 7 = .ok (.iadd, 1) := by decide +kernel
theorem dX0_giveBack_8 : decode cX0_giveBack 8 = .ok (.iconst 1, 1) := by decide +kernel
theorem dX0_giveBack_9 : decode cX0_giveBack 9 = .ok (.isub, 1) := by decide +kernel
theorem dX0_giveBack_10 : decode cX0_giveBack 10 = .ok (.bipush 10, 2) := by decide +kernel
theorem dX0_giveBack_12 : decode cX0_giveBack 12 = .ok (.irem, 1) := by decide +kernel
theorem dX0_giveBack_13 : decode cX0_giveBack 13 = .ok (.putfield 30, 3) := by decide +kernel
theorem dX0_giveBack_16 : decode cX0_giveBack 16 = .ok (.aload_n 0, 1) := by decide +kernel
theorem dX0_giveBack_17 : decode cX0_giveBack 17 = .ok (.dup, 1) := by decide +kernel
theorem dX0_giveBack_18 : decode cX0_giveBack 18 = .ok (.getfield 26, 3) := by decide +kernel
theorem dX0_giveBack_21 : decode cX0_giveBack 21 = .ok (.iconst 1, 1) := by decide +kernel
theorem dX0_giveBack_22 : decode cX0_giveBack 22 = .ok (.isub, 1) := by decide +kernel
theorem dX0_giveBack_23 : decode cX0_giveBack 23 = .ok (.putfield 26, 3) := by decide +kernel
theorem dX0_giveBack_26 : decode cX0_giveBack 26 = .ok (.aload_n 1, 1) := by decide +kernel
theorem dX0_giveBack_27 : decode cX0_giveBack 27 = .ok (.dup, 1) := by decide +kernel
theorem dX0_giveBack_28 : decode cX0_giveBack 28 = .ok (.getfield 61, 3) := by decide +kernel
theorem dX0_giveBack_31 : decode cX0_giveBack 31 = .ok (.iconst 1, 1) := by decide +kernel
theorem dX0_giveBack_32 : decode cX0_giveBack 32 = .ok (.isub, 1) := by decide +kernel
theorem dX0_giveBack_33 : decode cX0_giveBack 33 = .ok (.putfield 61, 3) := by decide +kernel
theorem dX0_giveBack_36 : decode cX0_giveBack 36 = .ok (.aload_n 1, 1) := by decide +kernel
theorem dX0_giveBack_37 : decode cX0_giveBack 37 = .ok (.aload_n 0, 1) := by decide +kernel
theorem dX0_giveBack_38 : decode cX0_giveBack 38 = .ok (.getfield 11, 3) := by decide +kernel
theorem dX0_giveBack_41 : decode cX0_giveBack 41 = .ok (.aload_n 0, 1) := by decide +kernel
theorem dX0_giveBack_42 : decode cX0_giveBack 42 = .ok (.getfield 30, 3) := by decide +kernel
theorem dX0_giveBack_45 : decode cX0_giveBack 45 = .ok (.iaload, 1) := by decide +kernel
theorem dX0_giveBack_46 : decode cX0_giveBack 46 = .ok (.putfield 33, 3) := by decide +kernel
theorem dX0_giveBack_49 : decode cX0_giveBack 49 = .ok (.aload_n 1, 1) := by decide +kernel
theorem dX0_giveBack_50 : decode cX0_giveBack 50 = .ok (.aload_n 0, 1) := by decide +kernel
theorem dX0_giveBack_51 : decode cX0_giveBack 51 = .ok (.getfield 15, 3) := by decide +kernel
theorem dX0_giveBack_54 : decode cX0_giveBack 54 = .ok (.aload_n 0, 1) := by decide +kernel
theorem dX0_giveBack_55 : decode cX0_giveBack 55 = .ok (.getfield 30, 3) := by decide +kernel
theorem dX0_giveBack_58 : decode cX0_giveBack 58 = .ok (.iaload, 1) := by decide +kernel
theorem dX0_giveBack_59 : decode cX0_giveBack 59 = .ok (.putfield 37, 3) := by decide +kernel
theorem dX0_giveBack_62 : decode cX0_giveBack 62 = .ok (.aload_n 1, 1) := by decide +kernel
theorem dX0_giveBack_63 : decode cX0_giveBack 63 = .ok (.aload_n 0, 1) := by decide +kernel
theorem dX0_giveBack_64 : decode cX0_giveBack 64 = .ok (.getfield 18, 3) := by decide +kernel
theorem dX0_giveBack_67 : decode cX0_giveBack 67 = .ok (.aload_n 0, 1) := by decide +kernel
theorem dX0_giveBack_68 : decode cX0_giveBack 68 = .ok (.getfield 30, 3) := by decide +kernel
theorem dX0_giveBack_71 : decode cX0_giveBack 71 = .ok (.iaload, 1) := by decide +kernel
theorem dX0_giveBack_72 : decode cX0_giveBack 72 = .ok (.putfield 39, 3) := by decide +kernel
theorem dX0_giveBack_75 : decode cX0_giveBack 75 = .ok (.aload_n 0, 1) := by decide +kernel
theorem dX0_giveBack_76 : decode cX0_giveBack 76 = .ok (.getfield 23, 3) := by decide +kernel
theorem dX0_giveBack_79 : decode cX0_giveBack 79 = .ok (.aload_n 0, 1) := by decide +kernel
theorem dX0_giveBack_80 : decode cX0_giveBack 80 = .ok (.getfield 30, 3) := by decide +kernel
theorem dX0_giveBack_83 : decode cX0_giveBack 83 = .ok (.aaload, 1) := by decide +kernel
theorem dX0_giveBack_84 : decode cX0_giveBack 84 = .ok (.iconst 0, 1) := by decide +kernel
theorem dX0_giveBack_85 : decode cX0_giveBack 85 = .ok (.aload_n 1, 1) := by decide +kernel
theorem dX0_giveBack_86 : decode cX0_giveBack 86 = .ok (.getfield 41, 3) := by decide +kernel
theorem dX0_giveBack_89 : decode cX0_giveBack 89 = .ok (.getfield 45, 3) := by decide +kernel
theorem dX0_giveBack_92 : decode cX0_giveBack 92 = .ok (.iconst 0, 1) := by decide +kernel
theorem dX0_giveBack_93 : decode cX0_giveBack 93 = .ok (.bipush 10, 2) := by decide +kernel
theorem dX0_giveBack_95 : decode cX0_giveBack 95 = .ok (.invokestatic 49, 3) := by decide +kernel
theorem dX0_giveBack_98 : decode cX0_giveBack 98 = .ok (.return_, 1) := by decide +kernel
theorem dX1_init_0 : decode cX1_init 0 = .ok (.aload_n 0, 1) := by decide +kernel
theorem dX1_init_1 : decode cX1_init 1 = .ok (.invokespecial 5, 3) := by decide +kernel
theorem dX1_init_4 : decode cX1_init 4 = .ok (.aload_n 0, 1) := by decide +kernel
theorem dX1_init_5 : decode cX1_init 5 = .ok (.sipush 864, 3) := by decide +kernel
theorem dX1_init_8 : decode cX1_init 8 = .ok (.newarray .int, 2) := by decide +kernel
theorem dX1_init_10 : decode cX1_init 10 = .ok (.putfield 11, 3) := by decide +kernel
theorem dX1_init_13 : decode cX1_init 13 = .ok (.aload_n 0, 1) := by decide +kernel
theorem dX1_init_14 : decode cX1_init 14 = .ok (.sipush 410, 3) := by decide +kernel
theorem dX1_init_17 : decode cX1_init 17 = .ok (.newarray .int, 2) := by decide +kernel
theorem dX1_init_19 : decode cX1_init 19 = .ok (.putfield 17, 3) := by decide +kernel
theorem dX1_init_22 : decode cX1_init 22 = .ok (.aload_n 0, 1) := by decide +kernel
theorem dX1_init_23 : decode cX1_init 23 = .ok (.bipush 60, 2) := by decide +kernel
theorem dX1_init_25 : decode cX1_init 25 = .ok (.newarray .int, 2) := by decide +kernel
theorem dX1_init_27 : decode cX1_init 27 = .ok (.putfield 20, 3) := by decide +kernel
theorem dX1_init_30 : decode cX1_init 30 = .ok (.aload_n 0, 1) := by decide +kernel
theorem dX1_init_31 : decode cX1_init 31 = .ok (.new 23, 3) := by decide +kernel
theorem dX1_init_34 : decode cX1_init 34 = .ok (.dup, 1) := by decide +kernel
theorem dX1_init_35 : decode cX1_init 35 = .ok (.invokespecial 25, 3) := by decide +kernel
theorem dX1_init_38 : decode cX1_init 38 = .ok (.putfield 26, 3) := by decide +kernel
theorem dX1_init_41 : decode cX1_init 41 = .ok (.aload_n 0, 1) := by decide +kernel
theorem dX1_init_42 : decode cX1_init 42 = .ok (.new 30, 3) := by decide +kernel
theorem dX1_init_45 : decode cX1_init 45 = .ok (.dup, 1) := by decide +kernel
theorem dX1_init_46 : decode cX1_init 46 = .ok (.invokespecial 32, 3) := by decide +kernel
theorem dX1_init_49 : decode cX1_init 49 = .ok (.putfield 33, 3) := by decide +kernel
theorem dX1_init_52 : decode cX1_init 52 = .ok (.aload_n 0, 1) := by decide +kernel
theorem dX1_init_53 : decode cX1_init 53 = .ok (.new 37, 3) := by decide +kernel
theorem dX1_init_56 : decode cX1_init 56 = .ok (.dup, 1) := by decide +kernel
theorem dX1_init_57 : decode cX1_init 57 = .ok (.invokespecial 39, 3) := by decide +kernel
theorem dX1_init_60 : decode cX1_init 60 = .ok (.putfield 40, 3) := by decide +kernel
theorem dX1_init_63 : decode cX1_init 63 = .ok (.aload_n 0, 1) := by decide +kernel
theorem dX1_init_64 : decode cX1_init 64 = .ok (.new 44, 3) := by decide +kernel
theorem dX1_init_67 : decode cX1_init 67 = .ok (.dup, 1) := by decide +kernel
theorem dX1_init_68 : decode cX1_init 68 = .ok (.invokespecial 46, 3) := by decide +kernel
theorem dX1_init_71 : decode cX1_init 71 = .ok (.putfield 47, 3) := by decide +kernel
theorem dX1_init_74 : decode cX1_init 74 = .ok (.aload_n 0, 1) := by decide +kernel
theorem dX1_init_75 : decode cX1_init 75 = .ok (.iconst 4, 1) := by decide +kernel
theorem dX1_init_76 : decode cX1_init 76 = .ok (.anewarray 51, 3) := by decide +kernel
theorem dX1_init_79 : decode cX1_init 79 = .ok (.dup, 1) := by decide +kernel
theorem dX1_init_80 : decode cX1_init 80 = .ok (.iconst 0, 1) := by decide +kernel
theorem dX1_init_81 : decode cX1_init 81 = .ok (.new 51, 3) := by decide +kernel
theorem dX1_init_84 : decode cX1_init 84 = .ok (.dup, 1) := by decide +kernel
theorem dX1_init_85 : decode cX1_init 85 = .ok (.invokespecial 53, 3) := by decide +kernel
theorem dX1_init_88 : decode cX1_init 88 = .ok (.aastore, 1) := by decide +kernel
theorem dX1_init_89 : decode cX1_init 89 = .ok (.dup, 1) := by decide +kernel
theorem dX1_init_90 : decode cX1_init 90 = .ok (.iconst 1, 1) := by decide +kernel
theorem dX1_init_91 : decode cX1_init 91 = .ok (.new 51, 3) := by decide +kernel
theorem dX1_init_94 : decode cX1_init 94 = .ok (.dup, 1) := by decide +kernel
theorem dX1_init_95 : decode cX1_init 95 = .ok (.invokespecial 53, 3) := by decide +kernel
theorem dX1_init_98 : decode cX1_init 98 = .ok (.aastore, 1) := by decide +kernel
theorem dX1_init_99 : decode cX1_init 99 = .ok (.dup, 1) := by decide +kernel
theorem dX1_init_100 : decode cX1_init 100 = .ok (.iconst 2, 1) := by decide +kernel
theorem dX1_init_101 : decode cX1_init 101 = .ok (.new 51, 3) := by decide +kernel
theorem dX1_init_104 : decode cX1_init 104 = .ok (.dup, 1) := by decide +kernel
theorem dX1_init_105 : decode cX1_init 105 = .ok (.invokespecial 53, 3) := by decide +kernel
theorem dX1_init_108 : decode cX1_init 108 = .ok (.aastore, 1) := by decide +kernel
theorem dX1_init_109 : decode cX1_init 109 = .ok (.dup, 1) := by decide +kernel
theorem dX1_init_110 : decode cX1_init 110 = .ok (.iconst 3, 1) := by decide +kernel
theorem dX1_init_111 : decode cX1_init 111 = .ok (.new 51, 3) := by decide +kernel
theorem dX1_init_114 : decode cX1_init 114 = .ok (.dup, 1) := by decide +kernel
theorem dX1_init_115 : decode cX1_init 115 = .ok (.invokespecial 53, 3) := by decide +kernel
theorem dX1_init_118 : decode cX1_init 118 = .ok (.aastore, 1) := by decide +kernel
theorem dX1_init_119 : decode cX1_init 119 = .ok (.putfield 54, 3) := by decide +kernel
theorem dX1_init_122 : decode cX1_init 122 = .ok (.return_, 1) := by decide +kernel
theorem dX1_skyCell_0 : decode cX1_skyCell 0 = .ok (.iload_n 0, 1) := by decide +kernel
theorem dX1_skyCell_1 : decode cX1_skyCell 1 = .ok (.bipush 12, 2) := by decide +kernel
theorem dX1_skyCell_3 : decode cX1_skyCell 3 = .ok (.imul, 1) := by decide +kernel
theorem dX1_skyCell_4 : decode cX1_skyCell 4 = .ok (.iload_n 1, 1) := by decide +kernel
theorem dX1_skyCell_5 : decode cX1_skyCell 5 = .ok (.iadd, 1) := by decide +kernel
theorem dX1_skyCell_6 : decode cX1_skyCell 6 = .ok (.bipush 24, 2) := by decide +kernel
theorem dX1_skyCell_8 : decode cX1_skyCell 8 = .ok (.imul, 1) := by decide +kernel
theorem dX1_skyCell_9 : decode cX1_skyCell 9 = .ok (.iload_n 2, 1) := by decide +kernel
theorem dX1_skyCell_10 : decode cX1_skyCell 10 = .ok (.iadd, 1) := by decide +kernel
theorem dX1_skyCell_11 : decode cX1_skyCell 11 = .ok (.ireturn, 1) := by decide +kernel
theorem dX1_bookCell_0 : decode cX1_bookCell 0 = .ok (.iload_n 0, 1) := by decide +kernel
theorem dX1_bookCell_1 : decode cX1_bookCell 1 = .ok (.sipush 410, 3) := by decide +kernel
theorem dX1_bookCell_4 : decode cX1_bookCell 4 = .ok (.invokestatic 58, 3) := by decide +kernel
theorem dX1_bookCell_7 : decode cX1_bookCell 7 = .ok (.ireturn, 1) := by decide +kernel
theorem dX1_begin_0 : decode cX1_begin 0 = .ok (.aload_n 0, 1) := by decide +kernel
theorem dX1_begin_1 : decode cX1_begin 1 = .ok (.iload_n 1, 1) := by decide +kernel
theorem dX1_begin_2 : decode cX1_begin 2 = .ok (.putfield 64, 3) := by decide +kernel
theorem dX1_begin_5 : decode cX1_begin 5 = .ok (.aload_n 0, 1) := by decide +kernel
theorem dX1_begin_6 : decode cX1_begin 6 = .ok (.iconst 0, 1) := by decide +kernel
theorem dX1_begin_7 : decode cX1_begin 7 = .ok (.putfield 68, 3) := by decide +kernel
theorem dX1_begin_10 : decode cX1_begin 10 = .ok (.aload_n 0, 1) := by decide +kernel
theorem dX1_begin_11 : decode cX1_begin 11 = .ok (.iconst 0, 1) := by decide +kernel
theorem dX1_begin_12 : decode cX1_begin 12 = .ok (.putfield 71, 3) := by decide +kernel
theorem dX1_begin_15 : decode cX1_begin 15 = .ok (.aload_n 0, 1) := by decide +kernel
theorem dX1_begin_16 : decode cX1_begin 16 = .ok (.bipush 99, 2) := by decide +kernel
theorem dX1_begin_18 : decode cX1_begin 18 = .ok (.putfield 74, 3) := by decide +kernel
theorem dX1_begin_21 : decode cX1_begin 21 = .ok (.aload_n 0, 1) := by decide +kernel
theorem dX1_begin_22 : decode cX1_begin 22 = .ok (.iconst 0, 1) := by decide +kernel
theorem dX1_begin_23 : decode cX1_begin 23 = .ok (.putfield 77, 3) := by decide +kernel
theorem dX1_begin_26 : decode cX1_begin 26 = .ok (.aload_n 0, 1) := by decide +kernel
theorem dX1_begin_27 : decode cX1_begin 27 = .ok (.iconst 0, 1) := by decide +kernel
theorem dX1_begin_28 : decode cX1_begin 28 = .ok (.putfield 80, 3) := by decide +kernel
theorem dX1_begin_31 : decode cX1_begin 31 = .ok (.aload_n 0, 1) := by decide +kernel
theorem dX1_begin_32 : decode cX1_begin 32 = .ok (.getfield 11, 3) := by decide +kernel
theorem dX1_begin_35 : decode cX1_begin 35 = .ok (.iconst 0, 1) := by decide +kernel
theorem dX1_begin_36 : decode cX1_begin 36 = .ok (.invokestatic 83, 3) := by decide +kernel
theorem dX1_begin_39 : decode cX1_begin 39 = .ok (.aload_n 0, 1) := by decide +kernel
theorem dX1_begin_40 : decode cX1_begin 40 = .ok (.getfield 20, 3) := by decide +kernel
theorem dX1_begin_43 : decode cX1_begin 43 = .ok (.iconst 0, 1) := by decide +kernel
theorem dX1_begin_44 : decode cX1_begin 44 = .ok (.invokestatic 83, 3) := by decide +kernel
theorem dX1_begin_47 : decode cX1_begin 47 = .ok (.aload_n 0, 1) := by decide +kernel
theorem dX1_begin_48 : decode cX1_begin 48 = .ok (.getfield 26, 3) := by decide +kernel
theorem dX1_begin_51 : decode cX1_begin 51 = .ok (.iconst 0, 1) := by decide +kernel
theorem dX1_begin_52 : decode cX1_begin 52 = .ok (.putfield 89, 3) := by decide +kernel
theorem dX1_begin_55 : decode cX1_begin 55 = .ok (.aload_n 0, 1) := by decide +kernel
theorem dX1_begin_56 : decode cX1_begin 56 = .ok (.getfield 33, 3) := by decide +kernel
theorem dX1_begin_59 : decode cX1_begin 59 = .ok (.iconst 0, 1) := by decide +kernel
theorem dX1_begin_60 : decode cX1_begin 60 = .ok (.putfield 92, 3) := by decide +kernel
theorem dX1_begin_63 : decode cX1_begin 63 = .ok (.aload_n 0, 1) := by decide +kernel
theorem dX1_begin_64 : decode cX1_begin 64 = .ok (.getfield 40, 3) := by decide +kernel
theorem dX1_begin_67 : decode cX1_begin 67 = .ok (.iconst 0, 1) := by decide +kernel
theorem dX1_begin_68 : decode cX1_begin 68 = .ok (.putfield 93, 3) := by decide +kernel
theorem dX1_begin_71 : decode cX1_begin 71 = .ok (.aload_n 0, 1) := by decide +kernel
theorem dX1_begin_72 : decode cX1_begin 72 = .ok (.getfield 47, 3) := by decide +kernel
theorem dX1_begin_75 : decode cX1_begin 75 = .ok (.iconst 0, 1) := by decide +kernel
theorem dX1_begin_76 : decode cX1_begin 76 = .ok (.putfield 94, 3) := by decide +kernel
theorem dX1_begin_79 : decode cX1_begin 79 = .ok (.iconst 0, 1) := by decide +kernel
theorem dX1_begin_80 : decode cX1_begin 80 = .ok (.istore_n 2, 1) := by decide +kernel
theorem dX1_begin_81 : decode cX1_begin 81 = .ok (.iload_n 2, 1) := by decide +kernel
theorem dX1_begin_82 : decode cX1_begin 82 = .ok (.iconst 4, 1) := by decide +kernel
theorem dX1_begin_83 : decode cX1_begin 83 = .ok (.if_icmp .ge 18, 3) := by decide +kernel
theorem dX1_begin_86 : decode cX1_begin 86 = .ok (.aload_n 0, 1) := by decide +kernel
theorem dX1_begin_87 : decode cX1_begin 87 = .ok (.getfield 54, 3) := by decide +kernel
theorem dX1_begin_90 : decode cX1_begin 90 = .ok (.iload_n 2, 1) := by decide +kernel
theorem dX1_begin_91 : decode cX1_begin 91 = .ok (.aaload, 1) := by decide +kernel
theorem dX1_begin_92 : decode cX1_begin 92 = .ok (.invokevirtual 95, 3) := by decide +kernel
theorem dX1_begin_95 : decode cX1_begin 95 = .ok (.iinc 2 1, 3) := by decide +kernel
theorem dX1_begin_98 : decode cX1_begin 98 = .ok (.goto (-17), 3) := by decide +kernel
theorem dX1_begin_101 : decode cX1_begin 101 = .ok (.return_, 1) := by decide +kernel
theorem dX1_copyFrom_0 : decode cX1_copyFrom 0 = .ok (.aload_n 0, 1) := by decide +kernel
theorem dX1_copyFrom_1 : decode cX1_copyFrom 1 = .ok (.aload_n 1, 1) := by decide +kernel
theorem dX1_copyFrom_2 : decode cX1_copyFrom 2 = .ok (.getfield 64, 3) := by decide +kernel
theorem dX1_copyFrom_5 : decode cX1_copyFrom 5 = .ok (.putfield 64, 3) := by decide +kernel
theorem dX1_copyFrom_8 : decode cX1_copyFrom 8 = .ok (.aload_n 0, 1) := by decide +kernel
theorem dX1_copyFrom_9 : decode cX1_copyFrom 9 = .ok (.aload_n 1, 1) := by decide +kernel
theorem dX1_copyFrom_10 : decode cX1_copyFrom 10 = .ok (.getfield 68, 3) := by decide +kernel
theorem dX1_copyFrom_13 : decode cX1_copyFrom 13 = .ok (.putfield 68, 3) := by decide +kernel
theorem dX1_copyFrom_16 : decode cX1_copyFrom 16 = .ok (.aload_n 0, 1) := by decide +kernel
theorem dX1_copyFrom_17 : decode cX1_copyFrom 17 = .ok (.aload_n 1, 1) := by decide +kernel
theorem dX1_copyFrom_18 : decode cX1_copyFrom 18 = .ok (.getfield 71, 3) := by decide +kernel
theorem dX1_copyFrom_21 : decode cX1_copyFrom 21 = .ok (.putfield 71, 3) := by decide +kernel
theorem dX1_copyFrom_24 : decode cX1_copyFrom 24 = .ok (.aload_n 0, 1) := by decide +kernel
theorem dX1_copyFrom_25 : decode cX1_copyFrom 25 = .ok (.aload_n 1, 1) := by decide +kernel
theorem dX1_copyFrom_26 : decode cX1_copyFrom 26 = .ok (.getfield 74, 3) := by decide +kernel
theorem dX1_copyFrom_29 : decode cX1_copyFrom 29 = .ok (.putfield 74, 3) := by decide +kernel
theorem dX1_copyFrom_32 : decode cX1_copyFrom 32 = .ok (.aload_n 0, 1) := by decide +kernel
theorem dX1_copyFrom_33 : decode cX1_copyFrom 33 = .ok (.aload_n 1, 1) := by decide +kernel
theorem dX1_copyFrom_34 : decode cX1_copyFrom 34 = .ok (.getfield 77, 3) := by decide +kernel
theorem dX1_copyFrom_37 : decode cX1_copyFrom 37 = .ok (.putfield 77, 3) := by decide +kernel
theorem dX1_copyFrom_40 : decode cX1_copyFrom 40 = .ok (.aload_n 0, 1) := by decide +kernel
theorem dX1_copyFrom_41 : decode cX1_copyFrom 41 = .ok (.aload_n 1, 1) := by decide +kernel
theorem dX1_copyFrom_42 : decode cX1_copyFrom 42 = .ok (.getfield 80, 3) := by decide +kernel
theorem dX1_copyFrom_45 : decode cX1_copyFrom 45 = .ok (.putfield 80, 3) := by decide +kernel
theorem dX1_copyFrom_48 : decode cX1_copyFrom 48 = .ok (.aload_n 1, 1) := by decide +kernel
theorem dX1_copyFrom_49 : decode cX1_copyFrom 49 = .ok (.getfield 11, 3) := by decide +kernel
theorem dX1_copyFrom_52 : decode cX1_copyFrom 52 = .ok (.iconst 0, 1) := by decide +kernel
theorem dX1_copyFrom_53 : decode cX1_copyFrom 53 = .ok (.aload_n 0, 1) := by decide +kernel
theorem dX1_copyFrom_54 : decode cX1_copyFrom 54 = .ok (.getfield 11, 3) := by decide +kernel
theorem dX1_copyFrom_57 : decode cX1_copyFrom 57 = .ok (.iconst 0, 1) := by decide +kernel
theorem dX1_copyFrom_58 : decode cX1_copyFrom 58 = .ok (.aload_n 0, 1) := by decide +kernel
theorem dX1_copyFrom_59 : decode cX1_copyFrom 59 = .ok (.getfield 11, 3) := by decide +kernel
theorem dX1_copyFrom_62 : decode cX1_copyFrom 62 = .ok (.arraylength, 1) := by decide +kernel
theorem dX1_copyFrom_63 : decode cX1_copyFrom 63 = .ok (.invokestatic 98, 3) := by decide +kernel
theorem dX1_copyFrom_66 : decode cX1_copyFrom 66 = .ok (.aload_n 1, 1) := by decide +kernel
theorem dX1_copyFrom_67 : decode cX1_copyFrom 67 = .ok (.getfield 17, 3) := by decide +kernel
theorem dX1_copyFrom_70 : decode cX1_copyFrom 70 = .ok (.iconst 0, 1) := by decide +kernel
theorem dX1_copyFrom_71 : decode cX1_copyFrom 71 = .ok (.aload_n 0, 1) := by decide +kernel
theorem dX1_copyFrom_72 : decode cX1_copyFrom 72 = .ok (.getfield 17, 3) := by decide +kernel
theorem dX1_copyFrom_75 : decode cX1_copyFrom 75 = .ok (.iconst 0, 1) := by decide +kernel
theorem dX1_copyFrom_76 : decode cX1_copyFrom 76 = .ok (.aload_n 0, 1) := by decide +kernel
theorem dX1_copyFrom_77 : decode cX1_copyFrom 77 = .ok (.getfield 17, 3) := by decide +kernel
theorem dX1_copyFrom_80 : decode cX1_copyFrom 80 = .ok (.arraylength, 1) := by decide +kernel
theorem dX1_copyFrom_81 : decode cX1_copyFrom 81 = .ok (.invokestatic 98, 3) := by decide +kernel
theorem dX1_copyFrom_84 : decode cX1_copyFrom 84 = .ok (.aload_n 1, 1) := by decide +kernel
theorem dX1_copyFrom_85 : decode cX1_copyFrom 85 = .ok (.getfield 20, 3) := by decide +kernel
theorem dX1_copyFrom_88 : decode cX1_copyFrom 88 = .ok (.iconst 0, 1) := by decide +kernel
theorem dX1_copyFrom_89 : decode cX1_copyFrom 89 = .ok (.aload_n 0, 1) := by decide +kernel
theorem dX1_copyFrom_90 : decode cX1_copyFrom 90 = .ok (.getfield 20, 3) := by decide +kernel
theorem dX1_copyFrom_93 : decode cX1_copyFrom 93 = .ok (.iconst 0, 1) := by decide +kernel
theorem dX1_copyFrom_94 : decode cX1_copyFrom 94 = .ok (.aload_n 0, 1) := by decide +kernel
theorem dX1_copyFrom_95 : decode cX1_copyFrom 95 = .ok (.getfield 20, 3) := by decide +kernel
theorem dX1_copyFrom_98 : decode cX1_copyFrom 98 = .ok (.arraylength, 1) := by decide +kernel
theorem dX1_copyFrom_99 : decode cX1_copyFrom 99 = .ok (.invokestatic 98, 3) := by decide +kernel
theorem dX1_copyFrom_102 : decode cX1_copyFrom 102 = .ok (.aload_n 0, 1) := by decide +kernel
theorem dX1_copyFrom_103 : decode cX1_copyFrom 103 = .ok (.getfield 26, 3) := by decide +kernel
theorem dX1_copyFrom_106 : decode cX1_copyFrom 106 = .ok (.aload_n 1, 1) := by decide +kernel
theorem dX1_copyFrom_107 : decode cX1_copyFrom 107 = .ok (.getfield 26, 3) := by decide +kernel
theorem dX1_copyFrom_110 : decode cX1_copyFrom 110 = .ok (.invokevirtual 104, 3) := by decide +kernel
theorem dX1_copyFrom_113 : decode cX1_copyFrom 113 = .ok (.aload_n 0, 1) := by decide +kernel
theorem dX1_copyFrom_114 : decode cX1_copyFrom 114 = .ok (.getfield 33, 3) := by decide +kernel
theorem dX1_copyFrom_117 : decode cX1_copyFrom 117 = .ok (.aload_n 1, 1) := by decide +kernel
theorem dX1_copyFrom_118 : decode cX1_copyFrom 118 = .ok (.getfield 33, 3) := by decide +kernel
theorem dX1_copyFrom_121 : decode cX1_copyFrom 121 = .ok (.invokevirtual 108, 3) := by decide +kernel
theorem dX1_copyFrom_124 : decode cX1_copyFrom 124 = .ok (.aload_n 0, 1) := by decide +kernel
theorem dX1_copyFrom_125 : decode cX1_copyFrom 125 = .ok (.getfield 40, 3) := by decide +kernel
theorem dX1_copyFrom_128 : decode cX1_copyFrom 128 = .ok (.aload_n 1, 1) := by decide +kernel
theorem dX1_copyFrom_129 : decode cX1_copyFrom 129 = .ok (.getfield 40, 3) := by decide +kernel
theorem dX1_copyFrom_132 : decode cX1_copyFrom 132 = .ok (.invokevirtual 111, 3) := by decide +kernel
theorem dX1_copyFrom_135 : decode cX1_copyFrom 135 = .ok (.aload_n 0, 1) := by decide +kernel
theorem dX1_copyFrom_136 : decode cX1_copyFrom 136 = .ok (.getfield 47, 3) := by decide +kernel
theorem dX1_copyFrom_139 : decode cX1_copyFrom 139 = .ok (.aload_n 1, 1) := by decide +kernel
theorem dX1_copyFrom_140 : decode cX1_copyFrom 140 = .ok (.getfield 47, 3) := by decide +kernel
theorem dX1_copyFrom_143 : decode cX1_copyFrom 143 = .ok (.invokevirtual 114, 3) := by decide +kernel
theorem dX1_copyFrom_146 : decode cX1_copyFrom 146 = .ok (.iconst 0, 1) := by decide +kernel
theorem dX1_copyFrom_147 : decode cX1_copyFrom 147 = .ok (.istore_n 2, 1) := by decide +kernel
theorem dX1_copyFrom_148 : decode cX1_copyFrom 148 = .ok (.iload_n 2, 1) := by decide +kernel
theorem dX1_copyFrom_149 : decode cX1_copyFrom 149 = .ok (.iconst 4, 1) := by decide +kernel
theorem dX1_copyFrom_150 : decode cX1_copyFrom 150 = .ok (.if_icmp .ge 24, 3) := by decide +kernel
theorem dX1_copyFrom_153 : decode cX1_copyFrom 153 = .ok (.aload_n 0, 1) := by decide +kernel
theorem dX1_copyFrom_154 : decode cX1_copyFrom 154 = .ok (.getfield 54, 3) := by decide +kernel
theorem dX1_copyFrom_157 : decode cX1_copyFrom 157 = .ok (.iload_n 2, 1) := by decide +kernel
theorem dX1_copyFrom_158 : decode cX1_copyFrom 158 = .ok (.aaload, 1) := by decide +kernel
theorem dX1_copyFrom_159 : decode cX1_copyFrom 159 = .ok (.aload_n 1, 1) := by decide +kernel
theorem dX1_copyFrom_160 : decode cX1_copyFrom 160 = .ok (.getfield 54, 3) := by decide +kernel
theorem dX1_copyFrom_163 : decode cX1_copyFrom 163 = .ok (.iload_n 2, 1) := by decide +kernel
theorem dX1_copyFrom_164 : decode cX1_copyFrom 164 = .ok (.aaload, 1) := by decide +kernel
theorem dX1_copyFrom_165 : decode cX1_copyFrom 165 = .ok (.invokevirtual 117, 3) := by decide +kernel
theorem dX1_copyFrom_168 : decode cX1_copyFrom 168 = .ok (.iinc 2 1, 3) := by decide +kernel
theorem dX1_copyFrom_171 : decode cX1_copyFrom 171 = .ok (.goto (-23), 3) := by decide +kernel
theorem dX1_copyFrom_174 : decode cX1_copyFrom 174 = .ok (.return_, 1) := by decide +kernel
theorem dX1_hasAngle_0 : decode cX1_hasAngle 0 = .ok (.iload_n 1, 1) := by decide +kernel
theorem dX1_hasAngle_1 : decode cX1_hasAngle 1 = .ok (.iconst 0, 1) := by decide +kernel
theorem dX1_hasAngle_2 : decode cX1_hasAngle 2 = .ok (.aload_n 0, 1) := by decide +kernel
theorem dX1_hasAngle_3 : decode cX1_hasAngle 3 = .ok (.getfield 64, 3) := by decide +kernel
theorem dX1_hasAngle_6 : decode cX1_hasAngle 6 = .ok (.iconst 1, 1) := by decide +kernel
theorem dX1_hasAngle_7 : decode cX1_hasAngle 7 = .ok (.isub, 1) := by decide +kernel
theorem dX1_hasAngle_8 : decode cX1_hasAngle 8 = .ok (.invokestatic 120, 3) := by decide +kernel
theorem dX1_hasAngle_11 : decode cX1_hasAngle 11 = .ok (.ireturn, 1) := by decide +kernel
theorem dX1_angleOf_0 : decode cX1_angleOf 0 = .ok (.aload_n 0, 1) := by decide +kernel
theorem dX1_angleOf_1 : decode cX1_angleOf 1 = .ok (.getfield 26, 3) := by decide +kernel
theorem dX1_angleOf_4 : decode cX1_angleOf 4 = .ok (.getfield 124, 3) := by decide +kernel
theorem dX1_angleOf_7 : decode cX1_angleOf 7 = .ok (.iload_n 1, 1) := by decide +kernel
theorem dX1_angleOf_8 : decode cX1_angleOf 8 = .ok (.iaload, 1) := by decide +kernel
theorem dX1_angleOf_9 : decode cX1_angleOf 9 = .ok (.iload_n 2, 1) := by decide +kernel
theorem dX1_angleOf_10 : decode cX1_angleOf 10 = .ok (.iadd, 1) := by decide +kernel
theorem dX1_angleOf_11 : decode cX1_angleOf 11 = .ok (.aload_n 0, 1) := by decide +kernel
theorem dX1_angleOf_12 : decode cX1_angleOf 12 = .ok (.getfield 64, 3) := by decide +kernel
theorem dX1_angleOf_15 : decode cX1_angleOf 15 = .ok (.invokestatic 127, 3) := by decide +kernel
theorem dX1_angleOf_18 : decode cX1_angleOf 18 = .ok (.ireturn, 1) := by decide +kernel
theorem dX1_holderOn_0 : decode cX1_holderOn 0 = .ok (.aload_n 0, 1) := by decide +kernel
theorem dX1_holderOn_1 : decode cX1_holderOn 1 = .ok (.getfield 33, 3) := by decide +kernel
theorem dX1_holderOn_4 : decode cX1_holderOn 4 = .ok (.iload_n 1, 1) := by decide +kernel
theorem dX1_holderOn_5 : decode cX1_holderOn 5 = .ok (.iload_n 2, 1) := by decide +kernel
theorem dX1_holderOn_6 : decode cX1_holderOn 6 = .ok (.invokevirtual 130, 3) := by decide +kernel
theorem dX1_holderOn_9 : decode cX1_holderOn 9 = .ok (.istore_n 3, 1) := by decide +kernel
theorem dX1_holderOn_10 : decode cX1_holderOn 10 = .ok (.iload_n 3, 1) := by decide +kernel
theorem dX1_holderOn_11 : decode cX1_holderOn 11 = .ok (.iconst (-1), 1) := by decide +kernel
theorem dX1_holderOn_12 : decode cX1_holderOn 12 = .ok (.if_icmp .ne 7, 3) := by decide +kernel
theorem dX1_holderOn_15 : decode cX1_holderOn 15 = .ok (.iload_n 1, 1) := by decide +kernel
theorem dX1_holderOn_16 : decode cX1_holderOn 16 = .ok (.goto 4, 3) := by decide +kernel
theorem dX1_holderOn_19 : decode cX1_holderOn 19 = .ok (.iload_n 3, 1) := by decide +kernel
theorem dX1_holderOn_20 : decode cX1_holderOn 20 = .ok (.ireturn, 1) := by decide +kernel
theorem dX1_makeTurn_0 : decode cX1_makeTurn 0 = .ok (.aload_n 0, 1) := by decide +kernel
theorem dX1_makeTurn_1 : decode cX1_makeTurn 1 = .ok (.aload_n 0, 1) := by decide +kernel
theorem dX1_makeTurn_2 : decode cX1_makeTurn 2 = .ok (.getfield 68, 3) := by decide +kernel
theorem dX1_makeTurn_5 : decode cX1_makeTurn 5 = .ok (.iload_n 1, 1) := by decide +kernel
theorem dX1_makeTurn_6 : decode cX1_makeTurn 6 = .ok (.iadd, 1) := by decide +kernel
theorem dX1_makeTurn_7 : decode cX1_makeTurn 7 = .ok (.aload_n 0, 1) := by decide +kernel
theorem dX1_makeTurn_8 : decode cX1_makeTurn 8 = .ok (.getfield 64, 3) := by decide +kernel
theorem dX1_makeTurn_11 : decode cX1_makeTurn 11 = .ok (.invokestatic 127, 3) := by decide +kernel
theorem dX1_makeTurn_14 : decode cX1_makeTurn 14 = .ok (.putfield 68, 3) := by decide +kernel
theorem dX1_makeTurn_17 : decode cX1_makeTurn 17 = .ok (.aload_n 0, 1) := by decide +kernel
theorem dX1_makeTurn_18 : decode cX1_makeTurn 18 = .ok (.dup, 1) := by decide +kernel
theorem dX1_makeTurn_19 : decode cX1_makeTurn 19 = .ok (.getfield 74, 3) := by decide +kernel
theorem dX1_makeTurn_22 : decode cX1_makeTurn 22 = .ok (.iconst 1, 1) := by decide +kernel
theorem dX1_makeTurn_23 : decode cX1_makeTurn 23 = .ok (.isub, 1) := by decide +kernel
theorem dX1_makeTurn_24 : decode cX1_makeTurn 24 = .ok (.putfield 74, 3) := by decide +kernel
theorem dX1_makeTurn_27 : decode cX1_makeTurn 27 = .ok (.iconst 0, 1) := by decide +kernel
theorem dX1_makeTurn_28 : decode cX1_makeTurn 28 = .ok (.istore_n 2, 1) := by decide +kernel
theorem dX1_makeTurn_29 : decode cX1_makeTurn 29 = .ok (.iconst 0, 1) := by decide +kernel
theorem dX1_makeTurn_30 : decode cX1_makeTurn 30 = .ok (.istore_n 3, 1) := by decide +kernel
theorem dX1_makeTurn_31 : decode cX1_makeTurn 31 = .ok (.iload_n 3, 1) := by decide +kernel
theorem dX1_makeTurn_32 : decode cX1_makeTurn 32 = .ok (.aload_n 0, 1) := by decide +kernel
theorem dX1_makeTurn_33 : decode cX1_makeTurn 33 = .ok (.getfield 26, 3) := by decide +kernel
theorem dX1_makeTurn_36 : decode cX1_makeTurn 36 = .ok (.getfield 89, 3) := by decide +kernel
theorem dX1_makeTurn_39 : decode cX1_makeTurn 39 = .ok (.if_icmp .ge 36, 3) := by decide +kernel
theorem dX1_makeTurn_42 : decode cX1_makeTurn 42 = .ok (.aload_n 0, 1) := by decide +kernel
theorem dX1_makeTurn_43 : decode cX1_makeTurn 43 = .ok (.getfield 26, 3) := by decide +kernel
theorem dX1_makeTurn_46 : decode cX1_makeTurn 46 = .ok (.getfield 133, 3) := by decide +kernel
theorem dX1_makeTurn_49 : decode cX1_makeTurn 49 = .ok (.iload_n 3, 1) := by decide +kernel
theorem dX1_makeTurn_50 : decode cX1_makeTurn 50 = .ok (.iaload, 1) := by decide +kernel
theorem dX1_makeTurn_51 : decode cX1_makeTurn 51 = .ok (.iload_n 1, 1) := by decide +kernel
theorem dX1_makeTurn_52 : decode cX1_makeTurn 52 = .ok (.if_icmp .ne 17, 3) := by decide +kernel
theorem dX1_makeTurn_55 : decode cX1_makeTurn 55 = .ok (.iload_n 2, 1) := by decide +kernel
theorem dX1_makeTurn_56 : decode cX1_makeTurn 56 = .ok (.iconst 1, 1) := by decide +kernel
theorem dX1_makeTurn_57 : decode cX1_makeTurn 57 = .ok (.aload_n 0, 1) := by decide +kernel
theorem dX1_makeTurn_58 : decode cX1_makeTurn 58 = .ok (.iload_n 3, 1) := by decide +kernel
theorem dX1_makeTurn_59 : decode cX1_makeTurn 59 = .ok (.aload_n 0, 1) := by decide +kernel
theorem dX1_makeTurn_60 : decode cX1_makeTurn 60 = .ok (.getfield 71, 3) := by decide +kernel
theorem dX1_makeTurn_63 : decode cX1_makeTurn 63 = .ok (.invokevirtual 136, 3) := by decide +kernel
theorem dX1_makeTurn_66 : decode cX1_makeTurn 66 = .ok (.ishl, 1) := by decide +kernel
theorem dX1_makeTurn_67 : decode cX1_makeTurn 67 = .ok (.ior, 1) := by decide +kernel
theorem dX1_makeTurn_68 : decode cX1_makeTurn 68 = .ok (.istore_n 2, 1) := by decide +kernel
theorem dX1_makeTurn_69 : decode cX1_makeTurn 69 = .ok (.iinc 3 1, 3) := by decide +kernel
theorem dX1_makeTurn_72 : decode cX1_makeTurn 72 = .ok (.goto (-41), 3) := by decide +kernel
theorem dX1_makeTurn_75 : decode cX1_makeTurn 75 = .ok (.iconst 0, 1) := by decide +kernel
theorem dX1_makeTurn_76 : decode cX1_makeTurn 76 = .ok (.istore_n 3, 1) := by decide +kernel
theorem dX1_makeTurn_77 : decode cX1_makeTurn 77 = .ok (.iload_n 3, 1) := by decide +kernel
theorem dX1_makeTurn_78 : decode cX1_makeTurn 78 = .ok (.aload_n 0, 1) := by decide +kernel
theorem dX1_makeTurn_79 : decode cX1_makeTurn 79 = .ok (.getfield 26, 3) := by decide +kernel
theorem dX1_makeTurn_82 : decode cX1_makeTurn 82 = .ok (.getfield 89, 3) := by decide +kernel
theorem dX1_makeTurn_85 : decode cX1_makeTurn 85 = .ok (.if_icmp .ge 33, 3) := by decide +kernel
theorem dX1_makeTurn_88 : decode cX1_makeTurn 88 = .ok (.iload_n 2, 1) := by decide +kernel
theorem dX1_makeTurn_89 : decode cX1_makeTurn 89 = .ok (.iload_n 3, 1) := by decide +kernel
theorem dX1_makeTurn_90 : decode cX1_makeTurn 90 = .ok (.ishr, 1) := by decide +kernel
theorem dX1_makeTurn_91 : decode cX1_makeTurn 91 = .ok (.iconst 1, 1) := by decide +kernel
theorem dX1_makeTurn_92 : decode cX1_makeTurn 92 = .ok (.iand, 1) := by decide +kernel
theorem dX1_makeTurn_93 : decode cX1_makeTurn 93 = .ok (.ifCond .eq 19, 3) := by decide +kernel
theorem dX1_makeTurn_96 : decode cX1_makeTurn 96 = .ok (.aload_n 0, 1) := by decide +kernel
theorem dX1_makeTurn_97 : decode cX1_makeTurn 97 = .ok (.getfield 26, 3) := by decide +kernel
theorem dX1_makeTurn_100 : decode cX1_makeTurn 100 = .ok (.getfield 139, 3) := by decide +kernel
theorem dX1_makeTurn_103 : decode cX1_makeTurn 103 = .ok (.iload_n 3, 1) := by decide +kernel
theorem dX1_makeTurn_104 : decode cX1_makeTurn 104 = .ok (.dup2, 1) := by decide +kernel
theorem dX1_makeTurn_105 : decode cX1_makeTurn 105 = .ok (.iaload, 1) := by decide +kernel
theorem dX1_makeTurn_106 : decode cX1_makeTurn 106 = .ok (.aload_n 0, 1) := by decide +kernel
theorem dX1_makeTurn_107 : decode cX1_makeTurn 107 = .ok (.getfield 77, 3) := by decide +kernel
theorem dX1_makeTurn_110 : decode cX1_makeTurn 110 = .ok (.isub, 1) := by decide +kernel
theorem dX1_makeTurn_111 : decode cX1_makeTurn 111 = .ok (.iastore, 1) := by decide +kernel
theorem dX1_makeTurn_112 : decode cX1_makeTurn 112 = .ok (.iinc 3 1, 3) := by decide +kernel
theorem dX1_makeTurn_115 : decode cX1_makeTurn 115 = .ok (.goto (-38), 3) := by decide +kernel
theorem dX1_makeTurn_118 : decode cX1_makeTurn 118 = .ok (.return_, 1) := by decide +kernel
theorem dX1_endDay_0 : decode cX1_endDay 0 = .ok (.aload_n 0, 1) := by decide +kernel
theorem dX1_endDay_1 : decode cX1_endDay 1 = .ok (.getfield 17, 3) := by decide +kernel
theorem dX1_endDay_4 : decode cX1_endDay 4 = .ok (.aload_n 0, 1) := by decide +kernel
theorem dX1_endDay_5 : decode cX1_endDay 5 = .ok (.getfield 71, 3) := by decide +kernel
theorem dX1_endDay_8 : decode cX1_endDay 8 = .ok (.invokestatic 142, 3) := by decide +kernel
theorem dX1_endDay_11 : decode cX1_endDay 11 = .ok (.iload_n 1, 1) := by decide +kernel
theorem dX1_endDay_12 : decode cX1_endDay 12 = .ok (.iastore, 1) := by decide +kernel
theorem dX1_endDay_13 : decode cX1_endDay 13 = .ok (.aload_n 0, 1) := by decide +kernel
theorem dX1_endDay_14 : decode cX1_endDay 14 = .ok (.aload_n 0, 1) := by decide +kernel
theorem dX1_endDay_15 : decode cX1_endDay 15 = .ok (.getfield 80, 3) := by decide +kernel
theorem dX1_endDay_18 : decode cX1_endDay 18 = .ok (.iconst 1, 1) := by decide +kernel
theorem dX1_endDay_19 : decode cX1_endDay 19 = .ok (.iadd, 1) := by decide +kernel
theorem dX1_endDay_20 : decode cX1_endDay 20 = .ok (.sipush 400, 3) := by decide +kernel
theorem dX1_endDay_23 : decode cX1_endDay 23 = .ok (.invokestatic 146, 3) := by decide +kernel
theorem dX1_endDay_26 : decode cX1_endDay 26 = .ok (.putfield 80, 3) := by decide +kernel
theorem dX1_endDay_29 : decode cX1_endDay 29 = .ok (.aload_n 0, 1) := by decide +kernel
theorem dX1_endDay_30 : decode cX1_endDay 30 = .ok (.dup, 1) := by decide +kernel
theorem dX1_endDay_31 : decode cX1_endDay 31 = .ok (.getfield 71, 3) := by decide +kernel
theorem dX1_endDay_34 : decode cX1_endDay 34 = .ok (.iconst 1, 1) := by decide +kernel
theorem dX1_endDay_35 : decode cX1_endDay 35 = .ok (.iadd, 1) := by decide +kernel
theorem dX1_endDay_36 : decode cX1_endDay 36 = .ok (.putfield 71, 3) := by decide +kernel
theorem dX1_endDay_39 : decode cX1_endDay 39 = .ok (.return_, 1) := by decide +kernel
theorem dX2_init_0 : decode cX2_init 0 = .ok (.aload_n 0, 1) := by decide +kernel
theorem dX2_init_1 : decode cX2_init 1 = .ok (.invokespecial 1, 3) := by decide +kernel
theorem dX2_init_4 : decode cX2_init 4 = .ok (.aload_n 0, 1) := by decide +kernel
theorem dX2_init_5 : decode cX2_init 5 = .ok (.bipush 40, 2) := by decide +kernel
theorem dX2_init_7 : decode cX2_init 7 = .ok (.newarray .int, 2) := by decide +kernel
theorem dX2_init_9 : decode cX2_init 9 = .ok (.putfield 9, 3) := by decide +kernel
theorem dX2_init_12 : decode cX2_init 12 = .ok (.aload_n 0, 1) := by decide +kernel
theorem dX2_init_13 : decode cX2_init 13 = .ok (.bipush 40, 2) := by decide +kernel
theorem dX2_init_15 : decode cX2_init 15 = .ok (.newarray .int, 2) := by decide +kernel
theorem dX2_init_17 : decode cX2_init 17 = .ok (.putfield 13, 3) := by decide +kernel
theorem dX2_init_20 : decode cX2_init 20 = .ok (.aload_n 0, 1) := by decide +kernel
theorem dX2_init_21 : decode cX2_init 21 = .ok (.bipush 40, 2) := by decide +kernel
theorem dX2_init_23 : decode cX2_init 23 = .ok (.newarray .int, 2) := by decide +kernel
theorem dX2_init_25 : decode cX2_init 25 = .ok (.putfield 16, 3) := by decide +kernel
theorem dX2_init_28 : decode cX2_init 28 = .ok (.return_, 1) := by decide +kernel
theorem dX2_copyFrom_0 : decode cX2_copyFrom 0 = .ok (.aload_n 0, 1) := by decide +kernel
theorem dX2_copyFrom_1 : decode cX2_copyFrom 1 = .ok (.aload_n 1, 1) := by decide +kernel
theorem dX2_copyFrom_2 : decode cX2_copyFrom 2 = .ok (.getfield 19, 3) := by decide +kernel
theorem dX2_copyFrom_5 : decode cX2_copyFrom 5 = .ok (.putfield 19, 3) := by decide +kernel
theorem dX2_copyFrom_8 : decode cX2_copyFrom 8 = .ok (.aload_n 1, 1) := by decide +kernel
theorem dX2_copyFrom_9 : decode cX2_copyFrom 9 = .ok (.getfield 9, 3) := by decide +kernel
theorem dX2_copyFrom_12 : decode cX2_copyFrom 12 = .ok (.iconst 0, 1) := by decide +kernel
theorem dX2_copyFrom_13 : decode cX2_copyFrom 13 = .ok (.aload_n 0, 1) := by decide +kernel
theorem dX2_copyFrom_14 : decode cX2_copyFrom 14 = .ok (.getfield 9, 3) := by decide +kernel
theorem dX2_copyFrom_17 : decode cX2_copyFrom 17 = .ok (.iconst 0, 1) := by decide +kernel
theorem dX2_copyFrom_18 : decode cX2_copyFrom 18 = .ok (.aload_n 0, 1) := by decide +kernel
theorem dX2_copyFrom_19 : decode cX2_copyFrom 19 = .ok (.getfield 19, 3) := by decide +kernel
theorem dX2_copyFrom_22 : decode cX2_copyFrom 22 = .ok (.invokestatic 23, 3) := by decide +kernel
theorem dX2_copyFrom_25 : decode cX2_copyFrom 25 = .ok (.aload_n 1, 1) := by decide +kernel
theorem dX2_copyFrom_26 : decode cX2_copyFrom 26 = .ok (.getfield 13, 3) := by decide +kernel
theorem dX2_copyFrom_29 : decode cX2_copyFrom 29 = .ok (.iconst 0, 1) := by decide +kernel
theorem dX2_copyFrom_30 : decode cX2_copyFrom 30 = .ok (.aload_n 0, 1) := by decide +kernel
theorem dX2_copyFrom_31 : decode cX2_copyFrom 31 = .ok (.getfield 13, 3) := by decide +kernel
theorem dX2_copyFrom_34 : decode cX2_copyFrom 34 = .ok (.iconst 0, 1) := by decide +kernel
theorem dX2_copyFrom_35 : decode cX2_copyFrom 35 = .ok (.aload_n 0, 1) := by decide +kernel
theorem dX2_copyFrom_36 : decode cX2_copyFrom 36 = .ok (.getfield 19, 3) := by decide +kernel
theorem dX2_copyFrom_39 : decode cX2_copyFrom 39 = .ok (.invokestatic 23, 3) := by decide +kernel
theorem dX2_copyFrom_42 : decode cX2_copyFrom 42 = .ok (.aload_n 1, 1) := by decide +kernel
theorem dX2_copyFrom_43 : decode cX2_copyFrom 43 = .ok (.getfield 16, 3) := by decide +kernel
theorem dX2_copyFrom_46 : decode cX2_copyFrom 46 = .ok (.iconst 0, 1) := by decide +kernel
theorem dX2_copyFrom_47 : decode cX2_copyFrom 47 = .ok (.aload_n 0, 1) := by decide +kernel
theorem dX2_copyFrom_48 : decode cX2_copyFrom 48 = .ok (.getfield 16, 3) := by decide +kernel
theorem dX2_copyFrom_51 : decode cX2_copyFrom 51 = .ok (.iconst 0, 1) := by decide +kernel
theorem dX2_copyFrom_52 : decode cX2_copyFrom 52 = .ok (.aload_n 0, 1) := by decide +kernel
theorem dX2_copyFrom_53 : decode cX2_copyFrom 53 = .ok (.getfield 19, 3) := by decide +kernel
theorem dX2_copyFrom_56 : decode cX2_copyFrom 56 = .ok (.invokestatic 23, 3) := by decide +kernel
theorem dX2_copyFrom_59 : decode cX2_copyFrom 59 = .ok (.return_, 1) := by decide +kernel
theorem dX2_take_0 : decode cX2_take 0 = .ok (.aload_n 0, 1) := by decide +kernel
theorem dX2_take_1 : decode cX2_take 1 = .ok (.getfield 9, 3) := by decide +kernel
theorem dX2_take_4 : decode cX2_take 4 = .ok (.aload_n 0, 1) := by decide +kernel
theorem dX2_take_5 : decode cX2_take 5 = .ok (.getfield 19, 3) := by decide +kernel
theorem dX2_take_8 : decode cX2_take 8 = .ok (.iload_n 1, 1) := by decide +kernel
theorem dX2_take_9 : decode cX2_take 9 = .ok (.iastore, 1) := by decide +kernel
theorem dX2_take_10 : decode cX2_take 10 = .ok (.aload_n 0, 1) := by decide +kernel
theorem dX2_take_11 : decode cX2_take 11 = .ok (.getfield 13, 3) := by decide +kernel
theorem dX2_take_14 : decode cX2_take 14 = .ok (.aload_n 0, 1) := by decide +kernel
theorem dX2_take_15 : decode cX2_take 15 = .ok (.getfield 19, 3) := by decide +kernel
theorem dX2_take_18 : decode cX2_take 18 = .ok (.iload_n 2, 1) := by decide +kernel
theorem dX2_take_19 : decode cX2_take 19 = .ok (.iastore, 1) := by decide +kernel
theorem dX2_take_20 : decode cX2_take 20 = .ok (.aload_n 0, 1) := by decide +kernel
theorem dX2_take_21 : decode cX2_take 21 = .ok (.getfield 16, 3) := by decide +kernel
theorem dX2_take_24 : decode cX2_take 24 = .ok (.aload_n 0, 1) := by decide +kernel
theorem dX2_take_25 : decode cX2_take 25 = .ok (.getfield 19, 3) := by decide +kernel
theorem dX2_take_28 : decode cX2_take 28 = .ok (.iload_n 3, 1) := by decide +kernel
theorem dX2_take_29 : decode cX2_take 29 = .ok (.iastore, 1) := by decide +kernel
theorem dX2_take_30 : decode cX2_take 30 = .ok (.aload_n 0, 1) := by decide +kernel
theorem dX2_take_31 : decode cX2_take 31 = .ok (.dup, 1) := by decide +kernel
theorem dX2_take_32 : decode cX2_take 32 = .ok (.getfield 19, 3) := by decide +kernel
theorem dX2_take_35 : decode cX2_take 35 = .ok (.iconst 1, 1) := by decide +kernel
theorem dX2_take_36 : decode cX2_take 36 = .ok (.iadd, 1) := by decide +kernel
theorem dX2_take_37 : decode cX2_take 37 = .ok (.putfield 19, 3) := by decide +kernel
theorem dX2_take_40 : decode cX2_take 40 = .ok (.return_, 1) := by decide +kernel
theorem dX3_init_0 : decode cX3_init 0 = .ok (.aload_n 0, 1) := by decide +kernel
theorem dX3_init_1 : decode cX3_init 1 = .ok (.invokespecial 3, 3) := by decide +kernel
theorem dX3_init_4 : decode cX3_init 4 = .ok (.aload_n 0, 1) := by decide +kernel
theorem dX3_init_5 : decode cX3_init 5 = .ok (.sipush 3660, 3) := by decide +kernel
theorem dX3_init_8 : decode cX3_init 8 = .ok (.newarray .int, 2) := by decide +kernel
theorem dX3_init_10 : decode cX3_init 10 = .ok (.putfield 11, 3) := by decide +kernel
theorem dX3_init_13 : decode cX3_init 13 = .ok (.aload_n 0, 1) := by decide +kernel
theorem dX3_init_14 : decode cX3_init 14 = .ok (.bipush 10, 2) := by decide +kernel
theorem dX3_init_16 : decode cX3_init 16 = .ok (.sipush 156, 3) := by decide +kernel
theorem dX3_init_19 : decode cX3_init 19 = .ok (.multianewarray 15 2, 4) := by decide +kernel
theorem dX3_init_23 : decode cX3_init 23 = .ok (.putfield 17, 3) := by decide +kernel
theorem dX3_init_26 : decode cX3_init 26 = .ok (.aload_n 0, 1) := by decide +kernel
theorem dX3_init_27 : decode cX3_init 27 = .ok (.sipush 1891, 3) := by decide +kernel
theorem dX3_init_30 : decode cX3_init 30 = .ok (.newarray .int, 2) := by decide +kernel
theorem dX3_init_32 : decode cX3_init 32 = .ok (.putfield 20, 3) := by decide +kernel
theorem dX3_init_35 : decode cX3_init 35 = .ok (.aload_n 0, 1) := by decide +kernel
theorem dX3_init_36 : decode cX3_init 36 = .ok (.bipush 30, 2) := by decide +kernel
theorem dX3_init_38 : decode cX3_init 38 = .ok (.newarray .int, 2) := by decide +kernel
theorem dX3_init_40 : decode cX3_init 40 = .ok (.putfield 23, 3) := by decide +kernel
theorem dX3_init_43 : decode cX3_init 43 = .ok (.aload_n 0, 1) := by decide +kernel
theorem dX3_init_44 : decode cX3_init 44 = .ok (.bipush 6, 2) := by decide +kernel
theorem dX3_init_46 : decode cX3_init 46 = .ok (.newarray .int, 2) := by decide +kernel
theorem dX3_init_48 : decode cX3_init 48 = .ok (.putfield 26, 3) := by decide +kernel
theorem dX3_init_51 : decode cX3_init 51 = .ok (.aload_n 0, 1) := by decide +kernel
theorem dX3_init_52 : decode cX3_init 52 = .ok (.bipush 7, 2) := by decide +kernel
theorem dX3_init_54 : decode cX3_init 54 = .ok (.bipush 10, 2) := by decide +kernel
theorem dX3_init_56 : decode cX3_init 56 = .ok (.multianewarray 15 2, 4) := by decide +kernel
theorem dX3_init_60 : decode cX3_init 60 = .ok (.putfield 29, 3) := by decide +kernel
theorem dX3_init_63 : decode cX3_init 63 = .ok (.aload_n 0, 1) := by decide +kernel
theorem dX3_init_64 : decode cX3_init 64 = .ok (.bipush 10, 2) := by decide +kernel
theorem dX3_init_66 : decode cX3_init 66 = .ok (.newarray .int, 2) := by decide +kernel
theorem dX3_init_68 : decode cX3_init 68 = .ok (.putfield 32, 3) := by decide +kernel
theorem dX3_init_71 : decode cX3_init 71 = .ok (.aload_n 0, 1) := by decide +kernel
theorem dX3_init_72 : decode cX3_init 72 = .ok (.aload_n 1, 1) := by decide +kernel
theorem dX3_init_73 : decode cX3_init 73 = .ok (.putfield 35, 3) := by decide +kernel
theorem dX3_init_76 : decode cX3_init 76 = .ok (.return_, 1) := by decide +kernel
theorem dX3_cellOf_0 : decode cX3_cellOf 0 = .ok (.iload_n 1, 1) := by decide +kernel
theorem dX3_cellOf_1 : decode cX3_cellOf 1 = .ok (.iconst 2, 1) := by decide +kernel
theorem dX3_cellOf_2 : decode cX3_cellOf 2 = .ok (.aload_n 0, 1) := by decide +kernel
theorem dX3_cellOf_3 : decode cX3_cellOf 3 = .ok (.getfield 39, 3) := by decide +kernel
theorem dX3_cellOf_6 : decode cX3_cellOf 6 = .ok (.imul, 1) := by decide +kernel
theorem dX3_cellOf_7 : decode cX3_cellOf 7 = .ok (.iconst 1, 1) := by decide +kernel
theorem dX3_cellOf_8 : decode cX3_cellOf 8 = .ok (.iadd, 1) := by decide +kernel
theorem dX3_cellOf_9 : decode cX3_cellOf 9 = .ok (.imul, 1) := by decide +kernel
theorem dX3_cellOf_10 : decode cX3_cellOf 10 = .ok (.aload_n 0, 1) := by decide +kernel
theorem dX3_cellOf_11 : decode cX3_cellOf 11 = .ok (.getfield 39, 3) := by decide +kernel
theorem dX3_cellOf_14 : decode cX3_cellOf 14 = .ok (.iadd, 1) := by decide +kernel
theorem dX3_cellOf_15 : decode cX3_cellOf 15 = .ok (.iload_n 2, 1) := by decide +kernel
theorem dX3_cellOf_16 : decode cX3_cellOf 16 = .ok (.iadd, 1) := by decide +kernel
theorem dX3_cellOf_17 : decode cX3_cellOf 17 = .ok (.iconst 2, 1) := by decide +kernel
theorem dX3_cellOf_18 : decode cX3_cellOf 18 = .ok (.imul, 1) := by decide +kernel
theorem dX3_cellOf_19 : decode cX3_cellOf 19 = .ok (.iload_n 3, 1) := by decide +kernel
theorem dX3_cellOf_20 : decode cX3_cellOf 20 = .ok (.ifCond .ne 7, 3) := by decide +kernel
theorem dX3_cellOf_23 : decode cX3_cellOf 23 = .ok (.iconst 0, 1) := by decide +kernel
theorem dX3_cellOf_24 : decode cX3_cellOf 24 = .ok (.goto 4, 3) := by decide +kernel
theorem dX3_cellOf_27 : decode cX3_cellOf 27 = .ok (.iconst 1, 1) := by decide +kernel
theorem dX3_cellOf_28 : decode cX3_cellOf 28 = .ok (.iadd, 1) := by decide +kernel
theorem dX3_cellOf_29 : decode cX3_cellOf 29 = .ok (.ireturn, 1) := by decide +kernel
theorem dX3_aheadOf_0 : decode cX3_aheadOf 0 = .ok (.iload_n 1, 1) := by decide +kernel
theorem dX3_aheadOf_1 : decode cX3_aheadOf 1 = .ok (.iconst 2, 1) := by decide +kernel
theorem dX3_aheadOf_2 : decode cX3_aheadOf 2 = .ok (.aload_n 0, 1) := by decide +kernel
theorem dX3_aheadOf_3 : decode cX3_aheadOf 3 = .ok (.getfield 39, 3) := by decide +kernel
theorem dX3_aheadOf_6 : decode cX3_aheadOf 6 = .ok (.imul, 1) := by decide +kernel
theorem dX3_aheadOf_7 : decode cX3_aheadOf 7 = .ok (.iconst 1, 1) := by decide +kernel
theorem dX3_aheadOf_8 : decode cX3_aheadOf 8 = .ok (.iadd, 1) := by decide +kernel
theorem dX3_aheadOf_9 : decode cX3_aheadOf 9 = .ok (.imul, 1) := by decide +kernel
theorem dX3_aheadOf_10 : decode cX3_aheadOf 10 = .ok (.aload_n 0, 1) := by decide +kernel
theorem dX3_aheadOf_11 : decode cX3_aheadOf 11 = .ok (.getfield 39, 3) := by decide +kernel
theorem dX3_aheadOf_14 : decode cX3_aheadOf 14 = .ok (.iadd, 1) := by decide +kernel
theorem dX3_aheadOf_15 : decode cX3_aheadOf 15 = .ok (.iload_n 2, 1) := by decide +kernel
theorem dX3_aheadOf_16 : decode cX3_aheadOf 16 = .ok (.iadd, 1) := by decide +kernel
theorem dX3_aheadOf_17 : decode cX3_aheadOf 17 = .ok (.ireturn, 1) := by decide +kernel
theorem dX3_gather_0 : decode cX3_gather 0 = .ok (.iconst 0, 1) := by decide +kernel
theorem dX3_gather_1 : decode cX3_gather 1 = .ok (.istore 4, 2) := by decide +kernel
theorem dX3_gather_3 : decode cX3_gather 3 = .ok (.iload 4, 2) := by decide +kernel
theorem dX3_gather_5 : decode cX3_gather 5 = .ok (.aload_n 0, 1) := by decide +kernel
theorem dX3_gather_6 : decode cX3_gather 6 = .ok (.getfield 39, 3) := by decide +kernel
theorem dX3_gather_9 : decode cX3_gather 9 = .ok (.if_icmp .ge 137, 3) := by decide +kernel
theorem dX3_gather_12 : decode cX3_gather 12 = .ok (.iconst 0, 1) := by decide +kernel
theorem dX3_gather_13 : decode cX3_gather 13 = .ok (.istore 5, 2) := by decide +kernel
theorem dX3_gather_15 : decode cX3_gather 15 = .ok (.iload 5, 2) := by decide +kernel
theorem dX3_gather_17 : decode cX3_gather 17 = .ok (.iconst 1, 1) := by decide +kernel
theorem dX3_gather_18 : decode cX3_gather 18 = .ok (.if_icmp .gt 122, 3) := by decide +kernel
theorem dX3_gather_21 : decode cX3_gather 21 = .ok (.iload 4, 2) := by decide +kernel
theorem dX3_gather_23 : decode cX3_gather 23 = .ok (.ineg, 1) := by decide +kernel
theorem dX3_gather_24 : decode cX3_gather 24 = .ok (.iload 5, 2) := by decide +kernel
theorem dX3_gather_26 : decode cX3_gather 26 = .ok (.isub, 1) := by decide +kernel
theorem dX3_gather_27 : decode cX3_gather 27 = .ok (.istore 6, 2) := by decide +kernel
theorem dX3_gather_29 : decode cX3_gather 29 = .ok (.iload 6, 2) := by decide +kernel
theorem dX3_gather_31 : decode cX3_gather 31 = .ok (.iload 4, 2) := by decide +kernel
theorem dX3_gather_33 : decode cX3_gather 33 = .ok (.iload 5, 2) := by decide +kernel
theorem dX3_gather_35 : decode cX3_gather 35 = .ok (.iadd, 1) := by decide +kernel
theorem dX3_gather_36 : decode cX3_gather 36 = .ok (.if_icmp .gt 98, 3) := by decide +kernel
theorem dX3_gather_39 : decode cX3_gather 39 = .ok (.aload_n 1, 1) := by decide +kernel
theorem dX3_gather_40 : decode cX3_gather 40 = .ok (.getfield 43, 3) := by decide +kernel
theorem dX3_gather_43 : decode cX3_gather 43 = .ok (.iload 6, 2) := by decide +kernel
theorem dX3_gather_45 : decode cX3_gather 45 = .ok (.iadd, 1) := by decide +kernel
theorem dX3_gather_46 : decode cX3_gather 46 = .ok (.aload_n 1, 1) := by decide +kernel
theorem dX3_gather_47 : decode cX3_gather 47 = .ok (.getfield 48, 3) := by decide +kernel
theorem dX3_gather_50 : decode cX3_gather 50 = .ok (.invokestatic 51, 3) := by decide +kernel
theorem dX3_gather_53 : decode cX3_gather 53 = .ok (.istore 7, 2) := by decide +kernel
theorem dX3_gather_55 : decode cX3_gather 55 = .ok (.iconst 0, 1) := by decide +kernel
theorem dX3_gather_56 : decode cX3_gather 56 = .ok (.istore 8, 2) := by decide +kernel
theorem dX3_gather_58 : decode cX3_gather 58 = .ok (.iconst 0, 1) := by decide +kernel
theorem dX3_gather_59 : decode cX3_gather 59 = .ok (.istore 9, 2) := by decide +kernel
theorem dX3_gather_61 : decode cX3_gather 61 = .ok (.iload 9, 2) := by decide +kernel
theorem dX3_gather_63 : decode cX3_gather 63 = .ok (.aload_n 1, 1) := by decide +kernel
theorem dX3_gather_64 : decode cX3_gather 64 = .ok (.getfield 55, 3) := by decide +kernel
theorem dX3_gather_67 : decode cX3_gather 67 = .ok (.getfield 59, 3) := by decide +kernel
theorem dX3_gather_70 : decode cX3_gather 70 = .ok (.if_icmp .ge 44, 3) := by decide +kernel
theorem dX3_gather_73 : decode cX3_gather 73 = .ok (.iload_n 2, 1) := by decide +kernel
theorem dX3_gather_74 : decode cX3_gather 74 = .ok (.iload 9, 2) := by decide +kernel
theorem dX3_gather_76 : decode cX3_gather 76 = .ok (.ishr, 1) := by decide +kernel
theorem dX3_gather_77 : decode cX3_gather 77 = .ok (.iconst 1, 1) := by decide +kernel
theorem dX3_gather_78 : decode cX3_gather 78 = .ok (.iand, 1) := by decide +kernel
theorem dX3_gather_79 : decode cX3_gather 79 = .ok (.ifCond .eq 29, 3) := by decide +kernel
theorem dX3_gather_82 : decode cX3_gather 82 = .ok (.iload 8, 2) := by decide +kernel
theorem dX3_gather_84 : decode cX3_gather 84 = .ok (.aload_n 0, 1) := by decide +kernel
theorem dX3_gather_85 : decode cX3_gather 85 = .ok (.getfield 35, 3) := by decide +kernel
theorem dX3_gather_88 : decode cX3_gather 88 = .ok (.aload_n 1, 1) := by decide +kernel
theorem dX3_gather_89 : decode cX3_gather 89 = .ok (.iload 9, 2) := by decide +kernel
theorem dX3_gather_91 : decode cX3_gather 91 = .ok (.aload_n 1, 1) := by decide +kernel
theorem dX3_gather_92 : decode cX3_gather 92 = .ok (.getfield 64, 3) := by decide +kernel
theorem dX3_gather_95 : decode cX3_gather 95 = .ok (.iload 4, 2) := by decide +kernel
theorem dX3_gather_97 : decode cX3_gather 97 = .ok (.iadd, 1) := by decide +kernel
theorem dX3_gather_98 : decode cX3_gather 98 = .ok (.iload 7, 2) := by decide +kernel
theorem dX3_gather_100 : decode cX3_gather 100 = .ok (.iload 5, 2) := by decide +kernel
theorem dX3_gather_102 : decode cX3_gather 102 = .ok (.invokevirtual 67, 3) := by decide +kernel
theorem dX3_gather_105 : decode cX3_gather 105 = .ok (.iadd, 1) := by decide +kernel
theorem dX3_gather_106 : decode cX3_gather 106 = .ok (.istore 8, 2) := by decide +kernel
theorem dX3_gather_108 : decode cX3_gather 108 = .ok (.iinc 9 1, 3) := by decide +kernel
theorem dX3_gather_111 : decode cX3_gather 111 = .ok (.goto (-50), 3) := by decide +kernel
theorem dX3_gather_114 : decode cX3_gather 114 = .ok (.aload_n 3, 1) := by decide +kernel
theorem dX3_gather_115 : decode cX3_gather 115 = .ok (.aload_n 0, 1) := by decide +kernel
theorem dX3_gather_116 : decode cX3_gather 116 = .ok (.iload 4, 2) := by decide +kernel
theorem dX3_gather_118 : decode cX3_gather 118 = .ok (.iload 6, 2) := by decide +kernel
theorem dX3_gather_120 : decode cX3_gather 120 = .ok (.iload 5, 2) := by decide +kernel
theorem dX3_gather_122 : decode cX3_gather 122 = .ok (.invokevirtual 73, 3) := by decide +kernel
theorem dX3_gather_125 : decode cX3_gather 125 = .ok (.iload 8, 2) := by decide +kernel
theorem dX3_gather_127 : decode cX3_gather 127 = .ok (.iastore, 1) := by decide +kernel
theorem dX3_gather_128 : decode cX3_gather 128 = .ok (.iinc 6 1, 3) := by decide +kernel
theorem dX3_gather_131 : decode cX3_gather 131 = .ok (.goto (-102), 3) := by decide +kernel
theorem dX3_gather_134 : decode cX3_gather 134 = .ok (.iinc 5 1, 3) := by decide +kernel
theorem dX3_gather_137 : decode cX3_gather 137 = .ok (.goto (-122), 3) := by decide +kernel
theorem dX3_gather_140 : decode cX3_gather 140 = .ok (.iinc 4 1, 3) := by decide +kernel
theorem dX3_gather_143 : decode cX3_gather 143 = .ok (.goto (-140), 3) := by decide +kernel
theorem dX3_gather_146 : decode cX3_gather 146 = .ok (.return_, 1) := by decide +kernel
theorem dX3_gatherEach_0 : decode cX3_gatherEach 0 = .ok (.iconst 0, 1) := by decide +kernel
theorem dX3_gatherEach_1 : decode cX3_gatherEach 1 = .ok (.istore_n 2, 1) := by decide +kernel
theorem dX3_gatherEach_2 : decode cX3_gatherEach 2 = .ok (.iload_n 2, 1) := by decide +kernel
theorem dX3_gatherEach_3 : decode cX3_gatherEach 3 = .ok (.aload_n 1, 1) := by decide +kernel
theorem dX3_gatherEach_4 : decode cX3_gatherEach 4 = .ok (.getfield 55, 3) := by decide +kernel
