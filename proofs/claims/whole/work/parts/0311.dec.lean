theorem dX12_count_4 : decode cX12_count 4 = .ok (.iload_n 2, 1) := by decide +kernel
theorem dX12_count_5 : decode cX12_count 5 = .ok (.bipush 24, 2) := by decide +kernel
theorem dX12_count_7 : decode cX12_count 7 = .ok (.if_icmp .ge 17, 3) := by decide +kernel
theorem dX12_count_10 : decode cX12_count 10 = .ok (.iload_n 1, 1) := by decide +kernel
theorem dX12_count_11 : decode cX12_count 11 = .ok (.iload_n 0, 1) := by decide +kernel
theorem dX12_count_12 : decode cX12_count 12 = .ok (.iload_n 2, 1) := by decide +kernel
theorem dX12_count_13 : decode cX12_count 13 = .ok (.ishr, 1) := by decide +kernel
theorem dX12_count_14 : decode cX12_count 14 = .ok (.iconst 1, 1) := by decide +kernel
theorem dX12_count_15 : decode cX12_count 15 = .ok (.iand, 1) := by decide +kernel
theorem dX12_count_16 : decode cX12_count 16 = .ok (.iadd, 1) := by decide +kernel
theorem dX12_count_17 : decode cX12_count 17 = .ok (.istore_n 1, 1) := by decide +kernel
theorem dX12_count_18 : decode cX12_count 18 = .ok (.iinc 2 1, 3) := by decide +kernel
theorem dX12_count_21 : decode cX12_count 21 = .ok (.goto (-17), 3) := by decide +kernel
theorem dX12_count_24 : decode cX12_count 24 = .ok (.iload_n 1, 1) := by decide +kernel
theorem dX12_count_25 : decode cX12_count 25 = .ok (.ireturn, 1) := by decide +kernel
theorem dX12_orders_0 : decode cX12_orders 0 = .ok (.iload_n 0, 1) := by decide +kernel
theorem dX12_orders_1 : decode cX12_orders 1 = .ok (.iconst 2, 1) := by decide +kernel
theorem dX12_orders_2 : decode cX12_orders 2 = .ok (.if_icmp .ge 7, 3) := by decide +kernel
theorem dX12_orders_5 : decode cX12_orders 5 = .ok (.iconst 1, 1) := by decide +kernel
theorem dX12_orders_6 : decode cX12_orders 6 = .ok (.goto 11, 3) := by decide +kernel
theorem dX12_orders_9 : decode cX12_orders 9 = .ok (.iload_n 0, 1) := by decide +kernel
theorem dX12_orders_10 : decode cX12_orders 10 = .ok (.iload_n 0, 1) := by decide +kernel
theorem dX12_orders_11 : decode cX12_orders 11 = .ok (.iconst 1, 1) := by decide +kernel
theorem dX12_orders_12 : decode cX12_orders 12 = .ok (.isub, 1) := by decide +kernel
theorem dX12_orders_13 : decode cX12_orders 13 = .ok (.invokestatic 270, 3) := by decide +kernel
theorem dX12_orders_16 : decode cX12_orders 16 = .ok (.imul, 1) := by decide +kernel
theorem dX12_orders_17 : decode cX12_orders 17 = .ok (.ireturn, 1) := by decide +kernel
theorem dX12_pivots_0 : decode cX12_pivots 0 = .ok (.iconst 0, 1) := by decide +kernel
theorem dX12_pivots_1 : decode cX12_pivots 1 = .ok (.istore_n 3, 1) := by decide +kernel
theorem dX12_pivots_2 : decode cX12_pivots 2 = .ok (.iconst 0, 1) := by decide +kernel
theorem dX12_pivots_3 : decode cX12_pivots 3 = .ok (.istore 4, 2) := by decide +kernel
theorem dX12_pivots_5 : decode cX12_pivots 5 = .ok (.iload 4, 2) := by decide +kernel
theorem dX12_pivots_7 : decode cX12_pivots 7 = .ok (.aload_n 0, 1) := by decide +kernel
theorem dX12_pivots_8 : decode cX12_pivots 8 = .ok (.invokevirtual 255, 3) := by decide +kernel
theorem dX12_pivots_11 : decode cX12_pivots 11 = .ok (.if_icmp .gt 81, 3) := by decide +kernel
theorem dX12_pivots_14 : decode cX12_pivots 14 = .ok (.iload 4, 2) := by decide +kernel
theorem dX12_pivots_16 : decode cX12_pivots 16 = .ok (.iload_n 1, 1) := by decide +kernel
theorem dX12_pivots_17 : decode cX12_pivots 17 = .ok (.ishr, 1) := by decide +kernel
theorem dX12_pivots_18 : decode cX12_pivots 18 = .ok (.iconst 1, 1) := by decide +kernel
theorem dX12_pivots_19 : decode cX12_pivots 19 = .ok (.iand, 1) := by decide +kernel
theorem dX12_pivots_20 : decode cX12_pivots 20 = .ok (.iconst 1, 1) := by decide +kernel
theorem dX12_pivots_21 : decode cX12_pivots 21 = .ok (.if_icmp .eq 65, 3) := by decide +kernel
theorem dX12_pivots_24 : decode cX12_pivots 24 = .ok (.aload_n 0, 1) := by decide +kernel
theorem dX12_pivots_25 : decode cX12_pivots 25 = .ok (.iload 4, 2) := by decide +kernel
theorem dX12_pivots_27 : decode cX12_pivots 27 = .ok (.invokevirtual 258, 3) := by decide +kernel
theorem dX12_pivots_30 : decode cX12_pivots 30 = .ok (.ifCond .ne 56, 3) := by decide +kernel
theorem dX12_pivots_33 : decode cX12_pivots 33 = .ok (.aload_n 0, 1) := by decide +kernel
theorem dX12_pivots_34 : decode cX12_pivots 34 = .ok (.iload 4, 2) := by decide +kernel
theorem dX12_pivots_36 : decode cX12_pivots 36 = .ok (.iconst 1, 1) := by decide +kernel
theorem dX12_pivots_37 : decode cX12_pivots 37 = .ok (.iload_n 1, 1) := by decide +kernel
theorem dX12_pivots_38 : decode cX12_pivots 38 = .ok (.ishl, 1) := by decide +kernel
theorem dX12_pivots_39 : decode cX12_pivots 39 = .ok (.ior, 1) := by decide +kernel
theorem dX12_pivots_40 : decode cX12_pivots 40 = .ok (.invokevirtual 258, 3) := by decide +kernel
theorem dX12_pivots_43 : decode cX12_pivots 43 = .ok (.ifCond .ne 6, 3) := by decide +kernel
theorem dX12_pivots_46 : decode cX12_pivots 46 = .ok (.goto 40, 3) := by decide +kernel
theorem dX12_pivots_49 : decode cX12_pivots 49 = .ok (.iload_n 3, 1) := by decide +kernel
theorem dX12_pivots_50 : decode cX12_pivots 50 = .ok (.iload_n 2, 1) := by decide +kernel
theorem dX12_pivots_51 : decode cX12_pivots 51 = .ok (.ifCond .eq 7, 3) := by decide +kernel
theorem dX12_pivots_54 : decode cX12_pivots 54 = .ok (.iconst 1, 1) := by decide +kernel
theorem dX12_pivots_55 : decode cX12_pivots 55 = .ok (.goto 29, 3) := by decide +kernel
theorem dX12_pivots_58 : decode cX12_pivots 58 = .ok (.iload 4, 2) := by decide +kernel
theorem dX12_pivots_60 : decode cX12_pivots 60 = .ok (.invokestatic 273, 3) := by decide +kernel
theorem dX12_pivots_63 : decode cX12_pivots 63 = .ok (.invokestatic 270, 3) := by decide +kernel
theorem dX12_pivots_66 : decode cX12_pivots 66 = .ok (.aload_n 0, 1) := by decide +kernel
theorem dX12_pivots_67 : decode cX12_pivots 67 = .ok (.getfield 7, 3) := by decide +kernel
theorem dX12_pivots_70 : decode cX12_pivots 70 = .ok (.iconst 5, 1) := by decide +kernel
theorem dX12_pivots_71 : decode cX12_pivots 71 = .ok (.iaload, 1) := by decide +kernel
theorem dX12_pivots_72 : decode cX12_pivots 72 = .ok (.iconst 1, 1) := by decide +kernel
theorem dX12_pivots_73 : decode cX12_pivots 73 = .ok (.isub, 1) := by decide +kernel
theorem dX12_pivots_74 : decode cX12_pivots 74 = .ok (.iload 4, 2) := by decide +kernel
theorem dX12_pivots_76 : decode cX12_pivots 76 = .ok (.invokestatic 273, 3) := by decide +kernel
theorem dX12_pivots_79 : decode cX12_pivots 79 = .ok (.isub, 1) := by decide +kernel
theorem dX12_pivots_80 : decode cX12_pivots 80 = .ok (.invokestatic 270, 3) := by decide +kernel
theorem dX12_pivots_83 : decode cX12_pivots 83 = .ok (.imul, 1) := by decide +kernel
theorem dX12_pivots_84 : decode cX12_pivots 84 = .ok (.iadd, 1) := by decide +kernel
theorem dX12_pivots_85 : decode cX12_pivots 85 = .ok (.istore_n 3, 1) := by decide +kernel
theorem dX12_pivots_86 : decode cX12_pivots 86 = .ok (.iinc 4 1, 3) := by decide +kernel
theorem dX12_pivots_89 : decode cX12_pivots 89 = .ok (.goto (-84), 3) := by decide +kernel
theorem dX12_pivots_92 : decode cX12_pivots 92 = .ok (.iload_n 3, 1) := by decide +kernel
theorem dX12_pivots_93 : decode cX12_pivots 93 = .ok (.ireturn, 1) := by decide +kernel
theorem dX12_of_0 : decode cX12_of 0 = .ok (.aload_n 0, 1) := by decide +kernel
theorem dX12_of_1 : decode cX12_of 1 = .ok (.iload_n 1, 1) := by decide +kernel
theorem dX12_of_2 : decode cX12_of 2 = .ok (.invokevirtual 226, 3) := by decide +kernel
theorem dX12_of_5 : decode cX12_of 5 = .ok (.ifCond .eq 13, 3) := by decide +kernel
theorem dX12_of_8 : decode cX12_of 8 = .ok (.iload_n 2, 1) := by decide +kernel
theorem dX12_of_9 : decode cX12_of 9 = .ok (.iconst 0, 1) := by decide +kernel
theorem dX12_of_10 : decode cX12_of 10 = .ok (.bipush 6, 2) := by decide +kernel
theorem dX12_of_12 : decode cX12_of 12 = .ok (.invokestatic 70, 3) := by decide +kernel
theorem dX12_of_15 : decode cX12_of 15 = .ok (.ifCond .ne 6, 3) := by decide +kernel
theorem dX12_of_18 : decode cX12_of 18 = .ok (.ldc 236, 2) := by decide +kernel
theorem dX12_of_20 : decode cX12_of 20 = .ok (.ireturn, 1) := by decide +kernel
theorem dX12_of_21 : decode cX12_of 21 = .ok (.iload_n 2, 1) := by decide +kernel
theorem dX12_of_22 : decode cX12_of 22 = .ok (.iconst 4, 1) := by decide +kernel
theorem dX12_of_23 : decode cX12_of 23 = .ok (.if_icmp .ge 10, 3) := by decide +kernel
theorem dX12_of_26 : decode cX12_of 26 = .ok (.aload_n 0, 1) := by decide +kernel
theorem dX12_of_27 : decode cX12_of 27 = .ok (.iload_n 1, 1) := by decide +kernel
theorem dX12_of_28 : decode cX12_of 28 = .ok (.iload_n 2, 1) := by decide +kernel
theorem dX12_of_29 : decode cX12_of 29 = .ok (.invokevirtual 212, 3) := by decide +kernel
theorem dX12_of_32 : decode cX12_of 32 = .ok (.ireturn, 1) := by decide +kernel
theorem dX12_of_33 : decode cX12_of 33 = .ok (.iload_n 2, 1) := by decide +kernel
theorem dX12_of_34 : decode cX12_of 34 = .ok (.iconst 4, 1) := by decide +kernel
theorem dX12_of_35 : decode cX12_of 35 = .ok (.if_icmp .ne 23, 3) := by decide +kernel
theorem dX12_of_38 : decode cX12_of 38 = .ok (.aload_n 0, 1) := by decide +kernel
theorem dX12_of_39 : decode cX12_of 39 = .ok (.aload_n 0, 1) := by decide +kernel
theorem dX12_of_40 : decode cX12_of 40 = .ok (.iload_n 1, 1) := by decide +kernel
theorem dX12_of_41 : decode cX12_of 41 = .ok (.iconst 0, 1) := by decide +kernel
theorem dX12_of_42 : decode cX12_of 42 = .ok (.invokevirtual 212, 3) := by decide +kernel
theorem dX12_of_45 : decode cX12_of 45 = .ok (.aload_n 0, 1) := by decide +kernel
theorem dX12_of_46 : decode cX12_of 46 = .ok (.getfield 7, 3) := by decide +kernel
theorem dX12_of_49 : decode cX12_of 49 = .ok (.iconst 1, 1) := by decide +kernel
theorem dX12_of_50 : decode cX12_of 50 = .ok (.iaload, 1) := by decide +kernel
theorem dX12_of_51 : decode cX12_of 51 = .ok (.iadd, 1) := by decide +kernel
theorem dX12_of_52 : decode cX12_of 52 = .ok (.invokevirtual 216, 3) := by decide +kernel
theorem dX12_of_55 : decode cX12_of 55 = .ok (.goto 19, 3) := by decide +kernel
theorem dX12_of_58 : decode cX12_of 58 = .ok (.aload_n 0, 1) := by decide +kernel
theorem dX12_of_59 : decode cX12_of 59 = .ok (.iload_n 1, 1) := by decide +kernel
theorem dX12_of_60 : decode cX12_of 60 = .ok (.iload_n 2, 1) := by decide +kernel
theorem dX12_of_61 : decode cX12_of 61 = .ok (.bipush 6, 2) := by decide +kernel
theorem dX12_of_63 : decode cX12_of 63 = .ok (.if_icmp .ne 7, 3) := by decide +kernel
theorem dX12_of_66 : decode cX12_of 66 = .ok (.iconst 1, 1) := by decide +kernel
theorem dX12_of_67 : decode cX12_of 67 = .ok (.goto 4, 3) := by decide +kernel
theorem dX12_of_70 : decode cX12_of 70 = .ok (.iconst 0, 1) := by decide +kernel
theorem dX12_of_71 : decode cX12_of 71 = .ok (.invokevirtual 276, 3) := by decide +kernel
theorem dX12_of_74 : decode cX12_of 74 = .ok (.ireturn, 1) := by decide +kernel
theorem dX12_worthTo_0 : decode cX12_worthTo 0 = .ok (.iconst 0, 1) := by decide +kernel
theorem dX12_worthTo_1 : decode cX12_worthTo 1 = .ok (.istore 5, 2) := by decide +kernel
theorem dX12_worthTo_3 : decode cX12_worthTo 3 = .ok (.iconst 0, 1) := by decide +kernel
theorem dX12_worthTo_4 : decode cX12_worthTo 4 = .ok (.istore 6, 2) := by decide +kernel
theorem dX12_worthTo_6 : decode cX12_worthTo 6 = .ok (.iload 6, 2) := by decide +kernel
theorem dX12_worthTo_8 : decode cX12_worthTo 8 = .ok (.aload_n 0, 1) := by decide +kernel
theorem dX12_worthTo_9 : decode cX12_worthTo 9 = .ok (.getfield 7, 3) := by decide +kernel
theorem dX12_worthTo_12 : decode cX12_worthTo 12 = .ok (.iconst 5, 1) := by decide +kernel
theorem dX12_worthTo_13 : decode cX12_worthTo 13 = .ok (.iaload, 1) := by decide +kernel
theorem dX12_worthTo_14 : decode cX12_worthTo 14 = .ok (.if_icmp .ge 45, 3) := by decide +kernel
theorem dX12_worthTo_17 : decode cX12_worthTo 17 = .ok (.iload 5, 2) := by decide +kernel
theorem dX12_worthTo_19 : decode cX12_worthTo 19 = .ok (.iload_n 1, 1) := by decide +kernel
theorem dX12_worthTo_20 : decode cX12_worthTo 20 = .ok (.iload 6, 2) := by decide +kernel
theorem dX12_worthTo_22 : decode cX12_worthTo 22 = .ok (.ishr, 1) := by decide +kernel
theorem dX12_worthTo_23 : decode cX12_worthTo 23 = .ok (.iconst 1, 1) := by decide +kernel
theorem dX12_worthTo_24 : decode cX12_worthTo 24 = .ok (.iand, 1) := by decide +kernel
theorem dX12_worthTo_25 : decode cX12_worthTo 25 = .ok (.iconst 1, 1) := by decide +kernel
theorem dX12_worthTo_26 : decode cX12_worthTo 26 = .ok (.if_icmp .ne 23, 3) := by decide +kernel
theorem dX12_worthTo_29 : decode cX12_worthTo 29 = .ok (.aload_n 0, 1) := by decide +kernel
theorem dX12_worthTo_30 : decode cX12_worthTo 30 = .ok (.iload 6, 2) := by decide +kernel
theorem dX12_worthTo_32 : decode cX12_worthTo 32 = .ok (.aload_n 0, 1) := by decide +kernel
theorem dX12_worthTo_33 : decode cX12_worthTo 33 = .ok (.getfield 7, 3) := by decide +kernel
theorem dX12_worthTo_36 : decode cX12_worthTo 36 = .ok (.iconst 2, 1) := by decide +kernel
theorem dX12_worthTo_37 : decode cX12_worthTo 37 = .ok (.iaload, 1) := by decide +kernel
theorem dX12_worthTo_38 : decode cX12_worthTo 38 = .ok (.iload_n 2, 1) := by decide +kernel
theorem dX12_worthTo_39 : decode cX12_worthTo 39 = .ok (.iadd, 1) := by decide +kernel
theorem dX12_worthTo_40 : decode cX12_worthTo 40 = .ok (.iload_n 3, 1) := by decide +kernel
theorem dX12_worthTo_41 : decode cX12_worthTo 41 = .ok (.iload 4, 2) := by decide +kernel
theorem dX12_worthTo_43 : decode cX12_worthTo 43 = .ok (.invokevirtual 232, 3) := by decide +kernel
theorem dX12_worthTo_46 : decode cX12_worthTo 46 = .ok (.goto 4, 3) := by decide +kernel
theorem dX12_worthTo_49 : decode cX12_worthTo 49 = .ok (.iconst 0, 1) := by decide +kernel
theorem dX12_worthTo_50 : decode cX12_worthTo 50 = .ok (.iadd, 1) := by decide +kernel
theorem dX12_worthTo_51 : decode cX12_worthTo 51 = .ok (.istore 5, 2) := by decide +kernel
theorem dX12_worthTo_53 : decode cX12_worthTo 53 = .ok (.iinc 6 1, 3) := by decide +kernel
theorem dX12_worthTo_56 : decode cX12_worthTo 56 = .ok (.goto (-50), 3) := by decide +kernel
theorem dX12_worthTo_59 : decode cX12_worthTo 59 = .ok (.iload 5, 2) := by decide +kernel
theorem dX12_worthTo_61 : decode cX12_worthTo 61 = .ok (.ireturn, 1) := by decide +kernel
theorem dX12_turnOf_0 : decode cX12_turnOf 0 = .ok (.iload_n 0, 1) := by decide +kernel
theorem dX12_turnOf_1 : decode cX12_turnOf 1 = .ok (.iconst 2, 1) := by decide +kernel
theorem dX12_turnOf_2 : decode cX12_turnOf 2 = .ok (.if_icmp .ne 7, 3) := by decide +kernel
theorem dX12_turnOf_5 : decode cX12_turnOf 5 = .ok (.iconst (-1), 1) := by decide +kernel
theorem dX12_turnOf_6 : decode cX12_turnOf 6 = .ok (.goto 4, 3) := by decide +kernel
theorem dX12_turnOf_9 : decode cX12_turnOf 9 = .ok (.iload_n 0, 1) := by decide +kernel
theorem dX12_turnOf_10 : decode cX12_turnOf 10 = .ok (.ireturn, 1) := by decide +kernel
theorem dX12_placeOf_0 : decode cX12_placeOf 0 = .ok (.bipush 72, 2) := by decide +kernel
theorem dX12_placeOf_2 : decode cX12_placeOf 2 = .ok (.iload_n 1, 1) := by decide +kernel
theorem dX12_placeOf_3 : decode cX12_placeOf 3 = .ok (.imul, 1) := by decide +kernel
theorem dX12_placeOf_4 : decode cX12_placeOf 4 = .ok (.iconst 3, 1) := by decide +kernel
theorem dX12_placeOf_5 : decode cX12_placeOf 5 = .ok (.iload_n 2, 1) := by decide +kernel
theorem dX12_placeOf_6 : decode cX12_placeOf 6 = .ok (.imul, 1) := by decide +kernel
theorem dX12_placeOf_7 : decode cX12_placeOf 7 = .ok (.iadd, 1) := by decide +kernel
theorem dX12_placeOf_8 : decode cX12_placeOf 8 = .ok (.iload_n 3, 1) := by decide +kernel
theorem dX12_placeOf_9 : decode cX12_placeOf 9 = .ok (.iadd, 1) := by decide +kernel
theorem dX12_placeOf_10 : decode cX12_placeOf 10 = .ok (.ireturn, 1) := by decide +kernel
theorem dX12_laysBest_0 : decode cX12_laysBest 0 = .ok (.iconst 0, 1) := by decide +kernel
theorem dX12_laysBest_1 : decode cX12_laysBest 1 = .ok (.istore 4, 2) := by decide +kernel
theorem dX12_laysBest_3 : decode cX12_laysBest 3 = .ok (.iload 4, 2) := by decide +kernel
theorem dX12_laysBest_5 : decode cX12_laysBest 5 = .ok (.aload_n 0, 1) := by decide +kernel
theorem dX12_laysBest_6 : decode cX12_laysBest 6 = .ok (.getfield 7, 3) := by decide +kernel
theorem dX12_laysBest_9 : decode cX12_laysBest 9 = .ok (.iconst 0, 1) := by decide +kernel
theorem dX12_laysBest_10 : decode cX12_laysBest 10 = .ok (.iaload, 1) := by decide +kernel
theorem dX12_laysBest_11 : decode cX12_laysBest 11 = .ok (.if_icmp .ge 22, 3) := by decide +kernel
theorem dX12_laysBest_14 : decode cX12_laysBest 14 = .ok (.aload_n 0, 1) := by decide +kernel
theorem dX12_laysBest_15 : decode cX12_laysBest 15 = .ok (.getfield 41, 3) := by decide +kernel
theorem dX12_laysBest_18 : decode cX12_laysBest 18 = .ok (.bipush 24, 2) := by decide +kernel
theorem dX12_laysBest_20 : decode cX12_laysBest 20 = .ok (.iload_n 2, 1) := by decide +kernel
theorem dX12_laysBest_21 : decode cX12_laysBest 21 = .ok (.imul, 1) := by decide +kernel
theorem dX12_laysBest_22 : decode cX12_laysBest 22 = .ok (.iload 4, 2) := by decide +kernel
theorem dX12_laysBest_24 : decode cX12_laysBest 24 = .ok (.iadd, 1) := by decide +kernel
theorem dX12_laysBest_25 : decode cX12_laysBest 25 = .ok (.iconst 0, 1) := by decide +kernel
theorem dX12_laysBest_26 : decode cX12_laysBest 26 = .ok (.iastore, 1) := by decide +kernel
theorem dX12_laysBest_27 : decode cX12_laysBest 27 = .ok (.iinc 4 1, 3) := by decide +kernel
theorem dX12_laysBest_30 : decode cX12_laysBest 30 = .ok (.goto (-27), 3) := by decide +kernel
theorem dX12_laysBest_33 : decode cX12_laysBest 33 = .ok (.iload_n 2, 1) := by decide +kernel
theorem dX12_laysBest_34 : decode cX12_laysBest 34 = .ok (.iconst 1, 1) := by decide +kernel
theorem dX12_laysBest_35 : decode cX12_laysBest 35 = .ok (.isub, 1) := by decide +kernel
theorem dX12_laysBest_36 : decode cX12_laysBest 36 = .ok (.istore 4, 2) := by decide +kernel
theorem dX12_laysBest_38 : decode cX12_laysBest 38 = .ok (.iload 4, 2) := by decide +kernel
theorem dX12_laysBest_40 : decode cX12_laysBest 40 = .ok (.ifCond .lt 241, 3) := by decide +kernel
theorem dX12_laysBest_43 : decode cX12_laysBest 43 = .ok (.iconst 0, 1) := by decide +kernel
theorem dX12_laysBest_44 : decode cX12_laysBest 44 = .ok (.istore 5, 2) := by decide +kernel
theorem dX12_laysBest_46 : decode cX12_laysBest 46 = .ok (.iload 5, 2) := by decide +kernel
theorem dX12_laysBest_48 : decode cX12_laysBest 48 = .ok (.aload_n 0, 1) := by decide +kernel
theorem dX12_laysBest_49 : decode cX12_laysBest 49 = .ok (.getfield 7, 3) := by decide +kernel
theorem dX12_laysBest_52 : decode cX12_laysBest 52 = .ok (.iconst 0, 1) := by decide +kernel
theorem dX12_laysBest_53 : decode cX12_laysBest 53 = .ok (.iaload, 1) := by decide +kernel
theorem dX12_laysBest_54 : decode cX12_laysBest 54 = .ok (.if_icmp .ge 76, 3) := by decide +kernel
theorem dX12_laysBest_57 : decode cX12_laysBest 57 = .ok (.iconst 0, 1) := by decide +kernel
theorem dX12_laysBest_58 : decode cX12_laysBest 58 = .ok (.istore 6, 2) := by decide +kernel
theorem dX12_laysBest_60 : decode cX12_laysBest 60 = .ok (.iload 6, 2) := by decide +kernel
theorem dX12_laysBest_62 : decode cX12_laysBest 62 = .ok (.iconst 3, 1) := by decide +kernel
theorem dX12_laysBest_63 : decode cX12_laysBest 63 = .ok (.if_icmp .ge 61, 3) := by decide +kernel
theorem dX12_laysBest_66 : decode cX12_laysBest 66 = .ok (.aload_n 0, 1) := by decide +kernel
theorem dX12_laysBest_67 : decode cX12_laysBest 67 = .ok (.getfield 38, 3) := by decide +kernel
theorem dX12_laysBest_70 : decode cX12_laysBest 70 = .ok (.aload_n 0, 1) := by decide +kernel
theorem dX12_laysBest_71 : decode cX12_laysBest 71 = .ok (.iload 4, 2) := by decide +kernel
theorem dX12_laysBest_73 : decode cX12_laysBest 73 = .ok (.iload 5, 2) := by decide +kernel
theorem dX12_laysBest_75 : decode cX12_laysBest 75 = .ok (.iload 6, 2) := by decide +kernel
theorem dX12_laysBest_77 : decode cX12_laysBest 77 = .ok (.invokevirtual 280, 3) := by decide +kernel
theorem dX12_laysBest_80 : decode cX12_laysBest 80 = .ok (.iload 6, 2) := by decide +kernel
theorem dX12_laysBest_82 : decode cX12_laysBest 82 = .ok (.iconst 2, 1) := by decide +kernel
theorem dX12_laysBest_83 : decode cX12_laysBest 83 = .ok (.if_icmp .ne 20, 3) := by decide +kernel
theorem dX12_laysBest_86 : decode cX12_laysBest 86 = .ok (.aload_n 0, 1) := by decide +kernel
theorem dX12_laysBest_87 : decode cX12_laysBest 87 = .ok (.getfield 38, 3) := by decide +kernel
theorem dX12_laysBest_90 : decode cX12_laysBest 90 = .ok (.aload_n 0, 1) := by decide +kernel
theorem dX12_laysBest_91 : decode cX12_laysBest 91 = .ok (.iload 4, 2) := by decide +kernel
theorem dX12_laysBest_93 : decode cX12_laysBest 93 = .ok (.iload 5, 2) := by decide +kernel
theorem dX12_laysBest_95 : decode cX12_laysBest 95 = .ok (.iconst 1, 1) := by decide +kernel
theorem dX12_laysBest_96 : decode cX12_laysBest 96 = .ok (.invokevirtual 280, 3) := by decide +kernel
theorem dX12_laysBest_99 : decode cX12_laysBest 99 = .ok (.iaload, 1) := by decide +kernel
theorem dX12_laysBest_100 : decode cX12_laysBest 100 = .ok (.goto 17, 3) := by decide +kernel
theorem dX12_laysBest_103 : decode cX12_laysBest 103 = .ok (.aload_n 0, 1) := by decide +kernel
theorem dX12_laysBest_104 : decode cX12_laysBest 104 = .ok (.iload_n 1, 1) := by decide +kernel
theorem dX12_laysBest_105 : decode cX12_laysBest 105 = .ok (.iload 4, 2) := by decide +kernel
theorem dX12_laysBest_107 : decode cX12_laysBest 107 = .ok (.iload 5, 2) := by decide +kernel
theorem dX12_laysBest_109 : decode cX12_laysBest 109 = .ok (.iload 6, 2) := by decide +kernel
theorem dX12_laysBest_111 : decode cX12_laysBest 111 = .ok (.invokestatic 283, 3) := by decide +kernel
theorem dX12_laysBest_114 : decode cX12_laysBest 114 = .ok (.invokevirtual 286, 3) := by decide +kernel
theorem dX12_laysBest_117 : decode cX12_laysBest 117 = .ok (.iastore, 1) := by decide +kernel
theorem dX12_laysBest_118 : decode cX12_laysBest 118 = .ok (.iinc 6 1, 3) := by decide +kernel
theorem dX12_laysBest_121 : decode cX12_laysBest 121 = .ok (.goto (-61), 3) := by decide +kernel
theorem dX12_laysBest_124 : decode cX12_laysBest 124 = .ok (.iinc 5 1, 3) := by decide +kernel
theorem dX12_laysBest_127 : decode cX12_laysBest 127 = .ok (.goto (-81), 3) := by decide +kernel
theorem dX12_laysBest_130 : decode cX12_laysBest 130 = .ok (.iconst 0, 1) := by decide +kernel
theorem dX12_laysBest_131 : decode cX12_laysBest 131 = .ok (.istore 5, 2) := by decide +kernel
theorem dX12_laysBest_133 : decode cX12_laysBest 133 = .ok (.iload 5, 2) := by decide +kernel
theorem dX12_laysBest_135 : decode cX12_laysBest 135 = .ok (.aload_n 0, 1) := by decide +kernel
theorem dX12_laysBest_136 : decode cX12_laysBest 136 = .ok (.getfield 7, 3) := by decide +kernel
theorem dX12_laysBest_139 : decode cX12_laysBest 139 = .ok (.iconst 0, 1) := by decide +kernel
theorem dX12_laysBest_140 : decode cX12_laysBest 140 = .ok (.iaload, 1) := by decide +kernel
theorem dX12_laysBest_141 : decode cX12_laysBest 141 = .ok (.if_icmp .ge 134, 3) := by decide +kernel
theorem dX12_laysBest_144 : decode cX12_laysBest 144 = .ok (.iconst 0, 1) := by decide +kernel
theorem dX12_laysBest_145 : decode cX12_laysBest 145 = .ok (.istore 6, 2) := by decide +kernel
theorem dX12_laysBest_147 : decode cX12_laysBest 147 = .ok (.iload 6, 2) := by decide +kernel
theorem dX12_laysBest_149 : decode cX12_laysBest 149 = .ok (.iconst 3, 1) := by decide +kernel
theorem dX12_laysBest_150 : decode cX12_laysBest 150 = .ok (.if_icmp .ge 119, 3) := by decide +kernel
theorem dX12_laysBest_153 : decode cX12_laysBest 153 = .ok (.aload_n 0, 1) := by decide +kernel
theorem dX12_laysBest_154 : decode cX12_laysBest 154 = .ok (.iload 5, 2) := by decide +kernel
theorem dX12_laysBest_156 : decode cX12_laysBest 156 = .ok (.iload 6, 2) := by decide +kernel
theorem dX12_laysBest_158 : decode cX12_laysBest 158 = .ok (.invokestatic 283, 3) := by decide +kernel
theorem dX12_laysBest_161 : decode cX12_laysBest 161 = .ok (.iadd, 1) := by decide +kernel
theorem dX12_laysBest_162 : decode cX12_laysBest 162 = .ok (.invokevirtual 216, 3) := by decide +kernel
theorem dX12_laysBest_165 : decode cX12_laysBest 165 = .ok (.istore 7, 2) := by decide +kernel
theorem dX12_laysBest_167 : decode cX12_laysBest 167 = .ok (.aload_n 0, 1) := by decide +kernel
theorem dX12_laysBest_168 : decode cX12_laysBest 168 = .ok (.getfield 38, 3) := by decide +kernel
theorem dX12_laysBest_171 : decode cX12_laysBest 171 = .ok (.aload_n 0, 1) := by decide +kernel
theorem dX12_laysBest_172 : decode cX12_laysBest 172 = .ok (.iload 4, 2) := by decide +kernel
theorem dX12_laysBest_174 : decode cX12_laysBest 174 = .ok (.iload 7, 2) := by decide +kernel
theorem dX12_laysBest_176 : decode cX12_laysBest 176 = .ok (.iload 6, 2) := by decide +kernel
theorem dX12_laysBest_178 : decode cX12_laysBest 178 = .ok (.invokevirtual 280, 3) := by decide +kernel
theorem dX12_laysBest_181 : decode cX12_laysBest 181 = .ok (.iaload, 1) := by decide +kernel
theorem dX12_laysBest_182 : decode cX12_laysBest 182 = .ok (.aload_n 0, 1) := by decide +kernel
theorem dX12_laysBest_183 : decode cX12_laysBest 183 = .ok (.getfield 41, 3) := by decide +kernel
theorem dX12_laysBest_186 : decode cX12_laysBest 186 = .ok (.bipush 24, 2) := by decide +kernel
theorem dX12_laysBest_188 : decode cX12_laysBest 188 = .ok (.iload 4, 2) := by decide +kernel
theorem dX12_laysBest_190 : decode cX12_laysBest 190 = .ok (.iconst 1, 1) := by decide +kernel
theorem dX12_laysBest_191 : decode cX12_laysBest 191 = .ok (.iadd, 1) := by decide +kernel
theorem dX12_laysBest_192 : decode cX12_laysBest 192 = .ok (.imul, 1) := by decide +kernel
theorem dX12_laysBest_193 : decode cX12_laysBest 193 = .ok (.iload 7, 2) := by decide +kernel
theorem dX12_laysBest_195 : decode cX12_laysBest 195 = .ok (.iadd, 1) := by decide +kernel
theorem dX12_laysBest_196 : decode cX12_laysBest 196 = .ok (.iaload, 1) := by decide +kernel
theorem dX12_laysBest_197 : decode cX12_laysBest 197 = .ok (.iadd, 1) := by decide +kernel
theorem dX12_laysBest_198 : decode cX12_laysBest 198 = .ok (.istore 8, 2) := by decide +kernel
theorem dX12_laysBest_200 : decode cX12_laysBest 200 = .ok (.iload 6, 2) := by decide +kernel
theorem dX12_laysBest_202 : decode cX12_laysBest 202 = .ok (.ifCond .eq 46, 3) := by decide +kernel
theorem dX12_laysBest_205 : decode cX12_laysBest 205 = .ok (.iload_n 3, 1) := by decide +kernel
theorem dX12_laysBest_206 : decode cX12_laysBest 206 = .ok (.ifCond .eq 24, 3) := by decide +kernel
theorem dX12_laysBest_209 : decode cX12_laysBest 209 = .ok (.iload 8, 2) := by decide +kernel
theorem dX12_laysBest_211 : decode cX12_laysBest 211 = .ok (.aload_n 0, 1) := by decide +kernel
theorem dX12_laysBest_212 : decode cX12_laysBest 212 = .ok (.getfield 41, 3) := by decide +kernel
theorem dX12_laysBest_215 : decode cX12_laysBest 215 = .ok (.bipush 24, 2) := by decide +kernel
theorem dX12_laysBest_217 : decode cX12_laysBest 217 = .ok (.iload 4, 2) := by decide +kernel
theorem dX12_laysBest_219 : decode cX12_laysBest 219 = .ok (.imul, 1) := by decide +kernel
theorem dX12_laysBest_220 : decode cX12_laysBest 220 = .ok (.iload 5, 2) := by decide +kernel
theorem dX12_laysBest_222 : decode cX12_laysBest 222 = .ok (.iadd, 1) := by decide +kernel
theorem dX12_laysBest_223 : decode cX12_laysBest 223 = .ok (.iaload, 1) := by decide +kernel
theorem dX12_laysBest_224 : decode cX12_laysBest 224 = .ok (.if_icmp .le 39, 3) := by decide +kernel
theorem dX12_laysBest_227 : decode cX12_laysBest 227 = .ok (.goto 21, 3) := by decide +kernel
theorem dX12_laysBest_230 : decode cX12_laysBest 230 = .ok (.iload 8, 2) := by decide +kernel
theorem dX12_laysBest_232 : decode cX12_laysBest 232 = .ok (.aload_n 0, 1) := by decide +kernel
theorem dX12_laysBest_233 : decode cX12_laysBest 233 = .ok (.getfield 41, 3) := by decide +kernel
theorem dX12_laysBest_236 : decode cX12_laysBest 236 = .ok (.bipush 24, 2) := by decide +kernel
theorem dX12_laysBest_238 : decode cX12_laysBest 238 = .ok (.iload 4, 2) := by decide +kernel
theorem dX12_laysBest_240 : decode cX12_laysBest 240 = .ok (.imul, 1) := by decide +kernel
theorem dX12_laysBest_241 : decode cX12_laysBest 241 = .ok (.iload 5, 2) := by decide +kernel
theorem dX12_laysBest_243 : decode cX12_laysBest 243 = .ok (.iadd, 1) := by decide +kernel
theorem dX12_laysBest_244 : decode cX12_laysBest 244 = .ok (.iaload, 1) := by decide +kernel
theorem dX12_laysBest_245 : decode cX12_laysBest 245 = .ok (.if_icmp .ge 18, 3) := by decide +kernel
theorem dX12_laysBest_248 : decode cX12_laysBest 248 = .ok (.aload_n 0, 1) := by decide +kernel
theorem dX12_laysBest_249 : decode cX12_laysBest 249 = .ok (.getfield 41, 3) := by decide +kernel
theorem dX12_laysBest_252 : decode cX12_laysBest 252 = .ok (.bipush 24, 2) := by decide +kernel
theorem dX12_laysBest_254 : decode cX12_laysBest 254 = .ok (.iload 4, 2) := by decide +kernel
theorem dX12_laysBest_256 : decode cX12_laysBest 256 = .ok (.imul, 1) := by decide +kernel
theorem dX12_laysBest_257 : decode cX12_laysBest 257 = .ok (.iload 5, 2) := by decide +kernel
theorem dX12_laysBest_259 : decode cX12_laysBest 259 = .ok (.iadd, 1) := by decide +kernel
theorem dX12_laysBest_260 : decode cX12_laysBest 260 = .ok (.iload 8, 2) := by decide +kernel
theorem dX12_laysBest_262 : decode cX12_laysBest 262 = .ok (.iastore, 1) := by decide +kernel
theorem dX12_laysBest_263 : decode cX12_laysBest 263 = .ok (.iinc 6 1, 3) := by decide +kernel
theorem dX12_laysBest_266 : decode cX12_laysBest 266 = .ok (.goto (-119), 3) := by decide +kernel
theorem dX12_laysBest_269 : decode cX12_laysBest 269 = .ok (.iinc 5 1, 3) := by decide +kernel
theorem dX12_laysBest_272 : decode cX12_laysBest 272 = .ok (.goto (-139), 3) := by decide +kernel
theorem dX12_laysBest_275 : decode cX12_laysBest 275 = .ok (.iinc 4 (-1), 3) := by decide +kernel
theorem dX12_laysBest_278 : decode cX12_laysBest 278 = .ok (.goto (-240), 3) := by decide +kernel
theorem dX12_laysBest_281 : decode cX12_laysBest 281 = .ok (.return_, 1) := by decide +kernel
theorem dX12_laysTurns_0 : decode cX12_laysTurns 0 = .ok (.aload_n 0, 1) := by decide +kernel
theorem dX12_laysTurns_1 : decode cX12_laysTurns 1 = .ok (.aload_n 0, 1) := by decide +kernel
theorem dX12_laysTurns_2 : decode cX12_laysTurns 2 = .ok (.invokevirtual 255, 3) := by decide +kernel
theorem dX12_laysTurns_5 : decode cX12_laysTurns 5 = .ok (.iload_n 1, 1) := by decide +kernel
theorem dX12_laysTurns_6 : decode cX12_laysTurns 6 = .ok (.iconst 1, 1) := by decide +kernel
theorem dX12_laysTurns_7 : decode cX12_laysTurns 7 = .ok (.invokevirtual 289, 3) := by decide +kernel
theorem dX12_laysTurns_10 : decode cX12_laysTurns 10 = .ok (.aload_n 0, 1) := by decide +kernel
theorem dX12_laysTurns_11 : decode cX12_laysTurns 11 = .ok (.getfield 7, 3) := by decide +kernel
theorem dX12_laysTurns_14 : decode cX12_laysTurns 14 = .ok (.iconst 1, 1) := by decide +kernel
theorem dX12_laysTurns_15 : decode cX12_laysTurns 15 = .ok (.iaload, 1) := by decide +kernel
theorem dX12_laysTurns_16 : decode cX12_laysTurns 16 = .ok (.istore_n 2, 1) := by decide +kernel
theorem dX12_laysTurns_17 : decode cX12_laysTurns 17 = .ok (.iconst 0, 1) := by decide +kernel
theorem dX12_laysTurns_18 : decode cX12_laysTurns 18 = .ok (.istore_n 3, 1) := by decide +kernel
theorem dX12_laysTurns_19 : decode cX12_laysTurns 19 = .ok (.iload_n 3, 1) := by decide +kernel
theorem dX12_laysTurns_20 : decode cX12_laysTurns 20 = .ok (.iload_n 1, 1) := by decide +kernel
theorem dX12_laysTurns_21 : decode cX12_laysTurns 21 = .ok (.if_icmp .ge 102, 3) := by decide +kernel
theorem dX12_laysTurns_24 : decode cX12_laysTurns 24 = .ok (.iconst 0, 1) := by decide +kernel
theorem dX12_laysTurns_25 : decode cX12_laysTurns 25 = .ok (.istore 4, 2) := by decide +kernel
theorem dX12_laysTurns_27 : decode cX12_laysTurns 27 = .ok (.aload_n 0, 1) := by decide +kernel
theorem dX12_laysTurns_28 : decode cX12_laysTurns 28 = .ok (.getfield 38, 3) := by decide +kernel
theorem dX12_laysTurns_31 : decode cX12_laysTurns 31 = .ok (.aload_n 0, 1) := by decide +kernel
theorem dX12_laysTurns_32 : decode cX12_laysTurns 32 = .ok (.iload_n 3, 1) := by decide +kernel
theorem dX12_laysTurns_33 : decode cX12_laysTurns 33 = .ok (.aload_n 0, 1) := by decide +kernel
theorem dX12_laysTurns_34 : decode cX12_laysTurns 34 = .ok (.iload_n 2, 1) := by decide +kernel
theorem dX12_laysTurns_35 : decode cX12_laysTurns 35 = .ok (.iload 4, 2) := by decide +kernel
theorem dX12_laysTurns_37 : decode cX12_laysTurns 37 = .ok (.invokestatic 283, 3) := by decide +kernel
theorem dX12_laysTurns_40 : decode cX12_laysTurns 40 = .ok (.iadd, 1) := by decide +kernel
theorem dX12_laysTurns_41 : decode cX12_laysTurns 41 = .ok (.invokevirtual 216, 3) := by decide +kernel
theorem dX12_laysTurns_44 : decode cX12_laysTurns 44 = .ok (.iload 4, 2) := by decide +kernel
theorem dX12_laysTurns_46 : decode cX12_laysTurns 46 = .ok (.invokevirtual 280, 3) := by decide +kernel
theorem dX12_laysTurns_49 : decode cX12_laysTurns 49 = .ok (.iaload, 1) := by decide +kernel
theorem dX12_laysTurns_50 : decode cX12_laysTurns 50 = .ok (.aload_n 0, 1) := by decide +kernel
theorem dX12_laysTurns_51 : decode cX12_laysTurns 51 = .ok (.getfield 41, 3) := by decide +kernel
theorem dX12_laysTurns_54 : decode cX12_laysTurns 54 = .ok (.bipush 24, 2) := by decide +kernel
theorem dX12_laysTurns_56 : decode cX12_laysTurns 56 = .ok (.iload_n 3, 1) := by decide +kernel
theorem dX12_laysTurns_57 : decode cX12_laysTurns 57 = .ok (.iconst 1, 1) := by decide +kernel
theorem dX12_laysTurns_58 : decode cX12_laysTurns 58 = .ok (.iadd, 1) := by decide +kernel
theorem dX12_laysTurns_59 : decode cX12_laysTurns 59 = .ok (.imul, 1) := by decide +kernel
theorem dX12_laysTurns_60 : decode cX12_laysTurns 60 = .ok (.aload_n 0, 1) := by decide +kernel
theorem dX12_laysTurns_61 : decode cX12_laysTurns 61 = .ok (.iload_n 2, 1) := by decide +kernel
theorem dX12_laysTurns_62 : decode cX12_laysTurns 62 = .ok (.iload 4, 2) := by decide +kernel
theorem dX12_laysTurns_64 : decode cX12_laysTurns 64 = .ok (.invokestatic 283, 3) := by decide +kernel
theorem dX12_laysTurns_67 : decode cX12_laysTurns 67 = .ok (.iadd, 1) := by decide +kernel
theorem dX12_laysTurns_68 : decode cX12_laysTurns 68 = .ok (.invokevirtual 216, 3) := by decide +kernel
theorem dX12_laysTurns_71 : decode cX12_laysTurns 71 = .ok (.iadd, 1) := by decide +kernel
theorem dX12_laysTurns_72 : decode cX12_laysTurns 72 = .ok (.iaload, 1) := by decide +kernel
theorem dX12_laysTurns_73 : decode cX12_laysTurns 73 = .ok (.iadd, 1) := by decide +kernel
theorem dX12_laysTurns_74 : decode cX12_laysTurns 74 = .ok (.aload_n 0, 1) := by decide +kernel
theorem dX12_laysTurns_75 : decode cX12_laysTurns 75 = .ok (.getfield 41, 3) := by decide +kernel
theorem dX12_laysTurns_78 : decode cX12_laysTurns 78 = .ok (.bipush 24, 2) := by decide +kernel
theorem dX12_laysTurns_80 : decode cX12_laysTurns 80 = .ok (.iload_n 3, 1) := by decide +kernel
theorem dX12_laysTurns_81 : decode cX12_laysTurns 81 = .ok (.imul, 1) := by decide +kernel
theorem dX12_laysTurns_82 : decode cX12_laysTurns 82 = .ok (.iload_n 2, 1) := by decide +kernel
theorem dX12_laysTurns_83 : decode cX12_laysTurns 83 = .ok (.iadd, 1) := by decide +kernel
theorem dX12_laysTurns_84 : decode cX12_laysTurns 84 = .ok (.iaload, 1) := by decide +kernel
theorem dX12_laysTurns_85 : decode cX12_laysTurns 85 = .ok (.if_icmp .eq 9, 3) := by decide +kernel
theorem dX12_laysTurns_88 : decode cX12_laysTurns 88 = .ok (.iinc 4 1, 3) := by decide +kernel
theorem dX12_laysTurns_91 : decode cX12_laysTurns 91 = .ok (.goto (-64), 3) := by decide +kernel
theorem dX12_laysTurns_94 : decode cX12_laysTurns 94 = .ok (.aload_n 0, 1) := by decide +kernel
theorem dX12_laysTurns_95 : decode cX12_laysTurns 95 = .ok (.getfield 44, 3) := by decide +kernel
theorem dX12_laysTurns_98 : decode cX12_laysTurns 98 = .ok (.iload_n 3, 1) := by decide +kernel
theorem dX12_laysTurns_99 : decode cX12_laysTurns 99 = .ok (.iload 4, 2) := by decide +kernel
theorem dX12_laysTurns_101 : decode cX12_laysTurns 101 = .ok (.invokestatic 283, 3) := by decide +kernel
theorem dX12_laysTurns_104 : decode cX12_laysTurns 104 = .ok (.iastore, 1) := by decide +kernel
theorem dX12_laysTurns_105 : decode cX12_laysTurns 105 = .ok (.aload_n 0, 1) := by decide +kernel
theorem dX12_laysTurns_106 : decode cX12_laysTurns 106 = .ok (.iload_n 2, 1) := by decide +kernel
theorem dX12_laysTurns_107 : decode cX12_laysTurns 107 = .ok (.iload 4, 2) := by decide +kernel
theorem dX12_laysTurns_109 : decode cX12_laysTurns 109 = .ok (.invokestatic 283, 3) := by decide +kernel
theorem dX12_laysTurns_112 : decode cX12_laysTurns 112 = .ok (.iadd, 1) := by decide +kernel
theorem dX12_laysTurns_113 : decode cX12_laysTurns 113 = .ok (.invokevirtual 216, 3) := by decide +kernel
theorem dX12_laysTurns_116 : decode cX12_laysTurns 116 = .ok (.istore_n 2, 1) := by decide +kernel
theorem dX12_laysTurns_117 : decode cX12_laysTurns 117 = .ok (.iinc 3 1, 3) := by decide +kernel
theorem dX12_laysTurns_120 : decode cX12_laysTurns 120 = .ok (.goto (-101), 3) := by decide +kernel
theorem dX12_laysTurns_123 : decode cX12_laysTurns 123 = .ok (.aload_n 0, 1) := by decide +kernel
theorem dX12_laysTurns_124 : decode cX12_laysTurns 124 = .ok (.getfield 41, 3) := by decide +kernel
theorem dX12_laysTurns_127 : decode cX12_laysTurns 127 = .ok (.aload_n 0, 1) := by decide +kernel
theorem dX12_laysTurns_128 : decode cX12_laysTurns 128 = .ok (.getfield 7, 3) := by decide +kernel
theorem dX12_laysTurns_131 : decode cX12_laysTurns 131 = .ok (.iconst 1, 1) := by decide +kernel
theorem dX12_laysTurns_132 : decode cX12_laysTurns 132 = .ok (.iaload, 1) := by decide +kernel
theorem dX12_laysTurns_133 : decode cX12_laysTurns 133 = .ok (.iaload, 1) := by decide +kernel
theorem dX12_laysTurns_134 : decode cX12_laysTurns 134 = .ok (.ireturn, 1) := by decide +kernel
theorem dX12_best_0 : decode cX12_best 0 = .ok (.iload_n 1, 1) := by decide +kernel
theorem dX12_best_1 : decode cX12_best 1 = .ok (.iconst 1, 1) := by decide +kernel
theorem dX12_best_2 : decode cX12_best 2 = .ok (.bipush 30, 2) := by decide +kernel
theorem dX12_best_4 : decode cX12_best 4 = .ok (.invokestatic 70, 3) := by decide +kernel
theorem dX12_best_7 : decode cX12_best 7 = .ok (.ifCond .eq 20, 3) := by decide +kernel
theorem dX12_best_10 : decode cX12_best 10 = .ok (.iload_n 2, 1) := by decide +kernel
theorem dX12_best_11 : decode cX12_best 11 = .ok (.ifCond .eq 20, 3) := by decide +kernel
theorem dX12_best_14 : decode cX12_best 14 = .ok (.iload_n 2, 1) := by decide +kernel
theorem dX12_best_15 : decode cX12_best 15 = .ok (.bipush 10, 2) := by decide +kernel
theorem dX12_best_17 : decode cX12_best 17 = .ok (.bipush 9, 2) := by decide +kernel
theorem dX12_best_19 : decode cX12_best 19 = .ok (.iload_n 1, 1) := by decide +kernel
theorem dX12_best_20 : decode cX12_best 20 = .ok (.iadd, 1) := by decide +kernel
theorem dX12_best_21 : decode cX12_best 21 = .ok (.invokestatic 70, 3) := by decide +kernel
theorem dX12_best_24 : decode cX12_best 24 = .ok (.ifCond .ne 7, 3) := by decide +kernel
theorem dX12_best_27 : decode cX12_best 27 = .ok (.ldc_w 293, 3) := by decide +kernel
theorem dX12_best_30 : decode cX12_best 30 = .ok (.ireturn, 1) := by decide +kernel
theorem dX12_best_31 : decode cX12_best 31 = .ok (.aload_n 0, 1) := by decide +kernel
theorem dX12_best_32 : decode cX12_best 32 = .ok (.iload_n 1, 1) := by decide +kernel
theorem dX12_best_33 : decode cX12_best 33 = .ok (.invokevirtual 294, 3) := by decide +kernel
theorem dX12_best_36 : decode cX12_best 36 = .ok (.istore_n 3, 1) := by decide +kernel
theorem dX12_best_37 : decode cX12_best 37 = .ok (.iload_n 2, 1) := by decide +kernel
theorem dX12_best_38 : decode cX12_best 38 = .ok (.ifCond .ne 7, 3) := by decide +kernel
theorem dX12_best_41 : decode cX12_best 41 = .ok (.iload_n 3, 1) := by decide +kernel
theorem dX12_best_42 : decode cX12_best 42 = .ok (.goto 14, 3) := by decide +kernel
theorem dX12_best_45 : decode cX12_best 45 = .ok (.aload_n 0, 1) := by decide +kernel
theorem dX12_best_46 : decode cX12_best 46 = .ok (.getfield 44, 3) := by decide +kernel
theorem dX12_best_49 : decode cX12_best 49 = .ok (.iload_n 2, 1) := by decide +kernel
theorem dX12_best_50 : decode cX12_best 50 = .ok (.bipush 10, 2) := by decide +kernel
theorem dX12_best_52 : decode cX12_best 52 = .ok (.isub, 1) := by decide +kernel
theorem dX12_best_53 : decode cX12_best 53 = .ok (.iaload, 1) := by decide +kernel
theorem dX12_best_54 : decode cX12_best 54 = .ok (.iconst 2, 1) := by decide +kernel
theorem dX12_best_55 : decode cX12_best 55 = .ok (.iadd, 1) := by decide +kernel
theorem dX12_best_56 : decode cX12_best 56 = .ok (.ireturn, 1) := by decide +kernel
theorem dX12_triesFair_0 : decode cX12_triesFair 0 = .ok (.iload_n 1, 1) := by decide +kernel
theorem dX12_triesFair_1 : decode cX12_triesFair 1 = .ok (.iload_n 2, 1) := by decide +kernel
theorem dX12_triesFair_2 : decode cX12_triesFair 2 = .ok (.if_icmp .ge 155, 3) := by decide +kernel
theorem dX12_triesFair_5 : decode cX12_triesFair 5 = .ok (.iconst 0, 1) := by decide +kernel
theorem dX12_triesFair_6 : decode cX12_triesFair 6 = .ok (.istore 4, 2) := by decide +kernel
theorem dX12_triesFair_8 : decode cX12_triesFair 8 = .ok (.iload 4, 2) := by decide +kernel
theorem dX12_triesFair_10 : decode cX12_triesFair 10 = .ok (.iconst 3, 1) := by decide +kernel
theorem dX12_triesFair_11 : decode cX12_triesFair 11 = .ok (.if_icmp .ge 145, 3) := by decide +kernel
theorem dX12_triesFair_14 : decode cX12_triesFair 14 = .ok (.aload_n 0, 1) := by decide +kernel
theorem dX12_triesFair_15 : decode cX12_triesFair 15 = .ok (.iload_n 3, 1) := by decide +kernel
theorem dX12_triesFair_16 : decode cX12_triesFair 16 = .ok (.iload 4, 2) := by decide +kernel
theorem dX12_triesFair_18 : decode cX12_triesFair 18 = .ok (.invokestatic 283, 3) := by decide +kernel
theorem dX12_triesFair_21 : decode cX12_triesFair 21 = .ok (.iadd, 1) := by decide +kernel
theorem dX12_triesFair_22 : decode cX12_triesFair 22 = .ok (.invokevirtual 216, 3) := by decide +kernel
theorem dX12_triesFair_25 : decode cX12_triesFair 25 = .ok (.istore 5, 2) := by decide +kernel
theorem dX12_triesFair_27 : decode cX12_triesFair 27 = .ok (.iconst 0, 1) := by decide +kernel
theorem dX12_triesFair_28 : decode cX12_triesFair 28 = .ok (.istore 6, 2) := by decide +kernel
theorem dX12_triesFair_30 : decode cX12_triesFair 30 = .ok (.iload 6, 2) := by decide +kernel
theorem dX12_triesFair_32 : decode cX12_triesFair 32 = .ok (.aload_n 0, 1) := by decide +kernel
theorem dX12_triesFair_33 : decode cX12_triesFair 33 = .ok (.getfield 7, 3) := by decide +kernel
theorem dX12_triesFair_36 : decode cX12_triesFair 36 = .ok (.iconst 5, 1) := by decide +kernel
theorem dX12_triesFair_37 : decode cX12_triesFair 37 = .ok (.iaload, 1) := by decide +kernel
theorem dX12_triesFair_38 : decode cX12_triesFair 38 = .ok (.if_icmp .ge 40, 3) := by decide +kernel
theorem dX12_triesFair_41 : decode cX12_triesFair 41 = .ok (.aload_n 0, 1) := by decide +kernel
theorem dX12_triesFair_42 : decode cX12_triesFair 42 = .ok (.getfield 53, 3) := by decide +kernel
theorem dX12_triesFair_45 : decode cX12_triesFair 45 = .ok (.iload 6, 2) := by decide +kernel
theorem dX12_triesFair_47 : decode cX12_triesFair 47 = .ok (.dup2, 1) := by decide +kernel
theorem dX12_triesFair_48 : decode cX12_triesFair 48 = .ok (.iaload, 1) := by decide +kernel
theorem dX12_triesFair_49 : decode cX12_triesFair 49 = .ok (.aload_n 0, 1) := by decide +kernel
theorem dX12_triesFair_50 : decode cX12_triesFair 50 = .ok (.iload 6, 2) := by decide +kernel
theorem dX12_triesFair_52 : decode cX12_triesFair 52 = .ok (.aload_n 0, 1) := by decide +kernel
theorem dX12_triesFair_53 : decode cX12_triesFair 53 = .ok (.getfield 7, 3) := by decide +kernel
theorem dX12_triesFair_56 : decode cX12_triesFair 56 = .ok (.iconst 2, 1) := by decide +kernel
theorem dX12_triesFair_57 : decode cX12_triesFair 57 = .ok (.iaload, 1) := by decide +kernel
theorem dX12_triesFair_58 : decode cX12_triesFair 58 = .ok (.iload_n 1, 1) := by decide +kernel
theorem dX12_triesFair_59 : decode cX12_triesFair 59 = .ok (.iadd, 1) := by decide +kernel
theorem dX12_triesFair_60 : decode cX12_triesFair 60 = .ok (.iload 5, 2) := by decide +kernel
theorem dX12_triesFair_62 : decode cX12_triesFair 62 = .ok (.iload 4, 2) := by decide +kernel
theorem dX12_triesFair_64 : decode cX12_triesFair 64 = .ok (.invokestatic 283, 3) := by decide +kernel
theorem dX12_triesFair_67 : decode cX12_triesFair 67 = .ok (.invokevirtual 232, 3) := by decide +kernel
theorem dX12_triesFair_70 : decode cX12_triesFair 70 = .ok (.iadd, 1) := by decide +kernel
theorem dX12_triesFair_71 : decode cX12_triesFair 71 = .ok (.iastore, 1) := by decide +kernel
theorem dX12_triesFair_72 : decode cX12_triesFair 72 = .ok (.iinc 6 1, 3) := by decide +kernel
theorem dX12_triesFair_75 : decode cX12_triesFair 75 = .ok (.goto (-45), 3) := by decide +kernel
theorem dX12_triesFair_78 : decode cX12_triesFair 78 = .ok (.aload_n 0, 1) := by decide +kernel
theorem dX12_triesFair_79 : decode cX12_triesFair 79 = .ok (.getfield 47, 3) := by decide +kernel
theorem dX12_triesFair_82 : decode cX12_triesFair 82 = .ok (.iload_n 1, 1) := by decide +kernel
theorem dX12_triesFair_83 : decode cX12_triesFair 83 = .ok (.iload 4, 2) := by decide +kernel
theorem dX12_triesFair_85 : decode cX12_triesFair 85 = .ok (.invokestatic 283, 3) := by decide +kernel
theorem dX12_triesFair_88 : decode cX12_triesFair 88 = .ok (.iastore, 1) := by decide +kernel
theorem dX12_triesFair_89 : decode cX12_triesFair 89 = .ok (.aload_n 0, 1) := by decide +kernel
theorem dX12_triesFair_90 : decode cX12_triesFair 90 = .ok (.iload_n 1, 1) := by decide +kernel
theorem dX12_triesFair_91 : decode cX12_triesFair 91 = .ok (.iconst 1, 1) := by decide +kernel
theorem dX12_triesFair_92 : decode cX12_triesFair 92 = .ok (.iadd, 1) := by decide +kernel
theorem dX12_triesFair_93 : decode cX12_triesFair 93 = .ok (.iload_n 2, 1) := by decide +kernel
theorem dX12_triesFair_94 : decode cX12_triesFair 94 = .ok (.iload 5, 2) := by decide +kernel
theorem dX12_triesFair_96 : decode cX12_triesFair 96 = .ok (.invokevirtual 297, 3) := by decide +kernel
theorem dX12_triesFair_99 : decode cX12_triesFair 99 = .ok (.iconst 0, 1) := by decide +kernel
theorem dX12_triesFair_100 : decode cX12_triesFair 100 = .ok (.istore 6, 2) := by decide +kernel
theorem dX12_triesFair_102 : decode cX12_triesFair 102 = .ok (.iload 6, 2) := by decide +kernel
theorem dX12_triesFair_104 : decode cX12_triesFair 104 = .ok (.aload_n 0, 1) := by decide +kernel
theorem dX12_triesFair_105 : decode cX12_triesFair 105 = .ok (.getfield 7, 3) := by decide +kernel
theorem dX12_triesFair_108 : decode cX12_triesFair 108 = .ok (.iconst 5, 1) := by decide +kernel
theorem dX12_triesFair_109 : decode cX12_triesFair 109 = .ok (.iaload, 1) := by decide +kernel
theorem dX12_triesFair_110 : decode cX12_triesFair 110 = .ok (.if_icmp .ge 40, 3) := by decide +kernel
theorem dX12_triesFair_113 : decode cX12_triesFair 113 = .ok (.aload_n 0, 1) := by decide +kernel
theorem dX12_triesFair_114 : decode cX12_triesFair 114 = .ok (.getfield 53, 3) := by decide +kernel
theorem dX12_triesFair_117 : decode cX12_triesFair 117 = .ok (.iload 6, 2) := by decide +kernel
theorem dX12_triesFair_119 : decode cX12_triesFair 119 = .ok (.dup2, 1) := by decide +kernel
theorem dX12_triesFair_120 : decode cX12_triesFair 120 = .ok (.iaload, 1) := by decide +kernel
theorem dX12_triesFair_121 : decode cX12_triesFair 121 = .ok (.aload_n 0, 1) := by decide +kernel
theorem dX12_triesFair_122 : decode cX12_triesFair 122 = .ok (.iload 6, 2) := by decide +kernel
theorem dX12_triesFair_124 : decode cX12_triesFair 124 = .ok (.aload_n 0, 1) := by decide +kernel
theorem dX12_triesFair_125 : decode cX12_triesFair 125 = .ok (.getfield 7, 3) := by decide +kernel
theorem dX12_triesFair_128 : decode cX12_triesFair 128 = .ok (.iconst 2, 1) := by decide +kernel
theorem dX12_triesFair_129 : decode cX12_triesFair 129 = .ok (.iaload, 1) := by decide +kernel
theorem dX12_triesFair_130 : decode cX12_triesFair 130 = .ok (.iload_n 1, 1) := by decide +kernel
theorem dX12_triesFair_131 : decode cX12_triesFair 131 = .ok (.iadd, 1) := by decide +kernel
theorem dX12_triesFair_132 : decode cX12_triesFair 132 = .ok (.iload 5, 2) := by decide +kernel
theorem dX12_triesFair_134 : decode cX12_triesFair 134 = .ok (.iload 4, 2) := by decide +kernel
theorem dX12_triesFair_136 : decode cX12_triesFair 136 = .ok (.invokestatic 283, 3) := by decide +kernel
theorem dX12_triesFair_139 : decode cX12_triesFair 139 = .ok (.invokevirtual 232, 3) := by decide +kernel
theorem dX12_triesFair_142 : decode cX12_triesFair 142 = .ok (.isub, 1) := by decide +kernel
theorem dX12_triesFair_143 : decode cX12_triesFair 143 = .ok (.iastore, 1) := by decide +kernel
theorem dX12_triesFair_144 : decode cX12_triesFair 144 = .ok (.iinc 6 1, 3) := by decide +kernel
theorem dX12_triesFair_147 : decode cX12_triesFair 147 = .ok (.goto (-45), 3) := by decide +kernel
theorem dX12_triesFair_150 : decode cX12_triesFair 150 = .ok (.iinc 4 1, 3) := by decide +kernel
theorem dX12_triesFair_153 : decode cX12_triesFair 153 = .ok (.goto (-145), 3) := by decide +kernel
theorem dX12_triesFair_156 : decode cX12_triesFair 156 = .ok (.return_, 1) := by decide +kernel
theorem dX12_triesFair_157 : decode cX12_triesFair 157 = .ok (.iconst 0, 1) := by decide +kernel
theorem dX12_triesFair_158 : decode cX12_triesFair 158 = .ok (.istore 4, 2) := by decide +kernel
theorem dX12_triesFair_160 : decode cX12_triesFair 160 = .ok (.iconst 0, 1) := by decide +kernel
theorem dX12_triesFair_161 : decode cX12_triesFair 161 = .ok (.istore 5, 2) := by decide +kernel
theorem dX12_triesFair_163 : decode cX12_triesFair 163 = .ok (.iconst 0, 1) := by decide +kernel
theorem dX12_triesFair_164 : decode cX12_triesFair 164 = .ok (.istore 6, 2) := by decide +kernel
theorem dX12_triesFair_166 : decode cX12_triesFair 166 = .ok (.iload 6, 2) := by decide +kernel
theorem dX12_triesFair_168 : decode cX12_triesFair 168 = .ok (.aload_n 0, 1) := by decide +kernel
theorem dX12_triesFair_169 : decode cX12_triesFair 169 = .ok (.getfield 7, 3) := by decide +kernel
theorem dX12_triesFair_172 : decode cX12_triesFair 172 = .ok (.iconst 5, 1) := by decide +kernel
theorem dX12_triesFair_173 : decode cX12_triesFair 173 = .ok (.iaload, 1) := by decide +kernel
theorem dX12_triesFair_174 : decode cX12_triesFair 174 = .ok (.if_icmp .ge 52, 3) := by decide +kernel
theorem dX12_triesFair_177 : decode cX12_triesFair 177 = .ok (.iload 6, 2) := by decide +kernel
theorem dX12_triesFair_179 : decode cX12_triesFair 179 = .ok (.ifCond .eq 15, 3) := by decide +kernel
theorem dX12_triesFair_182 : decode cX12_triesFair 182 = .ok (.aload_n 0, 1) := by decide +kernel
theorem dX12_triesFair_183 : decode cX12_triesFair 183 = .ok (.getfield 53, 3) := by decide +kernel
theorem dX12_triesFair_186 : decode cX12_triesFair 186 = .ok (.iload 6, 2) := by decide +kernel
theorem dX12_triesFair_188 : decode cX12_triesFair 188 = .ok (.iaload, 1) := by decide +kernel
theorem dX12_triesFair_189 : decode cX12_triesFair 189 = .ok (.iload 4, 2) := by decide +kernel
theorem dX12_triesFair_191 : decode cX12_triesFair 191 = .ok (.if_icmp .ge 13, 3) := by decide +kernel
theorem dX12_triesFair_194 : decode cX12_triesFair 194 = .ok (.aload_n 0, 1) := by decide +kernel
theorem dX12_triesFair_195 : decode cX12_triesFair 195 = .ok (.getfield 53, 3) := by decide +kernel
theorem dX12_triesFair_198 : decode cX12_triesFair 198 = .ok (.iload 6, 2) := by decide +kernel
theorem dX12_triesFair_200 : decode cX12_triesFair 200 = .ok (.iaload, 1) := by decide +kernel
theorem dX12_triesFair_201 : decode cX12_triesFair 201 = .ok (.goto 5, 3) := by decide +kernel
theorem dX12_triesFair_204 : decode cX12_triesFair 204 = .ok (.iload 4, 2) := by decide +kernel
theorem dX12_triesFair_206 : decode cX12_triesFair 206 = .ok (.istore 4, 2) := by decide +kernel
theorem dX12_triesFair_208 : decode cX12_triesFair 208 = .ok (.iload 5, 2) := by decide +kernel
theorem dX12_triesFair_210 : decode cX12_triesFair 210 = .ok (.aload_n 0, 1) := by decide +kernel
theorem dX12_triesFair_211 : decode cX12_triesFair 211 = .ok (.getfield 53, 3) := by decide +kernel
theorem dX12_triesFair_214 : decode cX12_triesFair 214 = .ok (.iload 6, 2) := by decide +kernel
theorem dX12_triesFair_216 : decode cX12_triesFair 216 = .ok (.iaload, 1) := by decide +kernel
theorem dX12_triesFair_217 : decode cX12_triesFair 217 = .ok (.iadd, 1) := by decide +kernel
theorem dX12_triesFair_218 : decode cX12_triesFair 218 = .ok (.istore 5, 2) := by decide +kernel
theorem dX12_triesFair_220 : decode cX12_triesFair 220 = .ok (.iinc 6 1, 3) := by decide +kernel
theorem dX12_triesFair_223 : decode cX12_triesFair 223 = .ok (.goto (-57), 3) := by decide +kernel
theorem dX12_triesFair_226 : decode cX12_triesFair 226 = .ok (.aload_n 0, 1) := by decide +kernel
theorem dX12_triesFair_227 : decode cX12_triesFair 227 = .ok (.getfield 301, 3) := by decide +kernel
theorem dX12_triesFair_230 : decode cX12_triesFair 230 = .ok (.ifCond .eq 31, 3) := by decide +kernel
theorem dX12_triesFair_233 : decode cX12_triesFair 233 = .ok (.iload 4, 2) := by decide +kernel
theorem dX12_triesFair_235 : decode cX12_triesFair 235 = .ok (.aload_n 0, 1) := by decide +kernel
theorem dX12_triesFair_236 : decode cX12_triesFair 236 = .ok (.getfield 305, 3) := by decide +kernel
theorem dX12_triesFair_239 : decode cX12_triesFair 239 = .ok (.if_icmp .lt 21, 3) := by decide +kernel
theorem dX12_triesFair_242 : decode cX12_triesFair 242 = .ok (.iload 4, 2) := by decide +kernel
theorem dX12_triesFair_244 : decode cX12_triesFair 244 = .ok (.aload_n 0, 1) := by decide +kernel
theorem dX12_triesFair_245 : decode cX12_triesFair 245 = .ok (.getfield 305, 3) := by decide +kernel
theorem dX12_triesFair_248 : decode cX12_triesFair 248 = .ok (.if_icmp .ne 13, 3) := by decide +kernel
theorem dX12_triesFair_251 : decode cX12_triesFair 251 = .ok (.iload 5, 2) := by decide +kernel
theorem dX12_triesFair_253 : decode cX12_triesFair 253 = .ok (.aload_n 0, 1) := by decide +kernel
theorem dX12_triesFair_254 : decode cX12_triesFair 254 = .ok (.getfield 308, 3) := by decide +kernel
theorem dX12_triesFair_257 : decode cX12_triesFair 257 = .ok (.if_icmp .gt 4, 3) := by decide +kernel
theorem dX12_triesFair_260 : decode cX12_triesFair 260 = .ok (.return_, 1) := by decide +kernel
theorem dX12_triesFair_261 : decode cX12_triesFair 261 = .ok (.aload_n 0, 1) := by decide +kernel
theorem dX12_triesFair_262 : decode cX12_triesFair 262 = .ok (.iconst 1, 1) := by decide +kernel
theorem dX12_triesFair_263 : decode cX12_triesFair 263 = .ok (.putfield 301, 3) := by decide +kernel
theorem dX12_triesFair_266 : decode cX12_triesFair 266 = .ok (.aload_n 0, 1) := by decide +kernel
theorem dX12_triesFair_267 : decode cX12_triesFair 267 = .ok (.iload 4, 2) := by decide +kernel
theorem dX12_triesFair_269 : decode cX12_triesFair 269 = .ok (.putfield 305, 3) := by decide +kernel
theorem dX12_triesFair_272 : decode cX12_triesFair 272 = .ok (.aload_n 0, 1) := by decide +kernel
theorem dX12_triesFair_273 : decode cX12_triesFair 273 = .ok (.iload 5, 2) := by decide +kernel
theorem dX12_triesFair_275 : decode cX12_triesFair 275 = .ok (.putfield 308, 3) := by decide +kernel
theorem dX12_triesFair_278 : decode cX12_triesFair 278 = .ok (.iconst 0, 1) := by decide +kernel
theorem dX12_triesFair_279 : decode cX12_triesFair 279 = .ok (.istore 6, 2) := by decide +kernel
theorem dX12_triesFair_281 : decode cX12_triesFair 281 = .ok (.iload 6, 2) := by decide +kernel
theorem dX12_triesFair_283 : decode cX12_triesFair 283 = .ok (.iload_n 2, 1) := by decide +kernel
theorem dX12_triesFair_284 : decode cX12_triesFair 284 = .ok (.if_icmp .ge 23, 3) := by decide +kernel
theorem dX12_triesFair_287 : decode cX12_triesFair 287 = .ok (.aload_n 0, 1) := by decide +kernel
theorem dX12_triesFair_288 : decode cX12_triesFair 288 = .ok (.getfield 50, 3) := by decide +kernel
theorem dX12_triesFair_291 : decode cX12_triesFair 291 = .ok (.iload 6, 2) := by decide +kernel
theorem dX12_triesFair_293 : decode cX12_triesFair 293 = .ok (.aload_n 0, 1) := by decide +kernel
theorem dX12_triesFair_294 : decode cX12_triesFair 294 = .ok (.getfield 47, 3) := by decide +kernel
theorem dX12_triesFair_297 : decode cX12_triesFair 297 = .ok (.iload 6, 2) := by decide +kernel
theorem dX12_triesFair_299 : decode cX12_triesFair 299 = .ok (.iaload, 1) := by decide +kernel
theorem dX12_triesFair_300 : decode cX12_triesFair 300 = .ok (.iastore, 1) := by decide +kernel
theorem dX12_triesFair_301 : decode cX12_triesFair 301 = .ok (.iinc 6 1, 3) := by decide +kernel
theorem dX12_triesFair_304 : decode cX12_triesFair 304 = .ok (.goto (-23), 3) := by decide +kernel
theorem dX12_triesFair_307 : decode cX12_triesFair 307 = .ok (.return_, 1) := by decide +kernel
theorem dX12_fair_0 : decode cX12_fair 0 = .ok (.iload_n 1, 1) := by decide +kernel
theorem dX12_fair_1 : decode cX12_fair 1 = .ok (.iconst 1, 1) := by decide +kernel
theorem dX12_fair_2 : decode cX12_fair 2 = .ok (.bipush 6, 2) := by decide +kernel
theorem dX12_fair_4 : decode cX12_fair 4 = .ok (.invokestatic 70, 3) := by decide +kernel
theorem dX12_fair_7 : decode cX12_fair 7 = .ok (.ifCond .eq 25, 3) := by decide +kernel
theorem dX12_fair_10 : decode cX12_fair 10 = .ok (.iload_n 2, 1) := by decide +kernel
theorem dX12_fair_11 : decode cX12_fair 11 = .ok (.iconst 0, 1) := by decide +kernel
theorem dX12_fair_12 : decode cX12_fair 12 = .ok (.iconst 1, 1) := by decide +kernel
theorem dX12_fair_13 : decode cX12_fair 13 = .ok (.invokestatic 70, 3) := by decide +kernel
theorem dX12_fair_16 : decode cX12_fair 16 = .ok (.ifCond .ne 20, 3) := by decide +kernel
theorem dX12_fair_19 : decode cX12_fair 19 = .ok (.iload_n 2, 1) := by decide +kernel
theorem dX12_fair_20 : decode cX12_fair 20 = .ok (.bipush 10, 2) := by decide +kernel
theorem dX12_fair_22 : decode cX12_fair 22 = .ok (.bipush 9, 2) := by decide +kernel
theorem dX12_fair_24 : decode cX12_fair 24 = .ok (.iload_n 1, 1) := by decide +kernel
theorem dX12_fair_25 : decode cX12_fair 25 = .ok (.iadd, 1) := by decide +kernel
theorem dX12_fair_26 : decode cX12_fair 26 = .ok (.invokestatic 70, 3) := by decide +kernel
theorem dX12_fair_29 : decode cX12_fair 29 = .ok (.ifCond .ne 7, 3) := by decide +kernel
theorem dX12_fair_32 : decode cX12_fair 32 = .ok (.ldc_w 293, 3) := by decide +kernel
theorem dX12_fair_35 : decode cX12_fair 35 = .ok (.ireturn, 1) := by decide +kernel
theorem dX12_fair_36 : decode cX12_fair 36 = .ok (.aload_n 0, 1) := by decide +kernel
theorem dX12_fair_37 : decode cX12_fair 37 = .ok (.iconst 0, 1) := by decide +kernel
theorem dX12_fair_38 : decode cX12_fair 38 = .ok (.putfield 301, 3) := by decide +kernel
theorem dX12_fair_41 : decode cX12_fair 41 = .ok (.aload_n 0, 1) := by decide +kernel
theorem dX12_fair_42 : decode cX12_fair 42 = .ok (.iconst 0, 1) := by decide +kernel
theorem dX12_fair_43 : decode cX12_fair 43 = .ok (.iload_n 1, 1) := by decide +kernel
theorem dX12_fair_44 : decode cX12_fair 44 = .ok (.aload_n 0, 1) := by decide +kernel
theorem dX12_fair_45 : decode cX12_fair 45 = .ok (.getfield 7, 3) := by decide +kernel
theorem dX12_fair_48 : decode cX12_fair 48 = .ok (.iconst 1, 1) := by decide +kernel
theorem dX12_fair_49 : decode cX12_fair 49 = .ok (.iaload, 1) := by decide +kernel
theorem dX12_fair_50 : decode cX12_fair 50 = .ok (.invokevirtual 297, 3) := by decide +kernel
theorem dX12_fair_53 : decode cX12_fair 53 = .ok (.iload_n 2, 1) := by decide +kernel
theorem dX12_fair_54 : decode cX12_fair 54 = .ok (.ifCond .ne 10, 3) := by decide +kernel
theorem dX12_fair_57 : decode cX12_fair 57 = .ok (.aload_n 0, 1) := by decide +kernel
theorem dX12_fair_58 : decode cX12_fair 58 = .ok (.getfield 305, 3) := by decide +kernel
theorem dX12_fair_61 : decode cX12_fair 61 = .ok (.goto 26, 3) := by decide +kernel
theorem dX12_fair_64 : decode cX12_fair 64 = .ok (.iload_n 2, 1) := by decide +kernel
theorem dX12_fair_65 : decode cX12_fair 65 = .ok (.iconst 1, 1) := by decide +kernel
theorem dX12_fair_66 : decode cX12_fair 66 = .ok (.if_icmp .ne 10, 3) := by decide +kernel
theorem dX12_fair_69 : decode cX12_fair 69 = .ok (.aload_n 0, 1) := by decide +kernel
theorem dX12_fair_70 : decode cX12_fair 70 = .ok (.getfield 308, 3) := by decide +kernel
theorem dX12_fair_73 : decode cX12_fair 73 = .ok (.goto 14, 3) := by decide +kernel
theorem dX12_fair_76 : decode cX12_fair 76 = .ok (.aload_n 0, 1) := by decide +kernel
theorem dX12_fair_77 : decode cX12_fair 77 = .ok (.getfield 50, 3) := by decide +kernel
theorem dX12_fair_80 : decode cX12_fair 80 = .ok (.iload_n 2, 1) := by decide +kernel
theorem dX12_fair_81 : decode cX12_fair 81 = .ok (.bipush 10, 2) := by decide +kernel
theorem dX12_fair_83 : decode cX12_fair 83 = .ok (.isub, 1) := by decide +kernel
theorem dX12_fair_84 : decode cX12_fair 84 = .ok (.iaload, 1) := by decide +kernel
theorem dX12_fair_85 : decode cX12_fair 85 = .ok (.iconst 2, 1) := by decide +kernel
theorem dX12_fair_86 : decode cX12_fair 86 = .ok (.iadd, 1) := by decide +kernel
theorem dX12_fair_87 : decode cX12_fair 87 = .ok (.ireturn, 1) := by decide +kernel
theorem dX12_aloneOf_0 : decode cX12_aloneOf 0 = .ok (.aload_n 0, 1) := by decide +kernel
theorem dX12_aloneOf_1 : decode cX12_aloneOf 1 = .ok (.iload_n 1, 1) := by decide +kernel
theorem dX12_aloneOf_2 : decode cX12_aloneOf 2 = .ok (.iload_n 2, 1) := by decide +kernel
theorem dX12_aloneOf_3 : decode cX12_aloneOf 3 = .ok (.aload_n 0, 1) := by decide +kernel
theorem dX12_aloneOf_4 : decode cX12_aloneOf 4 = .ok (.iload_n 1, 1) := by decide +kernel
theorem dX12_aloneOf_5 : decode cX12_aloneOf 5 = .ok (.invokevirtual 258, 3) := by decide +kernel
theorem dX12_aloneOf_8 : decode cX12_aloneOf 8 = .ok (.invokevirtual 289, 3) := by decide +kernel
theorem dX12_aloneOf_11 : decode cX12_aloneOf 11 = .ok (.aload_n 0, 1) := by decide +kernel
theorem dX12_aloneOf_12 : decode cX12_aloneOf 12 = .ok (.getfield 41, 3) := by decide +kernel
theorem dX12_aloneOf_15 : decode cX12_aloneOf 15 = .ok (.aload_n 0, 1) := by decide +kernel
theorem dX12_aloneOf_16 : decode cX12_aloneOf 16 = .ok (.getfield 7, 3) := by decide +kernel
theorem dX12_aloneOf_19 : decode cX12_aloneOf 19 = .ok (.iconst 1, 1) := by decide +kernel
theorem dX12_aloneOf_20 : decode cX12_aloneOf 20 = .ok (.iaload, 1) := by decide +kernel
theorem dX12_aloneOf_21 : decode cX12_aloneOf 21 = .ok (.iaload, 1) := by decide +kernel
theorem dX12_aloneOf_22 : decode cX12_aloneOf 22 = .ok (.ireturn, 1) := by decide +kernel
theorem dX12_alone_0 : decode cX12_alone 0 = .ok (.iload_n 1, 1) := by decide +kernel
theorem dX12_alone_1 : decode cX12_alone 1 = .ok (.iconst 1, 1) := by decide +kernel
theorem dX12_alone_2 : decode cX12_alone 2 = .ok (.aload_n 0, 1) := by decide +kernel
theorem dX12_alone_3 : decode cX12_alone 3 = .ok (.invokevirtual 255, 3) := by decide +kernel
theorem dX12_alone_6 : decode cX12_alone 6 = .ok (.invokestatic 70, 3) := by decide +kernel
theorem dX12_alone_9 : decode cX12_alone 9 = .ok (.ifCond .eq 22, 3) := by decide +kernel
theorem dX12_alone_12 : decode cX12_alone 12 = .ok (.iload_n 2, 1) := by decide +kernel
theorem dX12_alone_13 : decode cX12_alone 13 = .ok (.iconst 1, 1) := by decide +kernel
theorem dX12_alone_14 : decode cX12_alone 14 = .ok (.bipush 6, 2) := by decide +kernel
theorem dX12_alone_16 : decode cX12_alone 16 = .ok (.invokestatic 70, 3) := by decide +kernel
theorem dX12_alone_19 : decode cX12_alone 19 = .ok (.ifCond .eq 12, 3) := by decide +kernel
theorem dX12_alone_22 : decode cX12_alone 22 = .ok (.aload_n 0, 1) := by decide +kernel
theorem dX12_alone_23 : decode cX12_alone 23 = .ok (.iload_n 1, 1) := by decide +kernel
theorem dX12_alone_24 : decode cX12_alone 24 = .ok (.iload_n 2, 1) := by decide +kernel
theorem dX12_alone_25 : decode cX12_alone 25 = .ok (.invokevirtual 311, 3) := by decide +kernel
theorem dX12_alone_28 : decode cX12_alone 28 = .ok (.goto 6, 3) := by decide +kernel
theorem dX12_alone_31 : decode cX12_alone 31 = .ok (.ldc_w 293, 3) := by decide +kernel
theorem dX12_alone_34 : decode cX12_alone 34 = .ok (.ireturn, 1) := by decide +kernel
theorem dX12_pay_0 : decode cX12_pay 0 = .ok (.aload_n 0, 1) := by decide +kernel
theorem dX12_pay_1 : decode cX12_pay 1 = .ok (.iload_n 1, 1) := by decide +kernel
theorem dX12_pay_2 : decode cX12_pay 2 = .ok (.invokevirtual 226, 3) := by decide +kernel
theorem dX12_pay_5 : decode cX12_pay 5 = .ok (.ifCond .eq 14, 3) := by decide +kernel
theorem dX12_pay_8 : decode cX12_pay 8 = .ok (.iload_n 2, 1) := by decide +kernel
theorem dX12_pay_9 : decode cX12_pay 9 = .ok (.ldc 81, 2) := by decide +kernel
theorem dX12_pay_11 : decode cX12_pay 11 = .ok (.ldc 82, 2) := by decide +kernel
theorem dX12_pay_13 : decode cX12_pay 13 = .ok (.invokestatic 70, 3) := by decide +kernel
theorem dX12_pay_16 : decode cX12_pay 16 = .ok (.ifCond .ne 5, 3) := by decide +kernel
