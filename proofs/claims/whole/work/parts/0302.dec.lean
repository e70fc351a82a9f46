theorem dX4_join_45 : decode cX4_join 45 = .ok (.iconst 0, 1) := by decide +kernel
theorem dX4_join_46 : decode cX4_join 46 = .ok (.iastore, 1) := by decide +kernel
theorem dX4_join_47 : decode cX4_join 47 = .ok (.aload_n 0, 1) := by decide +kernel
theorem dX4_join_48 : decode cX4_join 48 = .ok (.dup, 1) := by decide +kernel
theorem dX4_join_49 : decode cX4_join 49 = .ok (.getfield 30, 3) := by decide +kernel
theorem dX4_join_52 : decode cX4_join 52 = .ok (.iconst 1, 1) := by decide +kernel
theorem dX4_join_53 : decode cX4_join 53 = .ok (.iadd, 1) := by decide +kernel
theorem dX4_join_54 : decode cX4_join 54 = .ok (.putfield 30, 3) := by decide +kernel
theorem dX4_join_57 : decode cX4_join 57 = .ok (.iload 5, 2) := by decide +kernel
theorem dX4_join_59 : decode cX4_join 59 = .ok (.ireturn, 1) := by decide +kernel
theorem dX4_weightOf_0 : decode cX4_weightOf 0 = .ok (.iconst 0, 1) := by decide +kernel
theorem dX4_weightOf_1 : decode cX4_weightOf 1 = .ok (.istore_n 2, 1) := by decide +kernel
theorem dX4_weightOf_2 : decode cX4_weightOf 2 = .ok (.iconst 0, 1) := by decide +kernel
theorem dX4_weightOf_3 : decode cX4_weightOf 3 = .ok (.istore_n 3, 1) := by decide +kernel
theorem dX4_weightOf_4 : decode cX4_weightOf 4 = .ok (.iload_n 3, 1) := by decide +kernel
theorem dX4_weightOf_5 : decode cX4_weightOf 5 = .ok (.aload_n 0, 1) := by decide +kernel
theorem dX4_weightOf_6 : decode cX4_weightOf 6 = .ok (.getfield 30, 3) := by decide +kernel
theorem dX4_weightOf_9 : decode cX4_weightOf 9 = .ok (.if_icmp .ge 26, 3) := by decide +kernel
theorem dX4_weightOf_12 : decode cX4_weightOf 12 = .ok (.iload_n 1, 1) := by decide +kernel
theorem dX4_weightOf_13 : decode cX4_weightOf 13 = .ok (.iload_n 3, 1) := by decide +kernel
theorem dX4_weightOf_14 : decode cX4_weightOf 14 = .ok (.ishr, 1) := by decide +kernel
theorem dX4_weightOf_15 : decode cX4_weightOf 15 = .ok (.iconst 1, 1) := by decide +kernel
theorem dX4_weightOf_16 : decode cX4_weightOf 16 = .ok (.iand, 1) := by decide +kernel
theorem dX4_weightOf_17 : decode cX4_weightOf 17 = .ok (.ifCond .eq 12, 3) := by decide +kernel
theorem dX4_weightOf_20 : decode cX4_weightOf 20 = .ok (.iload_n 2, 1) := by decide +kernel
theorem dX4_weightOf_21 : decode cX4_weightOf 21 = .ok (.aload_n 0, 1) := by decide +kernel
theorem dX4_weightOf_22 : decode cX4_weightOf 22 = .ok (.getfield 15, 3) := by decide +kernel
theorem dX4_weightOf_25 : decode cX4_weightOf 25 = .ok (.iload_n 3, 1) := by decide +kernel
theorem dX4_weightOf_26 : decode cX4_weightOf 26 = .ok (.iaload, 1) := by decide +kernel
theorem dX4_weightOf_27 : decode cX4_weightOf 27 = .ok (.iadd, 1) := by decide +kernel
theorem dX4_weightOf_28 : decode cX4_weightOf 28 = .ok (.istore_n 2, 1) := by decide +kernel
theorem dX4_weightOf_29 : decode cX4_weightOf 29 = .ok (.iinc 3 1, 3) := by decide +kernel
theorem dX4_weightOf_32 : decode cX4_weightOf 32 = .ok (.goto (-28), 3) := by decide +kernel
theorem dX4_weightOf_35 : decode cX4_weightOf 35 = .ok (.iload_n 2, 1) := by decide +kernel
theorem dX4_weightOf_36 : decode cX4_weightOf 36 = .ok (.ireturn, 1) := by decide +kernel
theorem dX4_isEnough_0 : decode cX4_isEnough 0 = .ok (.iconst 2, 1) := by decide +kernel
theorem dX4_isEnough_1 : decode cX4_isEnough 1 = .ok (.iload_n 1, 1) := by decide +kernel
theorem dX4_isEnough_2 : decode cX4_isEnough 2 = .ok (.imul, 1) := by decide +kernel
theorem dX4_isEnough_3 : decode cX4_isEnough 3 = .ok (.aload_n 0, 1) := by decide +kernel
theorem dX4_isEnough_4 : decode cX4_isEnough 4 = .ok (.aload_n 0, 1) := by decide +kernel
theorem dX4_isEnough_5 : decode cX4_isEnough 5 = .ok (.invokevirtual 44, 3) := by decide +kernel
theorem dX4_isEnough_8 : decode cX4_isEnough 8 = .ok (.invokevirtual 48, 3) := by decide +kernel
theorem dX4_isEnough_11 : decode cX4_isEnough 11 = .ok (.if_icmp .le 7, 3) := by decide +kernel
theorem dX4_isEnough_14 : decode cX4_isEnough 14 = .ok (.iconst 1, 1) := by decide +kernel
theorem dX4_isEnough_15 : decode cX4_isEnough 15 = .ok (.goto 4, 3) := by decide +kernel
theorem dX4_isEnough_18 : decode cX4_isEnough 18 = .ok (.iconst 0, 1) := by decide +kernel
theorem dX4_isEnough_19 : decode cX4_isEnough 19 = .ok (.ireturn, 1) := by decide +kernel
theorem dX4_carriedTurn_0 : decode cX4_carriedTurn 0 = .ok (.iconst 0, 1) := by decide +kernel
theorem dX4_carriedTurn_1 : decode cX4_carriedTurn 1 = .ok (.istore_n 1, 1) := by decide +kernel
theorem dX4_carriedTurn_2 : decode cX4_carriedTurn 2 = .ok (.iconst 0, 1) := by decide +kernel
theorem dX4_carriedTurn_3 : decode cX4_carriedTurn 3 = .ok (.istore_n 2, 1) := by decide +kernel
theorem dX4_carriedTurn_4 : decode cX4_carriedTurn 4 = .ok (.iconst 0, 1) := by decide +kernel
theorem dX4_carriedTurn_5 : decode cX4_carriedTurn 5 = .ok (.istore_n 3, 1) := by decide +kernel
theorem dX4_carriedTurn_6 : decode cX4_carriedTurn 6 = .ok (.iload_n 3, 1) := by decide +kernel
theorem dX4_carriedTurn_7 : decode cX4_carriedTurn 7 = .ok (.aload_n 0, 1) := by decide +kernel
theorem dX4_carriedTurn_8 : decode cX4_carriedTurn 8 = .ok (.getfield 30, 3) := by decide +kernel
theorem dX4_carriedTurn_11 : decode cX4_carriedTurn 11 = .ok (.if_icmp .ge 50, 3) := by decide +kernel
theorem dX4_carriedTurn_14 : decode cX4_carriedTurn 14 = .ok (.aload_n 0, 1) := by decide +kernel
theorem dX4_carriedTurn_15 : decode cX4_carriedTurn 15 = .ok (.getfield 27, 3) := by decide +kernel
theorem dX4_carriedTurn_18 : decode cX4_carriedTurn 18 = .ok (.iload_n 3, 1) := by decide +kernel
theorem dX4_carriedTurn_19 : decode cX4_carriedTurn 19 = .ok (.iaload, 1) := by decide +kernel
theorem dX4_carriedTurn_20 : decode cX4_carriedTurn 20 = .ok (.iconst 1, 1) := by decide +kernel
theorem dX4_carriedTurn_21 : decode cX4_carriedTurn 21 = .ok (.if_icmp .ne 15, 3) := by decide +kernel
theorem dX4_carriedTurn_24 : decode cX4_carriedTurn 24 = .ok (.iload_n 1, 1) := by decide +kernel
theorem dX4_carriedTurn_25 : decode cX4_carriedTurn 25 = .ok (.aload_n 0, 1) := by decide +kernel
theorem dX4_carriedTurn_26 : decode cX4_carriedTurn 26 = .ok (.getfield 15, 3) := by decide +kernel
theorem dX4_carriedTurn_29 : decode cX4_carriedTurn 29 = .ok (.iload_n 3, 1) := by decide +kernel
theorem dX4_carriedTurn_30 : decode cX4_carriedTurn 30 = .ok (.iaload, 1) := by decide +kernel
theorem dX4_carriedTurn_31 : decode cX4_carriedTurn 31 = .ok (.iadd, 1) := by decide +kernel
theorem dX4_carriedTurn_32 : decode cX4_carriedTurn 32 = .ok (.istore_n 1, 1) := by decide +kernel
theorem dX4_carriedTurn_33 : decode cX4_carriedTurn 33 = .ok (.goto 22, 3) := by decide +kernel
theorem dX4_carriedTurn_36 : decode cX4_carriedTurn 36 = .ok (.aload_n 0, 1) := by decide +kernel
theorem dX4_carriedTurn_37 : decode cX4_carriedTurn 37 = .ok (.getfield 27, 3) := by decide +kernel
theorem dX4_carriedTurn_40 : decode cX4_carriedTurn 40 = .ok (.iload_n 3, 1) := by decide +kernel
theorem dX4_carriedTurn_41 : decode cX4_carriedTurn 41 = .ok (.iaload, 1) := by decide +kernel
theorem dX4_carriedTurn_42 : decode cX4_carriedTurn 42 = .ok (.iconst (-1), 1) := by decide +kernel
theorem dX4_carriedTurn_43 : decode cX4_carriedTurn 43 = .ok (.if_icmp .ne 12, 3) := by decide +kernel
theorem dX4_carriedTurn_46 : decode cX4_carriedTurn 46 = .ok (.iload_n 2, 1) := by decide +kernel
theorem dX4_carriedTurn_47 : decode cX4_carriedTurn 47 = .ok (.aload_n 0, 1) := by decide +kernel
theorem dX4_carriedTurn_48 : decode cX4_carriedTurn 48 = .ok (.getfield 15, 3) := by decide +kernel
theorem dX4_carriedTurn_51 : decode cX4_carriedTurn 51 = .ok (.iload_n 3, 1) := by decide +kernel
theorem dX4_carriedTurn_52 : decode cX4_carriedTurn 52 = .ok (.iaload, 1) := by decide +kernel
theorem dX4_carriedTurn_53 : decode cX4_carriedTurn 53 = .ok (.iadd, 1) := by decide +kernel
theorem dX4_carriedTurn_54 : decode cX4_carriedTurn 54 = .ok (.istore_n 2, 1) := by decide +kernel
theorem dX4_carriedTurn_55 : decode cX4_carriedTurn 55 = .ok (.iinc 3 1, 3) := by decide +kernel
theorem dX4_carriedTurn_58 : decode cX4_carriedTurn 58 = .ok (.goto (-52), 3) := by decide +kernel
theorem dX4_carriedTurn_61 : decode cX4_carriedTurn 61 = .ok (.aload_n 0, 1) := by decide +kernel
theorem dX4_carriedTurn_62 : decode cX4_carriedTurn 62 = .ok (.iload_n 1, 1) := by decide +kernel
theorem dX4_carriedTurn_63 : decode cX4_carriedTurn 63 = .ok (.invokevirtual 52, 3) := by decide +kernel
theorem dX4_carriedTurn_66 : decode cX4_carriedTurn 66 = .ok (.ifCond .eq 5, 3) := by decide +kernel
theorem dX4_carriedTurn_69 : decode cX4_carriedTurn 69 = .ok (.iconst 1, 1) := by decide +kernel
theorem dX4_carriedTurn_70 : decode cX4_carriedTurn 70 = .ok (.ireturn, 1) := by decide +kernel
theorem dX4_carriedTurn_71 : decode cX4_carriedTurn 71 = .ok (.aload_n 0, 1) := by decide +kernel
theorem dX4_carriedTurn_72 : decode cX4_carriedTurn 72 = .ok (.iload_n 2, 1) := by decide +kernel
theorem dX4_carriedTurn_73 : decode cX4_carriedTurn 73 = .ok (.invokevirtual 52, 3) := by decide +kernel
theorem dX4_carriedTurn_76 : decode cX4_carriedTurn 76 = .ok (.ifCond .eq 7, 3) := by decide +kernel
theorem dX4_carriedTurn_79 : decode cX4_carriedTurn 79 = .ok (.iconst (-1), 1) := by decide +kernel
theorem dX4_carriedTurn_80 : decode cX4_carriedTurn 80 = .ok (.goto 4, 3) := by decide +kernel
theorem dX4_carriedTurn_83 : decode cX4_carriedTurn 83 = .ok (.iconst 0, 1) := by decide +kernel
theorem dX4_carriedTurn_84 : decode cX4_carriedTurn 84 = .ok (.ireturn, 1) := by decide +kernel
theorem dX4_power_0 : decode cX4_power 0 = .ok (.aload_n 0, 1) := by decide +kernel
theorem dX4_power_1 : decode cX4_power 1 = .ok (.invokevirtual 44, 3) := by decide +kernel
theorem dX4_power_4 : decode cX4_power 4 = .ok (.istore_n 3, 1) := by decide +kernel
theorem dX4_power_5 : decode cX4_power 5 = .ok (.aload_n 0, 1) := by decide +kernel
theorem dX4_power_6 : decode cX4_power 6 = .ok (.iload_n 3, 1) := by decide +kernel
theorem dX4_power_7 : decode cX4_power 7 = .ok (.invokevirtual 48, 3) := by decide +kernel
theorem dX4_power_10 : decode cX4_power 10 = .ok (.iconst 2, 1) := by decide +kernel
theorem dX4_power_11 : decode cX4_power 11 = .ok (.idiv, 1) := by decide +kernel
theorem dX4_power_12 : decode cX4_power 12 = .ok (.istore 4, 2) := by decide +kernel
theorem dX4_power_14 : decode cX4_power 14 = .ok (.iconst 0, 1) := by decide +kernel
theorem dX4_power_15 : decode cX4_power 15 = .ok (.istore 5, 2) := by decide +kernel
theorem dX4_power_17 : decode cX4_power 17 = .ok (.iconst 0, 1) := by decide +kernel
theorem dX4_power_18 : decode cX4_power 18 = .ok (.istore 6, 2) := by decide +kernel
theorem dX4_power_20 : decode cX4_power 20 = .ok (.iload 6, 2) := by decide +kernel
theorem dX4_power_22 : decode cX4_power 22 = .ok (.iload_n 3, 1) := by decide +kernel
theorem dX4_power_23 : decode cX4_power 23 = .ok (.if_icmp .gt 69, 3) := by decide +kernel
theorem dX4_power_26 : decode cX4_power 26 = .ok (.aload_n 0, 1) := by decide +kernel
theorem dX4_power_27 : decode cX4_power 27 = .ok (.iload 6, 2) := by decide +kernel
theorem dX4_power_29 : decode cX4_power 29 = .ok (.invokevirtual 48, 3) := by decide +kernel
theorem dX4_power_32 : decode cX4_power 32 = .ok (.istore 7, 2) := by decide +kernel
theorem dX4_power_34 : decode cX4_power 34 = .ok (.iload 6, 2) := by decide +kernel
theorem dX4_power_36 : decode cX4_power 36 = .ok (.iload_n 1, 1) := by decide +kernel
theorem dX4_power_37 : decode cX4_power 37 = .ok (.ishr, 1) := by decide +kernel
theorem dX4_power_38 : decode cX4_power 38 = .ok (.iconst 1, 1) := by decide +kernel
theorem dX4_power_39 : decode cX4_power 39 = .ok (.iand, 1) := by decide +kernel
theorem dX4_power_40 : decode cX4_power 40 = .ok (.ifCond .ne 46, 3) := by decide +kernel
theorem dX4_power_43 : decode cX4_power 43 = .ok (.iload 7, 2) := by decide +kernel
theorem dX4_power_45 : decode cX4_power 45 = .ok (.iload 4, 2) := by decide +kernel
theorem dX4_power_47 : decode cX4_power 47 = .ok (.if_icmp .gt 39, 3) := by decide +kernel
theorem dX4_power_50 : decode cX4_power 50 = .ok (.iload 7, 2) := by decide +kernel
theorem dX4_power_52 : decode cX4_power 52 = .ok (.aload_n 0, 1) := by decide +kernel
theorem dX4_power_53 : decode cX4_power 53 = .ok (.getfield 15, 3) := by decide +kernel
theorem dX4_power_56 : decode cX4_power 56 = .ok (.iload_n 1, 1) := by decide +kernel
theorem dX4_power_57 : decode cX4_power 57 = .ok (.iaload, 1) := by decide +kernel
theorem dX4_power_58 : decode cX4_power 58 = .ok (.iadd, 1) := by decide +kernel
theorem dX4_power_59 : decode cX4_power 59 = .ok (.iload 4, 2) := by decide +kernel
theorem dX4_power_61 : decode cX4_power 61 = .ok (.if_icmp .le 25, 3) := by decide +kernel
theorem dX4_power_64 : decode cX4_power 64 = .ok (.iload 5, 2) := by decide +kernel
theorem dX4_power_66 : decode cX4_power 66 = .ok (.iload_n 2, 1) := by decide +kernel
theorem dX4_power_67 : decode cX4_power 67 = .ok (.ifCond .eq 15, 3) := by decide +kernel
theorem dX4_power_70 : decode cX4_power 70 = .ok (.aload_n 0, 1) := by decide +kernel
theorem dX4_power_71 : decode cX4_power 71 = .ok (.iload 6, 2) := by decide +kernel
theorem dX4_power_73 : decode cX4_power 73 = .ok (.invokestatic 56, 3) := by decide +kernel
theorem dX4_power_76 : decode cX4_power 76 = .ok (.invokevirtual 61, 3) := by decide +kernel
theorem dX4_power_79 : decode cX4_power 79 = .ok (.goto 4, 3) := by decide +kernel
theorem dX4_power_82 : decode cX4_power 82 = .ok (.iconst 1, 1) := by decide +kernel
theorem dX4_power_83 : decode cX4_power 83 = .ok (.iadd, 1) := by decide +kernel
theorem dX4_power_84 : decode cX4_power 84 = .ok (.istore 5, 2) := by decide +kernel
theorem dX4_power_86 : decode cX4_power 86 = .ok (.iinc 6 1, 3) := by decide +kernel
theorem dX4_power_89 : decode cX4_power 89 = .ok (.goto (-69), 3) := by decide +kernel
theorem dX4_power_92 : decode cX4_power 92 = .ok (.iload 5, 2) := by decide +kernel
theorem dX4_power_94 : decode cX4_power 94 = .ok (.ireturn, 1) := by decide +kernel
theorem dX4_orders_0 : decode cX4_orders 0 = .ok (.aload_n 0, 1) := by decide +kernel
theorem dX4_orders_1 : decode cX4_orders 1 = .ok (.getfield 30, 3) := by decide +kernel
theorem dX4_orders_4 : decode cX4_orders 4 = .ok (.iconst 1, 1) := by decide +kernel
theorem dX4_orders_5 : decode cX4_orders 5 = .ok (.isub, 1) := by decide +kernel
theorem dX4_orders_6 : decode cX4_orders 6 = .ok (.iload_n 1, 1) := by decide +kernel
theorem dX4_orders_7 : decode cX4_orders 7 = .ok (.isub, 1) := by decide +kernel
theorem dX4_orders_8 : decode cX4_orders 8 = .ok (.istore_n 2, 1) := by decide +kernel
theorem dX4_orders_9 : decode cX4_orders 9 = .ok (.iload_n 1, 1) := by decide +kernel
theorem dX4_orders_10 : decode cX4_orders 10 = .ok (.iconst 0, 1) := by decide +kernel
theorem dX4_orders_11 : decode cX4_orders 11 = .ok (.getstatic 64, 3) := by decide +kernel
theorem dX4_orders_14 : decode cX4_orders 14 = .ok (.arraylength, 1) := by decide +kernel
theorem dX4_orders_15 : decode cX4_orders 15 = .ok (.iconst 1, 1) := by decide +kernel
theorem dX4_orders_16 : decode cX4_orders 16 = .ok (.isub, 1) := by decide +kernel
theorem dX4_orders_17 : decode cX4_orders 17 = .ok (.invokestatic 40, 3) := by decide +kernel
theorem dX4_orders_20 : decode cX4_orders 20 = .ok (.ifCond .eq 17, 3) := by decide +kernel
theorem dX4_orders_23 : decode cX4_orders 23 = .ok (.iload_n 2, 1) := by decide +kernel
theorem dX4_orders_24 : decode cX4_orders 24 = .ok (.iconst 0, 1) := by decide +kernel
theorem dX4_orders_25 : decode cX4_orders 25 = .ok (.getstatic 64, 3) := by decide +kernel
theorem dX4_orders_28 : decode cX4_orders 28 = .ok (.arraylength, 1) := by decide +kernel
theorem dX4_orders_29 : decode cX4_orders 29 = .ok (.iconst 1, 1) := by decide +kernel
theorem dX4_orders_30 : decode cX4_orders 30 = .ok (.isub, 1) := by decide +kernel
theorem dX4_orders_31 : decode cX4_orders 31 = .ok (.invokestatic 40, 3) := by decide +kernel
theorem dX4_orders_34 : decode cX4_orders 34 = .ok (.ifCond .ne 5, 3) := by decide +kernel
theorem dX4_orders_37 : decode cX4_orders 37 = .ok (.iconst 0, 1) := by decide +kernel
theorem dX4_orders_38 : decode cX4_orders 38 = .ok (.ireturn, 1) := by decide +kernel
theorem dX4_orders_39 : decode cX4_orders 39 = .ok (.getstatic 64, 3) := by decide +kernel
theorem dX4_orders_42 : decode cX4_orders 42 = .ok (.iload_n 1, 1) := by decide +kernel
theorem dX4_orders_43 : decode cX4_orders 43 = .ok (.iaload, 1) := by decide +kernel
theorem dX4_orders_44 : decode cX4_orders 44 = .ok (.getstatic 64, 3) := by decide +kernel
theorem dX4_orders_47 : decode cX4_orders 47 = .ok (.iload_n 2, 1) := by decide +kernel
theorem dX4_orders_48 : decode cX4_orders 48 = .ok (.iaload, 1) := by decide +kernel
theorem dX4_orders_49 : decode cX4_orders 49 = .ok (.imul, 1) := by decide +kernel
theorem dX4_orders_50 : decode cX4_orders 50 = .ok (.ireturn, 1) := by decide +kernel
theorem dX5_init_0 : decode cX5_init 0 = .ok (.aload_n 0, 1) := by decide +kernel
theorem dX5_init_1 : decode cX5_init 1 = .ok (.invokespecial 3, 3) := by decide +kernel
theorem dX5_init_4 : decode cX5_init 4 = .ok (.aload_n 0, 1) := by decide +kernel
theorem dX5_init_5 : decode cX5_init 5 = .ok (.bipush 24, 2) := by decide +kernel
theorem dX5_init_7 : decode cX5_init 7 = .ok (.newarray .int, 2) := by decide +kernel
theorem dX5_init_9 : decode cX5_init 9 = .ok (.putfield 11, 3) := by decide +kernel
theorem dX5_init_12 : decode cX5_init 12 = .ok (.aload_n 0, 1) := by decide +kernel
theorem dX5_init_13 : decode cX5_init 13 = .ok (.bipush 24, 2) := by decide +kernel
theorem dX5_init_15 : decode cX5_init 15 = .ok (.newarray .int, 2) := by decide +kernel
theorem dX5_init_17 : decode cX5_init 17 = .ok (.putfield 15, 3) := by decide +kernel
theorem dX5_init_20 : decode cX5_init 20 = .ok (.aload_n 0, 1) := by decide +kernel
theorem dX5_init_21 : decode cX5_init 21 = .ok (.bipush 24, 2) := by decide +kernel
theorem dX5_init_23 : decode cX5_init 23 = .ok (.newarray .int, 2) := by decide +kernel
theorem dX5_init_25 : decode cX5_init 25 = .ok (.putfield 18, 3) := by decide +kernel
theorem dX5_init_28 : decode cX5_init 28 = .ok (.aload_n 0, 1) := by decide +kernel
theorem dX5_init_29 : decode cX5_init 29 = .ok (.bipush 24, 2) := by decide +kernel
theorem dX5_init_31 : decode cX5_init 31 = .ok (.newarray .int, 2) := by decide +kernel
theorem dX5_init_33 : decode cX5_init 33 = .ok (.putfield 21, 3) := by decide +kernel
theorem dX5_init_36 : decode cX5_init 36 = .ok (.aload_n 0, 1) := by decide +kernel
theorem dX5_init_37 : decode cX5_init 37 = .ok (.bipush 24, 2) := by decide +kernel
theorem dX5_init_39 : decode cX5_init 39 = .ok (.newarray .int, 2) := by decide +kernel
theorem dX5_init_41 : decode cX5_init 41 = .ok (.putfield 24, 3) := by decide +kernel
theorem dX5_init_44 : decode cX5_init 44 = .ok (.return_, 1) := by decide +kernel
theorem dX5_copyFrom_0 : decode cX5_copyFrom 0 = .ok (.aload_n 0, 1) := by decide +kernel
theorem dX5_copyFrom_1 : decode cX5_copyFrom 1 = .ok (.aload_n 1, 1) := by decide +kernel
theorem dX5_copyFrom_2 : decode cX5_copyFrom 2 = .ok (.getfield 27, 3) := by decide +kernel
theorem dX5_copyFrom_5 : decode cX5_copyFrom 5 = .ok (.putfield 27, 3) := by decide +kernel
theorem dX5_copyFrom_8 : decode cX5_copyFrom 8 = .ok (.aload_n 0, 1) := by decide +kernel
theorem dX5_copyFrom_9 : decode cX5_copyFrom 9 = .ok (.aload_n 1, 1) := by decide +kernel
theorem dX5_copyFrom_10 : decode cX5_copyFrom 10 = .ok (.getfield 31, 3) := by decide +kernel
theorem dX5_copyFrom_13 : decode cX5_copyFrom 13 = .ok (.putfield 31, 3) := by decide +kernel
theorem dX5_copyFrom_16 : decode cX5_copyFrom 16 = .ok (.aload_n 1, 1) := by decide +kernel
theorem dX5_copyFrom_17 : decode cX5_copyFrom 17 = .ok (.getfield 11, 3) := by decide +kernel
theorem dX5_copyFrom_20 : decode cX5_copyFrom 20 = .ok (.iconst 0, 1) := by decide +kernel
theorem dX5_copyFrom_21 : decode cX5_copyFrom 21 = .ok (.aload_n 0, 1) := by decide +kernel
theorem dX5_copyFrom_22 : decode cX5_copyFrom 22 = .ok (.getfield 11, 3) := by decide +kernel
theorem dX5_copyFrom_25 : decode cX5_copyFrom 25 = .ok (.iconst 0, 1) := by decide +kernel
theorem dX5_copyFrom_26 : decode cX5_copyFrom 26 = .ok (.aload_n 0, 1) := by decide +kernel
theorem dX5_copyFrom_27 : decode cX5_copyFrom 27 = .ok (.getfield 27, 3) := by decide +kernel
theorem dX5_copyFrom_30 : decode cX5_copyFrom 30 = .ok (.invokestatic 34, 3) := by decide +kernel
theorem dX5_copyFrom_33 : decode cX5_copyFrom 33 = .ok (.aload_n 1, 1) := by decide +kernel
theorem dX5_copyFrom_34 : decode cX5_copyFrom 34 = .ok (.getfield 15, 3) := by decide +kernel
theorem dX5_copyFrom_37 : decode cX5_copyFrom 37 = .ok (.iconst 0, 1) := by decide +kernel
theorem dX5_copyFrom_38 : decode cX5_copyFrom 38 = .ok (.aload_n 0, 1) := by decide +kernel
theorem dX5_copyFrom_39 : decode cX5_copyFrom 39 = .ok (.getfield 15, 3) := by decide +kernel
theorem dX5_copyFrom_42 : decode cX5_copyFrom 42 = .ok (.iconst 0, 1) := by decide +kernel
theorem dX5_copyFrom_43 : decode cX5_copyFrom 43 = .ok (.aload_n 0, 1) := by decide +kernel
theorem dX5_copyFrom_44 : decode cX5_copyFrom 44 = .ok (.getfield 27, 3) := by decide +kernel
theorem dX5_copyFrom_47 : decode cX5_copyFrom 47 = .ok (.invokestatic 34, 3) := by decide +kernel
theorem dX5_copyFrom_50 : decode cX5_copyFrom 50 = .ok (.aload_n 1, 1) := by decide +kernel
theorem dX5_copyFrom_51 : decode cX5_copyFrom 51 = .ok (.getfield 18, 3) := by decide +kernel
theorem dX5_copyFrom_54 : decode cX5_copyFrom 54 = .ok (.iconst 0, 1) := by decide +kernel
theorem dX5_copyFrom_55 : decode cX5_copyFrom 55 = .ok (.aload_n 0, 1) := by decide +kernel
theorem dX5_copyFrom_56 : decode cX5_copyFrom 56 = .ok (.getfield 18, 3) := by decide +kernel
theorem dX5_copyFrom_59 : decode cX5_copyFrom 59 = .ok (.iconst 0, 1) := by decide +kernel
theorem dX5_copyFrom_60 : decode cX5_copyFrom 60 = .ok (.aload_n 0, 1) := by decide +kernel
theorem dX5_copyFrom_61 : decode cX5_copyFrom 61 = .ok (.getfield 27, 3) := by decide +kernel
theorem dX5_copyFrom_64 : decode cX5_copyFrom 64 = .ok (.invokestatic 34, 3) := by decide +kernel
theorem dX5_copyFrom_67 : decode cX5_copyFrom 67 = .ok (.aload_n 1, 1) := by decide +kernel
theorem dX5_copyFrom_68 : decode cX5_copyFrom 68 = .ok (.getfield 21, 3) := by decide +kernel
theorem dX5_copyFrom_71 : decode cX5_copyFrom 71 = .ok (.iconst 0, 1) := by decide +kernel
theorem dX5_copyFrom_72 : decode cX5_copyFrom 72 = .ok (.aload_n 0, 1) := by decide +kernel
theorem dX5_copyFrom_73 : decode cX5_copyFrom 73 = .ok (.getfield 21, 3) := by decide +kernel
theorem dX5_copyFrom_76 : decode cX5_copyFrom 76 = .ok (.iconst 0, 1) := by decide +kernel
theorem dX5_copyFrom_77 : decode cX5_copyFrom 77 = .ok (.aload_n 0, 1) := by decide +kernel
theorem dX5_copyFrom_78 : decode cX5_copyFrom 78 = .ok (.getfield 27, 3) := by decide +kernel
theorem dX5_copyFrom_81 : decode cX5_copyFrom 81 = .ok (.invokestatic 34, 3) := by decide +kernel
theorem dX5_copyFrom_84 : decode cX5_copyFrom 84 = .ok (.return_, 1) := by decide +kernel
theorem dX5_mayTake_0 : decode cX5_mayTake 0 = .ok (.iconst 0, 1) := by decide +kernel
theorem dX5_mayTake_1 : decode cX5_mayTake 1 = .ok (.istore_n 2, 1) := by decide +kernel
theorem dX5_mayTake_2 : decode cX5_mayTake 2 = .ok (.iconst 0, 1) := by decide +kernel
theorem dX5_mayTake_3 : decode cX5_mayTake 3 = .ok (.istore_n 3, 1) := by decide +kernel
theorem dX5_mayTake_4 : decode cX5_mayTake 4 = .ok (.iload_n 3, 1) := by decide +kernel
theorem dX5_mayTake_5 : decode cX5_mayTake 5 = .ok (.aload_n 0, 1) := by decide +kernel
theorem dX5_mayTake_6 : decode cX5_mayTake 6 = .ok (.getfield 27, 3) := by decide +kernel
theorem dX5_mayTake_9 : decode cX5_mayTake 9 = .ok (.if_icmp .ge 22, 3) := by decide +kernel
theorem dX5_mayTake_12 : decode cX5_mayTake 12 = .ok (.aload_n 0, 1) := by decide +kernel
theorem dX5_mayTake_13 : decode cX5_mayTake 13 = .ok (.getfield 15, 3) := by decide +kernel
theorem dX5_mayTake_16 : decode cX5_mayTake 16 = .ok (.iload_n 3, 1) := by decide +kernel
theorem dX5_mayTake_17 : decode cX5_mayTake 17 = .ok (.iaload, 1) := by decide +kernel
theorem dX5_mayTake_18 : decode cX5_mayTake 18 = .ok (.iload_n 1, 1) := by decide +kernel
theorem dX5_mayTake_19 : decode cX5_mayTake 19 = .ok (.if_icmp .ne 6, 3) := by decide +kernel
theorem dX5_mayTake_22 : decode cX5_mayTake 22 = .ok (.iinc 2 1, 3) := by decide +kernel
theorem dX5_mayTake_25 : decode cX5_mayTake 25 = .ok (.iinc 3 1, 3) := by decide +kernel
theorem dX5_mayTake_28 : decode cX5_mayTake 28 = .ok (.goto (-24), 3) := by decide +kernel
theorem dX5_mayTake_31 : decode cX5_mayTake 31 = .ok (.aload_n 0, 1) := by decide +kernel
theorem dX5_mayTake_32 : decode cX5_mayTake 32 = .ok (.getfield 27, 3) := by decide +kernel
theorem dX5_mayTake_35 : decode cX5_mayTake 35 = .ok (.bipush 24, 2) := by decide +kernel
theorem dX5_mayTake_37 : decode cX5_mayTake 37 = .ok (.if_icmp .ge 13, 3) := by decide +kernel
theorem dX5_mayTake_40 : decode cX5_mayTake 40 = .ok (.iload_n 2, 1) := by decide +kernel
theorem dX5_mayTake_41 : decode cX5_mayTake 41 = .ok (.bipush 10, 2) := by decide +kernel
theorem dX5_mayTake_43 : decode cX5_mayTake 43 = .ok (.if_icmp .ge 7, 3) := by decide +kernel
theorem dX5_mayTake_46 : decode cX5_mayTake 46 = .ok (.iconst 1, 1) := by decide +kernel
theorem dX5_mayTake_47 : decode cX5_mayTake 47 = .ok (.goto 4, 3) := by decide +kernel
theorem dX5_mayTake_50 : decode cX5_mayTake 50 = .ok (.iconst 0, 1) := by decide +kernel
theorem dX5_mayTake_51 : decode cX5_mayTake 51 = .ok (.ireturn, 1) := by decide +kernel
theorem dX5_take_0 : decode cX5_take 0 = .ok (.aload_n 0, 1) := by decide +kernel
theorem dX5_take_1 : decode cX5_take 1 = .ok (.getfield 27, 3) := by decide +kernel
theorem dX5_take_4 : decode cX5_take 4 = .ok (.istore 5, 2) := by decide +kernel
theorem dX5_take_6 : decode cX5_take 6 = .ok (.aload_n 0, 1) := by decide +kernel
theorem dX5_take_7 : decode cX5_take 7 = .ok (.getfield 15, 3) := by decide +kernel
theorem dX5_take_10 : decode cX5_take 10 = .ok (.iload 5, 2) := by decide +kernel
theorem dX5_take_12 : decode cX5_take 12 = .ok (.iload_n 1, 1) := by decide +kernel
theorem dX5_take_13 : decode cX5_take 13 = .ok (.iastore, 1) := by decide +kernel
theorem dX5_take_14 : decode cX5_take 14 = .ok (.aload_n 0, 1) := by decide +kernel
theorem dX5_take_15 : decode cX5_take 15 = .ok (.getfield 11, 3) := by decide +kernel
theorem dX5_take_18 : decode cX5_take 18 = .ok (.iload 5, 2) := by decide +kernel
theorem dX5_take_20 : decode cX5_take 20 = .ok (.iload_n 2, 1) := by decide +kernel
theorem dX5_take_21 : decode cX5_take 21 = .ok (.iastore, 1) := by decide +kernel
theorem dX5_take_22 : decode cX5_take 22 = .ok (.aload_n 0, 1) := by decide +kernel
theorem dX5_take_23 : decode cX5_take 23 = .ok (.getfield 18, 3) := by decide +kernel
theorem dX5_take_26 : decode cX5_take 26 = .ok (.iload 5, 2) := by decide +kernel
theorem dX5_take_28 : decode cX5_take 28 = .ok (.iload_n 3, 1) := by decide +kernel
theorem dX5_take_29 : decode cX5_take 29 = .ok (.iastore, 1) := by decide +kernel
theorem dX5_take_30 : decode cX5_take 30 = .ok (.aload_n 0, 1) := by decide +kernel
theorem dX5_take_31 : decode cX5_take 31 = .ok (.getfield 21, 3) := by decide +kernel
theorem dX5_take_34 : decode cX5_take 34 = .ok (.iload 5, 2) := by decide +kernel
theorem dX5_take_36 : decode cX5_take 36 = .ok (.iload 4, 2) := by decide +kernel
theorem dX5_take_38 : decode cX5_take 38 = .ok (.iastore, 1) := by decide +kernel
theorem dX5_take_39 : decode cX5_take 39 = .ok (.aload_n 0, 1) := by decide +kernel
theorem dX5_take_40 : decode cX5_take 40 = .ok (.dup, 1) := by decide +kernel
theorem dX5_take_41 : decode cX5_take 41 = .ok (.getfield 31, 3) := by decide +kernel
theorem dX5_take_44 : decode cX5_take 44 = .ok (.iconst 1, 1) := by decide +kernel
theorem dX5_take_45 : decode cX5_take 45 = .ok (.iload 5, 2) := by decide +kernel
theorem dX5_take_47 : decode cX5_take 47 = .ok (.ishl, 1) := by decide +kernel
theorem dX5_take_48 : decode cX5_take 48 = .ok (.iconst (-1), 1) := by decide +kernel
theorem dX5_take_49 : decode cX5_take 49 = .ok (.ixor, 1) := by decide +kernel
theorem dX5_take_50 : decode cX5_take 50 = .ok (.iand, 1) := by decide +kernel
theorem dX5_take_51 : decode cX5_take 51 = .ok (.putfield 31, 3) := by decide +kernel
theorem dX5_take_54 : decode cX5_take 54 = .ok (.aload_n 0, 1) := by decide +kernel
theorem dX5_take_55 : decode cX5_take 55 = .ok (.dup, 1) := by decide +kernel
theorem dX5_take_56 : decode cX5_take 56 = .ok (.getfield 27, 3) := by decide +kernel
theorem dX5_take_59 : decode cX5_take 59 = .ok (.iconst 1, 1) := by decide +kernel
theorem dX5_take_60 : decode cX5_take 60 = .ok (.iadd, 1) := by decide +kernel
theorem dX5_take_61 : decode cX5_take 61 = .ok (.putfield 27, 3) := by decide +kernel
theorem dX5_take_64 : decode cX5_take 64 = .ok (.iload 5, 2) := by decide +kernel
theorem dX5_take_66 : decode cX5_take 66 = .ok (.ireturn, 1) := by decide +kernel
theorem dX5_stands_0 : decode cX5_stands 0 = .ok (.iload_n 1, 1) := by decide +kernel
theorem dX5_stands_1 : decode cX5_stands 1 = .ok (.iconst 0, 1) := by decide +kernel
theorem dX5_stands_2 : decode cX5_stands 2 = .ok (.aload_n 0, 1) := by decide +kernel
theorem dX5_stands_3 : decode cX5_stands 3 = .ok (.getfield 27, 3) := by decide +kernel
theorem dX5_stands_6 : decode cX5_stands 6 = .ok (.iconst 1, 1) := by decide +kernel
theorem dX5_stands_7 : decode cX5_stands 7 = .ok (.isub, 1) := by decide +kernel
theorem dX5_stands_8 : decode cX5_stands 8 = .ok (.invokestatic 40, 3) := by decide +kernel
theorem dX5_stands_11 : decode cX5_stands 11 = .ok (.ifCond .eq 18, 3) := by decide +kernel
theorem dX5_stands_14 : decode cX5_stands 14 = .ok (.aload_n 0, 1) := by decide +kernel
theorem dX5_stands_15 : decode cX5_stands 15 = .ok (.getfield 31, 3) := by decide +kernel
theorem dX5_stands_18 : decode cX5_stands 18 = .ok (.iload_n 1, 1) := by decide +kernel
theorem dX5_stands_19 : decode cX5_stands 19 = .ok (.ishr, 1) := by decide +kernel
theorem dX5_stands_20 : decode cX5_stands 20 = .ok (.iconst 1, 1) := by decide +kernel
theorem dX5_stands_21 : decode cX5_stands 21 = .ok (.iand, 1) := by decide +kernel
theorem dX5_stands_22 : decode cX5_stands 22 = .ok (.ifCond .ne 7, 3) := by decide +kernel
theorem dX5_stands_25 : decode cX5_stands 25 = .ok (.iconst 1, 1) := by decide +kernel
theorem dX5_stands_26 : decode cX5_stands 26 = .ok (.goto 4, 3) := by decide +kernel
theorem dX5_stands_29 : decode cX5_stands 29 = .ok (.iconst 0, 1) := by decide +kernel
theorem dX5_stands_30 : decode cX5_stands 30 = .ok (.ireturn, 1) := by decide +kernel
theorem dX5_release_0 : decode cX5_release 0 = .ok (.aload_n 0, 1) := by decide +kernel
theorem dX5_release_1 : decode cX5_release 1 = .ok (.dup, 1) := by decide +kernel
theorem dX5_release_2 : decode cX5_release 2 = .ok (.getfield 31, 3) := by decide +kernel
theorem dX5_release_5 : decode cX5_release 5 = .ok (.iconst 1, 1) := by decide +kernel
theorem dX5_release_6 : decode cX5_release 6 = .ok (.iload_n 1, 1) := by decide +kernel
theorem dX5_release_7 : decode cX5_release 7 = .ok (.ishl, 1) := by decide +kernel
theorem dX5_release_8 : decode cX5_release 8 = .ok (.ior, 1) := by decide +kernel
theorem dX5_release_9 : decode cX5_release 9 = .ok (.putfield 31, 3) := by decide +kernel
theorem dX5_release_12 : decode cX5_release 12 = .ok (.return_, 1) := by decide +kernel
theorem dX5_firstOn_0 : decode cX5_firstOn 0 = .ok (.iconst 0, 1) := by decide +kernel
theorem dX5_firstOn_1 : decode cX5_firstOn 1 = .ok (.istore_n 3, 1) := by decide +kernel
theorem dX5_firstOn_2 : decode cX5_firstOn 2 = .ok (.iload_n 3, 1) := by decide +kernel
theorem dX5_firstOn_3 : decode cX5_firstOn 3 = .ok (.aload_n 0, 1) := by decide +kernel
theorem dX5_firstOn_4 : decode cX5_firstOn 4 = .ok (.getfield 27, 3) := by decide +kernel
theorem dX5_firstOn_7 : decode cX5_firstOn 7 = .ok (.if_icmp .ge 49, 3) := by decide +kernel
theorem dX5_firstOn_10 : decode cX5_firstOn 10 = .ok (.aload_n 0, 1) := by decide +kernel
theorem dX5_firstOn_11 : decode cX5_firstOn 11 = .ok (.getfield 15, 3) := by decide +kernel
theorem dX5_firstOn_14 : decode cX5_firstOn 14 = .ok (.iload_n 3, 1) := by decide +kernel
theorem dX5_firstOn_15 : decode cX5_firstOn 15 = .ok (.iaload, 1) := by decide +kernel
theorem dX5_firstOn_16 : decode cX5_firstOn 16 = .ok (.iload_n 1, 1) := by decide +kernel
theorem dX5_firstOn_17 : decode cX5_firstOn 17 = .ok (.if_icmp .ne 33, 3) := by decide +kernel
theorem dX5_firstOn_20 : decode cX5_firstOn 20 = .ok (.aload_n 0, 1) := by decide +kernel
theorem dX5_firstOn_21 : decode cX5_firstOn 21 = .ok (.iload_n 3, 1) := by decide +kernel
theorem dX5_firstOn_22 : decode cX5_firstOn 22 = .ok (.invokevirtual 44, 3) := by decide +kernel
theorem dX5_firstOn_25 : decode cX5_firstOn 25 = .ok (.ifCond .eq 25, 3) := by decide +kernel
theorem dX5_firstOn_28 : decode cX5_firstOn 28 = .ok (.aload_n 0, 1) := by decide +kernel
theorem dX5_firstOn_29 : decode cX5_firstOn 29 = .ok (.getfield 18, 3) := by decide +kernel
theorem dX5_firstOn_32 : decode cX5_firstOn 32 = .ok (.iload_n 3, 1) := by decide +kernel
theorem dX5_firstOn_33 : decode cX5_firstOn 33 = .ok (.iaload, 1) := by decide +kernel
theorem dX5_firstOn_34 : decode cX5_firstOn 34 = .ok (.iload_n 2, 1) := by decide +kernel
theorem dX5_firstOn_35 : decode cX5_firstOn 35 = .ok (.if_icmp .gt 15, 3) := by decide +kernel
theorem dX5_firstOn_38 : decode cX5_firstOn 38 = .ok (.iload_n 2, 1) := by decide +kernel
theorem dX5_firstOn_39 : decode cX5_firstOn 39 = .ok (.aload_n 0, 1) := by decide +kernel
theorem dX5_firstOn_40 : decode cX5_firstOn 40 = .ok (.getfield 21, 3) := by decide +kernel
theorem dX5_firstOn_43 : decode cX5_firstOn 43 = .ok (.iload_n 3, 1) := by decide +kernel
theorem dX5_firstOn_44 : decode cX5_firstOn 44 = .ok (.iaload, 1) := by decide +kernel
theorem dX5_firstOn_45 : decode cX5_firstOn 45 = .ok (.if_icmp .gt 5, 3) := by decide +kernel
theorem dX5_firstOn_48 : decode cX5_firstOn 48 = .ok (.iload_n 3, 1) := by decide +kernel
theorem dX5_firstOn_49 : decode cX5_firstOn 49 = .ok (.ireturn, 1) := by decide +kernel
theorem dX5_firstOn_50 : decode cX5_firstOn 50 = .ok (.iinc 3 1, 3) := by decide +kernel
theorem dX5_firstOn_53 : decode cX5_firstOn 53 = .ok (.goto (-51), 3) := by decide +kernel
theorem dX5_firstOn_56 : decode cX5_firstOn 56 = .ok (.iconst (-1), 1) := by decide +kernel
theorem dX5_firstOn_57 : decode cX5_firstOn 57 = .ok (.ireturn, 1) := by decide +kernel
theorem dX5_disagree_0 : decode cX5_disagree 0 = .ok (.aload_n 0, 1) := by decide +kernel
theorem dX5_disagree_1 : decode cX5_disagree 1 = .ok (.iload_n 1, 1) := by decide +kernel
theorem dX5_disagree_2 : decode cX5_disagree 2 = .ok (.invokevirtual 44, 3) := by decide +kernel
theorem dX5_disagree_5 : decode cX5_disagree 5 = .ok (.ifCond .eq 75, 3) := by decide +kernel
theorem dX5_disagree_8 : decode cX5_disagree 8 = .ok (.aload_n 0, 1) := by decide +kernel
theorem dX5_disagree_9 : decode cX5_disagree 9 = .ok (.iload_n 2, 1) := by decide +kernel
theorem dX5_disagree_10 : decode cX5_disagree 10 = .ok (.invokevirtual 44, 3) := by decide +kernel
theorem dX5_disagree_13 : decode cX5_disagree 13 = .ok (.ifCond .eq 67, 3) := by decide +kernel
theorem dX5_disagree_16 : decode cX5_disagree 16 = .ok (.aload_n 0, 1) := by decide +kernel
theorem dX5_disagree_17 : decode cX5_disagree 17 = .ok (.getfield 15, 3) := by decide +kernel
theorem dX5_disagree_20 : decode cX5_disagree 20 = .ok (.iload_n 1, 1) := by decide +kernel
theorem dX5_disagree_21 : decode cX5_disagree 21 = .ok (.iaload, 1) := by decide +kernel
theorem dX5_disagree_22 : decode cX5_disagree 22 = .ok (.aload_n 0, 1) := by decide +kernel
theorem dX5_disagree_23 : decode cX5_disagree 23 = .ok (.getfield 15, 3) := by decide +kernel
theorem dX5_disagree_26 : decode cX5_disagree 26 = .ok (.iload_n 2, 1) := by decide +kernel
theorem dX5_disagree_27 : decode cX5_disagree 27 = .ok (.iaload, 1) := by decide +kernel
theorem dX5_disagree_28 : decode cX5_disagree 28 = .ok (.if_icmp .ne 52, 3) := by decide +kernel
theorem dX5_disagree_31 : decode cX5_disagree 31 = .ok (.aload_n 0, 1) := by decide +kernel
theorem dX5_disagree_32 : decode cX5_disagree 32 = .ok (.getfield 11, 3) := by decide +kernel
theorem dX5_disagree_35 : decode cX5_disagree 35 = .ok (.iload_n 1, 1) := by decide +kernel
theorem dX5_disagree_36 : decode cX5_disagree 36 = .ok (.iaload, 1) := by decide +kernel
theorem dX5_disagree_37 : decode cX5_disagree 37 = .ok (.aload_n 0, 1) := by decide +kernel
theorem dX5_disagree_38 : decode cX5_disagree 38 = .ok (.getfield 11, 3) := by decide +kernel
theorem dX5_disagree_41 : decode cX5_disagree 41 = .ok (.iload_n 2, 1) := by decide +kernel
theorem dX5_disagree_42 : decode cX5_disagree 42 = .ok (.iaload, 1) := by decide +kernel
theorem dX5_disagree_43 : decode cX5_disagree 43 = .ok (.if_icmp .eq 37, 3) := by decide +kernel
theorem dX5_disagree_46 : decode cX5_disagree 46 = .ok (.aload_n 0, 1) := by decide +kernel
theorem dX5_disagree_47 : decode cX5_disagree 47 = .ok (.getfield 18, 3) := by decide +kernel
theorem dX5_disagree_50 : decode cX5_disagree 50 = .ok (.iload_n 1, 1) := by decide +kernel
theorem dX5_disagree_51 : decode cX5_disagree 51 = .ok (.iaload, 1) := by decide +kernel
theorem dX5_disagree_52 : decode cX5_disagree 52 = .ok (.aload_n 0, 1) := by decide +kernel
theorem dX5_disagree_53 : decode cX5_disagree 53 = .ok (.getfield 21, 3) := by decide +kernel
theorem dX5_disagree_56 : decode cX5_disagree 56 = .ok (.iload_n 2, 1) := by decide +kernel
theorem dX5_disagree_57 : decode cX5_disagree 57 = .ok (.iaload, 1) := by decide +kernel
theorem dX5_disagree_58 : decode cX5_disagree 58 = .ok (.if_icmp .gt 22, 3) := by decide +kernel
theorem dX5_disagree_61 : decode cX5_disagree 61 = .ok (.aload_n 0, 1) := by decide +kernel
theorem dX5_disagree_62 : decode cX5_disagree 62 = .ok (.getfield 18, 3) := by decide +kernel
theorem dX5_disagree_65 : decode cX5_disagree 65 = .ok (.iload_n 2, 1) := by decide +kernel
theorem dX5_disagree_66 : decode cX5_disagree 66 = .ok (.iaload, 1) := by decide +kernel
theorem dX5_disagree_67 : decode cX5_disagree 67 = .ok (.aload_n 0, 1) := by decide +kernel
theorem dX5_disagree_68 : decode cX5_disagree 68 = .ok (.getfield 21, 3) := by decide +kernel
theorem dX5_disagree_71 : decode cX5_disagree 71 = .ok (.iload_n 1, 1) := by decide +kernel
theorem dX5_disagree_72 : decode cX5_disagree 72 = .ok (.iaload, 1) := by decide +kernel
theorem dX5_disagree_73 : decode cX5_disagree 73 = .ok (.if_icmp .gt 7, 3) := by decide +kernel
theorem dX5_disagree_76 : decode cX5_disagree 76 = .ok (.iconst 1, 1) := by decide +kernel
theorem dX5_disagree_77 : decode cX5_disagree 77 = .ok (.goto 4, 3) := by decide +kernel
theorem dX5_disagree_80 : decode cX5_disagree 80 = .ok (.iconst 0, 1) := by decide +kernel
theorem dX5_disagree_81 : decode cX5_disagree 81 = .ok (.ireturn, 1) := by decide +kernel
theorem dX5_firstQuarrel_0 : decode cX5_firstQuarrel 0 = .ok (.iconst 1, 1) := by decide +kernel
theorem dX5_firstQuarrel_1 : decode cX5_firstQuarrel 1 = .ok (.istore_n 1, 1) := by decide +kernel
theorem dX5_firstQuarrel_2 : decode cX5_firstQuarrel 2 = .ok (.iload_n 1, 1) := by decide +kernel
theorem dX5_firstQuarrel_3 : decode cX5_firstQuarrel 3 = .ok (.aload_n 0, 1) := by decide +kernel
theorem dX5_firstQuarrel_4 : decode cX5_firstQuarrel 4 = .ok (.getfield 27, 3) := by decide +kernel
theorem dX5_firstQuarrel_7 : decode cX5_firstQuarrel 7 = .ok (.if_icmp .ge 33, 3) := by decide +kernel
theorem dX5_firstQuarrel_10 : decode cX5_firstQuarrel 10 = .ok (.iconst 0, 1) := by decide +kernel
theorem dX5_firstQuarrel_11 : decode cX5_firstQuarrel 11 = .ok (.istore_n 2, 1) := by decide +kernel
theorem dX5_firstQuarrel_12 : decode cX5_firstQuarrel 12 = .ok (.iload_n 2, 1) := by decide +kernel
theorem dX5_firstQuarrel_13 : decode cX5_firstQuarrel 13 = .ok (.iload_n 1, 1) := by decide +kernel
theorem dX5_firstQuarrel_14 : decode cX5_firstQuarrel 14 = .ok (.if_icmp .ge 20, 3) := by decide +kernel
theorem dX5_firstQuarrel_17 : decode cX5_firstQuarrel 17 = .ok (.aload_n 0, 1) := by decide +kernel
theorem dX5_firstQuarrel_18 : decode cX5_firstQuarrel 18 = .ok (.iload_n 2, 1) := by decide +kernel
theorem dX5_firstQuarrel_19 : decode cX5_firstQuarrel 19 = .ok (.iload_n 1, 1) := by decide +kernel
theorem dX5_firstQuarrel_20 : decode cX5_firstQuarrel 20 = .ok (.invokevirtual 48, 3) := by decide +kernel
theorem dX5_firstQuarrel_23 : decode cX5_firstQuarrel 23 = .ok (.ifCond .eq 5, 3) := by decide +kernel
theorem dX5_firstQuarrel_26 : decode cX5_firstQuarrel 26 = .ok (.iload_n 1, 1) := by decide +kernel
theorem dX5_firstQuarrel_27 : decode cX5_firstQuarrel 27 = .ok (.ireturn, 1) := by decide +kernel
theorem dX5_firstQuarrel_28 : decode cX5_firstQuarrel 28 = .ok (.iinc 2 1, 3) := by decide +kernel
theorem dX5_firstQuarrel_31 : decode cX5_firstQuarrel 31 = .ok (.goto (-19), 3) := by decide +kernel
theorem dX5_firstQuarrel_34 : decode cX5_firstQuarrel 34 = .ok (.iinc 1 1, 3) := by decide +kernel
theorem dX5_firstQuarrel_37 : decode cX5_firstQuarrel 37 = .ok (.goto (-35), 3) := by decide +kernel
theorem dX5_firstQuarrel_40 : decode cX5_firstQuarrel 40 = .ok (.iconst (-1), 1) := by decide +kernel
theorem dX5_firstQuarrel_41 : decode cX5_firstQuarrel 41 = .ok (.ireturn, 1) := by decide +kernel
theorem dX5_fewestOf_0 : decode cX5_fewestOf 0 = .ok (.iconst 0, 1) := by decide +kernel
theorem dX5_fewestOf_1 : decode cX5_fewestOf 1 = .ok (.istore_n 2, 1) := by decide +kernel
theorem dX5_fewestOf_2 : decode cX5_fewestOf 2 = .ok (.iconst 0, 1) := by decide +kernel
theorem dX5_fewestOf_3 : decode cX5_fewestOf 3 = .ok (.istore_n 3, 1) := by decide +kernel
theorem dX5_fewestOf_4 : decode cX5_fewestOf 4 = .ok (.iload_n 3, 1) := by decide +kernel
theorem dX5_fewestOf_5 : decode cX5_fewestOf 5 = .ok (.aload_n 0, 1) := by decide +kernel
theorem dX5_fewestOf_6 : decode cX5_fewestOf 6 = .ok (.getfield 27, 3) := by decide +kernel
theorem dX5_fewestOf_9 : decode cX5_fewestOf 9 = .ok (.if_icmp .ge 43, 3) := by decide +kernel
theorem dX5_fewestOf_12 : decode cX5_fewestOf 12 = .ok (.aload_n 0, 1) := by decide +kernel
theorem dX5_fewestOf_13 : decode cX5_fewestOf 13 = .ok (.getfield 15, 3) := by decide +kernel
theorem dX5_fewestOf_16 : decode cX5_fewestOf 16 = .ok (.iload_n 3, 1) := by decide +kernel
theorem dX5_fewestOf_17 : decode cX5_fewestOf 17 = .ok (.iaload, 1) := by decide +kernel
theorem dX5_fewestOf_18 : decode cX5_fewestOf 18 = .ok (.iload_n 1, 1) := by decide +kernel
theorem dX5_fewestOf_19 : decode cX5_fewestOf 19 = .ok (.if_icmp .ne 27, 3) := by decide +kernel
theorem dX5_fewestOf_22 : decode cX5_fewestOf 22 = .ok (.aload_n 0, 1) := by decide +kernel
theorem dX5_fewestOf_23 : decode cX5_fewestOf 23 = .ok (.iload_n 3, 1) := by decide +kernel
theorem dX5_fewestOf_24 : decode cX5_fewestOf 24 = .ok (.invokevirtual 44, 3) := by decide +kernel
theorem dX5_fewestOf_27 : decode cX5_fewestOf 27 = .ok (.ifCond .eq 19, 3) := by decide +kernel
theorem dX5_fewestOf_30 : decode cX5_fewestOf 30 = .ok (.iload_n 2, 1) := by decide +kernel
theorem dX5_fewestOf_31 : decode cX5_fewestOf 31 = .ok (.bipush 10, 2) := by decide +kernel
theorem dX5_fewestOf_33 : decode cX5_fewestOf 33 = .ok (.if_icmp .ge 13, 3) := by decide +kernel
theorem dX5_fewestOf_36 : decode cX5_fewestOf 36 = .ok (.aload_n 0, 1) := by decide +kernel
theorem dX5_fewestOf_37 : decode cX5_fewestOf 37 = .ok (.getfield 24, 3) := by decide +kernel
theorem dX5_fewestOf_40 : decode cX5_fewestOf 40 = .ok (.iload_n 2, 1) := by decide +kernel
theorem dX5_fewestOf_41 : decode cX5_fewestOf 41 = .ok (.iload_n 3, 1) := by decide +kernel
theorem dX5_fewestOf_42 : decode cX5_fewestOf 42 = .ok (.iastore, 1) := by decide +kernel
theorem dX5_fewestOf_43 : decode cX5_fewestOf 43 = .ok (.iinc 2 1, 3) := by decide +kernel
theorem dX5_fewestOf_46 : decode cX5_fewestOf 46 = .ok (.iinc 3 1, 3) := by decide +kernel
theorem dX5_fewestOf_49 : decode cX5_fewestOf 49 = .ok (.goto (-45), 3) := by decide +kernel
theorem dX5_fewestOf_52 : decode cX5_fewestOf 52 = .ok (.iconst 1, 1) := by decide +kernel
theorem dX5_fewestOf_53 : decode cX5_fewestOf 53 = .ok (.iload_n 2, 1) := by decide +kernel
theorem dX5_fewestOf_54 : decode cX5_fewestOf 54 = .ok (.ishl, 1) := by decide +kernel
theorem dX5_fewestOf_55 : decode cX5_fewestOf 55 = .ok (.iconst 1, 1) := by decide +kernel
theorem dX5_fewestOf_56 : decode cX5_fewestOf 56 = .ok (.isub, 1) := by decide +kernel
theorem dX5_fewestOf_57 : decode cX5_fewestOf 57 = .ok (.istore_n 3, 1) := by decide +kernel
theorem dX5_fewestOf_58 : decode cX5_fewestOf 58 = .ok (.iconst 0, 1) := by decide +kernel
theorem dX5_fewestOf_59 : decode cX5_fewestOf 59 = .ok (.istore 4, 2) := by decide +kernel
theorem dX5_fewestOf_61 : decode cX5_fewestOf 61 = .ok (.iload 4, 2) := by decide +kernel
theorem dX5_fewestOf_63 : decode cX5_fewestOf 63 = .ok (.iconst 1, 1) := by decide +kernel
theorem dX5_fewestOf_64 : decode cX5_fewestOf 64 = .ok (.iload_n 2, 1) := by decide +kernel
theorem dX5_fewestOf_65 : decode cX5_fewestOf 65 = .ok (.ishl, 1) := by decide +kernel
theorem dX5_fewestOf_66 : decode cX5_fewestOf 66 = .ok (.if_icmp .ge 34, 3) := by decide +kernel
theorem dX5_fewestOf_69 : decode cX5_fewestOf 69 = .ok (.iload 4, 2) := by decide +kernel
theorem dX5_fewestOf_71 : decode cX5_fewestOf 71 = .ok (.invokestatic 52, 3) := by decide +kernel
theorem dX5_fewestOf_74 : decode cX5_fewestOf 74 = .ok (.iload_n 3, 1) := by decide +kernel
theorem dX5_fewestOf_75 : decode cX5_fewestOf 75 = .ok (.invokestatic 52, 3) := by decide +kernel
theorem dX5_fewestOf_78 : decode cX5_fewestOf 78 = .ok (.if_icmp .ge 16, 3) := by decide +kernel
theorem dX5_fewestOf_81 : decode cX5_fewestOf 81 = .ok (.aload_n 0, 1) := by decide +kernel
theorem dX5_fewestOf_82 : decode cX5_fewestOf 82 = .ok (.iload 4, 2) := by decide +kernel
theorem dX5_fewestOf_84 : decode cX5_fewestOf 84 = .ok (.iload_n 2, 1) := by decide +kernel
theorem dX5_fewestOf_85 : decode cX5_fewestOf 85 = .ok (.invokevirtual 58, 3) := by decide +kernel
theorem dX5_fewestOf_88 : decode cX5_fewestOf 88 = .ok (.ifCond .eq 6, 3) := by decide +kernel
theorem dX5_fewestOf_91 : decode cX5_fewestOf 91 = .ok (.iload 4, 2) := by decide +kernel
theorem dX5_fewestOf_93 : decode cX5_fewestOf 93 = .ok (.istore_n 3, 1) := by decide +kernel
theorem dX5_fewestOf_94 : decode cX5_fewestOf 94 = .ok (.iinc 4 1, 3) := by decide +kernel
theorem dX5_fewestOf_97 : decode cX5_fewestOf 97 = .ok (.goto (-36), 3) := by decide +kernel
theorem dX5_fewestOf_100 : decode cX5_fewestOf 100 = .ok (.iconst 0, 1) := by decide +kernel
theorem dX5_fewestOf_101 : decode cX5_fewestOf 101 = .ok (.istore 4, 2) := by decide +kernel
theorem dX5_fewestOf_103 : decode cX5_fewestOf 103 = .ok (.iconst 0, 1) := by decide +kernel
theorem dX5_fewestOf_104 : decode cX5_fewestOf 104 = .ok (.istore 5, 2) := by decide +kernel
theorem dX5_fewestOf_106 : decode cX5_fewestOf 106 = .ok (.iload 5, 2) := by decide +kernel
theorem dX5_fewestOf_108 : decode cX5_fewestOf 108 = .ok (.iload_n 2, 1) := by decide +kernel
theorem dX5_fewestOf_109 : decode cX5_fewestOf 109 = .ok (.if_icmp .ge 28, 3) := by decide +kernel
theorem dX5_fewestOf_112 : decode cX5_fewestOf 112 = .ok (.iload 4, 2) := by decide +kernel
theorem dX5_fewestOf_114 : decode cX5_fewestOf 114 = .ok (.iload_n 3, 1) := by decide +kernel
theorem dX5_fewestOf_115 : decode cX5_fewestOf 115 = .ok (.iload 5, 2) := by decide +kernel
theorem dX5_fewestOf_117 : decode cX5_fewestOf 117 = .ok (.ishr, 1) := by decide +kernel
theorem dX5_fewestOf_118 : decode cX5_fewestOf 118 = .ok (.iconst 1, 1) := by decide +kernel
theorem dX5_fewestOf_119 : decode cX5_fewestOf 119 = .ok (.iand, 1) := by decide +kernel
theorem dX5_fewestOf_120 : decode cX5_fewestOf 120 = .ok (.aload_n 0, 1) := by decide +kernel
theorem dX5_fewestOf_121 : decode cX5_fewestOf 121 = .ok (.getfield 24, 3) := by decide +kernel
theorem dX5_fewestOf_124 : decode cX5_fewestOf 124 = .ok (.iload 5, 2) := by decide +kernel
theorem dX5_fewestOf_126 : decode cX5_fewestOf 126 = .ok (.iaload, 1) := by decide +kernel
theorem dX5_fewestOf_127 : decode cX5_fewestOf 127 = .ok (.ishl, 1) := by decide +kernel
theorem dX5_fewestOf_128 : decode cX5_fewestOf 128 = .ok (.ior, 1) := by decide +kernel
theorem dX5_fewestOf_129 : decode cX5_fewestOf 129 = .ok (.istore 4, 2) := by decide +kernel
theorem dX5_fewestOf_131 : decode cX5_fewestOf 131 = .ok (.iinc 5 1, 3) := by decide +kernel
theorem dX5_fewestOf_134 : decode cX5_fewestOf 134 = .ok (.goto (-28), 3) := by decide +kernel
theorem dX5_fewestOf_137 : decode cX5_fewestOf 137 = .ok (.iload 4, 2) := by decide +kernel
theorem dX5_fewestOf_139 : decode cX5_fewestOf 139 = .ok (.ireturn, 1) := by decide +kernel
theorem dX5_agreeWithout_0 : decode cX5_agreeWithout 0 = .ok (.iconst 1, 1) := by decide +kernel
theorem dX5_agreeWithout_1 : decode cX5_agreeWithout 1 = .ok (.istore_n 3, 1) := by decide +kernel
theorem dX5_agreeWithout_2 : decode cX5_agreeWithout 2 = .ok (.iload_n 3, 1) := by decide +kernel
theorem dX5_agreeWithout_3 : decode cX5_agreeWithout 3 = .ok (.iload_n 2, 1) := by decide +kernel
theorem dX5_agreeWithout_4 : decode cX5_agreeWithout 4 = .ok (.if_icmp .ge 63, 3) := by decide +kernel
theorem dX5_agreeWithout_7 : decode cX5_agreeWithout 7 = .ok (.iconst 0, 1) := by decide +kernel
theorem dX5_agreeWithout_8 : decode cX5_agreeWithout 8 = .ok (.istore 4, 2) := by decide +kernel
theorem dX5_agreeWithout_10 : decode cX5_agreeWithout 10 = .ok (.iload 4, 2) := by decide +kernel
theorem dX5_agreeWithout_12 : decode cX5_agreeWithout 12 = .ok (.iload_n 3, 1) := by decide +kernel
theorem dX5_agreeWithout_13 : decode cX5_agreeWithout 13 = .ok (.if_icmp .ge 48, 3) := by decide +kernel
theorem dX5_agreeWithout_16 : decode cX5_agreeWithout 16 = .ok (.iload_n 1, 1) := by decide +kernel
theorem dX5_agreeWithout_17 : decode cX5_agreeWithout 17 = .ok (.iload_n 3, 1) := by decide +kernel
theorem dX5_agreeWithout_18 : decode cX5_agreeWithout 18 = .ok (.ishr, 1) := by decide +kernel
theorem dX5_agreeWithout_19 : decode cX5_agreeWithout 19 = .ok (.iconst 1, 1) := by decide +kernel
theorem dX5_agreeWithout_20 : decode cX5_agreeWithout 20 = .ok (.iand, 1) := by decide +kernel
theorem dX5_agreeWithout_21 : decode cX5_agreeWithout 21 = .ok (.ifCond .ne 34, 3) := by decide +kernel
theorem dX5_agreeWithout_24 : decode cX5_agreeWithout 24 = .ok (.iload_n 1, 1) := by decide +kernel
theorem dX5_agreeWithout_25 : decode cX5_agreeWithout 25 = .ok (.iload 4, 2) := by decide +kernel
theorem dX5_agreeWithout_27 : decode cX5_agreeWithout 27 = .ok (.ishr, 1) := by decide +kernel
theorem dX5_agreeWithout_28 : decode cX5_agreeWithout 28 = .ok (.iconst 1, 1) := by decide +kernel
theorem dX5_agreeWithout_29 : decode cX5_agreeWithout 29 = .ok (.iand, 1) := by decide +kernel
theorem dX5_agreeWithout_30 : decode cX5_agreeWithout 30 = .ok (.ifCond .ne 25, 3) := by decide +kernel
theorem dX5_agreeWithout_33 : decode cX5_agreeWithout 33 = .ok (.aload_n 0, 1) := by decide +kernel
theorem dX5_agreeWithout_34 : decode cX5_agreeWithout 34 = .ok (.aload_n 0, 1) := by decide +kernel
theorem dX5_agreeWithout_35 : decode cX5_agreeWithout 35 = .ok (.getfield 24, 3) := by decide +kernel
theorem dX5_agreeWithout_38 : decode cX5_agreeWithout 38 = .ok (.iload 4, 2) := by decide +kernel
theorem dX5_agreeWithout_40 : decode cX5_agreeWithout 40 = .ok (.iaload, 1) := by decide +kernel
theorem dX5_agreeWithout_41 : decode cX5_agreeWithout 41 = .ok (.aload_n 0, 1) := by decide +kernel
theorem dX5_agreeWithout_42 : decode cX5_agreeWithout 42 = .ok (.getfield 24, 3) := by decide +kernel
theorem dX5_agreeWithout_45 : decode cX5_agreeWithout 45 = .ok (.iload_n 3, 1) := by decide +kernel
theorem dX5_agreeWithout_46 : decode cX5_agreeWithout 46 = .ok (.iaload, 1) := by decide +kernel
theorem dX5_agreeWithout_47 : decode cX5_agreeWithout 47 = .ok (.invokevirtual 48, 3) := by decide +kernel
theorem dX5_agreeWithout_50 : decode cX5_agreeWithout 50 = .ok (.ifCond .eq 5, 3) := by decide +kernel
theorem dX5_agreeWithout_53 : decode cX5_agreeWithout 53 = .ok (.iconst 0, 1) := by decide +kernel
theorem dX5_agreeWithout_54 : decode cX5_agreeWithout 54 = .ok (.ireturn, 1) := by decide +kernel
theorem dX5_agreeWithout_55 : decode cX5_agreeWithout 55 = .ok (.iinc 4 1, 3) := by decide +kernel
theorem dX5_agreeWithout_58 : decode cX5_agreeWithout 58 = .ok (.goto (-48), 3) := by decide +kernel
theorem dX5_agreeWithout_61 : decode cX5_agreeWithout 61 = .ok (.iinc 3 1, 3) := by decide +kernel
theorem dX5_agreeWithout_64 : decode cX5_agreeWithout 64 = .ok (.goto (-62), 3) := by decide +kernel
theorem dX5_agreeWithout_67 : decode cX5_agreeWithout 67 = .ok (.iconst 1, 1) := by decide +kernel
theorem dX5_agreeWithout_68 : decode cX5_agreeWithout 68 = .ok (.ireturn, 1) := by decide +kernel
theorem dX6_init_0 : decode cX6_init 0 = .ok (.aload_n 0, 1) := by decide +kernel
theorem dX6_init_1 : decode cX6_init 1 = .ok (.invokespecial 3, 3) := by decide +kernel
theorem dX6_init_4 : decode cX6_init 4 = .ok (.aload_n 0, 1) := by decide +kernel
theorem dX6_init_5 : decode cX6_init 5 = .ok (.bipush 60, 2) := by decide +kernel
theorem dX6_init_7 : decode cX6_init 7 = .ok (.newarray .int, 2) := by decide +kernel
theorem dX6_init_9 : decode cX6_init 9 = .ok (.putfield 11, 3) := by decide +kernel
theorem dX6_init_12 : decode cX6_init 12 = .ok (.aload_n 0, 1) := by decide +kernel
theorem dX6_init_13 : decode cX6_init 13 = .ok (.bipush 60, 2) := by decide +kernel
theorem dX6_init_15 : decode cX6_init 15 = .ok (.newarray .int, 2) := by decide +kernel
theorem dX6_init_17 : decode cX6_init 17 = .ok (.putfield 15, 3) := by decide +kernel
theorem dX6_init_20 : decode cX6_init 20 = .ok (.aload_n 0, 1) := by decide +kernel
theorem dX6_init_21 : decode cX6_init 21 = .ok (.bipush 60, 2) := by decide +kernel
theorem dX6_init_23 : decode cX6_init 23 = .ok (.newarray .int, 2) := by decide +kernel
theorem dX6_init_25 : decode cX6_init 25 = .ok (.putfield 18, 3) := by decide +kernel
theorem dX6_init_28 : decode cX6_init 28 = .ok (.aload_n 0, 1) := by decide +kernel
theorem dX6_init_29 : decode cX6_init 29 = .ok (.bipush 60, 2) := by decide +kernel
theorem dX6_init_31 : decode cX6_init 31 = .ok (.newarray .int, 2) := by decide +kernel
theorem dX6_init_33 : decode cX6_init 33 = .ok (.putfield 21, 3) := by decide +kernel
theorem dX6_init_36 : decode cX6_init 36 = .ok (.return_, 1) := by decide +kernel
theorem dX6_copyFrom_0 : decode cX6_copyFrom 0 = .ok (.aload_n 0, 1) := by decide +kernel
theorem dX6_copyFrom_1 : decode cX6_copyFrom 1 = .ok (.aload_n 1, 1) := by decide +kernel
theorem dX6_copyFrom_2 : decode cX6_copyFrom 2 = .ok (.getfield 24, 3) := by decide +kernel
theorem dX6_copyFrom_5 : decode cX6_copyFrom 5 = .ok (.putfield 24, 3) := by decide +kernel
theorem dX6_copyFrom_8 : decode cX6_copyFrom 8 = .ok (.aload_n 1, 1) := by decide +kernel
theorem dX6_copyFrom_9 : decode cX6_copyFrom 9 = .ok (.getfield 11, 3) := by decide +kernel
theorem dX6_copyFrom_12 : decode cX6_copyFrom 12 = .ok (.iconst 0, 1) := by decide +kernel
theorem dX6_copyFrom_13 : decode cX6_copyFrom 13 = .ok (.aload_n 0, 1) := by decide +kernel
theorem dX6_copyFrom_14 : decode cX6_copyFrom 14 = .ok (.getfield 11, 3) := by decide +kernel
theorem dX6_copyFrom_17 : decode cX6_copyFrom 17 = .ok (.iconst 0, 1) := by decide +kernel
theorem dX6_copyFrom_18 : decode cX6_copyFrom 18 = .ok (.aload_n 0, 1) := by decide +kernel
theorem dX6_copyFrom_19 : decode cX6_copyFrom 19 = .ok (.getfield 24, 3) := by decide +kernel
theorem dX6_copyFrom_22 : decode cX6_copyFrom 22 = .ok (.invokestatic 28, 3) := by decide +kernel
theorem dX6_copyFrom_25 : decode cX6_copyFrom 25 = .ok (.aload_n 1, 1) := by decide +kernel
theorem dX6_copyFrom_26 : decode cX6_copyFrom 26 = .ok (.getfield 15, 3) := by decide +kernel
theorem dX6_copyFrom_29 : decode cX6_copyFrom 29 = .ok (.iconst 0, 1) := by decide +kernel
theorem dX6_copyFrom_30 : decode cX6_copyFrom 30 = .ok (.aload_n 0, 1) := by decide +kernel
theorem dX6_copyFrom_31 : decode cX6_copyFrom 31 = .ok (.getfield 15, 3) := by decide +kernel
theorem dX6_copyFrom_34 : decode cX6_copyFrom 34 = .ok (.iconst 0, 1) := by decide +kernel
theorem dX6_copyFrom_35 : decode cX6_copyFrom 35 = .ok (.aload_n 0, 1) := by decide +kernel
theorem dX6_copyFrom_36 : decode cX6_copyFrom 36 = .ok (.getfield 24, 3) := by decide +kernel
theorem dX6_copyFrom_39 : decode cX6_copyFrom 39 = .ok (.invokestatic 28, 3) := by decide +kernel
theorem dX6_copyFrom_42 : decode cX6_copyFrom 42 = .ok (.aload_n 1, 1) := by decide +kernel
theorem dX6_copyFrom_43 : decode cX6_copyFrom 43 = .ok (.getfield 18, 3) := by decide +kernel
theorem dX6_copyFrom_46 : decode cX6_copyFrom 46 = .ok (.iconst 0, 1) := by decide +kernel
theorem dX6_copyFrom_47 : decode cX6_copyFrom 47 = .ok (.aload_n 0, 1) := by decide +kernel
theorem dX6_copyFrom_48 : decode cX6_copyFrom 48 = .ok (.getfield 18, 3) := by decide +kernel
theorem dX6_copyFrom_51 : decode cX6_copyFrom 51 = .ok (.iconst 0, 1) := by decide +kernel
theorem dX6_copyFrom_52 : decode cX6_copyFrom 52 = .ok (.aload_n 0, 1) := by decide +kernel
theorem dX6_copyFrom_53 : decode cX6_copyFrom 53 = .ok (.getfield 24, 3) := by decide +kernel
theorem dX6_copyFrom_56 : decode cX6_copyFrom 56 = .ok (.invokestatic 28, 3) := by decide +kernel
theorem dX6_copyFrom_59 : decode cX6_copyFrom 59 = .ok (.aload_n 1, 1) := by decide +kernel
theorem dX6_copyFrom_60 : decode cX6_copyFrom 60 = .ok (.getfield 21, 3) := by decide +kernel
theorem dX6_copyFrom_63 : decode cX6_copyFrom 63 = .ok (.iconst 0, 1) := by decide +kernel
theorem dX6_copyFrom_64 : decode cX6_copyFrom 64 = .ok (.aload_n 0, 1) := by decide +kernel
theorem dX6_copyFrom_65 : decode cX6_copyFrom 65 = .ok (.getfield 21, 3) := by decide +kernel
theorem dX6_copyFrom_68 : decode cX6_copyFrom 68 = .ok (.iconst 0, 1) := by decide +kernel
theorem dX6_copyFrom_69 : decode cX6_copyFrom 69 = .ok (.aload_n 0, 1) := by decide +kernel
theorem dX6_copyFrom_70 : decode cX6_copyFrom 70 = .ok (.getfield 24, 3) := by decide +kernel
theorem dX6_copyFrom_73 : decode cX6_copyFrom 73 = .ok (.invokestatic 28, 3) := by decide +kernel
theorem dX6_copyFrom_76 : decode cX6_copyFrom 76 = .ok (.return_, 1) := by decide +kernel
theorem dX6_mayTake_0 : decode cX6_mayTake 0 = .ok (.aload_n 0, 1) := by decide +kernel
theorem dX6_mayTake_1 : decode cX6_mayTake 1 = .ok (.getfield 24, 3) := by decide +kernel
theorem dX6_mayTake_4 : decode cX6_mayTake 4 = .ok (.bipush 60, 2) := by decide +kernel
theorem dX6_mayTake_6 : decode cX6_mayTake 6 = .ok (.if_icmp .lt 5, 3) := by decide +kernel
theorem dX6_mayTake_9 : decode cX6_mayTake 9 = .ok (.iconst 0, 1) := by decide +kernel
theorem dX6_mayTake_10 : decode cX6_mayTake 10 = .ok (.ireturn, 1) := by decide +kernel
theorem dX6_mayTake_11 : decode cX6_mayTake 11 = .ok (.iconst 0, 1) := by decide +kernel
theorem dX6_mayTake_12 : decode cX6_mayTake 12 = .ok (.istore 4, 2) := by decide +kernel
theorem dX6_mayTake_14 : decode cX6_mayTake 14 = .ok (.iload 4, 2) := by decide +kernel
theorem dX6_mayTake_16 : decode cX6_mayTake 16 = .ok (.aload_n 0, 1) := by decide +kernel
theorem dX6_mayTake_17 : decode cX6_mayTake 17 = .ok (.getfield 24, 3) := by decide +kernel
theorem dX6_mayTake_20 : decode cX6_mayTake 20 = .ok (.if_icmp .ge 44, 3) := by decide +kernel
theorem dX6_mayTake_23 : decode cX6_mayTake 23 = .ok (.aload_n 0, 1) := by decide +kernel
theorem dX6_mayTake_24 : decode cX6_mayTake 24 = .ok (.getfield 11, 3) := by decide +kernel
theorem dX6_mayTake_27 : decode cX6_mayTake 27 = .ok (.iload 4, 2) := by decide +kernel
theorem dX6_mayTake_29 : decode cX6_mayTake 29 = .ok (.iaload, 1) := by decide +kernel
theorem dX6_mayTake_30 : decode cX6_mayTake 30 = .ok (.iload_n 1, 1) := by decide +kernel
theorem dX6_mayTake_31 : decode cX6_mayTake 31 = .ok (.if_icmp .ne 27, 3) := by decide +kernel
theorem dX6_mayTake_34 : decode cX6_mayTake 34 = .ok (.aload_n 0, 1) := by decide +kernel
theorem dX6_mayTake_35 : decode cX6_mayTake 35 = .ok (.getfield 18, 3) := by decide +kernel
theorem dX6_mayTake_38 : decode cX6_mayTake 38 = .ok (.iload 4, 2) := by decide +kernel
theorem dX6_mayTake_40 : decode cX6_mayTake 40 = .ok (.iaload, 1) := by decide +kernel
theorem dX6_mayTake_41 : decode cX6_mayTake 41 = .ok (.iload_n 3, 1) := by decide +kernel
theorem dX6_mayTake_42 : decode cX6_mayTake 42 = .ok (.if_icmp .gt 16, 3) := by decide +kernel
theorem dX6_mayTake_45 : decode cX6_mayTake 45 = .ok (.iload_n 2, 1) := by decide +kernel
theorem dX6_mayTake_46 : decode cX6_mayTake 46 = .ok (.aload_n 0, 1) := by decide +kernel
theorem dX6_mayTake_47 : decode cX6_mayTake 47 = .ok (.getfield 21, 3) := by decide +kernel
theorem dX6_mayTake_50 : decode cX6_mayTake 50 = .ok (.iload 4, 2) := by decide +kernel
theorem dX6_mayTake_52 : decode cX6_mayTake 52 = .ok (.iaload, 1) := by decide +kernel
theorem dX6_mayTake_53 : decode cX6_mayTake 53 = .ok (.if_icmp .gt 5, 3) := by decide +kernel
theorem dX6_mayTake_56 : decode cX6_mayTake 56 = .ok (.iconst 0, 1) := by decide +kernel
theorem dX6_mayTake_57 : decode cX6_mayTake 57 = .ok (.ireturn, 1) := by decide +kernel
theorem dX6_mayTake_58 : decode cX6_mayTake 58 = .ok (.iinc 4 1, 3) := by decide +kernel
theorem dX6_mayTake_61 : decode cX6_mayTake 61 = .ok (.goto (-47), 3) := by decide +kernel
theorem dX6_mayTake_64 : decode cX6_mayTake 64 = .ok (.iconst 1, 1) := by decide +kernel
theorem dX6_mayTake_65 : decode cX6_mayTake 65 = .ok (.ireturn, 1) := by decide +kernel
theorem dX6_take_0 : decode cX6_take 0 = .ok (.aload_n 0, 1) := by decide +kernel
theorem dX6_take_1 : decode cX6_take 1 = .ok (.getfield 11, 3) := by decide +kernel
theorem dX6_take_4 : decode cX6_take 4 = .ok (.aload_n 0, 1) := by decide +kernel
theorem dX6_take_5 : decode cX6_take 5 = .ok (.getfield 24, 3) := by decide +kernel
theorem dX6_take_8 : decode cX6_take 8 = .ok (.iload_n 1, 1) := by decide +kernel
theorem dX6_take_9 : decode cX6_take 9 = .ok (.iastore, 1) := by decide +kernel
theorem dX6_take_10 : decode cX6_take 10 = .ok (.aload_n 0, 1) := by decide +kernel
theorem dX6_take_11 : decode cX6_take 11 = .ok (.getfield 15, 3) := by decide +kernel
theorem dX6_take_14 : decode cX6_take 14 = .ok (.aload_n 0, 1) := by decide +kernel
theorem dX6_take_15 : decode cX6_take 15 = .ok (.getfield 24, 3) := by decide +kernel
theorem dX6_take_18 : decode cX6_take 18 = .ok (.iload_n 2, 1) := by decide +kernel
theorem dX6_take_19 : decode cX6_take 19 = .ok (.iastore, 1) := by decide +kernel
theorem dX6_take_20 : decode cX6_take 20 = .ok (.aload_n 0, 1) := by decide +kernel
theorem dX6_take_21 : decode cX6_take 21 = .ok (.getfield 18, 3) := by decide +kernel
theorem dX6_take_24 : decode cX6_take 24 = .ok (.aload_n 0, 1) := by decide +kernel
theorem dX6_take_25 : decode cX6_take 25 = .ok (.getfield 24, 3) := by decide +kernel
theorem dX6_take_28 : decode cX6_take 28 = .ok (.iload_n 3, 1) := by decide +kernel
theorem dX6_take_29 : decode cX6_take 29 = .ok (.iastore, 1) := by decide +kernel
theorem dX6_take_30 : decode cX6_take 30 = .ok (.aload_n 0, 1) := by decide +kernel
theorem dX6_take_31 : decode cX6_take 31 = .ok (.getfield 21, 3) := by decide +kernel
theorem dX6_take_34 : decode cX6_take 34 = .ok (.aload_n 0, 1) := by decide +kernel
theorem dX6_take_35 : decode cX6_take 35 = .ok (.getfield 24, 3) := by decide +kernel
theorem dX6_take_38 : decode cX6_take 38 = .ok (.iload 4, 2) := by decide +kernel
theorem dX6_take_40 : decode cX6_take 40 = .ok (.iastore, 1) := by decide +kernel
theorem dX6_take_41 : decode cX6_take 41 = .ok (.aload_n 0, 1) := by decide +kernel
theorem dX6_take_42 : decode cX6_take 42 = .ok (.dup, 1) := by decide +kernel
theorem dX6_take_43 : decode cX6_take 43 = .ok (.getfield 24, 3) := by decide +kernel
