theorem dX6_take_46 : decode cX6_take 46 = .ok (.iconst 1, 1) := by decide +kernel
theorem dX6_take_47 : decode cX6_take 47 = .ok (.iadd, 1) := by decide +kernel
theorem dX6_take_48 : decode cX6_take 48 = .ok (.putfield 24, 3) := by decide +kernel
theorem dX6_take_51 : decode cX6_take 51 = .ok (.return_, 1) := by decide +kernel
theorem dX6_buyerOn_0 : decode cX6_buyerOn 0 = .ok (.iconst 0, 1) := by decide +kernel
theorem dX6_buyerOn_1 : decode cX6_buyerOn 1 = .ok (.istore_n 3, 1) := by decide +kernel
theorem dX6_buyerOn_2 : decode cX6_buyerOn 2 = .ok (.iload_n 3, 1) := by decide +kernel
theorem dX6_buyerOn_3 : decode cX6_buyerOn 3 = .ok (.aload_n 0, 1) := by decide +kernel
theorem dX6_buyerOn_4 : decode cX6_buyerOn 4 = .ok (.getfield 24, 3) := by decide +kernel
theorem dX6_buyerOn_7 : decode cX6_buyerOn 7 = .ok (.if_icmp .ge 46, 3) := by decide +kernel
theorem dX6_buyerOn_10 : decode cX6_buyerOn 10 = .ok (.aload_n 0, 1) := by decide +kernel
theorem dX6_buyerOn_11 : decode cX6_buyerOn 11 = .ok (.getfield 11, 3) := by decide +kernel
theorem dX6_buyerOn_14 : decode cX6_buyerOn 14 = .ok (.iload_n 3, 1) := by decide +kernel
theorem dX6_buyerOn_15 : decode cX6_buyerOn 15 = .ok (.iaload, 1) := by decide +kernel
theorem dX6_buyerOn_16 : decode cX6_buyerOn 16 = .ok (.iload_n 1, 1) := by decide +kernel
theorem dX6_buyerOn_17 : decode cX6_buyerOn 17 = .ok (.if_icmp .ne 30, 3) := by decide +kernel
theorem dX6_buyerOn_20 : decode cX6_buyerOn 20 = .ok (.aload_n 0, 1) := by decide +kernel
theorem dX6_buyerOn_21 : decode cX6_buyerOn 21 = .ok (.getfield 18, 3) := by decide +kernel
theorem dX6_buyerOn_24 : decode cX6_buyerOn 24 = .ok (.iload_n 3, 1) := by decide +kernel
theorem dX6_buyerOn_25 : decode cX6_buyerOn 25 = .ok (.iaload, 1) := by decide +kernel
theorem dX6_buyerOn_26 : decode cX6_buyerOn 26 = .ok (.iload_n 2, 1) := by decide +kernel
theorem dX6_buyerOn_27 : decode cX6_buyerOn 27 = .ok (.if_icmp .gt 20, 3) := by decide +kernel
theorem dX6_buyerOn_30 : decode cX6_buyerOn 30 = .ok (.iload_n 2, 1) := by decide +kernel
theorem dX6_buyerOn_31 : decode cX6_buyerOn 31 = .ok (.aload_n 0, 1) := by decide +kernel
theorem dX6_buyerOn_32 : decode cX6_buyerOn 32 = .ok (.getfield 21, 3) := by decide +kernel
theorem dX6_buyerOn_35 : decode cX6_buyerOn 35 = .ok (.iload_n 3, 1) := by decide +kernel
theorem dX6_buyerOn_36 : decode cX6_buyerOn 36 = .ok (.iaload, 1) := by decide +kernel
theorem dX6_buyerOn_37 : decode cX6_buyerOn 37 = .ok (.if_icmp .gt 10, 3) := by decide +kernel
theorem dX6_buyerOn_40 : decode cX6_buyerOn 40 = .ok (.aload_n 0, 1) := by decide +kernel
theorem dX6_buyerOn_41 : decode cX6_buyerOn 41 = .ok (.getfield 15, 3) := by decide +kernel
theorem dX6_buyerOn_44 : decode cX6_buyerOn 44 = .ok (.iload_n 3, 1) := by decide +kernel
theorem dX6_buyerOn_45 : decode cX6_buyerOn 45 = .ok (.iaload, 1) := by decide +kernel
theorem dX6_buyerOn_46 : decode cX6_buyerOn 46 = .ok (.ireturn, 1) := by decide +kernel
theorem dX6_buyerOn_47 : decode cX6_buyerOn 47 = .ok (.iinc 3 1, 3) := by decide +kernel
theorem dX6_buyerOn_50 : decode cX6_buyerOn 50 = .ok (.goto (-48), 3) := by decide +kernel
theorem dX6_buyerOn_53 : decode cX6_buyerOn 53 = .ok (.iconst (-1), 1) := by decide +kernel
theorem dX6_buyerOn_54 : decode cX6_buyerOn 54 = .ok (.ireturn, 1) := by decide +kernel
theorem dX7_init_0 : decode cX7_init 0 = .ok (.aload_n 0, 1) := by decide +kernel
theorem dX7_init_1 : decode cX7_init 1 = .ok (.invokespecial 3, 3) := by decide +kernel
theorem dX7_init_4 : decode cX7_init 4 = .ok (.aload_n 0, 1) := by decide +kernel
theorem dX7_init_5 : decode cX7_init 5 = .ok (.iconst (-1), 1) := by decide +kernel
theorem dX7_init_6 : decode cX7_init 6 = .ok (.putfield 9, 3) := by decide +kernel
theorem dX7_init_9 : decode cX7_init 9 = .ok (.aload_n 0, 1) := by decide +kernel
theorem dX7_init_10 : decode cX7_init 10 = .ok (.sipush 400, 3) := by decide +kernel
theorem dX7_init_13 : decode cX7_init 13 = .ok (.newarray .char, 2) := by decide +kernel
theorem dX7_init_15 : decode cX7_init 15 = .ok (.putfield 15, 3) := by decide +kernel
theorem dX7_init_18 : decode cX7_init 18 = .ok (.aload_n 0, 1) := by decide +kernel
theorem dX7_init_19 : decode cX7_init 19 = .ok (.sipush 401, 3) := by decide +kernel
theorem dX7_init_22 : decode cX7_init 22 = .ok (.newarray .int, 2) := by decide +kernel
theorem dX7_init_24 : decode cX7_init 24 = .ok (.putfield 19, 3) := by decide +kernel
theorem dX7_init_27 : decode cX7_init 27 = .ok (.aload_n 0, 1) := by decide +kernel
theorem dX7_init_28 : decode cX7_init 28 = .ok (.sipush 401, 3) := by decide +kernel
theorem dX7_init_31 : decode cX7_init 31 = .ok (.newarray .int, 2) := by decide +kernel
theorem dX7_init_33 : decode cX7_init 33 = .ok (.putfield 23, 3) := by decide +kernel
theorem dX7_init_36 : decode cX7_init 36 = .ok (.aload_n 0, 1) := by decide +kernel
theorem dX7_init_37 : decode cX7_init 37 = .ok (.sipush 401, 3) := by decide +kernel
theorem dX7_init_40 : decode cX7_init 40 = .ok (.newarray .int, 2) := by decide +kernel
theorem dX7_init_42 : decode cX7_init 42 = .ok (.putfield 26, 3) := by decide +kernel
theorem dX7_init_45 : decode cX7_init 45 = .ok (.aload_n 0, 1) := by decide +kernel
theorem dX7_init_46 : decode cX7_init 46 = .ok (.new 29, 3) := by decide +kernel
theorem dX7_init_49 : decode cX7_init 49 = .ok (.dup, 1) := by decide +kernel
theorem dX7_init_50 : decode cX7_init 50 = .ok (.invokespecial 31, 3) := by decide +kernel
theorem dX7_init_53 : decode cX7_init 53 = .ok (.putfield 32, 3) := by decide +kernel
theorem dX7_init_56 : decode cX7_init 56 = .ok (.return_, 1) := by decide +kernel
theorem dX7_hasRoom_0 : decode cX7_hasRoom 0 = .ok (.aload_n 0, 1) := by decide +kernel
theorem dX7_hasRoom_1 : decode cX7_hasRoom 1 = .ok (.getfield 36, 3) := by decide +kernel
theorem dX7_hasRoom_4 : decode cX7_hasRoom 4 = .ok (.bipush 20, 2) := by decide +kernel
theorem dX7_hasRoom_6 : decode cX7_hasRoom 6 = .ok (.iadd, 1) := by decide +kernel
theorem dX7_hasRoom_7 : decode cX7_hasRoom 7 = .ok (.sipush 400, 3) := by decide +kernel
theorem dX7_hasRoom_10 : decode cX7_hasRoom 10 = .ok (.if_icmp .gt 7, 3) := by decide +kernel
theorem dX7_hasRoom_13 : decode cX7_hasRoom 13 = .ok (.iconst 1, 1) := by decide +kernel
theorem dX7_hasRoom_14 : decode cX7_hasRoom 14 = .ok (.goto 4, 3) := by decide +kernel
theorem dX7_hasRoom_17 : decode cX7_hasRoom 17 = .ok (.iconst 0, 1) := by decide +kernel
theorem dX7_hasRoom_18 : decode cX7_hasRoom 18 = .ok (.ireturn, 1) := by decide +kernel
theorem dX7_add_0 : decode cX7_add 0 = .ok (.bipush 24, 2) := by decide +kernel
theorem dX7_add_2 : decode cX7_add 2 = .ok (.istore_n 2, 1) := by decide +kernel
theorem dX7_add_3 : decode cX7_add 3 = .ok (.iload_n 2, 1) := by decide +kernel
theorem dX7_add_4 : decode cX7_add 4 = .ok (.ifCond .lt 46, 3) := by decide +kernel
theorem dX7_add_7 : decode cX7_add 7 = .ok (.aload_n 0, 1) := by decide +kernel
theorem dX7_add_8 : decode cX7_add 8 = .ok (.getfield 36, 3) := by decide +kernel
theorem dX7_add_11 : decode cX7_add 11 = .ok (.sipush 400, 3) := by decide +kernel
theorem dX7_add_14 : decode cX7_add 14 = .ok (.if_icmp .ge 36, 3) := by decide +kernel
theorem dX7_add_17 : decode cX7_add 17 = .ok (.aload_n 0, 1) := by decide +kernel
theorem dX7_add_18 : decode cX7_add 18 = .ok (.getfield 15, 3) := by decide +kernel
theorem dX7_add_21 : decode cX7_add 21 = .ok (.aload_n 0, 1) := by decide +kernel
theorem dX7_add_22 : decode cX7_add 22 = .ok (.getfield 36, 3) := by decide +kernel
theorem dX7_add_25 : decode cX7_add 25 = .ok (.iload_n 1, 1) := by decide +kernel
theorem dX7_add_26 : decode cX7_add 26 = .ok (.iload_n 2, 1) := by decide +kernel
theorem dX7_add_27 : decode cX7_add 27 = .ok (.ishr, 1) := by decide +kernel
theorem dX7_add_28 : decode cX7_add 28 = .ok (.sipush 255, 3) := by decide +kernel
theorem dX7_add_31 : decode cX7_add 31 = .ok (.iand, 1) := by decide +kernel
theorem dX7_add_32 : decode cX7_add 32 = .ok (.i2c, 1) := by decide +kernel
theorem dX7_add_33 : decode cX7_add 33 = .ok (.castore, 1) := by decide +kernel
theorem dX7_add_34 : decode cX7_add 34 = .ok (.aload_n 0, 1) := by decide +kernel
theorem dX7_add_35 : decode cX7_add 35 = .ok (.dup, 1) := by decide +kernel
theorem dX7_add_36 : decode cX7_add 36 = .ok (.getfield 36, 3) := by decide +kernel
theorem dX7_add_39 : decode cX7_add 39 = .ok (.iconst 1, 1) := by decide +kernel
theorem dX7_add_40 : decode cX7_add 40 = .ok (.iadd, 1) := by decide +kernel
theorem dX7_add_41 : decode cX7_add 41 = .ok (.putfield 36, 3) := by decide +kernel
theorem dX7_add_44 : decode cX7_add 44 = .ok (.iinc 2 (-8), 3) := by decide +kernel
theorem dX7_add_47 : decode cX7_add 47 = .ok (.goto (-44), 3) := by decide +kernel
theorem dX7_add_50 : decode cX7_add 50 = .ok (.return_, 1) := by decide +kernel
theorem dX7_leaveUnread_0 : decode cX7_leaveUnread 0 = .ok (.aload_n 0, 1) := by decide +kernel
theorem dX7_leaveUnread_1 : decode cX7_leaveUnread 1 = .ok (.iconst 0, 1) := by decide +kernel
theorem dX7_leaveUnread_2 : decode cX7_leaveUnread 2 = .ok (.putfield 39, 3) := by decide +kernel
theorem dX7_leaveUnread_5 : decode cX7_leaveUnread 5 = .ok (.aload_n 0, 1) := by decide +kernel
theorem dX7_leaveUnread_6 : decode cX7_leaveUnread 6 = .ok (.iconst (-1), 1) := by decide +kernel
theorem dX7_leaveUnread_7 : decode cX7_leaveUnread 7 = .ok (.putfield 9, 3) := by decide +kernel
theorem dX7_leaveUnread_10 : decode cX7_leaveUnread 10 = .ok (.aload_n 0, 1) := by decide +kernel
theorem dX7_leaveUnread_11 : decode cX7_leaveUnread 11 = .ok (.iconst 0, 1) := by decide +kernel
theorem dX7_leaveUnread_12 : decode cX7_leaveUnread 12 = .ok (.putfield 36, 3) := by decide +kernel
theorem dX7_leaveUnread_15 : decode cX7_leaveUnread 15 = .ok (.return_, 1) := by decide +kernel
theorem dX7_readInto_0 : decode cX7_readInto 0 = .ok (.aload_n 0, 1) := by decide +kernel
theorem dX7_readInto_1 : decode cX7_readInto 1 = .ok (.invokevirtual 42, 3) := by decide +kernel
theorem dX7_readInto_4 : decode cX7_readInto 4 = .ok (.aload_n 0, 1) := by decide +kernel
theorem dX7_readInto_5 : decode cX7_readInto 5 = .ok (.invokevirtual 45, 3) := by decide +kernel
theorem dX7_readInto_8 : decode cX7_readInto 8 = .ok (.aload_n 0, 1) := by decide +kernel
theorem dX7_readInto_9 : decode cX7_readInto 9 = .ok (.getfield 32, 3) := by decide +kernel
theorem dX7_readInto_12 : decode cX7_readInto 12 = .ok (.invokevirtual 48, 3) := by decide +kernel
theorem dX7_readInto_15 : decode cX7_readInto 15 = .ok (.aload_n 0, 1) := by decide +kernel
theorem dX7_readInto_16 : decode cX7_readInto 16 = .ok (.iconst 0, 1) := by decide +kernel
theorem dX7_readInto_17 : decode cX7_readInto 17 = .ok (.putfield 51, 3) := by decide +kernel
theorem dX7_readInto_20 : decode cX7_readInto 20 = .ok (.iconst 0, 1) := by decide +kernel
theorem dX7_readInto_21 : decode cX7_readInto 21 = .ok (.istore_n 2, 1) := by decide +kernel
theorem dX7_readInto_22 : decode cX7_readInto 22 = .ok (.iload_n 2, 1) := by decide +kernel
theorem dX7_readInto_23 : decode cX7_readInto 23 = .ok (.sipush 400, 3) := by decide +kernel
theorem dX7_readInto_26 : decode cX7_readInto 26 = .ok (.if_icmp .ge 35, 3) := by decide +kernel
theorem dX7_readInto_29 : decode cX7_readInto 29 = .ok (.aload_n 0, 1) := by decide +kernel
theorem dX7_readInto_30 : decode cX7_readInto 30 = .ok (.getfield 19, 3) := by decide +kernel
theorem dX7_readInto_33 : decode cX7_readInto 33 = .ok (.aload_n 0, 1) := by decide +kernel
theorem dX7_readInto_34 : decode cX7_readInto 34 = .ok (.getfield 51, 3) := by decide +kernel
theorem dX7_readInto_37 : decode cX7_readInto 37 = .ok (.iaload, 1) := by decide +kernel
theorem dX7_readInto_38 : decode cX7_readInto 38 = .ok (.bipush 23, 2) := by decide +kernel
theorem dX7_readInto_40 : decode cX7_readInto 40 = .ok (.if_icmp .eq 21, 3) := by decide +kernel
theorem dX7_readInto_43 : decode cX7_readInto 43 = .ok (.aload_n 0, 1) := by decide +kernel
theorem dX7_readInto_44 : decode cX7_readInto 44 = .ok (.getfield 39, 3) := by decide +kernel
theorem dX7_readInto_47 : decode cX7_readInto 47 = .ok (.ifCond .ne 14, 3) := by decide +kernel
theorem dX7_readInto_50 : decode cX7_readInto 50 = .ok (.aload_n 0, 1) := by decide +kernel
theorem dX7_readInto_51 : decode cX7_readInto 51 = .ok (.invokevirtual 54, 3) := by decide +kernel
theorem dX7_readInto_54 : decode cX7_readInto 54 = .ok (.pop, 1) := by decide +kernel
theorem dX7_readInto_55 : decode cX7_readInto 55 = .ok (.iinc 2 1, 3) := by decide +kernel
theorem dX7_readInto_58 : decode cX7_readInto 58 = .ok (.goto (-36), 3) := by decide +kernel
theorem dX7_readInto_61 : decode cX7_readInto 61 = .ok (.aload_n 0, 1) := by decide +kernel
theorem dX7_readInto_62 : decode cX7_readInto 62 = .ok (.getfield 39, 3) := by decide +kernel
theorem dX7_readInto_65 : decode cX7_readInto 65 = .ok (.ifCond .eq 5, 3) := by decide +kernel
theorem dX7_readInto_68 : decode cX7_readInto 68 = .ok (.iconst (-1), 1) := by decide +kernel
theorem dX7_readInto_69 : decode cX7_readInto 69 = .ok (.ireturn, 1) := by decide +kernel
theorem dX7_readInto_70 : decode cX7_readInto 70 = .ok (.aload_n 1, 1) := by decide +kernel
theorem dX7_readInto_71 : decode cX7_readInto 71 = .ok (.aload_n 0, 1) := by decide +kernel
theorem dX7_readInto_72 : decode cX7_readInto 72 = .ok (.getfield 32, 3) := by decide +kernel
theorem dX7_readInto_75 : decode cX7_readInto 75 = .ok (.invokevirtual 58, 3) := by decide +kernel
theorem dX7_readInto_78 : decode cX7_readInto 78 = .ok (.aload_n 1, 1) := by decide +kernel
theorem dX7_readInto_79 : decode cX7_readInto 79 = .ok (.getfield 62, 3) := by decide +kernel
theorem dX7_readInto_82 : decode cX7_readInto 82 = .ok (.ireturn, 1) := by decide +kernel
theorem dX7_fail_0 : decode cX7_fail 0 = .ok (.aload_n 0, 1) := by decide +kernel
theorem dX7_fail_1 : decode cX7_fail 1 = .ok (.iload_n 1, 1) := by decide +kernel
theorem dX7_fail_2 : decode cX7_fail 2 = .ok (.putfield 39, 3) := by decide +kernel
theorem dX7_fail_5 : decode cX7_fail 5 = .ok (.aload_n 0, 1) := by decide +kernel
theorem dX7_fail_6 : decode cX7_fail 6 = .ok (.aload_n 0, 1) := by decide +kernel
theorem dX7_fail_7 : decode cX7_fail 7 = .ok (.getfield 23, 3) := by decide +kernel
theorem dX7_fail_10 : decode cX7_fail 10 = .ok (.aload_n 0, 1) := by decide +kernel
theorem dX7_fail_11 : decode cX7_fail 11 = .ok (.getfield 51, 3) := by decide +kernel
theorem dX7_fail_14 : decode cX7_fail 14 = .ok (.iaload, 1) := by decide +kernel
theorem dX7_fail_15 : decode cX7_fail 15 = .ok (.putfield 9, 3) := by decide +kernel
theorem dX7_fail_18 : decode cX7_fail 18 = .ok (.iconst 0, 1) := by decide +kernel
theorem dX7_fail_19 : decode cX7_fail 19 = .ok (.ireturn, 1) := by decide +kernel
theorem dX7_expect_0 : decode cX7_expect 0 = .ok (.aload_n 0, 1) := by decide +kernel
theorem dX7_expect_1 : decode cX7_expect 1 = .ok (.getfield 19, 3) := by decide +kernel
theorem dX7_expect_4 : decode cX7_expect 4 = .ok (.aload_n 0, 1) := by decide +kernel
theorem dX7_expect_5 : decode cX7_expect 5 = .ok (.getfield 51, 3) := by decide +kernel
theorem dX7_expect_8 : decode cX7_expect 8 = .ok (.iaload, 1) := by decide +kernel
theorem dX7_expect_9 : decode cX7_expect 9 = .ok (.iload_n 1, 1) := by decide +kernel
theorem dX7_expect_10 : decode cX7_expect 10 = .ok (.if_icmp .eq 9, 3) := by decide +kernel
theorem dX7_expect_13 : decode cX7_expect 13 = .ok (.aload_n 0, 1) := by decide +kernel
theorem dX7_expect_14 : decode cX7_expect 14 = .ok (.iconst 1, 1) := by decide +kernel
theorem dX7_expect_15 : decode cX7_expect 15 = .ok (.invokevirtual 65, 3) := by decide +kernel
theorem dX7_expect_18 : decode cX7_expect 18 = .ok (.ireturn, 1) := by decide +kernel
theorem dX7_expect_19 : decode cX7_expect 19 = .ok (.aload_n 0, 1) := by decide +kernel
theorem dX7_expect_20 : decode cX7_expect 20 = .ok (.dup, 1) := by decide +kernel
theorem dX7_expect_21 : decode cX7_expect 21 = .ok (.getfield 51, 3) := by decide +kernel
theorem dX7_expect_24 : decode cX7_expect 24 = .ok (.iconst 1, 1) := by decide +kernel
theorem dX7_expect_25 : decode cX7_expect 25 = .ok (.iadd, 1) := by decide +kernel
theorem dX7_expect_26 : decode cX7_expect 26 = .ok (.putfield 51, 3) := by decide +kernel
theorem dX7_expect_29 : decode cX7_expect 29 = .ok (.iconst 1, 1) := by decide +kernel
theorem dX7_expect_30 : decode cX7_expect 30 = .ok (.ireturn, 1) := by decide +kernel
theorem dX7_readLine_0 : decode cX7_readLine 0 = .ok (.aload_n 0, 1) := by decide +kernel
theorem dX7_readLine_1 : decode cX7_readLine 1 = .ok (.getfield 19, 3) := by decide +kernel
theorem dX7_readLine_4 : decode cX7_readLine 4 = .ok (.aload_n 0, 1) := by decide +kernel
theorem dX7_readLine_5 : decode cX7_readLine 5 = .ok (.getfield 51, 3) := by decide +kernel
theorem dX7_readLine_8 : decode cX7_readLine 8 = .ok (.iaload, 1) := by decide +kernel
theorem dX7_readLine_9 : decode cX7_readLine 9 = .ok (.bipush 7, 2) := by decide +kernel
theorem dX7_readLine_11 : decode cX7_readLine 11 = .ok (.if_icmp .ne 21, 3) := by decide +kernel
theorem dX7_readLine_14 : decode cX7_readLine 14 = .ok (.aload_n 0, 1) := by decide +kernel
theorem dX7_readLine_15 : decode cX7_readLine 15 = .ok (.getfield 32, 3) := by decide +kernel
theorem dX7_readLine_18 : decode cX7_readLine 18 = .ok (.getfield 62, 3) := by decide +kernel
theorem dX7_readLine_21 : decode cX7_readLine 21 = .ok (.bipush 16, 2) := by decide +kernel
theorem dX7_readLine_23 : decode cX7_readLine 23 = .ok (.if_icmp .lt 9, 3) := by decide +kernel
theorem dX7_readLine_26 : decode cX7_readLine 26 = .ok (.aload_n 0, 1) := by decide +kernel
theorem dX7_readLine_27 : decode cX7_readLine 27 = .ok (.iconst 3, 1) := by decide +kernel
theorem dX7_readLine_28 : decode cX7_readLine 28 = .ok (.invokevirtual 65, 3) := by decide +kernel
theorem dX7_readLine_31 : decode cX7_readLine 31 = .ok (.ireturn, 1) := by decide +kernel
theorem dX7_readLine_32 : decode cX7_readLine 32 = .ok (.aload_n 0, 1) := by decide +kernel
theorem dX7_readLine_33 : decode cX7_readLine 33 = .ok (.bipush 7, 2) := by decide +kernel
theorem dX7_readLine_35 : decode cX7_readLine 35 = .ok (.invokevirtual 69, 3) := by decide +kernel
theorem dX7_readLine_38 : decode cX7_readLine 38 = .ok (.ifCond .eq 10, 3) := by decide +kernel
theorem dX7_readLine_41 : decode cX7_readLine 41 = .ok (.aload_n 0, 1) := by decide +kernel
theorem dX7_readLine_42 : decode cX7_readLine 42 = .ok (.invokevirtual 72, 3) := by decide +kernel
theorem dX7_readLine_45 : decode cX7_readLine 45 = .ok (.ifCond .ne 5, 3) := by decide +kernel
theorem dX7_readLine_48 : decode cX7_readLine 48 = .ok (.iconst 0, 1) := by decide +kernel
theorem dX7_readLine_49 : decode cX7_readLine 49 = .ok (.ireturn, 1) := by decide +kernel
theorem dX7_readLine_50 : decode cX7_readLine 50 = .ok (.bipush 13, 2) := by decide +kernel
theorem dX7_readLine_52 : decode cX7_readLine 52 = .ok (.istore_n 1, 1) := by decide +kernel
theorem dX7_readLine_53 : decode cX7_readLine 53 = .ok (.aload_n 0, 1) := by decide +kernel
theorem dX7_readLine_54 : decode cX7_readLine 54 = .ok (.getfield 19, 3) := by decide +kernel
theorem dX7_readLine_57 : decode cX7_readLine 57 = .ok (.aload_n 0, 1) := by decide +kernel
theorem dX7_readLine_58 : decode cX7_readLine 58 = .ok (.getfield 51, 3) := by decide +kernel
theorem dX7_readLine_61 : decode cX7_readLine 61 = .ok (.iaload, 1) := by decide +kernel
theorem dX7_readLine_62 : decode cX7_readLine 62 = .ok (.bipush 8, 2) := by decide +kernel
theorem dX7_readLine_64 : decode cX7_readLine 64 = .ok (.if_icmp .ne 26, 3) := by decide +kernel
theorem dX7_readLine_67 : decode cX7_readLine 67 = .ok (.bipush 8, 2) := by decide +kernel
theorem dX7_readLine_69 : decode cX7_readLine 69 = .ok (.istore_n 1, 1) := by decide +kernel
theorem dX7_readLine_70 : decode cX7_readLine 70 = .ok (.aload_n 0, 1) := by decide +kernel
theorem dX7_readLine_71 : decode cX7_readLine 71 = .ok (.dup, 1) := by decide +kernel
theorem dX7_readLine_72 : decode cX7_readLine 72 = .ok (.getfield 51, 3) := by decide +kernel
theorem dX7_readLine_75 : decode cX7_readLine 75 = .ok (.iconst 1, 1) := by decide +kernel
theorem dX7_readLine_76 : decode cX7_readLine 76 = .ok (.iadd, 1) := by decide +kernel
theorem dX7_readLine_77 : decode cX7_readLine 77 = .ok (.putfield 51, 3) := by decide +kernel
theorem dX7_readLine_80 : decode cX7_readLine 80 = .ok (.aload_n 0, 1) := by decide +kernel
theorem dX7_readLine_81 : decode cX7_readLine 81 = .ok (.iconst 0, 1) := by decide +kernel
theorem dX7_readLine_82 : decode cX7_readLine 82 = .ok (.invokevirtual 75, 3) := by decide +kernel
theorem dX7_readLine_85 : decode cX7_readLine 85 = .ok (.ifCond .ne 5, 3) := by decide +kernel
theorem dX7_readLine_88 : decode cX7_readLine 88 = .ok (.iconst 0, 1) := by decide +kernel
theorem dX7_readLine_89 : decode cX7_readLine 89 = .ok (.ireturn, 1) := by decide +kernel
theorem dX7_readLine_90 : decode cX7_readLine 90 = .ok (.aload_n 0, 1) := by decide +kernel
theorem dX7_readLine_91 : decode cX7_readLine 91 = .ok (.getfield 32, 3) := by decide +kernel
theorem dX7_readLine_94 : decode cX7_readLine 94 = .ok (.iload_n 1, 1) := by decide +kernel
theorem dX7_readLine_95 : decode cX7_readLine 95 = .ok (.iconst (-1), 1) := by decide +kernel
theorem dX7_readLine_96 : decode cX7_readLine 96 = .ok (.ixor, 1) := by decide +kernel
theorem dX7_readLine_97 : decode cX7_readLine 97 = .ok (.invokevirtual 78, 3) := by decide +kernel
theorem dX7_readLine_100 : decode cX7_readLine 100 = .ok (.aload_n 0, 1) := by decide +kernel
theorem dX7_readLine_101 : decode cX7_readLine 101 = .ok (.getfield 32, 3) := by decide +kernel
theorem dX7_readLine_104 : decode cX7_readLine 104 = .ok (.dup, 1) := by decide +kernel
theorem dX7_readLine_105 : decode cX7_readLine 105 = .ok (.getfield 62, 3) := by decide +kernel
theorem dX7_readLine_108 : decode cX7_readLine 108 = .ok (.iconst 1, 1) := by decide +kernel
theorem dX7_readLine_109 : decode cX7_readLine 109 = .ok (.iadd, 1) := by decide +kernel
theorem dX7_readLine_110 : decode cX7_readLine 110 = .ok (.putfield 62, 3) := by decide +kernel
theorem dX7_readLine_113 : decode cX7_readLine 113 = .ok (.aload_n 0, 1) := by decide +kernel
theorem dX7_readLine_114 : decode cX7_readLine 114 = .ok (.bipush 13, 2) := by decide +kernel
theorem dX7_readLine_116 : decode cX7_readLine 116 = .ok (.invokevirtual 69, 3) := by decide +kernel
theorem dX7_readLine_119 : decode cX7_readLine 119 = .ok (.ireturn, 1) := by decide +kernel
theorem dX7_readEither_0 : decode cX7_readEither 0 = .ok (.iconst 0, 1) := by decide +kernel
theorem dX7_readEither_1 : decode cX7_readEither 1 = .ok (.istore_n 2, 1) := by decide +kernel
theorem dX7_readEither_2 : decode cX7_readEither 2 = .ok (.aload_n 0, 1) := by decide +kernel
theorem dX7_readEither_3 : decode cX7_readEither 3 = .ok (.iload_n 1, 1) := by decide +kernel
theorem dX7_readEither_4 : decode cX7_readEither 4 = .ok (.invokevirtual 82, 3) := by decide +kernel
theorem dX7_readEither_7 : decode cX7_readEither 7 = .ok (.istore_n 3, 1) := by decide +kernel
theorem dX7_readEither_8 : decode cX7_readEither 8 = .ok (.iconst 0, 1) := by decide +kernel
theorem dX7_readEither_9 : decode cX7_readEither 9 = .ok (.istore 4, 2) := by decide +kernel
theorem dX7_readEither_11 : decode cX7_readEither 11 = .ok (.iload 4, 2) := by decide +kernel
theorem dX7_readEither_13 : decode cX7_readEither 13 = .ok (.sipush 400, 3) := by decide +kernel
theorem dX7_readEither_16 : decode cX7_readEither 16 = .ok (.if_icmp .ge 109, 3) := by decide +kernel
theorem dX7_readEither_19 : decode cX7_readEither 19 = .ok (.iload_n 3, 1) := by decide +kernel
theorem dX7_readEither_20 : decode cX7_readEither 20 = .ok (.ifCond .eq 105, 3) := by decide +kernel
theorem dX7_readEither_23 : decode cX7_readEither 23 = .ok (.aload_n 0, 1) := by decide +kernel
theorem dX7_readEither_24 : decode cX7_readEither 24 = .ok (.getfield 19, 3) := by decide +kernel
theorem dX7_readEither_27 : decode cX7_readEither 27 = .ok (.aload_n 0, 1) := by decide +kernel
theorem dX7_readEither_28 : decode cX7_readEither 28 = .ok (.getfield 51, 3) := by decide +kernel
theorem dX7_readEither_31 : decode cX7_readEither 31 = .ok (.iaload, 1) := by decide +kernel
theorem dX7_readEither_32 : decode cX7_readEither 32 = .ok (.bipush 9, 2) := by decide +kernel
theorem dX7_readEither_34 : decode cX7_readEither 34 = .ok (.if_icmp .eq 17, 3) := by decide +kernel
theorem dX7_readEither_37 : decode cX7_readEither 37 = .ok (.aload_n 0, 1) := by decide +kernel
theorem dX7_readEither_38 : decode cX7_readEither 38 = .ok (.getfield 19, 3) := by decide +kernel
theorem dX7_readEither_41 : decode cX7_readEither 41 = .ok (.aload_n 0, 1) := by decide +kernel
theorem dX7_readEither_42 : decode cX7_readEither 42 = .ok (.getfield 51, 3) := by decide +kernel
theorem dX7_readEither_45 : decode cX7_readEither 45 = .ok (.iaload, 1) := by decide +kernel
theorem dX7_readEither_46 : decode cX7_readEither 46 = .ok (.bipush 10, 2) := by decide +kernel
theorem dX7_readEither_48 : decode cX7_readEither 48 = .ok (.if_icmp .ne 77, 3) := by decide +kernel
theorem dX7_readEither_51 : decode cX7_readEither 51 = .ok (.aload_n 0, 1) := by decide +kernel
theorem dX7_readEither_52 : decode cX7_readEither 52 = .ok (.getfield 19, 3) := by decide +kernel
theorem dX7_readEither_55 : decode cX7_readEither 55 = .ok (.aload_n 0, 1) := by decide +kernel
theorem dX7_readEither_56 : decode cX7_readEither 56 = .ok (.getfield 51, 3) := by decide +kernel
theorem dX7_readEither_59 : decode cX7_readEither 59 = .ok (.iaload, 1) := by decide +kernel
theorem dX7_readEither_60 : decode cX7_readEither 60 = .ok (.istore 5, 2) := by decide +kernel
theorem dX7_readEither_62 : decode cX7_readEither 62 = .ok (.aload_n 0, 1) := by decide +kernel
theorem dX7_readEither_63 : decode cX7_readEither 63 = .ok (.dup, 1) := by decide +kernel
theorem dX7_readEither_64 : decode cX7_readEither 64 = .ok (.getfield 51, 3) := by decide +kernel
theorem dX7_readEither_67 : decode cX7_readEither 67 = .ok (.iconst 1, 1) := by decide +kernel
theorem dX7_readEither_68 : decode cX7_readEither 68 = .ok (.iadd, 1) := by decide +kernel
theorem dX7_readEither_69 : decode cX7_readEither 69 = .ok (.putfield 51, 3) := by decide +kernel
theorem dX7_readEither_72 : decode cX7_readEither 72 = .ok (.iload 5, 2) := by decide +kernel
theorem dX7_readEither_74 : decode cX7_readEither 74 = .ok (.bipush 9, 2) := by decide +kernel
theorem dX7_readEither_76 : decode cX7_readEither 76 = .ok (.if_icmp .ne 16, 3) := by decide +kernel
theorem dX7_readEither_79 : decode cX7_readEither 79 = .ok (.iload_n 2, 1) := by decide +kernel
theorem dX7_readEither_80 : decode cX7_readEither 80 = .ok (.ifCond .eq 12, 3) := by decide +kernel
theorem dX7_readEither_83 : decode cX7_readEither 83 = .ok (.aload_n 0, 1) := by decide +kernel
theorem dX7_readEither_84 : decode cX7_readEither 84 = .ok (.getfield 32, 3) := by decide +kernel
theorem dX7_readEither_87 : decode cX7_readEither 87 = .ok (.bipush (-10), 2) := by decide +kernel
theorem dX7_readEither_89 : decode cX7_readEither 89 = .ok (.invokevirtual 78, 3) := by decide +kernel
theorem dX7_readEither_92 : decode cX7_readEither 92 = .ok (.aload_n 0, 1) := by decide +kernel
theorem dX7_readEither_93 : decode cX7_readEither 93 = .ok (.iload_n 1, 1) := by decide +kernel
theorem dX7_readEither_94 : decode cX7_readEither 94 = .ok (.invokevirtual 82, 3) := by decide +kernel
theorem dX7_readEither_97 : decode cX7_readEither 97 = .ok (.istore_n 3, 1) := by decide +kernel
theorem dX7_readEither_98 : decode cX7_readEither 98 = .ok (.iload 5, 2) := by decide +kernel
theorem dX7_readEither_100 : decode cX7_readEither 100 = .ok (.bipush 10, 2) := by decide +kernel
theorem dX7_readEither_102 : decode cX7_readEither 102 = .ok (.if_icmp .ne 15, 3) := by decide +kernel
theorem dX7_readEither_105 : decode cX7_readEither 105 = .ok (.aload_n 0, 1) := by decide +kernel
theorem dX7_readEither_106 : decode cX7_readEither 106 = .ok (.getfield 32, 3) := by decide +kernel
theorem dX7_readEither_109 : decode cX7_readEither 109 = .ok (.bipush (-11), 2) := by decide +kernel
theorem dX7_readEither_111 : decode cX7_readEither 111 = .ok (.invokevirtual 78, 3) := by decide +kernel
theorem dX7_readEither_114 : decode cX7_readEither 114 = .ok (.goto 5, 3) := by decide +kernel
theorem dX7_readEither_117 : decode cX7_readEither 117 = .ok (.iconst 1, 1) := by decide +kernel
theorem dX7_readEither_118 : decode cX7_readEither 118 = .ok (.istore_n 2, 1) := by decide +kernel
theorem dX7_readEither_119 : decode cX7_readEither 119 = .ok (.iinc 4 1, 3) := by decide +kernel
theorem dX7_readEither_122 : decode cX7_readEither 122 = .ok (.goto (-111), 3) := by decide +kernel
theorem dX7_readEither_125 : decode cX7_readEither 125 = .ok (.iload_n 2, 1) := by decide +kernel
theorem dX7_readEither_126 : decode cX7_readEither 126 = .ok (.ifCond .eq 12, 3) := by decide +kernel
theorem dX7_readEither_129 : decode cX7_readEither 129 = .ok (.aload_n 0, 1) := by decide +kernel
theorem dX7_readEither_130 : decode cX7_readEither 130 = .ok (.getfield 32, 3) := by decide +kernel
theorem dX7_readEither_133 : decode cX7_readEither 133 = .ok (.bipush (-10), 2) := by decide +kernel
theorem dX7_readEither_135 : decode cX7_readEither 135 = .ok (.invokevirtual 78, 3) := by decide +kernel
theorem dX7_readEither_138 : decode cX7_readEither 138 = .ok (.iload_n 3, 1) := by decide +kernel
theorem dX7_readEither_139 : decode cX7_readEither 139 = .ok (.ireturn, 1) := by decide +kernel
theorem dX7_readCondition_0 : decode cX7_readCondition 0 = .ok (.aload_n 0, 1) := by decide +kernel
theorem dX7_readCondition_1 : decode cX7_readCondition 1 = .ok (.getfield 19, 3) := by decide +kernel
theorem dX7_readCondition_4 : decode cX7_readCondition 4 = .ok (.aload_n 0, 1) := by decide +kernel
theorem dX7_readCondition_5 : decode cX7_readCondition 5 = .ok (.getfield 51, 3) := by decide +kernel
theorem dX7_readCondition_8 : decode cX7_readCondition 8 = .ok (.iaload, 1) := by decide +kernel
theorem dX7_readCondition_9 : decode cX7_readCondition 9 = .ok (.istore_n 2, 1) := by decide +kernel
theorem dX7_readCondition_10 : decode cX7_readCondition 10 = .ok (.iload_n 2, 1) := by decide +kernel
theorem dX7_readCondition_11 : decode cX7_readCondition 11 = .ok (.bipush 11, 2) := by decide +kernel
theorem dX7_readCondition_13 : decode cX7_readCondition 13 = .ok (.if_icmp .eq 9, 3) := by decide +kernel
theorem dX7_readCondition_16 : decode cX7_readCondition 16 = .ok (.iload_n 2, 1) := by decide +kernel
theorem dX7_readCondition_17 : decode cX7_readCondition 17 = .ok (.bipush 18, 2) := by decide +kernel
theorem dX7_readCondition_19 : decode cX7_readCondition 19 = .ok (.if_icmp .ne 75, 3) := by decide +kernel
theorem dX7_readCondition_22 : decode cX7_readCondition 22 = .ok (.iload_n 1, 1) := by decide +kernel
theorem dX7_readCondition_23 : decode cX7_readCondition 23 = .ok (.bipush 8, 2) := by decide +kernel
theorem dX7_readCondition_25 : decode cX7_readCondition 25 = .ok (.if_icmp .lt 9, 3) := by decide +kernel
theorem dX7_readCondition_28 : decode cX7_readCondition 28 = .ok (.aload_n 0, 1) := by decide +kernel
theorem dX7_readCondition_29 : decode cX7_readCondition 29 = .ok (.iconst 3, 1) := by decide +kernel
theorem dX7_readCondition_30 : decode cX7_readCondition 30 = .ok (.invokevirtual 65, 3) := by decide +kernel
theorem dX7_readCondition_33 : decode cX7_readCondition 33 = .ok (.ireturn, 1) := by decide +kernel
theorem dX7_readCondition_34 : decode cX7_readCondition 34 = .ok (.aload_n 0, 1) := by decide +kernel
theorem dX7_readCondition_35 : decode cX7_readCondition 35 = .ok (.dup, 1) := by decide +kernel
theorem dX7_readCondition_36 : decode cX7_readCondition 36 = .ok (.getfield 51, 3) := by decide +kernel
theorem dX7_readCondition_39 : decode cX7_readCondition 39 = .ok (.iconst 1, 1) := by decide +kernel
theorem dX7_readCondition_40 : decode cX7_readCondition 40 = .ok (.iadd, 1) := by decide +kernel
theorem dX7_readCondition_41 : decode cX7_readCondition 41 = .ok (.putfield 51, 3) := by decide +kernel
theorem dX7_readCondition_44 : decode cX7_readCondition 44 = .ok (.iload_n 2, 1) := by decide +kernel
theorem dX7_readCondition_45 : decode cX7_readCondition 45 = .ok (.bipush 18, 2) := by decide +kernel
theorem dX7_readCondition_47 : decode cX7_readCondition 47 = .ok (.if_icmp .ne 28, 3) := by decide +kernel
theorem dX7_readCondition_50 : decode cX7_readCondition 50 = .ok (.aload_n 0, 1) := by decide +kernel
theorem dX7_readCondition_51 : decode cX7_readCondition 51 = .ok (.iload_n 1, 1) := by decide +kernel
theorem dX7_readCondition_52 : decode cX7_readCondition 52 = .ok (.iconst 1, 1) := by decide +kernel
theorem dX7_readCondition_53 : decode cX7_readCondition 53 = .ok (.iadd, 1) := by decide +kernel
theorem dX7_readCondition_54 : decode cX7_readCondition 54 = .ok (.invokevirtual 75, 3) := by decide +kernel
theorem dX7_readCondition_57 : decode cX7_readCondition 57 = .ok (.ifCond .eq 16, 3) := by decide +kernel
theorem dX7_readCondition_60 : decode cX7_readCondition 60 = .ok (.aload_n 0, 1) := by decide +kernel
theorem dX7_readCondition_61 : decode cX7_readCondition 61 = .ok (.bipush 19, 2) := by decide +kernel
theorem dX7_readCondition_63 : decode cX7_readCondition 63 = .ok (.invokevirtual 69, 3) := by decide +kernel
theorem dX7_readCondition_66 : decode cX7_readCondition 66 = .ok (.ifCond .eq 7, 3) := by decide +kernel
theorem dX7_readCondition_69 : decode cX7_readCondition 69 = .ok (.iconst 1, 1) := by decide +kernel
theorem dX7_readCondition_70 : decode cX7_readCondition 70 = .ok (.goto 4, 3) := by decide +kernel
theorem dX7_readCondition_73 : decode cX7_readCondition 73 = .ok (.iconst 0, 1) := by decide +kernel
theorem dX7_readCondition_74 : decode cX7_readCondition 74 = .ok (.ireturn, 1) := by decide +kernel
theorem dX7_readCondition_75 : decode cX7_readCondition 75 = .ok (.aload_n 0, 1) := by decide +kernel
theorem dX7_readCondition_76 : decode cX7_readCondition 76 = .ok (.iload_n 1, 1) := by decide +kernel
theorem dX7_readCondition_77 : decode cX7_readCondition 77 = .ok (.iconst 1, 1) := by decide +kernel
theorem dX7_readCondition_78 : decode cX7_readCondition 78 = .ok (.iadd, 1) := by decide +kernel
theorem dX7_readCondition_79 : decode cX7_readCondition 79 = .ok (.invokevirtual 82, 3) := by decide +kernel
theorem dX7_readCondition_82 : decode cX7_readCondition 82 = .ok (.istore_n 3, 1) := by decide +kernel
theorem dX7_readCondition_83 : decode cX7_readCondition 83 = .ok (.aload_n 0, 1) := by decide +kernel
theorem dX7_readCondition_84 : decode cX7_readCondition 84 = .ok (.getfield 32, 3) := by decide +kernel
theorem dX7_readCondition_87 : decode cX7_readCondition 87 = .ok (.bipush (-12), 2) := by decide +kernel
theorem dX7_readCondition_89 : decode cX7_readCondition 89 = .ok (.invokevirtual 78, 3) := by decide +kernel
theorem dX7_readCondition_92 : decode cX7_readCondition 92 = .ok (.iload_n 3, 1) := by decide +kernel
theorem dX7_readCondition_93 : decode cX7_readCondition 93 = .ok (.ireturn, 1) := by decide +kernel
theorem dX7_readCondition_94 : decode cX7_readCondition 94 = .ok (.aload_n 0, 1) := by decide +kernel
theorem dX7_readCondition_95 : decode cX7_readCondition 95 = .ok (.invokevirtual 72, 3) := by decide +kernel
theorem dX7_readCondition_98 : decode cX7_readCondition 98 = .ok (.ifCond .ne 5, 3) := by decide +kernel
theorem dX7_readCondition_101 : decode cX7_readCondition 101 = .ok (.iconst 0, 1) := by decide +kernel
theorem dX7_readCondition_102 : decode cX7_readCondition 102 = .ok (.ireturn, 1) := by decide +kernel
theorem dX7_readCondition_103 : decode cX7_readCondition 103 = .ok (.aload_n 0, 1) := by decide +kernel
theorem dX7_readCondition_104 : decode cX7_readCondition 104 = .ok (.getfield 19, 3) := by decide +kernel
theorem dX7_readCondition_107 : decode cX7_readCondition 107 = .ok (.aload_n 0, 1) := by decide +kernel
theorem dX7_readCondition_108 : decode cX7_readCondition 108 = .ok (.getfield 51, 3) := by decide +kernel
theorem dX7_readCondition_111 : decode cX7_readCondition 111 = .ok (.iaload, 1) := by decide +kernel
theorem dX7_readCondition_112 : decode cX7_readCondition 112 = .ok (.istore_n 3, 1) := by decide +kernel
theorem dX7_readCondition_113 : decode cX7_readCondition 113 = .ok (.iload_n 3, 1) := by decide +kernel
theorem dX7_readCondition_114 : decode cX7_readCondition 114 = .ok (.bipush 20, 2) := by decide +kernel
theorem dX7_readCondition_116 : decode cX7_readCondition 116 = .ok (.if_icmp .eq 21, 3) := by decide +kernel
theorem dX7_readCondition_119 : decode cX7_readCondition 119 = .ok (.iload_n 3, 1) := by decide +kernel
theorem dX7_readCondition_120 : decode cX7_readCondition 120 = .ok (.bipush 21, 2) := by decide +kernel
theorem dX7_readCondition_122 : decode cX7_readCondition 122 = .ok (.if_icmp .eq 15, 3) := by decide +kernel
theorem dX7_readCondition_125 : decode cX7_readCondition 125 = .ok (.iload_n 3, 1) := by decide +kernel
theorem dX7_readCondition_126 : decode cX7_readCondition 126 = .ok (.bipush 22, 2) := by decide +kernel
theorem dX7_readCondition_128 : decode cX7_readCondition 128 = .ok (.if_icmp .eq 9, 3) := by decide +kernel
theorem dX7_readCondition_131 : decode cX7_readCondition 131 = .ok (.aload_n 0, 1) := by decide +kernel
theorem dX7_readCondition_132 : decode cX7_readCondition 132 = .ok (.iconst 1, 1) := by decide +kernel
theorem dX7_readCondition_133 : decode cX7_readCondition 133 = .ok (.invokevirtual 65, 3) := by decide +kernel
theorem dX7_readCondition_136 : decode cX7_readCondition 136 = .ok (.ireturn, 1) := by decide +kernel
theorem dX7_readCondition_137 : decode cX7_readCondition 137 = .ok (.aload_n 0, 1) := by decide +kernel
theorem dX7_readCondition_138 : decode cX7_readCondition 138 = .ok (.dup, 1) := by decide +kernel
theorem dX7_readCondition_139 : decode cX7_readCondition 139 = .ok (.getfield 51, 3) := by decide +kernel
theorem dX7_readCondition_142 : decode cX7_readCondition 142 = .ok (.iconst 1, 1) := by decide +kernel
theorem dX7_readCondition_143 : decode cX7_readCondition 143 = .ok (.iadd, 1) := by decide +kernel
theorem dX7_readCondition_144 : decode cX7_readCondition 144 = .ok (.putfield 51, 3) := by decide +kernel
theorem dX7_readCondition_147 : decode cX7_readCondition 147 = .ok (.aload_n 0, 1) := by decide +kernel
theorem dX7_readCondition_148 : decode cX7_readCondition 148 = .ok (.invokevirtual 72, 3) := by decide +kernel
theorem dX7_readCondition_151 : decode cX7_readCondition 151 = .ok (.istore 4, 2) := by decide +kernel
theorem dX7_readCondition_153 : decode cX7_readCondition 153 = .ok (.aload_n 0, 1) := by decide +kernel
theorem dX7_readCondition_154 : decode cX7_readCondition 154 = .ok (.getfield 32, 3) := by decide +kernel
theorem dX7_readCondition_157 : decode cX7_readCondition 157 = .ok (.iload_n 3, 1) := by decide +kernel
theorem dX7_readCondition_158 : decode cX7_readCondition 158 = .ok (.iconst (-1), 1) := by decide +kernel
theorem dX7_readCondition_159 : decode cX7_readCondition 159 = .ok (.ixor, 1) := by decide +kernel
theorem dX7_readCondition_160 : decode cX7_readCondition 160 = .ok (.invokevirtual 78, 3) := by decide +kernel
theorem dX7_readCondition_163 : decode cX7_readCondition 163 = .ok (.iload 4, 2) := by decide +kernel
theorem dX7_readCondition_165 : decode cX7_readCondition 165 = .ok (.ireturn, 1) := by decide +kernel
theorem dX7_readSum_0 : decode cX7_readSum 0 = .ok (.iconst (-1), 1) := by decide +kernel
theorem dX7_readSum_1 : decode cX7_readSum 1 = .ok (.istore_n 1, 1) := by decide +kernel
theorem dX7_readSum_2 : decode cX7_readSum 2 = .ok (.aload_n 0, 1) := by decide +kernel
theorem dX7_readSum_3 : decode cX7_readSum 3 = .ok (.invokevirtual 85, 3) := by decide +kernel
theorem dX7_readSum_6 : decode cX7_readSum 6 = .ok (.istore_n 2, 1) := by decide +kernel
theorem dX7_readSum_7 : decode cX7_readSum 7 = .ok (.iconst 0, 1) := by decide +kernel
theorem dX7_readSum_8 : decode cX7_readSum 8 = .ok (.istore_n 3, 1) := by decide +kernel
theorem dX7_readSum_9 : decode cX7_readSum 9 = .ok (.iload_n 3, 1) := by decide +kernel
theorem dX7_readSum_10 : decode cX7_readSum 10 = .ok (.sipush 400, 3) := by decide +kernel
theorem dX7_readSum_13 : decode cX7_readSum 13 = .ok (.if_icmp .ge 144, 3) := by decide +kernel
theorem dX7_readSum_16 : decode cX7_readSum 16 = .ok (.iload_n 2, 1) := by decide +kernel
theorem dX7_readSum_17 : decode cX7_readSum 17 = .ok (.ifCond .eq 140, 3) := by decide +kernel
theorem dX7_readSum_20 : decode cX7_readSum 20 = .ok (.aload_n 0, 1) := by decide +kernel
theorem dX7_readSum_21 : decode cX7_readSum 21 = .ok (.getfield 19, 3) := by decide +kernel
theorem dX7_readSum_24 : decode cX7_readSum 24 = .ok (.aload_n 0, 1) := by decide +kernel
theorem dX7_readSum_25 : decode cX7_readSum 25 = .ok (.getfield 51, 3) := by decide +kernel
theorem dX7_readSum_28 : decode cX7_readSum 28 = .ok (.iaload, 1) := by decide +kernel
theorem dX7_readSum_29 : decode cX7_readSum 29 = .ok (.bipush 14, 2) := by decide +kernel
theorem dX7_readSum_31 : decode cX7_readSum 31 = .ok (.if_icmp .lt 126, 3) := by decide +kernel
theorem dX7_readSum_34 : decode cX7_readSum 34 = .ok (.aload_n 0, 1) := by decide +kernel
theorem dX7_readSum_35 : decode cX7_readSum 35 = .ok (.getfield 19, 3) := by decide +kernel
theorem dX7_readSum_38 : decode cX7_readSum 38 = .ok (.aload_n 0, 1) := by decide +kernel
theorem dX7_readSum_39 : decode cX7_readSum 39 = .ok (.getfield 51, 3) := by decide +kernel
theorem dX7_readSum_42 : decode cX7_readSum 42 = .ok (.iaload, 1) := by decide +kernel
theorem dX7_readSum_43 : decode cX7_readSum 43 = .ok (.bipush 17, 2) := by decide +kernel
theorem dX7_readSum_45 : decode cX7_readSum 45 = .ok (.if_icmp .gt 112, 3) := by decide +kernel
theorem dX7_readSum_48 : decode cX7_readSum 48 = .ok (.aload_n 0, 1) := by decide +kernel
theorem dX7_readSum_49 : decode cX7_readSum 49 = .ok (.getfield 19, 3) := by decide +kernel
theorem dX7_readSum_52 : decode cX7_readSum 52 = .ok (.aload_n 0, 1) := by decide +kernel
theorem dX7_readSum_53 : decode cX7_readSum 53 = .ok (.getfield 51, 3) := by decide +kernel
theorem dX7_readSum_56 : decode cX7_readSum 56 = .ok (.iaload, 1) := by decide +kernel
theorem dX7_readSum_57 : decode cX7_readSum 57 = .ok (.istore 4, 2) := by decide +kernel
theorem dX7_readSum_59 : decode cX7_readSum 59 = .ok (.iload 4, 2) := by decide +kernel
theorem dX7_readSum_61 : decode cX7_readSum 61 = .ok (.bipush 16, 2) := by decide +kernel
theorem dX7_readSum_63 : decode cX7_readSum 63 = .ok (.if_icmp .eq 10, 3) := by decide +kernel
theorem dX7_readSum_66 : decode cX7_readSum 66 = .ok (.iload 4, 2) := by decide +kernel
theorem dX7_readSum_68 : decode cX7_readSum 68 = .ok (.bipush 17, 2) := by decide +kernel
theorem dX7_readSum_70 : decode cX7_readSum 70 = .ok (.if_icmp .ne 7, 3) := by decide +kernel
theorem dX7_readSum_73 : decode cX7_readSum 73 = .ok (.iconst 1, 1) := by decide +kernel
theorem dX7_readSum_74 : decode cX7_readSum 74 = .ok (.goto 4, 3) := by decide +kernel
theorem dX7_readSum_77 : decode cX7_readSum 77 = .ok (.iconst 0, 1) := by decide +kernel
theorem dX7_readSum_78 : decode cX7_readSum 78 = .ok (.istore 5, 2) := by decide +kernel
theorem dX7_readSum_80 : decode cX7_readSum 80 = .ok (.aload_n 0, 1) := by decide +kernel
theorem dX7_readSum_81 : decode cX7_readSum 81 = .ok (.dup, 1) := by decide +kernel
theorem dX7_readSum_82 : decode cX7_readSum 82 = .ok (.getfield 51, 3) := by decide +kernel
theorem dX7_readSum_85 : decode cX7_readSum 85 = .ok (.iconst 1, 1) := by decide +kernel
theorem dX7_readSum_86 : decode cX7_readSum 86 = .ok (.iadd, 1) := by decide +kernel
theorem dX7_readSum_87 : decode cX7_readSum 87 = .ok (.putfield 51, 3) := by decide +kernel
theorem dX7_readSum_90 : decode cX7_readSum 90 = .ok (.iload 5, 2) := by decide +kernel
theorem dX7_readSum_92 : decode cX7_readSum 92 = .ok (.ifCond .ne 18, 3) := by decide +kernel
theorem dX7_readSum_95 : decode cX7_readSum 95 = .ok (.iload_n 1, 1) := by decide +kernel
theorem dX7_readSum_96 : decode cX7_readSum 96 = .ok (.iconst (-1), 1) := by decide +kernel
theorem dX7_readSum_97 : decode cX7_readSum 97 = .ok (.if_icmp .eq 13, 3) := by decide +kernel
theorem dX7_readSum_100 : decode cX7_readSum 100 = .ok (.aload_n 0, 1) := by decide +kernel
theorem dX7_readSum_101 : decode cX7_readSum 101 = .ok (.getfield 32, 3) := by decide +kernel
theorem dX7_readSum_104 : decode cX7_readSum 104 = .ok (.iload_n 1, 1) := by decide +kernel
theorem dX7_readSum_105 : decode cX7_readSum 105 = .ok (.iconst (-1), 1) := by decide +kernel
theorem dX7_readSum_106 : decode cX7_readSum 106 = .ok (.ixor, 1) := by decide +kernel
theorem dX7_readSum_107 : decode cX7_readSum 107 = .ok (.invokevirtual 78, 3) := by decide +kernel
theorem dX7_readSum_110 : decode cX7_readSum 110 = .ok (.iload 4, 2) := by decide +kernel
theorem dX7_readSum_112 : decode cX7_readSum 112 = .ok (.bipush 17, 2) := by decide +kernel
theorem dX7_readSum_114 : decode cX7_readSum 114 = .ok (.if_icmp .ne 10, 3) := by decide +kernel
theorem dX7_readSum_117 : decode cX7_readSum 117 = .ok (.aload_n 0, 1) := by decide +kernel
theorem dX7_readSum_118 : decode cX7_readSum 118 = .ok (.invokevirtual 88, 3) := by decide +kernel
theorem dX7_readSum_121 : decode cX7_readSum 121 = .ok (.goto 7, 3) := by decide +kernel
theorem dX7_readSum_124 : decode cX7_readSum 124 = .ok (.aload_n 0, 1) := by decide +kernel
theorem dX7_readSum_125 : decode cX7_readSum 125 = .ok (.invokevirtual 85, 3) := by decide +kernel
theorem dX7_readSum_128 : decode cX7_readSum 128 = .ok (.istore_n 2, 1) := by decide +kernel
theorem dX7_readSum_129 : decode cX7_readSum 129 = .ok (.iload 5, 2) := by decide +kernel
theorem dX7_readSum_131 : decode cX7_readSum 131 = .ok (.ifCond .eq 17, 3) := by decide +kernel
theorem dX7_readSum_134 : decode cX7_readSum 134 = .ok (.aload_n 0, 1) := by decide +kernel
theorem dX7_readSum_135 : decode cX7_readSum 135 = .ok (.getfield 32, 3) := by decide +kernel
theorem dX7_readSum_138 : decode cX7_readSum 138 = .ok (.iload 4, 2) := by decide +kernel
theorem dX7_readSum_140 : decode cX7_readSum 140 = .ok (.iconst (-1), 1) := by decide +kernel
theorem dX7_readSum_141 : decode cX7_readSum 141 = .ok (.ixor, 1) := by decide +kernel
theorem dX7_readSum_142 : decode cX7_readSum 142 = .ok (.invokevirtual 78, 3) := by decide +kernel
theorem dX7_readSum_145 : decode cX7_readSum 145 = .ok (.goto 6, 3) := by decide +kernel
theorem dX7_readSum_148 : decode cX7_readSum 148 = .ok (.iload 4, 2) := by decide +kernel
theorem dX7_readSum_150 : decode cX7_readSum 150 = .ok (.istore_n 1, 1) := by decide +kernel
theorem dX7_readSum_151 : decode cX7_readSum 151 = .ok (.iinc 3 1, 3) := by decide +kernel
theorem dX7_readSum_154 : decode cX7_readSum 154 = .ok (.goto (-145), 3) := by decide +kernel
theorem dX7_readSum_157 : decode cX7_readSum 157 = .ok (.iload_n 1, 1) := by decide +kernel
theorem dX7_readSum_158 : decode cX7_readSum 158 = .ok (.iconst (-1), 1) := by decide +kernel
theorem dX7_readSum_159 : decode cX7_readSum 159 = .ok (.if_icmp .eq 13, 3) := by decide +kernel
theorem dX7_readSum_162 : decode cX7_readSum 162 = .ok (.aload_n 0, 1) := by decide +kernel
theorem dX7_readSum_163 : decode cX7_readSum 163 = .ok (.getfield 32, 3) := by decide +kernel
theorem dX7_readSum_166 : decode cX7_readSum 166 = .ok (.iload_n 1, 1) := by decide +kernel
theorem dX7_readSum_167 : decode cX7_readSum 167 = .ok (.iconst (-1), 1) := by decide +kernel
theorem dX7_readSum_168 : decode cX7_readSum 168 = .ok (.ixor, 1) := by decide +kernel
theorem dX7_readSum_169 : decode cX7_readSum 169 = .ok (.invokevirtual 78, 3) := by decide +kernel
theorem dX7_readSum_172 : decode cX7_readSum 172 = .ok (.iload_n 2, 1) := by decide +kernel
theorem dX7_readSum_173 : decode cX7_readSum 173 = .ok (.ireturn, 1) := by decide +kernel
theorem dX7_readDivisor_0 : decode cX7_readDivisor 0 = .ok (.aload_n 0, 1) := by decide +kernel
theorem dX7_readDivisor_1 : decode cX7_readDivisor 1 = .ok (.getfield 19, 3) := by decide +kernel
theorem dX7_readDivisor_4 : decode cX7_readDivisor 4 = .ok (.aload_n 0, 1) := by decide +kernel
theorem dX7_readDivisor_5 : decode cX7_readDivisor 5 = .ok (.getfield 51, 3) := by decide +kernel
theorem dX7_readDivisor_8 : decode cX7_readDivisor 8 = .ok (.iaload, 1) := by decide +kernel
theorem dX7_readDivisor_9 : decode cX7_readDivisor 9 = .ok (.bipush 12, 2) := by decide +kernel
theorem dX7_readDivisor_11 : decode cX7_readDivisor 11 = .ok (.if_icmp .eq 9, 3) := by decide +kernel
theorem dX7_readDivisor_14 : decode cX7_readDivisor 14 = .ok (.aload_n 0, 1) := by decide +kernel
theorem dX7_readDivisor_15 : decode cX7_readDivisor 15 = .ok (.iconst 1, 1) := by decide +kernel
theorem dX7_readDivisor_16 : decode cX7_readDivisor 16 = .ok (.invokevirtual 65, 3) := by decide +kernel
theorem dX7_readDivisor_19 : decode cX7_readDivisor 19 = .ok (.ireturn, 1) := by decide +kernel
theorem dX7_readDivisor_20 : decode cX7_readDivisor 20 = .ok (.aload_n 0, 1) := by decide +kernel
theorem dX7_readDivisor_21 : decode cX7_readDivisor 21 = .ok (.getfield 26, 3) := by decide +kernel
theorem dX7_readDivisor_24 : decode cX7_readDivisor 24 = .ok (.aload_n 0, 1) := by decide +kernel
theorem dX7_readDivisor_25 : decode cX7_readDivisor 25 = .ok (.getfield 51, 3) := by decide +kernel
theorem dX7_readDivisor_28 : decode cX7_readDivisor 28 = .ok (.iaload, 1) := by decide +kernel
theorem dX7_readDivisor_29 : decode cX7_readDivisor 29 = .ok (.ifCond .ne 9, 3) := by decide +kernel
theorem dX7_readDivisor_32 : decode cX7_readDivisor 32 = .ok (.aload_n 0, 1) := by decide +kernel
theorem dX7_readDivisor_33 : decode cX7_readDivisor 33 = .ok (.iconst 2, 1) := by decide +kernel
theorem dX7_readDivisor_34 : decode cX7_readDivisor 34 = .ok (.invokevirtual 65, 3) := by decide +kernel
theorem dX7_readDivisor_37 : decode cX7_readDivisor 37 = .ok (.ireturn, 1) := by decide +kernel
theorem dX7_readDivisor_38 : decode cX7_readDivisor 38 = .ok (.aload_n 0, 1) := by decide +kernel
theorem dX7_readDivisor_39 : decode cX7_readDivisor 39 = .ok (.getfield 32, 3) := by decide +kernel
theorem dX7_readDivisor_42 : decode cX7_readDivisor 42 = .ok (.aload_n 0, 1) := by decide +kernel
theorem dX7_readDivisor_43 : decode cX7_readDivisor 43 = .ok (.getfield 26, 3) := by decide +kernel
theorem dX7_readDivisor_46 : decode cX7_readDivisor 46 = .ok (.aload_n 0, 1) := by decide +kernel
theorem dX7_readDivisor_47 : decode cX7_readDivisor 47 = .ok (.getfield 51, 3) := by decide +kernel
theorem dX7_readDivisor_50 : decode cX7_readDivisor 50 = .ok (.iaload, 1) := by decide +kernel
theorem dX7_readDivisor_51 : decode cX7_readDivisor 51 = .ok (.invokevirtual 78, 3) := by decide +kernel
theorem dX7_readDivisor_54 : decode cX7_readDivisor 54 = .ok (.aload_n 0, 1) := by decide +kernel
theorem dX7_readDivisor_55 : decode cX7_readDivisor 55 = .ok (.dup, 1) := by decide +kernel
theorem dX7_readDivisor_56 : decode cX7_readDivisor 56 = .ok (.getfield 51, 3) := by decide +kernel
theorem dX7_readDivisor_59 : decode cX7_readDivisor 59 = .ok (.iconst 1, 1) := by decide +kernel
theorem dX7_readDivisor_60 : decode cX7_readDivisor 60 = .ok (.iadd, 1) := by decide +kernel
theorem dX7_readDivisor_61 : decode cX7_readDivisor 61 = .ok (.putfield 51, 3) := by decide +kernel
theorem dX7_readDivisor_64 : decode cX7_readDivisor 64 = .ok (.iconst 1, 1) := by decide +kernel
theorem dX7_readDivisor_65 : decode cX7_readDivisor 65 = .ok (.ireturn, 1) := by decide +kernel
theorem dX7_readUnit_0 : decode cX7_readUnit 0 = .ok (.aload_n 0, 1) := by decide +kernel
theorem dX7_readUnit_1 : decode cX7_readUnit 1 = .ok (.getfield 19, 3) := by decide +kernel
theorem dX7_readUnit_4 : decode cX7_readUnit 4 = .ok (.aload_n 0, 1) := by decide +kernel
theorem dX7_readUnit_5 : decode cX7_readUnit 5 = .ok (.getfield 51, 3) := by decide +kernel
theorem dX7_readUnit_8 : decode cX7_readUnit 8 = .ok (.iaload, 1) := by decide +kernel
theorem dX7_readUnit_9 : decode cX7_readUnit 9 = .ok (.bipush 12, 2) := by decide +kernel
theorem dX7_readUnit_11 : decode cX7_readUnit 11 = .ok (.if_icmp .ne 22, 3) := by decide +kernel
theorem dX7_readUnit_14 : decode cX7_readUnit 14 = .ok (.aload_n 0, 1) := by decide +kernel
theorem dX7_readUnit_15 : decode cX7_readUnit 15 = .ok (.getfield 32, 3) := by decide +kernel
theorem dX7_readUnit_18 : decode cX7_readUnit 18 = .ok (.aload_n 0, 1) := by decide +kernel
theorem dX7_readUnit_19 : decode cX7_readUnit 19 = .ok (.getfield 26, 3) := by decide +kernel
theorem dX7_readUnit_22 : decode cX7_readUnit 22 = .ok (.aload_n 0, 1) := by decide +kernel
theorem dX7_readUnit_23 : decode cX7_readUnit 23 = .ok (.getfield 51, 3) := by decide +kernel
theorem dX7_readUnit_26 : decode cX7_readUnit 26 = .ok (.iaload, 1) := by decide +kernel
theorem dX7_readUnit_27 : decode cX7_readUnit 27 = .ok (.invokevirtual 78, 3) := by decide +kernel
theorem dX7_readUnit_30 : decode cX7_readUnit 30 = .ok (.goto 79, 3) := by decide +kernel
theorem dX7_readUnit_33 : decode cX7_readUnit 33 = .ok (.aload_n 0, 1) := by decide +kernel
theorem dX7_readUnit_34 : decode cX7_readUnit 34 = .ok (.getfield 19, 3) := by decide +kernel
theorem dX7_readUnit_37 : decode cX7_readUnit 37 = .ok (.aload_n 0, 1) := by decide +kernel
theorem dX7_readUnit_38 : decode cX7_readUnit 38 = .ok (.getfield 51, 3) := by decide +kernel
theorem dX7_readUnit_41 : decode cX7_readUnit 41 = .ok (.iaload, 1) := by decide +kernel
theorem dX7_readUnit_42 : decode cX7_readUnit 42 = .ok (.bipush 7, 2) := by decide +kernel
theorem dX7_readUnit_44 : decode cX7_readUnit 44 = .ok (.if_icmp .ge 59, 3) := by decide +kernel
theorem dX7_readUnit_47 : decode cX7_readUnit 47 = .ok (.aload_n 0, 1) := by decide +kernel
theorem dX7_readUnit_48 : decode cX7_readUnit 48 = .ok (.getfield 32, 3) := by decide +kernel
theorem dX7_readUnit_51 : decode cX7_readUnit 51 = .ok (.aload_n 0, 1) := by decide +kernel
theorem dX7_readUnit_52 : decode cX7_readUnit 52 = .ok (.getfield 19, 3) := by decide +kernel
theorem dX7_readUnit_55 : decode cX7_readUnit 55 = .ok (.aload_n 0, 1) := by decide +kernel
theorem dX7_readUnit_56 : decode cX7_readUnit 56 = .ok (.getfield 51, 3) := by decide +kernel
theorem dX7_readUnit_59 : decode cX7_readUnit 59 = .ok (.iaload, 1) := by decide +kernel
theorem dX7_readUnit_60 : decode cX7_readUnit 60 = .ok (.iconst (-1), 1) := by decide +kernel
theorem dX7_readUnit_61 : decode cX7_readUnit 61 = .ok (.ixor, 1) := by decide +kernel
theorem dX7_readUnit_62 : decode cX7_readUnit 62 = .ok (.invokevirtual 78, 3) := by decide +kernel
theorem dX7_readUnit_65 : decode cX7_readUnit 65 = .ok (.aload_n 0, 1) := by decide +kernel
theorem dX7_readUnit_66 : decode cX7_readUnit 66 = .ok (.getfield 32, 3) := by decide +kernel
theorem dX7_readUnit_69 : decode cX7_readUnit 69 = .ok (.aload_n 0, 1) := by decide +kernel
theorem dX7_readUnit_70 : decode cX7_readUnit 70 = .ok (.getfield 32, 3) := by decide +kernel
theorem dX7_readUnit_73 : decode cX7_readUnit 73 = .ok (.getfield 91, 3) := by decide +kernel
theorem dX7_readUnit_76 : decode cX7_readUnit 76 = .ok (.ifCond .ne 16, 3) := by decide +kernel
theorem dX7_readUnit_79 : decode cX7_readUnit 79 = .ok (.aload_n 0, 1) := by decide +kernel
theorem dX7_readUnit_80 : decode cX7_readUnit 80 = .ok (.getfield 19, 3) := by decide +kernel
theorem dX7_readUnit_83 : decode cX7_readUnit 83 = .ok (.aload_n 0, 1) := by decide +kernel
theorem dX7_readUnit_84 : decode cX7_readUnit 84 = .ok (.getfield 51, 3) := by decide +kernel
theorem dX7_readUnit_87 : decode cX7_readUnit 87 = .ok (.iaload, 1) := by decide +kernel
theorem dX7_readUnit_88 : decode cX7_readUnit 88 = .ok (.iconst 5, 1) := by decide +kernel
theorem dX7_readUnit_89 : decode cX7_readUnit 89 = .ok (.if_icmp .ne 7, 3) := by decide +kernel
theorem dX7_readUnit_92 : decode cX7_readUnit 92 = .ok (.iconst 1, 1) := by decide +kernel
theorem dX7_readUnit_93 : decode cX7_readUnit 93 = .ok (.goto 4, 3) := by decide +kernel
theorem dX7_readUnit_96 : decode cX7_readUnit 96 = .ok (.iconst 0, 1) := by decide +kernel
theorem dX7_readUnit_97 : decode cX7_readUnit 97 = .ok (.putfield 91, 3) := by decide +kernel
theorem dX7_readUnit_100 : decode cX7_readUnit 100 = .ok (.goto 9, 3) := by decide +kernel
theorem dX7_readUnit_103 : decode cX7_readUnit 103 = .ok (.aload_n 0, 1) := by decide +kernel
theorem dX7_readUnit_104 : decode cX7_readUnit 104 = .ok (.iconst 1, 1) := by decide +kernel
theorem dX7_readUnit_105 : decode cX7_readUnit 105 = .ok (.invokevirtual 65, 3) := by decide +kernel
theorem dX7_readUnit_108 : decode cX7_readUnit 108 = .ok (.ireturn, 1) := by decide +kernel
theorem dX7_readUnit_109 : decode cX7_readUnit 109 = .ok (.aload_n 0, 1) := by decide +kernel
theorem dX7_readUnit_110 : decode cX7_readUnit 110 = .ok (.dup, 1) := by decide +kernel
theorem dX7_readUnit_111 : decode cX7_readUnit 111 = .ok (.getfield 51, 3) := by decide +kernel
theorem dX7_readUnit_114 : decode cX7_readUnit 114 = .ok (.iconst 1, 1) := by decide +kernel
theorem dX7_readUnit_115 : decode cX7_readUnit 115 = .ok (.iadd, 1) := by decide +kernel
theorem dX7_readUnit_116 : decode cX7_readUnit 116 = .ok (.putfield 51, 3) := by decide +kernel
theorem dX7_readUnit_119 : decode cX7_readUnit 119 = .ok (.iconst 1, 1) := by decide +kernel
theorem dX7_readUnit_120 : decode cX7_readUnit 120 = .ok (.ireturn, 1) := by decide +kernel
theorem dX7_splitTokens_0 : decode cX7_splitTokens 0 = .ok (.aload_n 0, 1) := by decide +kernel
theorem dX7_splitTokens_1 : decode cX7_splitTokens 1 = .ok (.iconst 0, 1) := by decide +kernel
theorem dX7_splitTokens_2 : decode cX7_splitTokens 2 = .ok (.putfield 95, 3) := by decide +kernel
theorem dX7_splitTokens_5 : decode cX7_splitTokens 5 = .ok (.iconst 0, 1) := by decide +kernel
theorem dX7_splitTokens_6 : decode cX7_splitTokens 6 = .ok (.istore_n 1, 1) := by decide +kernel
theorem dX7_splitTokens_7 : decode cX7_splitTokens 7 = .ok (.iconst 0, 1) := by decide +kernel
theorem dX7_splitTokens_8 : decode cX7_splitTokens 8 = .ok (.istore_n 2, 1) := by decide +kernel
theorem dX7_splitTokens_9 : decode cX7_splitTokens 9 = .ok (.iload_n 2, 1) := by decide +kernel
theorem dX7_splitTokens_10 : decode cX7_splitTokens 10 = .ok (.sipush 400, 3) := by decide +kernel
theorem dX7_splitTokens_13 : decode cX7_splitTokens 13 = .ok (.if_icmp .ge 106, 3) := by decide +kernel
theorem dX7_splitTokens_16 : decode cX7_splitTokens 16 = .ok (.iload_n 1, 1) := by decide +kernel
theorem dX7_splitTokens_17 : decode cX7_splitTokens 17 = .ok (.aload_n 0, 1) := by decide +kernel
theorem dX7_splitTokens_18 : decode cX7_splitTokens 18 = .ok (.getfield 36, 3) := by decide +kernel
theorem dX7_splitTokens_21 : decode cX7_splitTokens 21 = .ok (.if_icmp .ge 98, 3) := by decide +kernel
theorem dX7_splitTokens_24 : decode cX7_splitTokens 24 = .ok (.aload_n 0, 1) := by decide +kernel
theorem dX7_splitTokens_25 : decode cX7_splitTokens 25 = .ok (.getfield 15, 3) := by decide +kernel
theorem dX7_splitTokens_28 : decode cX7_splitTokens 28 = .ok (.iload_n 1, 1) := by decide +kernel
theorem dX7_splitTokens_29 : decode cX7_splitTokens 29 = .ok (.caload, 1) := by decide +kernel
theorem dX7_splitTokens_30 : decode cX7_splitTokens 30 = .ok (.istore_n 3, 1) := by decide +kernel
theorem dX7_splitTokens_31 : decode cX7_splitTokens 31 = .ok (.iload_n 3, 1) := by decide +kernel
theorem dX7_splitTokens_32 : decode cX7_splitTokens 32 = .ok (.bipush 32, 2) := by decide +kernel
theorem dX7_splitTokens_34 : decode cX7_splitTokens 34 = .ok (.if_icmp .eq 9, 3) := by decide +kernel
theorem dX7_splitTokens_37 : decode cX7_splitTokens 37 = .ok (.iload_n 3, 1) := by decide +kernel
theorem dX7_splitTokens_38 : decode cX7_splitTokens 38 = .ok (.bipush 10, 2) := by decide +kernel
theorem dX7_splitTokens_40 : decode cX7_splitTokens 40 = .ok (.if_icmp .ne 9, 3) := by decide +kernel
theorem dX7_splitTokens_43 : decode cX7_splitTokens 43 = .ok (.iinc 1 1, 3) := by decide +kernel
theorem dX7_splitTokens_46 : decode cX7_splitTokens 46 = .ok (.goto 67, 3) := by decide +kernel
theorem dX7_splitTokens_49 : decode cX7_splitTokens 49 = .ok (.iload_n 3, 1) := by decide +kernel
theorem dX7_splitTokens_50 : decode cX7_splitTokens 50 = .ok (.invokestatic 98, 3) := by decide +kernel
theorem dX7_splitTokens_53 : decode cX7_splitTokens 53 = .ok (.ifCond .eq 12, 3) := by decide +kernel
theorem dX7_splitTokens_56 : decode cX7_splitTokens 56 = .ok (.aload_n 0, 1) := by decide +kernel
theorem dX7_splitTokens_57 : decode cX7_splitTokens 57 = .ok (.iload_n 1, 1) := by decide +kernel
theorem dX7_splitTokens_58 : decode cX7_splitTokens 58 = .ok (.invokevirtual 102, 3) := by decide +kernel
theorem dX7_splitTokens_61 : decode cX7_splitTokens 61 = .ok (.istore_n 1, 1) := by decide +kernel
theorem dX7_splitTokens_62 : decode cX7_splitTokens 62 = .ok (.goto 51, 3) := by decide +kernel
theorem dX7_splitTokens_65 : decode cX7_splitTokens 65 = .ok (.iload_n 3, 1) := by decide +kernel
theorem dX7_splitTokens_66 : decode cX7_splitTokens 66 = .ok (.invokestatic 106, 3) := by decide +kernel
theorem dX7_splitTokens_69 : decode cX7_splitTokens 69 = .ok (.ifCond .eq 12, 3) := by decide +kernel
theorem dX7_splitTokens_72 : decode cX7_splitTokens 72 = .ok (.aload_n 0, 1) := by decide +kernel
theorem dX7_splitTokens_73 : decode cX7_splitTokens 73 = .ok (.iload_n 1, 1) := by decide +kernel
theorem dX7_splitTokens_74 : decode cX7_splitTokens 74 = .ok (.invokevirtual 109, 3) := by decide +kernel
theorem dX7_splitTokens_77 : decode cX7_splitTokens 77 = .ok (.istore_n 1, 1) := by decide +kernel
theorem dX7_splitTokens_78 : decode cX7_splitTokens 78 = .ok (.goto 35, 3) := by decide +kernel
theorem dX7_splitTokens_81 : decode cX7_splitTokens 81 = .ok (.ldc 112, 2) := by decide +kernel
theorem dX7_splitTokens_83 : decode cX7_splitTokens 83 = .ok (.iload_n 3, 1) := by decide +kernel
theorem dX7_splitTokens_84 : decode cX7_splitTokens 84 = .ok (.invokevirtual 114, 3) := by decide +kernel
theorem dX7_splitTokens_87 : decode cX7_splitTokens 87 = .ok (.istore 4, 2) := by decide +kernel
theorem dX7_splitTokens_89 : decode cX7_splitTokens 89 = .ok (.aload_n 0, 1) := by decide +kernel
theorem dX7_splitTokens_90 : decode cX7_splitTokens 90 = .ok (.iload 4, 2) := by decide +kernel
theorem dX7_splitTokens_92 : decode cX7_splitTokens 92 = .ok (.ifCond .lt 11, 3) := by decide +kernel
theorem dX7_splitTokens_95 : decode cX7_splitTokens 95 = .ok (.bipush 13, 2) := by decide +kernel
theorem dX7_splitTokens_97 : decode cX7_splitTokens 97 = .ok (.iload 4, 2) := by decide +kernel
theorem dX7_splitTokens_99 : decode cX7_splitTokens 99 = .ok (.iadd, 1) := by decide +kernel
theorem dX7_splitTokens_100 : decode cX7_splitTokens 100 = .ok (.goto 5, 3) := by decide +kernel
theorem dX7_splitTokens_103 : decode cX7_splitTokens 103 = .ok (.bipush 24, 2) := by decide +kernel
theorem dX7_splitTokens_105 : decode cX7_splitTokens 105 = .ok (.iload_n 1, 1) := by decide +kernel
theorem dX7_splitTokens_106 : decode cX7_splitTokens 106 = .ok (.iconst 0, 1) := by decide +kernel
theorem dX7_splitTokens_107 : decode cX7_splitTokens 107 = .ok (.invokevirtual 119, 3) := by decide +kernel
theorem dX7_splitTokens_110 : decode cX7_splitTokens 110 = .ok (.iinc 1 1, 3) := by decide +kernel
theorem dX7_splitTokens_113 : decode cX7_splitTokens 113 = .ok (.iinc 2 1, 3) := by decide +kernel
theorem dX7_splitTokens_116 : decode cX7_splitTokens 116 = .ok (.goto (-107), 3) := by decide +kernel
theorem dX7_splitTokens_119 : decode cX7_splitTokens 119 = .ok (.aload_n 0, 1) := by decide +kernel
theorem dX7_splitTokens_120 : decode cX7_splitTokens 120 = .ok (.bipush 23, 2) := by decide +kernel
theorem dX7_splitTokens_122 : decode cX7_splitTokens 122 = .ok (.aload_n 0, 1) := by decide +kernel
theorem dX7_splitTokens_123 : decode cX7_splitTokens 123 = .ok (.getfield 36, 3) := by decide +kernel
theorem dX7_splitTokens_126 : decode cX7_splitTokens 126 = .ok (.iconst 0, 1) := by decide +kernel
theorem dX7_splitTokens_127 : decode cX7_splitTokens 127 = .ok (.invokevirtual 119, 3) := by decide +kernel
theorem dX7_splitTokens_130 : decode cX7_splitTokens 130 = .ok (.return_, 1) := by decide +kernel
theorem dX7_addToken_0 : decode cX7_addToken 0 = .ok (.aload_n 0, 1) := by decide +kernel
theorem dX7_addToken_1 : decode cX7_addToken 1 = .ok (.getfield 95, 3) := by decide +kernel
theorem dX7_addToken_4 : decode cX7_addToken 4 = .ok (.aload_n 0, 1) := by decide +kernel
theorem dX7_addToken_5 : decode cX7_addToken 5 = .ok (.getfield 19, 3) := by decide +kernel
theorem dX7_addToken_8 : decode cX7_addToken 8 = .ok (.arraylength, 1) := by decide +kernel
theorem dX7_addToken_9 : decode cX7_addToken 9 = .ok (.if_icmp .ge 43, 3) := by decide +kernel
theorem dX7_addToken_12 : decode cX7_addToken 12 = .ok (.aload_n 0, 1) := by decide +kernel
theorem dX7_addToken_13 : decode cX7_addToken 13 = .ok (.getfield 19, 3) := by decide +kernel
theorem dX7_addToken_16 : decode cX7_addToken 16 = .ok (.aload_n 0, 1) := by decide +kernel
theorem dX7_addToken_17 : decode cX7_addToken 17 = .ok (.getfield 95, 3) := by decide +kernel
theorem dX7_addToken_20 : decode cX7_addToken 20 = .ok (.iload_n 1, 1) := by decide +kernel
theorem dX7_addToken_21 : decode cX7_addToken 21 = .ok (.iastore, 1) := by decide +kernel
theorem dX7_addToken_22 : decode cX7_addToken 22 = .ok (.aload_n 0, 1) := by decide +kernel
theorem dX7_addToken_23 : decode cX7_addToken 23 = .ok (.getfield 23, 3) := by decide +kernel
theorem dX7_addToken_26 : decode cX7_addToken 26 = .ok (.aload_n 0, 1) := by decide +kernel
theorem dX7_addToken_27 : decode cX7_addToken 27 = .ok (.getfield 95, 3) := by decide +kernel
theorem dX7_addToken_30 : decode cX7_addToken 30 = .ok (.iload_n 2, 1) := by decide +kernel
theorem dX7_addToken_31 : decode cX7_addToken 31 = .ok (.iastore, 1) := by decide +kernel
theorem dX7_addToken_32 : decode cX7_addToken 32 = .ok (.aload_n 0, 1) := by decide +kernel
theorem dX7_addToken_33 : decode cX7_addToken 33 = .ok (.getfield 26, 3) := by decide +kernel
theorem dX7_addToken_36 : decode cX7_addToken 36 = .ok (.aload_n 0, 1) := by decide +kernel
theorem dX7_addToken_37 : decode cX7_addToken 37 = .ok (.getfield 95, 3) := by decide +kernel
theorem dX7_addToken_40 : decode cX7_addToken 40 = .ok (.iload_n 3, 1) := by decide +kernel
