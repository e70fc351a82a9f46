theorem dX7_addToken_41 : decode cX7_addToken 41 = .ok (.iastore, 1) := by decide +kernel
theorem dX7_addToken_42 : decode cX7_addToken 42 = .ok (.aload_n 0, 1) := by decide +kernel
theorem dX7_addToken_43 : decode cX7_addToken 43 = .ok (.dup, 1) := by decide +kernel
theorem dX7_addToken_44 : decode cX7_addToken 44 = .ok (.getfield 95, 3) := by decide +kernel
theorem dX7_addToken_47 : decode cX7_addToken 47 = .ok (.iconst 1, 1) := by decide +kernel
theorem dX7_addToken_48 : decode cX7_addToken 48 = .ok (.iadd, 1) := by decide +kernel
theorem dX7_addToken_49 : decode cX7_addToken 49 = .ok (.putfield 95, 3) := by decide +kernel
theorem dX7_addToken_52 : decode cX7_addToken 52 = .ok (.return_, 1) := by decide +kernel
theorem dX7_splitWord_0 : decode cX7_splitWord 0 = .ok (.iload_n 1, 1) := by decide +kernel
theorem dX7_splitWord_1 : decode cX7_splitWord 1 = .ok (.istore_n 2, 1) := by decide +kernel
theorem dX7_splitWord_2 : decode cX7_splitWord 2 = .ok (.iload_n 2, 1) := by decide +kernel
theorem dX7_splitWord_3 : decode cX7_splitWord 3 = .ok (.aload_n 0, 1) := by decide +kernel
theorem dX7_splitWord_4 : decode cX7_splitWord 4 = .ok (.getfield 36, 3) := by decide +kernel
theorem dX7_splitWord_7 : decode cX7_splitWord 7 = .ok (.if_icmp .ge 21, 3) := by decide +kernel
theorem dX7_splitWord_10 : decode cX7_splitWord 10 = .ok (.aload_n 0, 1) := by decide +kernel
theorem dX7_splitWord_11 : decode cX7_splitWord 11 = .ok (.getfield 15, 3) := by decide +kernel
theorem dX7_splitWord_14 : decode cX7_splitWord 14 = .ok (.iload_n 2, 1) := by decide +kernel
theorem dX7_splitWord_15 : decode cX7_splitWord 15 = .ok (.caload, 1) := by decide +kernel
theorem dX7_splitWord_16 : decode cX7_splitWord 16 = .ok (.invokestatic 98, 3) := by decide +kernel
theorem dX7_splitWord_19 : decode cX7_splitWord 19 = .ok (.ifCond .eq 9, 3) := by decide +kernel
theorem dX7_splitWord_22 : decode cX7_splitWord 22 = .ok (.iinc 2 1, 3) := by decide +kernel
theorem dX7_splitWord_25 : decode cX7_splitWord 25 = .ok (.goto (-23), 3) := by decide +kernel
theorem dX7_splitWord_28 : decode cX7_splitWord 28 = .ok (.aload_n 0, 1) := by decide +kernel
theorem dX7_splitWord_29 : decode cX7_splitWord 29 = .ok (.aload_n 0, 1) := by decide +kernel
theorem dX7_splitWord_30 : decode cX7_splitWord 30 = .ok (.iload_n 1, 1) := by decide +kernel
theorem dX7_splitWord_31 : decode cX7_splitWord 31 = .ok (.iload_n 2, 1) := by decide +kernel
theorem dX7_splitWord_32 : decode cX7_splitWord 32 = .ok (.invokevirtual 123, 3) := by decide +kernel
theorem dX7_splitWord_35 : decode cX7_splitWord 35 = .ok (.iload_n 1, 1) := by decide +kernel
theorem dX7_splitWord_36 : decode cX7_splitWord 36 = .ok (.iconst 0, 1) := by decide +kernel
theorem dX7_splitWord_37 : decode cX7_splitWord 37 = .ok (.invokevirtual 119, 3) := by decide +kernel
theorem dX7_splitWord_40 : decode cX7_splitWord 40 = .ok (.iload_n 2, 1) := by decide +kernel
theorem dX7_splitWord_41 : decode cX7_splitWord 41 = .ok (.ireturn, 1) := by decide +kernel
theorem dX7_keywordOf_0 : decode cX7_keywordOf 0 = .ok (.iconst 0, 1) := by decide +kernel
theorem dX7_keywordOf_1 : decode cX7_keywordOf 1 = .ok (.istore_n 3, 1) := by decide +kernel
theorem dX7_keywordOf_2 : decode cX7_keywordOf 2 = .ok (.iconst 0, 1) := by decide +kernel
theorem dX7_keywordOf_3 : decode cX7_keywordOf 3 = .ok (.istore 4, 2) := by decide +kernel
theorem dX7_keywordOf_5 : decode cX7_keywordOf 5 = .ok (.iconst 0, 1) := by decide +kernel
theorem dX7_keywordOf_6 : decode cX7_keywordOf 6 = .ok (.istore 5, 2) := by decide +kernel
theorem dX7_keywordOf_8 : decode cX7_keywordOf 8 = .ok (.iload 5, 2) := by decide +kernel
theorem dX7_keywordOf_10 : decode cX7_keywordOf 10 = .ok (.ldc 127, 2) := by decide +kernel
theorem dX7_keywordOf_12 : decode cX7_keywordOf 12 = .ok (.invokevirtual 129, 3) := by decide +kernel
theorem dX7_keywordOf_15 : decode cX7_keywordOf 15 = .ok (.if_icmp .ge 55, 3) := by decide +kernel
theorem dX7_keywordOf_18 : decode cX7_keywordOf 18 = .ok (.ldc 127, 2) := by decide +kernel
theorem dX7_keywordOf_20 : decode cX7_keywordOf 20 = .ok (.iload 5, 2) := by decide +kernel
theorem dX7_keywordOf_22 : decode cX7_keywordOf 22 = .ok (.invokevirtual 132, 3) := by decide +kernel
theorem dX7_keywordOf_25 : decode cX7_keywordOf 25 = .ok (.bipush 32, 2) := by decide +kernel
theorem dX7_keywordOf_27 : decode cX7_keywordOf 27 = .ok (.if_icmp .ne 37, 3) := by decide +kernel
theorem dX7_keywordOf_30 : decode cX7_keywordOf 30 = .ok (.iload 5, 2) := by decide +kernel
theorem dX7_keywordOf_32 : decode cX7_keywordOf 32 = .ok (.iload 4, 2) := by decide +kernel
theorem dX7_keywordOf_34 : decode cX7_keywordOf 34 = .ok (.isub, 1) := by decide +kernel
theorem dX7_keywordOf_35 : decode cX7_keywordOf 35 = .ok (.iload_n 2, 1) := by decide +kernel
theorem dX7_keywordOf_36 : decode cX7_keywordOf 36 = .ok (.iload_n 1, 1) := by decide +kernel
theorem dX7_keywordOf_37 : decode cX7_keywordOf 37 = .ok (.isub, 1) := by decide +kernel
theorem dX7_keywordOf_38 : decode cX7_keywordOf 38 = .ok (.if_icmp .ne 17, 3) := by decide +kernel
theorem dX7_keywordOf_41 : decode cX7_keywordOf 41 = .ok (.aload_n 0, 1) := by decide +kernel
theorem dX7_keywordOf_42 : decode cX7_keywordOf 42 = .ok (.iload 4, 2) := by decide +kernel
theorem dX7_keywordOf_44 : decode cX7_keywordOf 44 = .ok (.iload 5, 2) := by decide +kernel
theorem dX7_keywordOf_46 : decode cX7_keywordOf 46 = .ok (.iload_n 1, 1) := by decide +kernel
theorem dX7_keywordOf_47 : decode cX7_keywordOf 47 = .ok (.invokevirtual 136, 3) := by decide +kernel
theorem dX7_keywordOf_50 : decode cX7_keywordOf 50 = .ok (.ifCond .eq 5, 3) := by decide +kernel
theorem dX7_keywordOf_53 : decode cX7_keywordOf 53 = .ok (.iload_n 3, 1) := by decide +kernel
theorem dX7_keywordOf_54 : decode cX7_keywordOf 54 = .ok (.ireturn, 1) := by decide +kernel
theorem dX7_keywordOf_55 : decode cX7_keywordOf 55 = .ok (.iinc 3 1, 3) := by decide +kernel
theorem dX7_keywordOf_58 : decode cX7_keywordOf 58 = .ok (.iload 5, 2) := by decide +kernel
theorem dX7_keywordOf_60 : decode cX7_keywordOf 60 = .ok (.iconst 1, 1) := by decide +kernel
theorem dX7_keywordOf_61 : decode cX7_keywordOf 61 = .ok (.iadd, 1) := by decide +kernel
theorem dX7_keywordOf_62 : decode cX7_keywordOf 62 = .ok (.istore 4, 2) := by decide +kernel
theorem dX7_keywordOf_64 : decode cX7_keywordOf 64 = .ok (.iinc 5 1, 3) := by decide +kernel
theorem dX7_keywordOf_67 : decode cX7_keywordOf 67 = .ok (.goto (-59), 3) := by decide +kernel
theorem dX7_keywordOf_70 : decode cX7_keywordOf 70 = .ok (.bipush 24, 2) := by decide +kernel
theorem dX7_keywordOf_72 : decode cX7_keywordOf 72 = .ok (.ireturn, 1) := by decide +kernel
theorem dX7_isKeyword_0 : decode cX7_isKeyword 0 = .ok (.iload_n 1, 1) := by decide +kernel
theorem dX7_isKeyword_1 : decode cX7_isKeyword 1 = .ok (.istore 4, 2) := by decide +kernel
theorem dX7_isKeyword_3 : decode cX7_isKeyword 3 = .ok (.iload 4, 2) := by decide +kernel
theorem dX7_isKeyword_5 : decode cX7_isKeyword 5 = .ok (.iload_n 2, 1) := by decide +kernel
theorem dX7_isKeyword_6 : decode cX7_isKeyword 6 = .ok (.if_icmp .ge 32, 3) := by decide +kernel
theorem dX7_isKeyword_9 : decode cX7_isKeyword 9 = .ok (.ldc 127, 2) := by decide +kernel
theorem dX7_isKeyword_11 : decode cX7_isKeyword 11 = .ok (.iload 4, 2) := by decide +kernel
theorem dX7_isKeyword_13 : decode cX7_isKeyword 13 = .ok (.invokevirtual 132, 3) := by decide +kernel
theorem dX7_isKeyword_16 : decode cX7_isKeyword 16 = .ok (.aload_n 0, 1) := by decide +kernel
theorem dX7_isKeyword_17 : decode cX7_isKeyword 17 = .ok (.getfield 15, 3) := by decide +kernel
theorem dX7_isKeyword_20 : decode cX7_isKeyword 20 = .ok (.iload_n 3, 1) := by decide +kernel
theorem dX7_isKeyword_21 : decode cX7_isKeyword 21 = .ok (.iload 4, 2) := by decide +kernel
theorem dX7_isKeyword_23 : decode cX7_isKeyword 23 = .ok (.iadd, 1) := by decide +kernel
theorem dX7_isKeyword_24 : decode cX7_isKeyword 24 = .ok (.iload_n 1, 1) := by decide +kernel
theorem dX7_isKeyword_25 : decode cX7_isKeyword 25 = .ok (.isub, 1) := by decide +kernel
theorem dX7_isKeyword_26 : decode cX7_isKeyword 26 = .ok (.caload, 1) := by decide +kernel
theorem dX7_isKeyword_27 : decode cX7_isKeyword 27 = .ok (.if_icmp .eq 5, 3) := by decide +kernel
theorem dX7_isKeyword_30 : decode cX7_isKeyword 30 = .ok (.iconst 0, 1) := by decide +kernel
theorem dX7_isKeyword_31 : decode cX7_isKeyword 31 = .ok (.ireturn, 1) := by decide +kernel
theorem dX7_isKeyword_32 : decode cX7_isKeyword 32 = .ok (.iinc 4 1, 3) := by decide +kernel
theorem dX7_isKeyword_35 : decode cX7_isKeyword 35 = .ok (.goto (-32), 3) := by decide +kernel
theorem dX7_isKeyword_38 : decode cX7_isKeyword 38 = .ok (.iconst 1, 1) := by decide +kernel
theorem dX7_isKeyword_39 : decode cX7_isKeyword 39 = .ok (.ireturn, 1) := by decide +kernel
theorem dX7_splitNumber_0 : decode cX7_splitNumber 0 = .ok (.iload_n 1, 1) := by decide +kernel
theorem dX7_splitNumber_1 : decode cX7_splitNumber 1 = .ok (.istore_n 2, 1) := by decide +kernel
theorem dX7_splitNumber_2 : decode cX7_splitNumber 2 = .ok (.iconst 0, 1) := by decide +kernel
theorem dX7_splitNumber_3 : decode cX7_splitNumber 3 = .ok (.istore_n 3, 1) := by decide +kernel
theorem dX7_splitNumber_4 : decode cX7_splitNumber 4 = .ok (.iload_n 2, 1) := by decide +kernel
theorem dX7_splitNumber_5 : decode cX7_splitNumber 5 = .ok (.aload_n 0, 1) := by decide +kernel
theorem dX7_splitNumber_6 : decode cX7_splitNumber 6 = .ok (.getfield 36, 3) := by decide +kernel
theorem dX7_splitNumber_9 : decode cX7_splitNumber 9 = .ok (.if_icmp .ge 43, 3) := by decide +kernel
theorem dX7_splitNumber_12 : decode cX7_splitNumber 12 = .ok (.aload_n 0, 1) := by decide +kernel
theorem dX7_splitNumber_13 : decode cX7_splitNumber 13 = .ok (.getfield 15, 3) := by decide +kernel
theorem dX7_splitNumber_16 : decode cX7_splitNumber 16 = .ok (.iload_n 2, 1) := by decide +kernel
theorem dX7_splitNumber_17 : decode cX7_splitNumber 17 = .ok (.caload, 1) := by decide +kernel
theorem dX7_splitNumber_18 : decode cX7_splitNumber 18 = .ok (.invokestatic 106, 3) := by decide +kernel
theorem dX7_splitNumber_21 : decode cX7_splitNumber 21 = .ok (.ifCond .eq 31, 3) := by decide +kernel
theorem dX7_splitNumber_24 : decode cX7_splitNumber 24 = .ok (.iload_n 2, 1) := by decide +kernel
theorem dX7_splitNumber_25 : decode cX7_splitNumber 25 = .ok (.iload_n 1, 1) := by decide +kernel
theorem dX7_splitNumber_26 : decode cX7_splitNumber 26 = .ok (.isub, 1) := by decide +kernel
theorem dX7_splitNumber_27 : decode cX7_splitNumber 27 = .ok (.iconst 4, 1) := by decide +kernel
theorem dX7_splitNumber_28 : decode cX7_splitNumber 28 = .ok (.if_icmp .ge 18, 3) := by decide +kernel
theorem dX7_splitNumber_31 : decode cX7_splitNumber 31 = .ok (.iload_n 3, 1) := by decide +kernel
theorem dX7_splitNumber_32 : decode cX7_splitNumber 32 = .ok (.bipush 10, 2) := by decide +kernel
theorem dX7_splitNumber_34 : decode cX7_splitNumber 34 = .ok (.imul, 1) := by decide +kernel
theorem dX7_splitNumber_35 : decode cX7_splitNumber 35 = .ok (.aload_n 0, 1) := by decide +kernel
theorem dX7_splitNumber_36 : decode cX7_splitNumber 36 = .ok (.getfield 15, 3) := by decide +kernel
theorem dX7_splitNumber_39 : decode cX7_splitNumber 39 = .ok (.iload_n 2, 1) := by decide +kernel
theorem dX7_splitNumber_40 : decode cX7_splitNumber 40 = .ok (.caload, 1) := by decide +kernel
theorem dX7_splitNumber_41 : decode cX7_splitNumber 41 = .ok (.bipush 48, 2) := by decide +kernel
theorem dX7_splitNumber_43 : decode cX7_splitNumber 43 = .ok (.isub, 1) := by decide +kernel
theorem dX7_splitNumber_44 : decode cX7_splitNumber 44 = .ok (.iadd, 1) := by decide +kernel
theorem dX7_splitNumber_45 : decode cX7_splitNumber 45 = .ok (.istore_n 3, 1) := by decide +kernel
theorem dX7_splitNumber_46 : decode cX7_splitNumber 46 = .ok (.iinc 2 1, 3) := by decide +kernel
theorem dX7_splitNumber_49 : decode cX7_splitNumber 49 = .ok (.goto (-45), 3) := by decide +kernel
theorem dX7_splitNumber_52 : decode cX7_splitNumber 52 = .ok (.aload_n 0, 1) := by decide +kernel
theorem dX7_splitNumber_53 : decode cX7_splitNumber 53 = .ok (.iload_n 2, 1) := by decide +kernel
theorem dX7_splitNumber_54 : decode cX7_splitNumber 54 = .ok (.iload_n 1, 1) := by decide +kernel
theorem dX7_splitNumber_55 : decode cX7_splitNumber 55 = .ok (.isub, 1) := by decide +kernel
theorem dX7_splitNumber_56 : decode cX7_splitNumber 56 = .ok (.iconst 4, 1) := by decide +kernel
theorem dX7_splitNumber_57 : decode cX7_splitNumber 57 = .ok (.if_icmp .gt 8, 3) := by decide +kernel
theorem dX7_splitNumber_60 : decode cX7_splitNumber 60 = .ok (.bipush 12, 2) := by decide +kernel
theorem dX7_splitNumber_62 : decode cX7_splitNumber 62 = .ok (.goto 5, 3) := by decide +kernel
theorem dX7_splitNumber_65 : decode cX7_splitNumber 65 = .ok (.bipush 24, 2) := by decide +kernel
theorem dX7_splitNumber_67 : decode cX7_splitNumber 67 = .ok (.iload_n 1, 1) := by decide +kernel
theorem dX7_splitNumber_68 : decode cX7_splitNumber 68 = .ok (.iload_n 3, 1) := by decide +kernel
theorem dX7_splitNumber_69 : decode cX7_splitNumber 69 = .ok (.invokevirtual 119, 3) := by decide +kernel
theorem dX7_splitNumber_72 : decode cX7_splitNumber 72 = .ok (.iload_n 2, 1) := by decide +kernel
theorem dX7_splitNumber_73 : decode cX7_splitNumber 73 = .ok (.ireturn, 1) := by decide +kernel
theorem dX7_isLetter_0 : decode cX7_isLetter 0 = .ok (.iload_n 0, 1) := by decide +kernel
theorem dX7_isLetter_1 : decode cX7_isLetter 1 = .ok (.bipush 97, 2) := by decide +kernel
theorem dX7_isLetter_3 : decode cX7_isLetter 3 = .ok (.if_icmp .lt 9, 3) := by decide +kernel
theorem dX7_isLetter_6 : decode cX7_isLetter 6 = .ok (.iload_n 0, 1) := by decide +kernel
theorem dX7_isLetter_7 : decode cX7_isLetter 7 = .ok (.bipush 122, 2) := by decide +kernel
theorem dX7_isLetter_9 : decode cX7_isLetter 9 = .ok (.if_icmp .le 15, 3) := by decide +kernel
theorem dX7_isLetter_12 : decode cX7_isLetter 12 = .ok (.iload_n 0, 1) := by decide +kernel
theorem dX7_isLetter_13 : decode cX7_isLetter 13 = .ok (.bipush 65, 2) := by decide +kernel
theorem dX7_isLetter_15 : decode cX7_isLetter 15 = .ok (.if_icmp .lt 13, 3) := by decide +kernel
theorem dX7_isLetter_18 : decode cX7_isLetter 18 = .ok (.iload_n 0, 1) := by decide +kernel
theorem dX7_isLetter_19 : decode cX7_isLetter 19 = .ok (.bipush 90, 2) := by decide +kernel
theorem dX7_isLetter_21 : decode cX7_isLetter 21 = .ok (.if_icmp .gt 7, 3) := by decide +kernel
theorem dX7_isLetter_24 : decode cX7_isLetter 24 = .ok (.iconst 1, 1) := by decide +kernel
theorem dX7_isLetter_25 : decode cX7_isLetter 25 = .ok (.goto 4, 3) := by decide +kernel
theorem dX7_isLetter_28 : decode cX7_isLetter 28 = .ok (.iconst 0, 1) := by decide +kernel
theorem dX7_isLetter_29 : decode cX7_isLetter 29 = .ok (.ireturn, 1) := by decide +kernel
theorem dX7_isDigit_0 : decode cX7_isDigit 0 = .ok (.iload_n 0, 1) := by decide +kernel
theorem dX7_isDigit_1 : decode cX7_isDigit 1 = .ok (.bipush 48, 2) := by decide +kernel
theorem dX7_isDigit_3 : decode cX7_isDigit 3 = .ok (.if_icmp .lt 13, 3) := by decide +kernel
theorem dX7_isDigit_6 : decode cX7_isDigit 6 = .ok (.iload_n 0, 1) := by decide +kernel
theorem dX7_isDigit_7 : decode cX7_isDigit 7 = .ok (.bipush 57, 2) := by decide +kernel
theorem dX7_isDigit_9 : decode cX7_isDigit 9 = .ok (.if_icmp .gt 7, 3) := by decide +kernel
theorem dX7_isDigit_12 : decode cX7_isDigit 12 = .ok (.iconst 1, 1) := by decide +kernel
theorem dX7_isDigit_13 : decode cX7_isDigit 13 = .ok (.goto 4, 3) := by decide +kernel
theorem dX7_isDigit_16 : decode cX7_isDigit 16 = .ok (.iconst 0, 1) := by decide +kernel
theorem dX7_isDigit_17 : decode cX7_isDigit 17 = .ok (.ireturn, 1) := by decide +kernel
theorem dX8_init_0 : decode cX8_init 0 = .ok (.aload_n 0, 1) := by decide +kernel
theorem dX8_init_1 : decode cX8_init 1 = .ok (.invokespecial 3, 3) := by decide +kernel
theorem dX8_init_4 : decode cX8_init 4 = .ok (.aload_n 0, 1) := by decide +kernel
theorem dX8_init_5 : decode cX8_init 5 = .ok (.bipush 40, 2) := by decide +kernel
theorem dX8_init_7 : decode cX8_init 7 = .ok (.newarray .int, 2) := by decide +kernel
theorem dX8_init_9 : decode cX8_init 9 = .ok (.putfield 9, 3) := by decide +kernel
theorem dX8_init_12 : decode cX8_init 12 = .ok (.aload_n 0, 1) := by decide +kernel
theorem dX8_init_13 : decode cX8_init 13 = .ok (.sipush 984, 3) := by decide +kernel
theorem dX8_init_16 : decode cX8_init 16 = .ok (.newarray .long, 2) := by decide +kernel
theorem dX8_init_18 : decode cX8_init 18 = .ok (.putfield 15, 3) := by decide +kernel
theorem dX8_init_21 : decode cX8_init 21 = .ok (.aload_n 0, 1) := by decide +kernel
theorem dX8_init_22 : decode cX8_init 22 = .ok (.sipush 960, 3) := by decide +kernel
theorem dX8_init_25 : decode cX8_init 25 = .ok (.newarray .boolean, 2) := by decide +kernel
theorem dX8_init_27 : decode cX8_init 27 = .ok (.putfield 19, 3) := by decide +kernel
theorem dX8_init_30 : decode cX8_init 30 = .ok (.return_, 1) := by decide +kernel
theorem dX8_countRows_0 : decode cX8_countRows 0 = .ok (.aload_n 0, 1) := by decide +kernel
theorem dX8_countRows_1 : decode cX8_countRows 1 = .ok (.iload_n 3, 1) := by decide +kernel
theorem dX8_countRows_2 : decode cX8_countRows 2 = .ok (.iload_n 2, 1) := by decide +kernel
theorem dX8_countRows_3 : decode cX8_countRows 3 = .ok (.isub, 1) := by decide +kernel
theorem dX8_countRows_4 : decode cX8_countRows 4 = .ok (.iconst 1, 1) := by decide +kernel
theorem dX8_countRows_5 : decode cX8_countRows 5 = .ok (.iadd, 1) := by decide +kernel
theorem dX8_countRows_6 : decode cX8_countRows 6 = .ok (.putfield 23, 3) := by decide +kernel
theorem dX8_countRows_9 : decode cX8_countRows 9 = .ok (.iconst 0, 1) := by decide +kernel
theorem dX8_countRows_10 : decode cX8_countRows 10 = .ok (.istore 4, 2) := by decide +kernel
theorem dX8_countRows_12 : decode cX8_countRows 12 = .ok (.iload 4, 2) := by decide +kernel
theorem dX8_countRows_14 : decode cX8_countRows 14 = .ok (.aload_n 0, 1) := by decide +kernel
theorem dX8_countRows_15 : decode cX8_countRows 15 = .ok (.getfield 23, 3) := by decide +kernel
theorem dX8_countRows_18 : decode cX8_countRows 18 = .ok (.if_icmp .ge 41, 3) := by decide +kernel
theorem dX8_countRows_21 : decode cX8_countRows 21 = .ok (.iconst 0, 1) := by decide +kernel
theorem dX8_countRows_22 : decode cX8_countRows 22 = .ok (.istore 5, 2) := by decide +kernel
theorem dX8_countRows_24 : decode cX8_countRows 24 = .ok (.iload 5, 2) := by decide +kernel
theorem dX8_countRows_26 : decode cX8_countRows 26 = .ok (.aload_n 1, 1) := by decide +kernel
theorem dX8_countRows_27 : decode cX8_countRows 27 = .ok (.getfield 27, 3) := by decide +kernel
theorem dX8_countRows_30 : decode cX8_countRows 30 = .ok (.if_icmp .ge 23, 3) := by decide +kernel
theorem dX8_countRows_33 : decode cX8_countRows 33 = .ok (.aload_n 0, 1) := by decide +kernel
theorem dX8_countRows_34 : decode cX8_countRows 34 = .ok (.getfield 19, 3) := by decide +kernel
theorem dX8_countRows_37 : decode cX8_countRows 37 = .ok (.iload 4, 2) := by decide +kernel
theorem dX8_countRows_39 : decode cX8_countRows 39 = .ok (.bipush 24, 2) := by decide +kernel
theorem dX8_countRows_41 : decode cX8_countRows 41 = .ok (.imul, 1) := by decide +kernel
theorem dX8_countRows_42 : decode cX8_countRows 42 = .ok (.iload 5, 2) := by decide +kernel
theorem dX8_countRows_44 : decode cX8_countRows 44 = .ok (.iadd, 1) := by decide +kernel
theorem dX8_countRows_45 : decode cX8_countRows 45 = .ok (.iconst 0, 1) := by decide +kernel
theorem dX8_countRows_46 : decode cX8_countRows 46 = .ok (.bastore, 1) := by decide +kernel
theorem dX8_countRows_47 : decode cX8_countRows 47 = .ok (.iinc 5 1, 3) := by decide +kernel
theorem dX8_countRows_50 : decode cX8_countRows 50 = .ok (.goto (-26), 3) := by decide +kernel
theorem dX8_countRows_53 : decode cX8_countRows 53 = .ok (.iinc 4 1, 3) := by decide +kernel
theorem dX8_countRows_56 : decode cX8_countRows 56 = .ok (.goto (-44), 3) := by decide +kernel
theorem dX8_countRows_59 : decode cX8_countRows 59 = .ok (.iconst 0, 1) := by decide +kernel
theorem dX8_countRows_60 : decode cX8_countRows 60 = .ok (.istore 4, 2) := by decide +kernel
theorem dX8_countRows_62 : decode cX8_countRows 62 = .ok (.iload 4, 2) := by decide +kernel
theorem dX8_countRows_64 : decode cX8_countRows 64 = .ok (.aload_n 1, 1) := by decide +kernel
theorem dX8_countRows_65 : decode cX8_countRows 65 = .ok (.getfield 32, 3) := by decide +kernel
theorem dX8_countRows_68 : decode cX8_countRows 68 = .ok (.getfield 36, 3) := by decide +kernel
theorem dX8_countRows_71 : decode cX8_countRows 71 = .ok (.if_icmp .ge 46, 3) := by decide +kernel
theorem dX8_countRows_74 : decode cX8_countRows 74 = .ok (.aload_n 1, 1) := by decide +kernel
theorem dX8_countRows_75 : decode cX8_countRows 75 = .ok (.getfield 32, 3) := by decide +kernel
theorem dX8_countRows_78 : decode cX8_countRows 78 = .ok (.getfield 41, 3) := by decide +kernel
theorem dX8_countRows_81 : decode cX8_countRows 81 = .ok (.iload 4, 2) := by decide +kernel
theorem dX8_countRows_83 : decode cX8_countRows 83 = .ok (.iaload, 1) := by decide +kernel
theorem dX8_countRows_84 : decode cX8_countRows 84 = .ok (.iload_n 2, 1) := by decide +kernel
theorem dX8_countRows_85 : decode cX8_countRows 85 = .ok (.iload_n 3, 1) := by decide +kernel
theorem dX8_countRows_86 : decode cX8_countRows 86 = .ok (.invokestatic 44, 3) := by decide +kernel
theorem dX8_countRows_89 : decode cX8_countRows 89 = .ok (.ifCond .eq 22, 3) := by decide +kernel
theorem dX8_countRows_92 : decode cX8_countRows 92 = .ok (.aload_n 0, 1) := by decide +kernel
theorem dX8_countRows_93 : decode cX8_countRows 93 = .ok (.aload_n 1, 1) := by decide +kernel
theorem dX8_countRows_94 : decode cX8_countRows 94 = .ok (.iload 4, 2) := by decide +kernel
theorem dX8_countRows_96 : decode cX8_countRows 96 = .ok (.aload_n 1, 1) := by decide +kernel
theorem dX8_countRows_97 : decode cX8_countRows 97 = .ok (.getfield 32, 3) := by decide +kernel
theorem dX8_countRows_100 : decode cX8_countRows 100 = .ok (.getfield 41, 3) := by decide +kernel
theorem dX8_countRows_103 : decode cX8_countRows 103 = .ok (.iload 4, 2) := by decide +kernel
theorem dX8_countRows_105 : decode cX8_countRows 105 = .ok (.iaload, 1) := by decide +kernel
theorem dX8_countRows_106 : decode cX8_countRows 106 = .ok (.iload_n 2, 1) := by decide +kernel
theorem dX8_countRows_107 : decode cX8_countRows 107 = .ok (.isub, 1) := by decide +kernel
theorem dX8_countRows_108 : decode cX8_countRows 108 = .ok (.invokevirtual 48, 3) := by decide +kernel
theorem dX8_countRows_111 : decode cX8_countRows 111 = .ok (.iinc 4 1, 3) := by decide +kernel
theorem dX8_countRows_114 : decode cX8_countRows 114 = .ok (.goto (-52), 3) := by decide +kernel
theorem dX8_countRows_117 : decode cX8_countRows 117 = .ok (.aload_n 0, 1) := by decide +kernel
theorem dX8_countRows_118 : decode cX8_countRows 118 = .ok (.aload_n 1, 1) := by decide +kernel
theorem dX8_countRows_119 : decode cX8_countRows 119 = .ok (.getfield 27, 3) := by decide +kernel
theorem dX8_countRows_122 : decode cX8_countRows 122 = .ok (.invokevirtual 52, 3) := by decide +kernel
theorem dX8_countRows_125 : decode cX8_countRows 125 = .ok (.lconst 0, 1) := by decide +kernel
theorem dX8_countRows_126 : decode cX8_countRows 126 = .ok (.lstore 4, 2) := by decide +kernel
theorem dX8_countRows_128 : decode cX8_countRows 128 = .ok (.iconst 0, 1) := by decide +kernel
theorem dX8_countRows_129 : decode cX8_countRows 129 = .ok (.istore 6, 2) := by decide +kernel
theorem dX8_countRows_131 : decode cX8_countRows 131 = .ok (.iload 6, 2) := by decide +kernel
theorem dX8_countRows_133 : decode cX8_countRows 133 = .ok (.aload_n 1, 1) := by decide +kernel
theorem dX8_countRows_134 : decode cX8_countRows 134 = .ok (.getfield 27, 3) := by decide +kernel
theorem dX8_countRows_137 : decode cX8_countRows 137 = .ok (.if_icmp .ge 21, 3) := by decide +kernel
theorem dX8_countRows_140 : decode cX8_countRows 140 = .ok (.lload 4, 2) := by decide +kernel
theorem dX8_countRows_142 : decode cX8_countRows 142 = .ok (.aload_n 0, 1) := by decide +kernel
theorem dX8_countRows_143 : decode cX8_countRows 143 = .ok (.getfield 15, 3) := by decide +kernel
theorem dX8_countRows_146 : decode cX8_countRows 146 = .ok (.iload 6, 2) := by decide +kernel
theorem dX8_countRows_148 : decode cX8_countRows 148 = .ok (.laload, 1) := by decide +kernel
theorem dX8_countRows_149 : decode cX8_countRows 149 = .ok (.ladd, 1) := by decide +kernel
theorem dX8_countRows_150 : decode cX8_countRows 150 = .ok (.lstore 4, 2) := by decide +kernel
theorem dX8_countRows_152 : decode cX8_countRows 152 = .ok (.iinc 6 1, 3) := by decide +kernel
theorem dX8_countRows_155 : decode cX8_countRows 155 = .ok (.goto (-24), 3) := by decide +kernel
theorem dX8_countRows_158 : decode cX8_countRows 158 = .ok (.lload 4, 2) := by decide +kernel
theorem dX8_countRows_160 : decode cX8_countRows 160 = .ok (.ldc2_w 56, 3) := by decide +kernel
theorem dX8_countRows_163 : decode cX8_countRows 163 = .ok (.invokestatic 58, 3) := by decide +kernel
theorem dX8_countRows_166 : decode cX8_countRows 166 = .ok (.lreturn, 1) := by decide +kernel
theorem dX8_denyUnlike_0 : decode cX8_denyUnlike 0 = .ok (.iconst 0, 1) := by decide +kernel
theorem dX8_denyUnlike_1 : decode cX8_denyUnlike 1 = .ok (.istore 4, 2) := by decide +kernel
theorem dX8_denyUnlike_3 : decode cX8_denyUnlike 3 = .ok (.iload 4, 2) := by decide +kernel
theorem dX8_denyUnlike_5 : decode cX8_denyUnlike 5 = .ok (.aload_n 1, 1) := by decide +kernel
theorem dX8_denyUnlike_6 : decode cX8_denyUnlike 6 = .ok (.getfield 27, 3) := by decide +kernel
theorem dX8_denyUnlike_9 : decode cX8_denyUnlike 9 = .ok (.if_icmp .ge 49, 3) := by decide +kernel
theorem dX8_denyUnlike_12 : decode cX8_denyUnlike 12 = .ok (.aload_n 1, 1) := by decide +kernel
theorem dX8_denyUnlike_13 : decode cX8_denyUnlike 13 = .ok (.aload_n 1, 1) := by decide +kernel
theorem dX8_denyUnlike_14 : decode cX8_denyUnlike 14 = .ok (.getfield 32, 3) := by decide +kernel
theorem dX8_denyUnlike_17 : decode cX8_denyUnlike 17 = .ok (.getfield 64, 3) := by decide +kernel
theorem dX8_denyUnlike_20 : decode cX8_denyUnlike 20 = .ok (.iload_n 2, 1) := by decide +kernel
theorem dX8_denyUnlike_21 : decode cX8_denyUnlike 21 = .ok (.iaload, 1) := by decide +kernel
theorem dX8_denyUnlike_22 : decode cX8_denyUnlike 22 = .ok (.iload 4, 2) := by decide +kernel
theorem dX8_denyUnlike_24 : decode cX8_denyUnlike 24 = .ok (.invokevirtual 67, 3) := by decide +kernel
theorem dX8_denyUnlike_27 : decode cX8_denyUnlike 27 = .ok (.aload_n 1, 1) := by decide +kernel
theorem dX8_denyUnlike_28 : decode cX8_denyUnlike 28 = .ok (.getfield 32, 3) := by decide +kernel
theorem dX8_denyUnlike_31 : decode cX8_denyUnlike 31 = .ok (.getfield 71, 3) := by decide +kernel
theorem dX8_denyUnlike_34 : decode cX8_denyUnlike 34 = .ok (.iload_n 2, 1) := by decide +kernel
theorem dX8_denyUnlike_35 : decode cX8_denyUnlike 35 = .ok (.iaload, 1) := by decide +kernel
theorem dX8_denyUnlike_36 : decode cX8_denyUnlike 36 = .ok (.if_icmp .eq 16, 3) := by decide +kernel
theorem dX8_denyUnlike_39 : decode cX8_denyUnlike 39 = .ok (.aload_n 0, 1) := by decide +kernel
theorem dX8_denyUnlike_40 : decode cX8_denyUnlike 40 = .ok (.getfield 19, 3) := by decide +kernel
theorem dX8_denyUnlike_43 : decode cX8_denyUnlike 43 = .ok (.iload_n 3, 1) := by decide +kernel
theorem dX8_denyUnlike_44 : decode cX8_denyUnlike 44 = .ok (.bipush 24, 2) := by decide +kernel
theorem dX8_denyUnlike_46 : decode cX8_denyUnlike 46 = .ok (.imul, 1) := by decide +kernel
theorem dX8_denyUnlike_47 : decode cX8_denyUnlike 47 = .ok (.iload 4, 2) := by decide +kernel
theorem dX8_denyUnlike_49 : decode cX8_denyUnlike 49 = .ok (.iadd, 1) := by decide +kernel
theorem dX8_denyUnlike_50 : decode cX8_denyUnlike 50 = .ok (.iconst 1, 1) := by decide +kernel
theorem dX8_denyUnlike_51 : decode cX8_denyUnlike 51 = .ok (.bastore, 1) := by decide +kernel
theorem dX8_denyUnlike_52 : decode cX8_denyUnlike 52 = .ok (.iinc 4 1, 3) := by decide +kernel
theorem dX8_denyUnlike_55 : decode cX8_denyUnlike 55 = .ok (.goto (-52), 3) := by decide +kernel
theorem dX8_denyUnlike_58 : decode cX8_denyUnlike 58 = .ok (.return_, 1) := by decide +kernel
theorem dX8_countWays_0 : decode cX8_countWays 0 = .ok (.iconst 0, 1) := by decide +kernel
theorem dX8_countWays_1 : decode cX8_countWays 1 = .ok (.istore_n 2, 1) := by decide +kernel
theorem dX8_countWays_2 : decode cX8_countWays 2 = .ok (.iload_n 2, 1) := by decide +kernel
theorem dX8_countWays_3 : decode cX8_countWays 3 = .ok (.iload_n 1, 1) := by decide +kernel
theorem dX8_countWays_4 : decode cX8_countWays 4 = .ok (.if_icmp .ge 24, 3) := by decide +kernel
theorem dX8_countWays_7 : decode cX8_countWays 7 = .ok (.aload_n 0, 1) := by decide +kernel
theorem dX8_countWays_8 : decode cX8_countWays 8 = .ok (.getfield 15, 3) := by decide +kernel
theorem dX8_countWays_11 : decode cX8_countWays 11 = .ok (.aload_n 0, 1) := by decide +kernel
theorem dX8_countWays_12 : decode cX8_countWays 12 = .ok (.getfield 23, 3) := by decide +kernel
theorem dX8_countWays_15 : decode cX8_countWays 15 = .ok (.bipush 24, 2) := by decide +kernel
theorem dX8_countWays_17 : decode cX8_countWays 17 = .ok (.imul, 1) := by decide +kernel
theorem dX8_countWays_18 : decode cX8_countWays 18 = .ok (.iload_n 2, 1) := by decide +kernel
theorem dX8_countWays_19 : decode cX8_countWays 19 = .ok (.iadd, 1) := by decide +kernel
theorem dX8_countWays_20 : decode cX8_countWays 20 = .ok (.lconst 1, 1) := by decide +kernel
theorem dX8_countWays_21 : decode cX8_countWays 21 = .ok (.lastore, 1) := by decide +kernel
theorem dX8_countWays_22 : decode cX8_countWays 22 = .ok (.iinc 2 1, 3) := by decide +kernel
theorem dX8_countWays_25 : decode cX8_countWays 25 = .ok (.goto (-23), 3) := by decide +kernel
theorem dX8_countWays_28 : decode cX8_countWays 28 = .ok (.aload_n 0, 1) := by decide +kernel
theorem dX8_countWays_29 : decode cX8_countWays 29 = .ok (.getfield 23, 3) := by decide +kernel
theorem dX8_countWays_32 : decode cX8_countWays 32 = .ok (.iconst 1, 1) := by decide +kernel
theorem dX8_countWays_33 : decode cX8_countWays 33 = .ok (.isub, 1) := by decide +kernel
theorem dX8_countWays_34 : decode cX8_countWays 34 = .ok (.istore_n 2, 1) := by decide +kernel
theorem dX8_countWays_35 : decode cX8_countWays 35 = .ok (.iload_n 2, 1) := by decide +kernel
theorem dX8_countWays_36 : decode cX8_countWays 36 = .ok (.ifCond .lt 84, 3) := by decide +kernel
theorem dX8_countWays_39 : decode cX8_countWays 39 = .ok (.iconst 0, 1) := by decide +kernel
theorem dX8_countWays_40 : decode cX8_countWays 40 = .ok (.istore_n 3, 1) := by decide +kernel
theorem dX8_countWays_41 : decode cX8_countWays 41 = .ok (.iload_n 3, 1) := by decide +kernel
theorem dX8_countWays_42 : decode cX8_countWays 42 = .ok (.iload_n 1, 1) := by decide +kernel
theorem dX8_countWays_43 : decode cX8_countWays 43 = .ok (.if_icmp .ge 71, 3) := by decide +kernel
theorem dX8_countWays_46 : decode cX8_countWays 46 = .ok (.lconst 0, 1) := by decide +kernel
theorem dX8_countWays_47 : decode cX8_countWays 47 = .ok (.lstore 4, 2) := by decide +kernel
theorem dX8_countWays_49 : decode cX8_countWays 49 = .ok (.iconst 0, 1) := by decide +kernel
theorem dX8_countWays_50 : decode cX8_countWays 50 = .ok (.istore 6, 2) := by decide +kernel
theorem dX8_countWays_52 : decode cX8_countWays 52 = .ok (.iload 6, 2) := by decide +kernel
theorem dX8_countWays_54 : decode cX8_countWays 54 = .ok (.getstatic 74, 3) := by decide +kernel
theorem dX8_countWays_57 : decode cX8_countWays 57 = .ok (.arraylength, 1) := by decide +kernel
theorem dX8_countWays_58 : decode cX8_countWays 58 = .ok (.if_icmp .ge 31, 3) := by decide +kernel
theorem dX8_countWays_61 : decode cX8_countWays 61 = .ok (.lload 4, 2) := by decide +kernel
theorem dX8_countWays_63 : decode cX8_countWays 63 = .ok (.aload_n 0, 1) := by decide +kernel
theorem dX8_countWays_64 : decode cX8_countWays 64 = .ok (.iload_n 2, 1) := by decide +kernel
theorem dX8_countWays_65 : decode cX8_countWays 65 = .ok (.iload_n 3, 1) := by decide +kernel
theorem dX8_countWays_66 : decode cX8_countWays 66 = .ok (.getstatic 74, 3) := by decide +kernel
theorem dX8_countWays_69 : decode cX8_countWays 69 = .ok (.iload 6, 2) := by decide +kernel
theorem dX8_countWays_71 : decode cX8_countWays 71 = .ok (.iaload, 1) := by decide +kernel
theorem dX8_countWays_72 : decode cX8_countWays 72 = .ok (.iadd, 1) := by decide +kernel
theorem dX8_countWays_73 : decode cX8_countWays 73 = .ok (.iload_n 1, 1) := by decide +kernel
theorem dX8_countWays_74 : decode cX8_countWays 74 = .ok (.invokestatic 77, 3) := by decide +kernel
theorem dX8_countWays_77 : decode cX8_countWays 77 = .ok (.invokevirtual 80, 3) := by decide +kernel
theorem dX8_countWays_80 : decode cX8_countWays 80 = .ok (.ladd, 1) := by decide +kernel
theorem dX8_countWays_81 : decode cX8_countWays 81 = .ok (.lstore 4, 2) := by decide +kernel
theorem dX8_countWays_83 : decode cX8_countWays 83 = .ok (.iinc 6 1, 3) := by decide +kernel
theorem dX8_countWays_86 : decode cX8_countWays 86 = .ok (.goto (-34), 3) := by decide +kernel
theorem dX8_countWays_89 : decode cX8_countWays 89 = .ok (.aload_n 0, 1) := by decide +kernel
theorem dX8_countWays_90 : decode cX8_countWays 90 = .ok (.getfield 15, 3) := by decide +kernel
theorem dX8_countWays_93 : decode cX8_countWays 93 = .ok (.iload_n 2, 1) := by decide +kernel
theorem dX8_countWays_94 : decode cX8_countWays 94 = .ok (.bipush 24, 2) := by decide +kernel
theorem dX8_countWays_96 : decode cX8_countWays 96 = .ok (.imul, 1) := by decide +kernel
theorem dX8_countWays_97 : decode cX8_countWays 97 = .ok (.iload_n 3, 1) := by decide +kernel
theorem dX8_countWays_98 : decode cX8_countWays 98 = .ok (.iadd, 1) := by decide +kernel
theorem dX8_countWays_99 : decode cX8_countWays 99 = .ok (.lload 4, 2) := by decide +kernel
theorem dX8_countWays_101 : decode cX8_countWays 101 = .ok (.ldc2_w 56, 3) := by decide +kernel
theorem dX8_countWays_104 : decode cX8_countWays 104 = .ok (.invokestatic 58, 3) := by decide +kernel
theorem dX8_countWays_107 : decode cX8_countWays 107 = .ok (.lastore, 1) := by decide +kernel
theorem dX8_countWays_108 : decode cX8_countWays 108 = .ok (.iinc 3 1, 3) := by decide +kernel
theorem dX8_countWays_111 : decode cX8_countWays 111 = .ok (.goto (-70), 3) := by decide +kernel
theorem dX8_countWays_114 : decode cX8_countWays 114 = .ok (.iinc 2 (-1), 3) := by decide +kernel
theorem dX8_countWays_117 : decode cX8_countWays 117 = .ok (.goto (-82), 3) := by decide +kernel
theorem dX8_countWays_120 : decode cX8_countWays 120 = .ok (.return_, 1) := by decide +kernel
theorem dX8_waysBehind_0 : decode cX8_waysBehind 0 = .ok (.aload_n 0, 1) := by decide +kernel
theorem dX8_waysBehind_1 : decode cX8_waysBehind 1 = .ok (.getfield 19, 3) := by decide +kernel
theorem dX8_waysBehind_4 : decode cX8_waysBehind 4 = .ok (.iload_n 1, 1) := by decide +kernel
theorem dX8_waysBehind_5 : decode cX8_waysBehind 5 = .ok (.bipush 24, 2) := by decide +kernel
theorem dX8_waysBehind_7 : decode cX8_waysBehind 7 = .ok (.imul, 1) := by decide +kernel
theorem dX8_waysBehind_8 : decode cX8_waysBehind 8 = .ok (.iload_n 2, 1) := by decide +kernel
theorem dX8_waysBehind_9 : decode cX8_waysBehind 9 = .ok (.iadd, 1) := by decide +kernel
theorem dX8_waysBehind_10 : decode cX8_waysBehind 10 = .ok (.baload, 1) := by decide +kernel
theorem dX8_waysBehind_11 : decode cX8_waysBehind 11 = .ok (.ifCond .eq 7, 3) := by decide +kernel
theorem dX8_waysBehind_14 : decode cX8_waysBehind 14 = .ok (.lconst 0, 1) := by decide +kernel
theorem dX8_waysBehind_15 : decode cX8_waysBehind 15 = .ok (.goto 16, 3) := by decide +kernel
theorem dX8_waysBehind_18 : decode cX8_waysBehind 18 = .ok (.aload_n 0, 1) := by decide +kernel
theorem dX8_waysBehind_19 : decode cX8_waysBehind 19 = .ok (.getfield 15, 3) := by decide +kernel
theorem dX8_waysBehind_22 : decode cX8_waysBehind 22 = .ok (.iload_n 1, 1) := by decide +kernel
theorem dX8_waysBehind_23 : decode cX8_waysBehind 23 = .ok (.iconst 1, 1) := by decide +kernel
theorem dX8_waysBehind_24 : decode cX8_waysBehind 24 = .ok (.iadd, 1) := by decide +kernel
theorem dX8_waysBehind_25 : decode cX8_waysBehind 25 = .ok (.bipush 24, 2) := by decide +kernel
theorem dX8_waysBehind_27 : decode cX8_waysBehind 27 = .ok (.imul, 1) := by decide +kernel
theorem dX8_waysBehind_28 : decode cX8_waysBehind 28 = .ok (.iload_n 2, 1) := by decide +kernel
theorem dX8_waysBehind_29 : decode cX8_waysBehind 29 = .ok (.iadd, 1) := by decide +kernel
theorem dX8_waysBehind_30 : decode cX8_waysBehind 30 = .ok (.laload, 1) := by decide +kernel
theorem dX8_waysBehind_31 : decode cX8_waysBehind 31 = .ok (.lreturn, 1) := by decide +kernel
theorem dX8_findFirst_0 : decode cX8_findFirst 0 = .ok (.aload_n 0, 1) := by decide +kernel
theorem dX8_findFirst_1 : decode cX8_findFirst 1 = .ok (.iconst 0, 1) := by decide +kernel
theorem dX8_findFirst_2 : decode cX8_findFirst 2 = .ok (.putfield 84, 3) := by decide +kernel
theorem dX8_findFirst_5 : decode cX8_findFirst 5 = .ok (.aload_n 0, 1) := by decide +kernel
theorem dX8_findFirst_6 : decode cX8_findFirst 6 = .ok (.getfield 84, 3) := by decide +kernel
theorem dX8_findFirst_9 : decode cX8_findFirst 9 = .ok (.iload_n 1, 1) := by decide +kernel
theorem dX8_findFirst_10 : decode cX8_findFirst 10 = .ok (.iconst 1, 1) := by decide +kernel
theorem dX8_findFirst_11 : decode cX8_findFirst 11 = .ok (.isub, 1) := by decide +kernel
theorem dX8_findFirst_12 : decode cX8_findFirst 12 = .ok (.if_icmp .ge 30, 3) := by decide +kernel
theorem dX8_findFirst_15 : decode cX8_findFirst 15 = .ok (.aload_n 0, 1) := by decide +kernel
theorem dX8_findFirst_16 : decode cX8_findFirst 16 = .ok (.getfield 15, 3) := by decide +kernel
theorem dX8_findFirst_19 : decode cX8_findFirst 19 = .ok (.aload_n 0, 1) := by decide +kernel
theorem dX8_findFirst_20 : decode cX8_findFirst 20 = .ok (.getfield 84, 3) := by decide +kernel
theorem dX8_findFirst_23 : decode cX8_findFirst 23 = .ok (.laload, 1) := by decide +kernel
theorem dX8_findFirst_24 : decode cX8_findFirst 24 = .ok (.lconst 0, 1) := by decide +kernel
theorem dX8_findFirst_25 : decode cX8_findFirst 25 = .ok (.lcmp, 1) := by decide +kernel
theorem dX8_findFirst_26 : decode cX8_findFirst 26 = .ok (.ifCond .ne 16, 3) := by decide +kernel
theorem dX8_findFirst_29 : decode cX8_findFirst 29 = .ok (.aload_n 0, 1) := by decide +kernel
theorem dX8_findFirst_30 : decode cX8_findFirst 30 = .ok (.dup, 1) := by decide +kernel
theorem dX8_findFirst_31 : decode cX8_findFirst 31 = .ok (.getfield 84, 3) := by decide +kernel
theorem dX8_findFirst_34 : decode cX8_findFirst 34 = .ok (.iconst 1, 1) := by decide +kernel
theorem dX8_findFirst_35 : decode cX8_findFirst 35 = .ok (.iadd, 1) := by decide +kernel
theorem dX8_findFirst_36 : decode cX8_findFirst 36 = .ok (.putfield 84, 3) := by decide +kernel
theorem dX8_findFirst_39 : decode cX8_findFirst 39 = .ok (.goto (-34), 3) := by decide +kernel
theorem dX8_findFirst_42 : decode cX8_findFirst 42 = .ok (.aload_n 0, 1) := by decide +kernel
theorem dX8_findFirst_43 : decode cX8_findFirst 43 = .ok (.getfield 84, 3) := by decide +kernel
theorem dX8_findFirst_46 : decode cX8_findFirst 46 = .ok (.istore_n 2, 1) := by decide +kernel
theorem dX8_findFirst_47 : decode cX8_findFirst 47 = .ok (.iconst 0, 1) := by decide +kernel
theorem dX8_findFirst_48 : decode cX8_findFirst 48 = .ok (.istore_n 3, 1) := by decide +kernel
theorem dX8_findFirst_49 : decode cX8_findFirst 49 = .ok (.iload_n 3, 1) := by decide +kernel
theorem dX8_findFirst_50 : decode cX8_findFirst 50 = .ok (.aload_n 0, 1) := by decide +kernel
theorem dX8_findFirst_51 : decode cX8_findFirst 51 = .ok (.getfield 23, 3) := by decide +kernel
theorem dX8_findFirst_54 : decode cX8_findFirst 54 = .ok (.if_icmp .ge 35, 3) := by decide +kernel
theorem dX8_findFirst_57 : decode cX8_findFirst 57 = .ok (.aload_n 0, 1) := by decide +kernel
theorem dX8_findFirst_58 : decode cX8_findFirst 58 = .ok (.getfield 9, 3) := by decide +kernel
theorem dX8_findFirst_61 : decode cX8_findFirst 61 = .ok (.iload_n 3, 1) := by decide +kernel
theorem dX8_findFirst_62 : decode cX8_findFirst 62 = .ok (.aload_n 0, 1) := by decide +kernel
theorem dX8_findFirst_63 : decode cX8_findFirst 63 = .ok (.iload_n 3, 1) := by decide +kernel
theorem dX8_findFirst_64 : decode cX8_findFirst 64 = .ok (.iload_n 2, 1) := by decide +kernel
theorem dX8_findFirst_65 : decode cX8_findFirst 65 = .ok (.iload_n 1, 1) := by decide +kernel
theorem dX8_findFirst_66 : decode cX8_findFirst 66 = .ok (.invokevirtual 87, 3) := by decide +kernel
theorem dX8_findFirst_69 : decode cX8_findFirst 69 = .ok (.iastore, 1) := by decide +kernel
theorem dX8_findFirst_70 : decode cX8_findFirst 70 = .ok (.iload_n 2, 1) := by decide +kernel
theorem dX8_findFirst_71 : decode cX8_findFirst 71 = .ok (.aload_n 0, 1) := by decide +kernel
theorem dX8_findFirst_72 : decode cX8_findFirst 72 = .ok (.getfield 9, 3) := by decide +kernel
theorem dX8_findFirst_75 : decode cX8_findFirst 75 = .ok (.iload_n 3, 1) := by decide +kernel
theorem dX8_findFirst_76 : decode cX8_findFirst 76 = .ok (.iaload, 1) := by decide +kernel
theorem dX8_findFirst_77 : decode cX8_findFirst 77 = .ok (.iadd, 1) := by decide +kernel
theorem dX8_findFirst_78 : decode cX8_findFirst 78 = .ok (.iload_n 1, 1) := by decide +kernel
theorem dX8_findFirst_79 : decode cX8_findFirst 79 = .ok (.invokestatic 77, 3) := by decide +kernel
theorem dX8_findFirst_82 : decode cX8_findFirst 82 = .ok (.istore_n 2, 1) := by decide +kernel
theorem dX8_findFirst_83 : decode cX8_findFirst 83 = .ok (.iinc 3 1, 3) := by decide +kernel
theorem dX8_findFirst_86 : decode cX8_findFirst 86 = .ok (.goto (-37), 3) := by decide +kernel
theorem dX8_findFirst_89 : decode cX8_findFirst 89 = .ok (.return_, 1) := by decide +kernel
theorem dX8_firstTurn_0 : decode cX8_firstTurn 0 = .ok (.iconst 0, 1) := by decide +kernel
theorem dX8_firstTurn_1 : decode cX8_firstTurn 1 = .ok (.istore 4, 2) := by decide +kernel
theorem dX8_firstTurn_3 : decode cX8_firstTurn 3 = .ok (.iload 4, 2) := by decide +kernel
theorem dX8_firstTurn_5 : decode cX8_firstTurn 5 = .ok (.getstatic 74, 3) := by decide +kernel
theorem dX8_firstTurn_8 : decode cX8_firstTurn 8 = .ok (.arraylength, 1) := by decide +kernel
theorem dX8_firstTurn_9 : decode cX8_firstTurn 9 = .ok (.if_icmp .ge 38, 3) := by decide +kernel
theorem dX8_firstTurn_12 : decode cX8_firstTurn 12 = .ok (.aload_n 0, 1) := by decide +kernel
theorem dX8_firstTurn_13 : decode cX8_firstTurn 13 = .ok (.iload_n 1, 1) := by decide +kernel
theorem dX8_firstTurn_14 : decode cX8_firstTurn 14 = .ok (.iload_n 2, 1) := by decide +kernel
theorem dX8_firstTurn_15 : decode cX8_firstTurn 15 = .ok (.getstatic 74, 3) := by decide +kernel
theorem dX8_firstTurn_18 : decode cX8_firstTurn 18 = .ok (.iload 4, 2) := by decide +kernel
theorem dX8_firstTurn_20 : decode cX8_firstTurn 20 = .ok (.iaload, 1) := by decide +kernel
theorem dX8_firstTurn_21 : decode cX8_firstTurn 21 = .ok (.iadd, 1) := by decide +kernel
theorem dX8_firstTurn_22 : decode cX8_firstTurn 22 = .ok (.iload_n 3, 1) := by decide +kernel
theorem dX8_firstTurn_23 : decode cX8_firstTurn 23 = .ok (.invokestatic 77, 3) := by decide +kernel
theorem dX8_firstTurn_26 : decode cX8_firstTurn 26 = .ok (.invokevirtual 80, 3) := by decide +kernel
theorem dX8_firstTurn_29 : decode cX8_firstTurn 29 = .ok (.lconst 0, 1) := by decide +kernel
theorem dX8_firstTurn_30 : decode cX8_firstTurn 30 = .ok (.lcmp, 1) := by decide +kernel
theorem dX8_firstTurn_31 : decode cX8_firstTurn 31 = .ok (.ifCond .le 10, 3) := by decide +kernel
theorem dX8_firstTurn_34 : decode cX8_firstTurn 34 = .ok (.getstatic 74, 3) := by decide +kernel
theorem dX8_firstTurn_37 : decode cX8_firstTurn 37 = .ok (.iload 4, 2) := by decide +kernel
theorem dX8_firstTurn_39 : decode cX8_firstTurn 39 = .ok (.iaload, 1) := by decide +kernel
theorem dX8_firstTurn_40 : decode cX8_firstTurn 40 = .ok (.ireturn, 1) := by decide +kernel
theorem dX8_firstTurn_41 : decode cX8_firstTurn 41 = .ok (.iinc 4 1, 3) := by decide +kernel
theorem dX8_firstTurn_44 : decode cX8_firstTurn 44 = .ok (.goto (-41), 3) := by decide +kernel
theorem dX8_firstTurn_47 : decode cX8_firstTurn 47 = .ok (.iconst 0, 1) := by decide +kernel
theorem dX8_firstTurn_48 : decode cX8_firstTurn 48 = .ok (.ireturn, 1) := by decide +kernel
theorem dX9_init_0 : decode cX9_init 0 = .ok (.aload_n 0, 1) := by decide +kernel
theorem dX9_init_1 : decode cX9_init 1 = .ok (.invokespecial 1, 3) := by decide +kernel
theorem dX9_init_4 : decode cX9_init 4 = .ok (.aload_n 0, 1) := by decide +kernel
theorem dX9_init_5 : decode cX9_init 5 = .ok (.sipush 400, 3) := by decide +kernel
theorem dX9_init_8 : decode cX9_init 8 = .ok (.newarray .int, 2) := by decide +kernel
theorem dX9_init_10 : decode cX9_init 10 = .ok (.putfield 9, 3) := by decide +kernel
theorem dX9_init_13 : decode cX9_init 13 = .ok (.return_, 1) := by decide +kernel
theorem dX9_clear_0 : decode cX9_clear 0 = .ok (.aload_n 0, 1) := by decide +kernel
theorem dX9_clear_1 : decode cX9_clear 1 = .ok (.iconst 0, 1) := by decide +kernel
theorem dX9_clear_2 : decode cX9_clear 2 = .ok (.putfield 15, 3) := by decide +kernel
theorem dX9_clear_5 : decode cX9_clear 5 = .ok (.aload_n 0, 1) := by decide +kernel
theorem dX9_clear_6 : decode cX9_clear 6 = .ok (.iconst 0, 1) := by decide +kernel
theorem dX9_clear_7 : decode cX9_clear 7 = .ok (.putfield 19, 3) := by decide +kernel
theorem dX9_clear_10 : decode cX9_clear 10 = .ok (.aload_n 0, 1) := by decide +kernel
theorem dX9_clear_11 : decode cX9_clear 11 = .ok (.iconst 0, 1) := by decide +kernel
theorem dX9_clear_12 : decode cX9_clear 12 = .ok (.putfield 22, 3) := by decide +kernel
theorem dX9_clear_15 : decode cX9_clear 15 = .ok (.return_, 1) := by decide +kernel
theorem dX9_copyFrom_0 : decode cX9_copyFrom 0 = .ok (.aload_n 0, 1) := by decide +kernel
theorem dX9_copyFrom_1 : decode cX9_copyFrom 1 = .ok (.aload_n 1, 1) := by decide +kernel
theorem dX9_copyFrom_2 : decode cX9_copyFrom 2 = .ok (.getfield 15, 3) := by decide +kernel
theorem dX9_copyFrom_5 : decode cX9_copyFrom 5 = .ok (.putfield 15, 3) := by decide +kernel
theorem dX9_copyFrom_8 : decode cX9_copyFrom 8 = .ok (.aload_n 0, 1) := by decide +kernel
theorem dX9_copyFrom_9 : decode cX9_copyFrom 9 = .ok (.aload_n 1, 1) := by decide +kernel
theorem dX9_copyFrom_10 : decode cX9_copyFrom 10 = .ok (.getfield 19, 3) := by decide +kernel
theorem dX9_copyFrom_13 : decode cX9_copyFrom 13 = .ok (.putfield 19, 3) := by decide +kernel
theorem dX9_copyFrom_16 : decode cX9_copyFrom 16 = .ok (.aload_n 0, 1) := by decide +kernel
theorem dX9_copyFrom_17 : decode cX9_copyFrom 17 = .ok (.aload_n 1, 1) := by decide +kernel
theorem dX9_copyFrom_18 : decode cX9_copyFrom 18 = .ok (.getfield 22, 3) := by decide +kernel
theorem dX9_copyFrom_21 : decode cX9_copyFrom 21 = .ok (.putfield 22, 3) := by decide +kernel
theorem dX9_copyFrom_24 : decode cX9_copyFrom 24 = .ok (.aload_n 1, 1) := by decide +kernel
theorem dX9_copyFrom_25 : decode cX9_copyFrom 25 = .ok (.getfield 9, 3) := by decide +kernel
theorem dX9_copyFrom_28 : decode cX9_copyFrom 28 = .ok (.iconst 0, 1) := by decide +kernel
theorem dX9_copyFrom_29 : decode cX9_copyFrom 29 = .ok (.aload_n 0, 1) := by decide +kernel
theorem dX9_copyFrom_30 : decode cX9_copyFrom 30 = .ok (.getfield 9, 3) := by decide +kernel
theorem dX9_copyFrom_33 : decode cX9_copyFrom 33 = .ok (.iconst 0, 1) := by decide +kernel
theorem dX9_copyFrom_34 : decode cX9_copyFrom 34 = .ok (.aload_n 0, 1) := by decide +kernel
theorem dX9_copyFrom_35 : decode cX9_copyFrom 35 = .ok (.getfield 19, 3) := by decide +kernel
theorem dX9_copyFrom_38 : decode cX9_copyFrom 38 = .ok (.invokestatic 26, 3) := by decide +kernel
theorem dX9_copyFrom_41 : decode cX9_copyFrom 41 = .ok (.return_, 1) := by decide +kernel
theorem dX9_add_0 : decode cX9_add 0 = .ok (.aload_n 0, 1) := by decide +kernel
theorem dX9_add_1 : decode cX9_add 1 = .ok (.getfield 19, 3) := by decide +kernel
theorem dX9_add_4 : decode cX9_add 4 = .ok (.aload_n 0, 1) := by decide +kernel
theorem dX9_add_5 : decode cX9_add 5 = .ok (.getfield 9, 3) := by decide +kernel
theorem dX9_add_8 : decode cX9_add 8 = .ok (.arraylength, 1) := by decide +kernel
theorem dX9_add_9 : decode cX9_add 9 = .ok (.if_icmp .ge 23, 3) := by decide +kernel
theorem dX9_add_12 : decode cX9_add 12 = .ok (.aload_n 0, 1) := by decide +kernel
theorem dX9_add_13 : decode cX9_add 13 = .ok (.getfield 9, 3) := by decide +kernel
theorem dX9_add_16 : decode cX9_add 16 = .ok (.aload_n 0, 1) := by decide +kernel
theorem dX9_add_17 : decode cX9_add 17 = .ok (.getfield 19, 3) := by decide +kernel
theorem dX9_add_20 : decode cX9_add 20 = .ok (.iload_n 1, 1) := by decide +kernel
theorem dX9_add_21 : decode cX9_add 21 = .ok (.iastore, 1) := by decide +kernel
theorem dX9_add_22 : decode cX9_add 22 = .ok (.aload_n 0, 1) := by decide +kernel
theorem dX9_add_23 : decode cX9_add 23 = .ok (.dup, 1) := by decide +kernel
theorem dX9_add_24 : decode cX9_add 24 = .ok (.getfield 19, 3) := by decide +kernel
theorem dX9_add_27 : decode cX9_add 27 = .ok (.iconst 1, 1) := by decide +kernel
theorem dX9_add_28 : decode cX9_add 28 = .ok (.iadd, 1) := by decide +kernel
theorem dX9_add_29 : decode cX9_add 29 = .ok (.putfield 19, 3) := by decide +kernel
theorem dX9_add_32 : decode cX9_add 32 = .ok (.return_, 1) := by decide +kernel
theorem dX9_valueOf_0 : decode cX9_valueOf 0 = .ok (.lconst 0, 1) := by decide +kernel
theorem dX9_valueOf_1 : decode cX9_valueOf 1 = .ok (.lstore_n 3, 1) := by decide +kernel
theorem dX9_valueOf_2 : decode cX9_valueOf 2 = .ok (.iconst 0, 1) := by decide +kernel
theorem dX9_valueOf_3 : decode cX9_valueOf 3 = .ok (.istore 5, 2) := by decide +kernel
theorem dX9_valueOf_5 : decode cX9_valueOf 5 = .ok (.iconst 0, 1) := by decide +kernel
theorem dX9_valueOf_6 : decode cX9_valueOf 6 = .ok (.istore 6, 2) := by decide +kernel
theorem dX9_valueOf_8 : decode cX9_valueOf 8 = .ok (.iload 6, 2) := by decide +kernel
theorem dX9_valueOf_10 : decode cX9_valueOf 10 = .ok (.aload_n 0, 1) := by decide +kernel
theorem dX9_valueOf_11 : decode cX9_valueOf 11 = .ok (.getfield 19, 3) := by decide +kernel
theorem dX9_valueOf_14 : decode cX9_valueOf 14 = .ok (.if_icmp .ge 193, 3) := by decide +kernel
theorem dX9_valueOf_17 : decode cX9_valueOf 17 = .ok (.aload_n 0, 1) := by decide +kernel
theorem dX9_valueOf_18 : decode cX9_valueOf 18 = .ok (.getfield 9, 3) := by decide +kernel
theorem dX9_valueOf_21 : decode cX9_valueOf 21 = .ok (.iload 6, 2) := by decide +kernel
theorem dX9_valueOf_23 : decode cX9_valueOf 23 = .ok (.iaload, 1) := by decide +kernel
theorem dX9_valueOf_24 : decode cX9_valueOf 24 = .ok (.iconst (-1), 1) := by decide +kernel
theorem dX9_valueOf_25 : decode cX9_valueOf 25 = .ok (.ixor, 1) := by decide +kernel
theorem dX9_valueOf_26 : decode cX9_valueOf 26 = .ok (.istore 7, 2) := by decide +kernel
theorem dX9_valueOf_28 : decode cX9_valueOf 28 = .ok (.iload 7, 2) := by decide +kernel
theorem dX9_valueOf_30 : decode cX9_valueOf 30 = .ok (.bipush 7, 2) := by decide +kernel
theorem dX9_valueOf_32 : decode cX9_valueOf 32 = .ok (.if_icmp .ge 42, 3) := by decide +kernel
theorem dX9_valueOf_35 : decode cX9_valueOf 35 = .ok (.iload 5, 2) := by decide +kernel
theorem dX9_valueOf_37 : decode cX9_valueOf 37 = .ok (.aload_n 2, 1) := by decide +kernel
theorem dX9_valueOf_38 : decode cX9_valueOf 38 = .ok (.arraylength, 1) := by decide +kernel
theorem dX9_valueOf_39 : decode cX9_valueOf 39 = .ok (.if_icmp .lt 6, 3) := by decide +kernel
theorem dX9_valueOf_42 : decode cX9_valueOf 42 = .ok (.goto 165, 3) := by decide +kernel
theorem dX9_valueOf_45 : decode cX9_valueOf 45 = .ok (.aload_n 2, 1) := by decide +kernel
theorem dX9_valueOf_46 : decode cX9_valueOf 46 = .ok (.iload 5, 2) := by decide +kernel
theorem dX9_valueOf_48 : decode cX9_valueOf 48 = .ok (.iload 7, 2) := by decide +kernel
theorem dX9_valueOf_50 : decode cX9_valueOf 50 = .ok (.ifCond .ge 13, 3) := by decide +kernel
theorem dX9_valueOf_53 : decode cX9_valueOf 53 = .ok (.aload_n 0, 1) := by decide +kernel
theorem dX9_valueOf_54 : decode cX9_valueOf 54 = .ok (.getfield 9, 3) := by decide +kernel
theorem dX9_valueOf_57 : decode cX9_valueOf 57 = .ok (.iload 6, 2) := by decide +kernel
theorem dX9_valueOf_59 : decode cX9_valueOf 59 = .ok (.iaload, 1) := by decide +kernel
theorem dX9_valueOf_60 : decode cX9_valueOf 60 = .ok (.goto 7, 3) := by decide +kernel
theorem dX9_valueOf_63 : decode cX9_valueOf 63 = .ok (.aload_n 1, 1) := by decide +kernel
theorem dX9_valueOf_64 : decode cX9_valueOf 64 = .ok (.iload 7, 2) := by decide +kernel
theorem dX9_valueOf_66 : decode cX9_valueOf 66 = .ok (.iaload, 1) := by decide +kernel
theorem dX9_valueOf_67 : decode cX9_valueOf 67 = .ok (.iastore, 1) := by decide +kernel
theorem dX9_valueOf_68 : decode cX9_valueOf 68 = .ok (.iinc 5 1, 3) := by decide +kernel
theorem dX9_valueOf_71 : decode cX9_valueOf 71 = .ok (.goto 130, 3) := by decide +kernel
theorem dX9_valueOf_74 : decode cX9_valueOf 74 = .ok (.iload 7, 2) := by decide +kernel
theorem dX9_valueOf_76 : decode cX9_valueOf 76 = .ok (.bipush 11, 2) := by decide +kernel
theorem dX9_valueOf_78 : decode cX9_valueOf 78 = .ok (.if_icmp .ne 26, 3) := by decide +kernel
theorem dX9_valueOf_81 : decode cX9_valueOf 81 = .ok (.iload 5, 2) := by decide +kernel
theorem dX9_valueOf_83 : decode cX9_valueOf 83 = .ok (.iconst 1, 1) := by decide +kernel
theorem dX9_valueOf_84 : decode cX9_valueOf 84 = .ok (.if_icmp .lt 20, 3) := by decide +kernel
theorem dX9_valueOf_87 : decode cX9_valueOf 87 = .ok (.aload_n 2, 1) := by decide +kernel
theorem dX9_valueOf_88 : decode cX9_valueOf 88 = .ok (.iload 5, 2) := by decide +kernel
theorem dX9_valueOf_90 : decode cX9_valueOf 90 = .ok (.iconst 1, 1) := by decide +kernel
theorem dX9_valueOf_91 : decode cX9_valueOf 91 = .ok (.isub, 1) := by decide +kernel
theorem dX9_valueOf_92 : decode cX9_valueOf 92 = .ok (.iconst 1, 1) := by decide +kernel
theorem dX9_valueOf_93 : decode cX9_valueOf 93 = .ok (.aload_n 2, 1) := by decide +kernel
theorem dX9_valueOf_94 : decode cX9_valueOf 94 = .ok (.iload 5, 2) := by decide +kernel
theorem dX9_valueOf_96 : decode cX9_valueOf 96 = .ok (.iconst 1, 1) := by decide +kernel
theorem dX9_valueOf_97 : decode cX9_valueOf 97 = .ok (.isub, 1) := by decide +kernel
theorem dX9_valueOf_98 : decode cX9_valueOf 98 = .ok (.iaload, 1) := by decide +kernel
theorem dX9_valueOf_99 : decode cX9_valueOf 99 = .ok (.isub, 1) := by decide +kernel
theorem dX9_valueOf_100 : decode cX9_valueOf 100 = .ok (.iastore, 1) := by decide +kernel
theorem dX9_valueOf_101 : decode cX9_valueOf 101 = .ok (.goto 100, 3) := by decide +kernel
theorem dX9_valueOf_104 : decode cX9_valueOf 104 = .ok (.iload 7, 2) := by decide +kernel
theorem dX9_valueOf_106 : decode cX9_valueOf 106 = .ok (.bipush 13, 2) := by decide +kernel
theorem dX9_valueOf_108 : decode cX9_valueOf 108 = .ok (.if_icmp .ne 23, 3) := by decide +kernel
theorem dX9_valueOf_111 : decode cX9_valueOf 111 = .ok (.iload 5, 2) := by decide +kernel
theorem dX9_valueOf_113 : decode cX9_valueOf 113 = .ok (.iconst 1, 1) := by decide +kernel
theorem dX9_valueOf_114 : decode cX9_valueOf 114 = .ok (.if_icmp .lt 17, 3) := by decide +kernel
theorem dX9_valueOf_117 : decode cX9_valueOf 117 = .ok (.iinc 5 (-1), 3) := by decide +kernel
theorem dX9_valueOf_120 : decode cX9_valueOf 120 = .ok (.lload_n 3, 1) := by decide +kernel
theorem dX9_valueOf_121 : decode cX9_valueOf 121 = .ok (.aload_n 2, 1) := by decide +kernel
theorem dX9_valueOf_122 : decode cX9_valueOf 122 = .ok (.iload 5, 2) := by decide +kernel
theorem dX9_valueOf_124 : decode cX9_valueOf 124 = .ok (.iaload, 1) := by decide +kernel
theorem dX9_valueOf_125 : decode cX9_valueOf 125 = .ok (.i2l, 1) := by decide +kernel
theorem dX9_valueOf_126 : decode cX9_valueOf 126 = .ok (.ladd, 1) := by decide +kernel
theorem dX9_valueOf_127 : decode cX9_valueOf 127 = .ok (.lstore_n 3, 1) := by decide +kernel
theorem dX9_valueOf_128 : decode cX9_valueOf 128 = .ok (.goto 73, 3) := by decide +kernel
theorem dX9_valueOf_131 : decode cX9_valueOf 131 = .ok (.iload 7, 2) := by decide +kernel
theorem dX9_valueOf_133 : decode cX9_valueOf 133 = .ok (.bipush 8, 2) := by decide +kernel
theorem dX9_valueOf_135 : decode cX9_valueOf 135 = .ok (.if_icmp .ne 36, 3) := by decide +kernel
theorem dX9_valueOf_138 : decode cX9_valueOf 138 = .ok (.iload 5, 2) := by decide +kernel
theorem dX9_valueOf_140 : decode cX9_valueOf 140 = .ok (.iconst 2, 1) := by decide +kernel
theorem dX9_valueOf_141 : decode cX9_valueOf 141 = .ok (.if_icmp .lt 30, 3) := by decide +kernel
theorem dX9_valueOf_144 : decode cX9_valueOf 144 = .ok (.iinc 5 (-2), 3) := by decide +kernel
theorem dX9_valueOf_147 : decode cX9_valueOf 147 = .ok (.lload_n 3, 1) := by decide +kernel
theorem dX9_valueOf_148 : decode cX9_valueOf 148 = .ok (.aload_n 2, 1) := by decide +kernel
theorem dX9_valueOf_149 : decode cX9_valueOf 149 = .ok (.iload 5, 2) := by decide +kernel
theorem dX9_valueOf_151 : decode cX9_valueOf 151 = .ok (.iconst 1, 1) := by decide +kernel
theorem dX9_valueOf_152 : decode cX9_valueOf 152 = .ok (.iadd, 1) := by decide +kernel
theorem dX9_valueOf_153 : decode cX9_valueOf 153 = .ok (.iaload, 1) := by decide +kernel
theorem dX9_valueOf_154 : decode cX9_valueOf 154 = .ok (.ifCond .eq 11, 3) := by decide +kernel
theorem dX9_valueOf_157 : decode cX9_valueOf 157 = .ok (.aload_n 2, 1) := by decide +kernel
theorem dX9_valueOf_158 : decode cX9_valueOf 158 = .ok (.iload 5, 2) := by decide +kernel
theorem dX9_valueOf_160 : decode cX9_valueOf 160 = .ok (.iaload, 1) := by decide +kernel
theorem dX9_valueOf_161 : decode cX9_valueOf 161 = .ok (.i2l, 1) := by decide +kernel
theorem dX9_valueOf_162 : decode cX9_valueOf 162 = .ok (.goto 4, 3) := by decide +kernel
theorem dX9_valueOf_165 : decode cX9_valueOf 165 = .ok (.lconst 0, 1) := by decide +kernel
theorem dX9_valueOf_166 : decode cX9_valueOf 166 = .ok (.ladd, 1) := by decide +kernel
theorem dX9_valueOf_167 : decode cX9_valueOf 167 = .ok (.lstore_n 3, 1) := by decide +kernel
theorem dX9_valueOf_168 : decode cX9_valueOf 168 = .ok (.goto 33, 3) := by decide +kernel
theorem dX9_valueOf_171 : decode cX9_valueOf 171 = .ok (.iload 5, 2) := by decide +kernel
theorem dX9_valueOf_173 : decode cX9_valueOf 173 = .ok (.iconst 2, 1) := by decide +kernel
theorem dX9_valueOf_174 : decode cX9_valueOf 174 = .ok (.if_icmp .lt 27, 3) := by decide +kernel
theorem dX9_valueOf_177 : decode cX9_valueOf 177 = .ok (.iinc 5 (-1), 3) := by decide +kernel
theorem dX9_valueOf_180 : decode cX9_valueOf 180 = .ok (.aload_n 2, 1) := by decide +kernel
theorem dX9_valueOf_181 : decode cX9_valueOf 181 = .ok (.iload 5, 2) := by decide +kernel
theorem dX9_valueOf_183 : decode cX9_valueOf 183 = .ok (.iconst 1, 1) := by decide +kernel
theorem dX9_valueOf_184 : decode cX9_valueOf 184 = .ok (.isub, 1) := by decide +kernel
theorem dX9_valueOf_185 : decode cX9_valueOf 185 = .ok (.iload 7, 2) := by decide +kernel
theorem dX9_valueOf_187 : decode cX9_valueOf 187 = .ok (.aload_n 2, 1) := by decide +kernel
theorem dX9_valueOf_188 : decode cX9_valueOf 188 = .ok (.iload 5, 2) := by decide +kernel
theorem dX9_valueOf_190 : decode cX9_valueOf 190 = .ok (.iconst 1, 1) := by decide +kernel
theorem dX9_valueOf_191 : decode cX9_valueOf 191 = .ok (.isub, 1) := by decide +kernel
theorem dX9_valueOf_192 : decode cX9_valueOf 192 = .ok (.iaload, 1) := by decide +kernel
theorem dX9_valueOf_193 : decode cX9_valueOf 193 = .ok (.aload_n 2, 1) := by decide +kernel
theorem dX9_valueOf_194 : decode cX9_valueOf 194 = .ok (.iload 5, 2) := by decide +kernel
theorem dX9_valueOf_196 : decode cX9_valueOf 196 = .ok (.iaload, 1) := by decide +kernel
theorem dX9_valueOf_197 : decode cX9_valueOf 197 = .ok (.invokestatic 32, 3) := by decide +kernel
theorem dX9_valueOf_200 : decode cX9_valueOf 200 = .ok (.iastore, 1) := by decide +kernel
theorem dX9_valueOf_201 : decode cX9_valueOf 201 = .ok (.iinc 6 1, 3) := by decide +kernel
theorem dX9_valueOf_204 : decode cX9_valueOf 204 = .ok (.goto (-196), 3) := by decide +kernel
theorem dX9_valueOf_207 : decode cX9_valueOf 207 = .ok (.ldc2_w 36, 3) := by decide +kernel
theorem dX9_valueOf_210 : decode cX9_valueOf 210 = .ok (.ldc2_w 38, 3) := by decide +kernel
theorem dX9_valueOf_213 : decode cX9_valueOf 213 = .ok (.lload_n 3, 1) := by decide +kernel
theorem dX9_valueOf_214 : decode cX9_valueOf 214 = .ok (.invokestatic 40, 3) := by decide +kernel
theorem dX9_valueOf_217 : decode cX9_valueOf 217 = .ok (.invokestatic 46, 3) := by decide +kernel
theorem dX9_valueOf_220 : decode cX9_valueOf 220 = .ok (.l2i, 1) := by decide +kernel
theorem dX9_valueOf_221 : decode cX9_valueOf 221 = .ok (.ireturn, 1) := by decide +kernel
theorem dX9_joined_0 : decode cX9_joined 0 = .ok (.iload_n 0, 1) := by decide +kernel
theorem dX9_joined_1 : decode cX9_joined 1 = .ok (.tableswitch 128 10 22 #[124, 128, 128, 128, 67, 71, 75, 79, 128, 128, 91, 102, 113], 67) := by decide +kernel
theorem dX9_joined_68 : decode cX9_joined 68 = .ok (.iload_n 1, 1) := by decide +kernel
theorem dX9_joined_69 : decode cX9_joined 69 = .ok (.iload_n 2, 1) := by decide +kernel
theorem dX9_joined_70 : decode cX9_joined 70 = .ok (.iadd, 1) := by decide +kernel
theorem dX9_joined_71 : decode cX9_joined 71 = .ok (.ireturn, 1) := by decide +kernel
theorem dX9_joined_72 : decode cX9_joined 72 = .ok (.iload_n 1, 1) := by decide +kernel
theorem dX9_joined_73 : decode cX9_joined 73 = .ok (.iload_n 2, 1) := by decide +kernel
theorem dX9_joined_74 : decode cX9_joined 74 = .ok (.isub, 1) := by decide +kernel
theorem dX9_joined_75 : decode cX9_joined 75 = .ok (.ireturn, 1) := by decide +kernel
theorem dX9_joined_76 : decode cX9_joined 76 = .ok (.iload_n 1, 1) := by decide +kernel
theorem dX9_joined_77 : decode cX9_joined 77 = .ok (.iload_n 2, 1) := by decide +kernel
theorem dX9_joined_78 : decode cX9_joined 78 = .ok (.imul, 1) := by decide +kernel
theorem dX9_joined_79 : decode cX9_joined 79 = .ok (.ireturn, 1) := by decide +kernel
theorem dX9_joined_80 : decode cX9_joined 80 = .ok (.iload_n 2, 1) := by decide +kernel
theorem dX9_joined_81 : decode cX9_joined 81 = .ok (.ifCond .eq 9, 3) := by decide +kernel
theorem dX9_joined_84 : decode cX9_joined 84 = .ok (.iload_n 1, 1) := by decide +kernel
theorem dX9_joined_85 : decode cX9_joined 85 = .ok (.iload_n 2, 1) := by decide +kernel
theorem dX9_joined_86 : decode cX9_joined 86 = .ok (.idiv, 1) := by decide +kernel
theorem dX9_joined_87 : decode cX9_joined 87 = .ok (.goto 4, 3) := by decide +kernel
theorem dX9_joined_90 : decode cX9_joined 90 = .ok (.iconst 0, 1) := by decide +kernel
theorem dX9_joined_91 : decode cX9_joined 91 = .ok (.ireturn, 1) := by decide +kernel
theorem dX9_joined_92 : decode cX9_joined 92 = .ok (.iload_n 1, 1) := by decide +kernel
theorem dX9_joined_93 : decode cX9_joined 93 = .ok (.iload_n 2, 1) := by decide +kernel
theorem dX9_joined_94 : decode cX9_joined 94 = .ok (.if_icmp .ge 7, 3) := by decide +kernel
theorem dX9_joined_97 : decode cX9_joined 97 = .ok (.iconst 1, 1) := by decide +kernel
theorem dX9_joined_98 : decode cX9_joined 98 = .ok (.goto 4, 3) := by decide +kernel
theorem dX9_joined_101 : decode cX9_joined 101 = .ok (.iconst 0, 1) := by decide +kernel
theorem dX9_joined_102 : decode cX9_joined 102 = .ok (.ireturn, 1) := by decide +kernel
theorem dX9_joined_103 : decode cX9_joined 103 = .ok (.iload_n 1, 1) := by decide +kernel
theorem dX9_joined_104 : decode cX9_joined 104 = .ok (.iload_n 2, 1) := by decide +kernel
theorem dX9_joined_105 : decode cX9_joined 105 = .ok (.if_icmp .ne 7, 3) := by decide +kernel
theorem dX9_joined_108 : decode cX9_joined 108 = .ok (.iconst 1, 1) := by decide +kernel
theorem dX9_joined_109 : decode cX9_joined 109 = .ok (.goto 4, 3) := by decide +kernel
theorem dX9_joined_112 : decode cX9_joined 112 = .ok (.iconst 0, 1) := by decide +kernel
theorem dX9_joined_113 : decode cX9_joined 113 = .ok (.ireturn, 1) := by decide +kernel
theorem dX9_joined_114 : decode cX9_joined 114 = .ok (.iload_n 1, 1) := by decide +kernel
theorem dX9_joined_115 : decode cX9_joined 115 = .ok (.iload_n 2, 1) := by decide +kernel
theorem dX9_joined_116 : decode cX9_joined 116 = .ok (.if_icmp .le 7, 3) := by decide +kernel
theorem dX9_joined_119 : decode cX9_joined 119 = .ok (.iconst 1, 1) := by decide +kernel
theorem dX9_joined_120 : decode cX9_joined 120 = .ok (.goto 4, 3) := by decide +kernel
theorem dX9_joined_123 : decode cX9_joined 123 = .ok (.iconst 0, 1) := by decide +kernel
theorem dX9_joined_124 : decode cX9_joined 124 = .ok (.ireturn, 1) := by decide +kernel
theorem dX9_joined_125 : decode cX9_joined 125 = .ok (.iload_n 1, 1) := by decide +kernel
theorem dX9_joined_126 : decode cX9_joined 126 = .ok (.iload_n 2, 1) := by decide +kernel
theorem dX9_joined_127 : decode cX9_joined 127 = .ok (.iand, 1) := by decide +kernel
theorem dX9_joined_128 : decode cX9_joined 128 = .ok (.ireturn, 1) := by decide +kernel
