theorem dX5_init_0 : decode cX5_init 0 = .ok (.aload_n 0, 1) := by decide +kernel
theorem dX5_init_1 : decode cX5_init 1 = .ok (.invokespecial 1, 3) := by decide +kernel
theorem dX5_init_4 : decode cX5_init 4 = .ok (.aload_n 0, 1) := by decide +kernel
theorem dX5_init_5 : decode cX5_init 5 = .ok (.bipush 40, 2) := by decide +kernel
theorem dX5_init_7 : decode cX5_init 7 = .ok (.newarray .long, 2) := by decide +kernel
theorem dX5_init_9 : decode cX5_init 9 = .ok (.putfield 9, 3) := by decide +kernel
theorem dX5_init_12 : decode cX5_init 12 = .ok (.aload_n 0, 1) := by decide +kernel
theorem dX5_init_13 : decode cX5_init 13 = .ok (.sipush 702, 3) := by decide +kernel
theorem dX5_init_16 : decode cX5_init 16 = .ok (.newarray .int, 2) := by decide +kernel
theorem dX5_init_18 : decode cX5_init 18 = .ok (.putfield 13, 3) := by decide +kernel
theorem dX5_init_21 : decode cX5_init 21 = .ok (.aload_n 0, 1) := by decide +kernel
theorem dX5_init_22 : decode cX5_init 22 = .ok (.sipush 702, 3) := by decide +kernel
theorem dX5_init_25 : decode cX5_init 25 = .ok (.newarray .int, 2) := by decide +kernel
theorem dX5_init_27 : decode cX5_init 27 = .ok (.putfield 17, 3) := by decide +kernel
theorem dX5_init_30 : decode cX5_init 30 = .ok (.aload_n 0, 1) := by decide +kernel
theorem dX5_init_31 : decode cX5_init 31 = .ok (.sipush 702, 3) := by decide +kernel
theorem dX5_init_34 : decode cX5_init 34 = .ok (.newarray .int, 2) := by decide +kernel
theorem dX5_init_36 : decode cX5_init 36 = .ok (.putfield 20, 3) := by decide +kernel
theorem dX5_init_39 : decode cX5_init 39 = .ok (.aload_n 0, 1) := by decide +kernel
theorem dX5_init_40 : decode cX5_init 40 = .ok (.iconst 5, 1) := by decide +kernel
theorem dX5_init_41 : decode cX5_init 41 = .ok (.newarray .int, 2) := by decide +kernel
theorem dX5_init_43 : decode cX5_init 43 = .ok (.putfield 23, 3) := by decide +kernel
theorem dX5_init_46 : decode cX5_init 46 = .ok (.aload_n 0, 1) := by decide +kernel
theorem dX5_init_47 : decode cX5_init 47 = .ok (.bipush 6, 2) := by decide +kernel
theorem dX5_init_49 : decode cX5_init 49 = .ok (.newarray .int, 2) := by decide +kernel
theorem dX5_init_51 : decode cX5_init 51 = .ok (.putfield 26, 3) := by decide +kernel
theorem dX5_init_54 : decode cX5_init 54 = .ok (.aload_n 0, 1) := by decide +kernel
theorem dX5_init_55 : decode cX5_init 55 = .ok (.bipush 48, 2) := by decide +kernel
theorem dX5_init_57 : decode cX5_init 57 = .ok (.newarray .int, 2) := by decide +kernel
theorem dX5_init_59 : decode cX5_init 59 = .ok (.putfield 29, 3) := by decide +kernel
theorem dX5_init_62 : decode cX5_init 62 = .ok (.aload_n 0, 1) := by decide +kernel
theorem dX5_init_63 : decode cX5_init 63 = .ok (.bipush 49, 2) := by decide +kernel
theorem dX5_init_65 : decode cX5_init 65 = .ok (.newarray .boolean, 2) := by decide +kernel
theorem dX5_init_67 : decode cX5_init 67 = .ok (.putfield 32, 3) := by decide +kernel
theorem dX5_init_70 : decode cX5_init 70 = .ok (.aload_n 0, 1) := by decide +kernel
theorem dX5_init_71 : decode cX5_init 71 = .ok (.bipush 12, 2) := by decide +kernel
theorem dX5_init_73 : decode cX5_init 73 = .ok (.newarray .int, 2) := by decide +kernel
theorem dX5_init_75 : decode cX5_init 75 = .ok (.putfield 36, 3) := by decide +kernel
theorem dX5_init_78 : decode cX5_init 78 = .ok (.aload_n 0, 1) := by decide +kernel
theorem dX5_init_79 : decode cX5_init 79 = .ok (.bipush 100, 2) := by decide +kernel
theorem dX5_init_81 : decode cX5_init 81 = .ok (.putfield 39, 3) := by decide +kernel
theorem dX5_init_84 : decode cX5_init 84 = .ok (.iconst 0, 1) := by decide +kernel
theorem dX5_init_85 : decode cX5_init 85 = .ok (.istore_n 1, 1) := by decide +kernel
theorem dX5_init_86 : decode cX5_init 86 = .ok (.iload_n 1, 1) := by decide +kernel
theorem dX5_init_87 : decode cX5_init 87 = .ok (.aload_n 0, 1) := by decide +kernel
theorem dX5_init_88 : decode cX5_init 88 = .ok (.getfield 20, 3) := by decide +kernel
theorem dX5_init_91 : decode cX5_init 91 = .ok (.arraylength, 1) := by decide +kernel
theorem dX5_init_92 : decode cX5_init 92 = .ok (.if_icmp .ge 18, 3) := by decide +kernel
theorem dX5_init_95 : decode cX5_init 95 = .ok (.aload_n 0, 1) := by decide +kernel
theorem dX5_init_96 : decode cX5_init 96 = .ok (.getfield 20, 3) := by decide +kernel
theorem dX5_init_99 : decode cX5_init 99 = .ok (.iload_n 1, 1) := by decide +kernel
theorem dX5_init_100 : decode cX5_init 100 = .ok (.sipush 500, 3) := by decide +kernel
theorem dX5_init_103 : decode cX5_init 103 = .ok (.iastore, 1) := by decide +kernel
theorem dX5_init_104 : decode cX5_init 104 = .ok (.iinc 1 1, 3) := by decide +kernel
theorem dX5_init_107 : decode cX5_init 107 = .ok (.goto (-21), 3) := by decide +kernel
theorem dX5_init_110 : decode cX5_init 110 = .ok (.return_, 1) := by decide +kernel
theorem dX5_thrown_0 : decode cX5_thrown 0 = .ok (.aload_n 0, 1) := by decide +kernel
theorem dX5_thrown_1 : decode cX5_thrown 1 = .ok (.getfield 43, 3) := by decide +kernel
theorem dX5_thrown_4 : decode cX5_thrown 4 = .ok (.ireturn, 1) := by decide +kernel
theorem dX5_fail_0 : decode cX5_fail 0 = .ok (.aload_n 0, 1) := by decide +kernel
theorem dX5_fail_1 : decode cX5_fail 1 = .ok (.iload_n 1, 1) := by decide +kernel
theorem dX5_fail_2 : decode cX5_fail 2 = .ok (.putfield 43, 3) := by decide +kernel
theorem dX5_fail_5 : decode cX5_fail 5 = .ok (.iconst 0, 1) := by decide +kernel
theorem dX5_fail_6 : decode cX5_fail 6 = .ok (.ireturn, 1) := by decide +kernel
theorem dX5_isKey_0 : decode cX5_isKey 0 = .ok (.iload_n 0, 1) := by decide +kernel
theorem dX5_isKey_1 : decode cX5_isKey 1 = .ok (.ifCond .lt 13, 3) := by decide +kernel
theorem dX5_isKey_4 : decode cX5_isKey 4 = .ok (.iload_n 0, 1) := by decide +kernel
theorem dX5_isKey_5 : decode cX5_isKey 5 = .ok (.bipush 26, 2) := by decide +kernel
theorem dX5_isKey_7 : decode cX5_isKey 7 = .ok (.if_icmp .ge 7, 3) := by decide +kernel
theorem dX5_isKey_10 : decode cX5_isKey 10 = .ok (.iconst 1, 1) := by decide +kernel
theorem dX5_isKey_11 : decode cX5_isKey 11 = .ok (.goto 4, 3) := by decide +kernel
theorem dX5_isKey_14 : decode cX5_isKey 14 = .ok (.iconst 0, 1) := by decide +kernel
theorem dX5_isKey_15 : decode cX5_isKey 15 = .ok (.ireturn, 1) := by decide +kernel
theorem dX5_isNumber_0 : decode cX5_isNumber 0 = .ok (.iload_n 1, 1) := by decide +kernel
theorem dX5_isNumber_1 : decode cX5_isNumber 1 = .ok (.ifCond .lt 15, 3) := by decide +kernel
theorem dX5_isNumber_4 : decode cX5_isNumber 4 = .ok (.iload_n 1, 1) := by decide +kernel
theorem dX5_isNumber_5 : decode cX5_isNumber 5 = .ok (.aload_n 0, 1) := by decide +kernel
theorem dX5_isNumber_6 : decode cX5_isNumber 6 = .ok (.getfield 46, 3) := by decide +kernel
theorem dX5_isNumber_9 : decode cX5_isNumber 9 = .ok (.if_icmp .ge 7, 3) := by decide +kernel
theorem dX5_isNumber_12 : decode cX5_isNumber 12 = .ok (.iconst 1, 1) := by decide +kernel
theorem dX5_isNumber_13 : decode cX5_isNumber 13 = .ok (.goto 4, 3) := by decide +kernel
theorem dX5_isNumber_16 : decode cX5_isNumber 16 = .ok (.iconst 0, 1) := by decide +kernel
theorem dX5_isNumber_17 : decode cX5_isNumber 17 = .ok (.ireturn, 1) := by decide +kernel
theorem dX5_pairOf_0 : decode cX5_pairOf 0 = .ok (.bipush 26, 2) := by decide +kernel
theorem dX5_pairOf_2 : decode cX5_pairOf 2 = .ok (.bipush 26, 2) := by decide +kernel
theorem dX5_pairOf_4 : decode cX5_pairOf 4 = .ok (.iload_n 0, 1) := by decide +kernel
theorem dX5_pairOf_5 : decode cX5_pairOf 5 = .ok (.imul, 1) := by decide +kernel
theorem dX5_pairOf_6 : decode cX5_pairOf 6 = .ok (.iadd, 1) := by decide +kernel
theorem dX5_pairOf_7 : decode cX5_pairOf 7 = .ok (.iload_n 1, 1) := by decide +kernel
theorem dX5_pairOf_8 : decode cX5_pairOf 8 = .ok (.iadd, 1) := by decide +kernel
theorem dX5_pairOf_9 : decode cX5_pairOf 9 = .ok (.ireturn, 1) := by decide +kernel
theorem dX5_size_0 : decode cX5_size 0 = .ok (.iconst 0, 1) := by decide +kernel
theorem dX5_size_1 : decode cX5_size 1 = .ok (.istore_n 2, 1) := by decide +kernel
theorem dX5_size_2 : decode cX5_size 2 = .ok (.iload_n 2, 1) := by decide +kernel
theorem dX5_size_3 : decode cX5_size 3 = .ok (.bipush 8, 2) := by decide +kernel
theorem dX5_size_5 : decode cX5_size 5 = .ok (.if_icmp .ge 20, 3) := by decide +kernel
theorem dX5_size_8 : decode cX5_size 8 = .ok (.lload_n 0, 1) := by decide +kernel
theorem dX5_size_9 : decode cX5_size 9 = .ok (.bipush 8, 2) := by decide +kernel
theorem dX5_size_11 : decode cX5_size 11 = .ok (.iload_n 2, 1) := by decide +kernel
theorem dX5_size_12 : decode cX5_size 12 = .ok (.imul, 1) := by decide +kernel
theorem dX5_size_13 : decode cX5_size 13 = .ok (.lushr, 1) := by decide +kernel
theorem dX5_size_14 : decode cX5_size 14 = .ok (.lconst 0, 1) := by decide +kernel
theorem dX5_size_15 : decode cX5_size 15 = .ok (.lcmp, 1) := by decide +kernel
theorem dX5_size_16 : decode cX5_size 16 = .ok (.ifCond .eq 9, 3) := by decide +kernel
theorem dX5_size_19 : decode cX5_size 19 = .ok (.iinc 2 1, 3) := by decide +kernel
theorem dX5_size_22 : decode cX5_size 22 = .ok (.goto (-20), 3) := by decide +kernel
theorem dX5_size_25 : decode cX5_size 25 = .ok (.iload_n 2, 1) := by decide +kernel
theorem dX5_size_26 : decode cX5_size 26 = .ok (.ireturn, 1) := by decide +kernel
set_option maxRecDepth 20000 in
theorem ggX5_letter_X5_size : GoodIn wsX5_letter wsX5_size := goodIn_r _ [5] (by decide +kernel) (by decide +kernel)
set_option maxRecDepth 20000 in
theorem gX5_letter_X5_size : GoodIn wsX5_letter (va_wsS RX5 49 yX5_size wsX5_size) := goodIn_app (goodIn_of _ (by decide +kernel)) ggX5_letter_X5_size
theorem dX5_letter_0 : decode cX5_letter 0 = .ok (.lload_n 0, 1) := by decide +kernel
theorem dX5_letter_1 : decode cX5_letter 1 = .ok (.bipush 8, 2) := by decide +kernel
theorem dX5_letter_3 : decode cX5_letter 3 = .ok (.lload_n 0, 1) := by decide +kernel
theorem dX5_letter_4 : decode cX5_letter 4 = .ok (.invokestatic 49, 3) := by decide +kernel
theorem dX5_letter_7 : decode cX5_letter 7 = .ok (.iconst 1, 1) := by decide +kernel
theorem dX5_letter_8 : decode cX5_letter 8 = .ok (.isub, 1) := by decide +kernel
theorem dX5_letter_9 : decode cX5_letter 9 = .ok (.iload_n 2, 1) := by decide +kernel
theorem dX5_letter_10 : decode cX5_letter 10 = .ok (.isub, 1) := by decide +kernel
theorem dX5_letter_11 : decode cX5_letter 11 = .ok (.imul, 1) := by decide +kernel
theorem dX5_letter_12 : decode cX5_letter 12 = .ok (.lushr, 1) := by decide +kernel
theorem dX5_letter_13 : decode cX5_letter 13 = .ok (.ldc2_w 53, 3) := by decide +kernel
theorem dX5_letter_16 : decode cX5_letter 16 = .ok (.land, 1) := by decide +kernel
theorem dX5_letter_17 : decode cX5_letter 17 = .ok (.l2i, 1) := by decide +kernel
theorem dX5_letter_18 : decode cX5_letter 18 = .ok (.bipush 97, 2) := by decide +kernel
theorem dX5_letter_20 : decode cX5_letter 20 = .ok (.isub, 1) := by decide +kernel
theorem dX5_letter_21 : decode cX5_letter 21 = .ok (.ireturn, 1) := by decide +kernel
set_option maxRecDepth 20000 in
theorem ggX5_isWord_X5_size : GoodIn wsX5_isWord wsX5_size := goodIn_r _ [4] (by decide +kernel) (by decide +kernel)
set_option maxRecDepth 20000 in
theorem gX5_isWord_X5_size : GoodIn wsX5_isWord (va_wsS RX5 49 yX5_size wsX5_size) := goodIn_app (goodIn_of _ (by decide +kernel)) ggX5_isWord_X5_size
set_option maxRecDepth 20000 in
theorem ggX5_isWord_X5_letter : GoodIn wsX5_isWord wsX5_letter := goodIn_r _ [7, 8, 1, 2, 3, 4] (by decide +kernel) (by decide +kernel)
set_option maxRecDepth 20000 in
theorem gX5_isWord_X5_letter : GoodIn wsX5_isWord (va_wsS RX5 55 yX5_letter wsX5_letter) := goodIn_app (goodIn_of _ (by decide +kernel)) ggX5_isWord_X5_letter
set_option maxRecDepth 20000 in
theorem ggX5_isWord_X5_isKey : GoodIn wsX5_isWord wsX5_isKey := goodIn_r _ [11] (by decide +kernel) (by decide +kernel)
set_option maxRecDepth 20000 in
theorem gX5_isWord_X5_isKey : GoodIn wsX5_isWord (va_wsS RX5 59 yX5_isKey wsX5_isKey) := goodIn_app (goodIn_of _ (by decide +kernel)) ggX5_isWord_X5_isKey
theorem dX5_isWord_0 : decode cX5_isWord 0 = .ok (.lload_n 0, 1) := by decide +kernel
theorem dX5_isWord_1 : decode cX5_isWord 1 = .ok (.lconst 0, 1) := by decide +kernel
theorem dX5_isWord_2 : decode cX5_isWord 2 = .ok (.lcmp, 1) := by decide +kernel
theorem dX5_isWord_3 : decode cX5_isWord 3 = .ok (.ifCond .eq 7, 3) := by decide +kernel
theorem dX5_isWord_6 : decode cX5_isWord 6 = .ok (.iconst 1, 1) := by decide +kernel
theorem dX5_isWord_7 : decode cX5_isWord 7 = .ok (.goto 4, 3) := by decide +kernel
theorem dX5_isWord_10 : decode cX5_isWord 10 = .ok (.iconst 0, 1) := by decide +kernel
theorem dX5_isWord_11 : decode cX5_isWord 11 = .ok (.istore_n 2, 1) := by decide +kernel
theorem dX5_isWord_12 : decode cX5_isWord 12 = .ok (.iconst 0, 1) := by decide +kernel
theorem dX5_isWord_13 : decode cX5_isWord 13 = .ok (.istore_n 3, 1) := by decide +kernel
theorem dX5_isWord_14 : decode cX5_isWord 14 = .ok (.iload_n 3, 1) := by decide +kernel
theorem dX5_isWord_15 : decode cX5_isWord 15 = .ok (.lload_n 0, 1) := by decide +kernel
theorem dX5_isWord_16 : decode cX5_isWord 16 = .ok (.invokestatic 49, 3) := by decide +kernel
theorem dX5_isWord_19 : decode cX5_isWord 19 = .ok (.if_icmp .ge 30, 3) := by decide +kernel
theorem dX5_isWord_22 : decode cX5_isWord 22 = .ok (.iload_n 2, 1) := by decide +kernel
theorem dX5_isWord_23 : decode cX5_isWord 23 = .ok (.ifCond .eq 18, 3) := by decide +kernel
theorem dX5_isWord_26 : decode cX5_isWord 26 = .ok (.lload_n 0, 1) := by decide +kernel
theorem dX5_isWord_27 : decode cX5_isWord 27 = .ok (.iload_n 3, 1) := by decide +kernel
theorem dX5_isWord_28 : decode cX5_isWord 28 = .ok (.invokestatic 55, 3) := by decide +kernel
theorem dX5_isWord_31 : decode cX5_isWord 31 = .ok (.invokestatic 59, 3) := by decide +kernel
theorem dX5_isWord_34 : decode cX5_isWord 34 = .ok (.ifCond .eq 7, 3) := by decide +kernel
theorem dX5_isWord_37 : decode cX5_isWord 37 = .ok (.iconst 1, 1) := by decide +kernel
theorem dX5_isWord_38 : decode cX5_isWord 38 = .ok (.goto 4, 3) := by decide +kernel
theorem dX5_isWord_41 : decode cX5_isWord 41 = .ok (.iconst 0, 1) := by decide +kernel
theorem dX5_isWord_42 : decode cX5_isWord 42 = .ok (.istore_n 2, 1) := by decide +kernel
theorem dX5_isWord_43 : decode cX5_isWord 43 = .ok (.iinc 3 1, 3) := by decide +kernel
theorem dX5_isWord_46 : decode cX5_isWord 46 = .ok (.goto (-32), 3) := by decide +kernel
theorem dX5_isWord_49 : decode cX5_isWord 49 = .ok (.iload_n 2, 1) := by decide +kernel
theorem dX5_isWord_50 : decode cX5_isWord 50 = .ok (.ireturn, 1) := by decide +kernel
set_option maxRecDepth 20000 in
theorem ggX5_addWord_X5_isWord : GoodIn wsX5_addWord wsX5_isWord := goodIn_r _ [7, 8, 9, 6, 10, 11, 12, 13, 14, 15, 16, 17] (by decide +kernel) (by decide +kernel)
set_option maxRecDepth 20000 in
theorem gX5_addWord_X5_isWord : GoodIn wsX5_addWord (va_wsS RX5 63 yX5_isWord wsX5_isWord) := goodIn_app (goodIn_of _ (by decide +kernel)) ggX5_addWord_X5_isWord
set_option maxRecDepth 20000 in
theorem ggX5_addWord_X5_fail : GoodIn wsX5_addWord wsX5_fail := goodIn_r _ [21, 1, 22, 23, 24, 25, 26, 27, 28, 29, 30, 31, 32, 33, 34, 35, 36, 37, 38, 39, 40, 41] (by decide +kernel) (by decide +kernel)
set_option maxRecDepth 20000 in
theorem gX5_addWord_X5_fail : GoodIn wsX5_addWord (wsV RX5 67 RX5 yX5_fail wsX5_fail) := goodIn_app (goodIn_of _ (by decide +kernel)) ggX5_addWord_X5_fail
theorem dX5_addWord_0 : decode cX5_addWord 0 = .ok (.aload_n 0, 1) := by decide +kernel
theorem dX5_addWord_1 : decode cX5_addWord 1 = .ok (.iconst 0, 1) := by decide +kernel
theorem dX5_addWord_2 : decode cX5_addWord 2 = .ok (.putfield 43, 3) := by decide +kernel
theorem dX5_addWord_5 : decode cX5_addWord 5 = .ok (.lload_n 1, 1) := by decide +kernel
theorem dX5_addWord_6 : decode cX5_addWord 6 = .ok (.invokestatic 63, 3) := by decide +kernel
theorem dX5_addWord_9 : decode cX5_addWord 9 = .ok (.ifCond .ne 9, 3) := by decide +kernel
theorem dX5_addWord_12 : decode cX5_addWord 12 = .ok (.aload_n 0, 1) := by decide +kernel
theorem dX5_addWord_13 : decode cX5_addWord 13 = .ok (.iconst 1, 1) := by decide +kernel
theorem dX5_addWord_14 : decode cX5_addWord 14 = .ok (.invokevirtual 67, 3) := by decide +kernel
theorem dX5_addWord_17 : decode cX5_addWord 17 = .ok (.ireturn, 1) := by decide +kernel
theorem dX5_addWord_18 : decode cX5_addWord 18 = .ok (.aload_n 0, 1) := by decide +kernel
theorem dX5_addWord_19 : decode cX5_addWord 19 = .ok (.getfield 46, 3) := by decide +kernel
theorem dX5_addWord_22 : decode cX5_addWord 22 = .ok (.bipush 40, 2) := by decide +kernel
theorem dX5_addWord_24 : decode cX5_addWord 24 = .ok (.if_icmp .ne 9, 3) := by decide +kernel
theorem dX5_addWord_27 : decode cX5_addWord 27 = .ok (.aload_n 0, 1) := by decide +kernel
theorem dX5_addWord_28 : decode cX5_addWord 28 = .ok (.iconst 2, 1) := by decide +kernel
theorem dX5_addWord_29 : decode cX5_addWord 29 = .ok (.invokevirtual 67, 3) := by decide +kernel
theorem dX5_addWord_32 : decode cX5_addWord 32 = .ok (.ireturn, 1) := by decide +kernel
theorem dX5_addWord_33 : decode cX5_addWord 33 = .ok (.iconst 0, 1) := by decide +kernel
theorem dX5_addWord_34 : decode cX5_addWord 34 = .ok (.istore_n 3, 1) := by decide +kernel
theorem dX5_addWord_35 : decode cX5_addWord 35 = .ok (.iload_n 3, 1) := by decide +kernel
theorem dX5_addWord_36 : decode cX5_addWord 36 = .ok (.aload_n 0, 1) := by decide +kernel
theorem dX5_addWord_37 : decode cX5_addWord 37 = .ok (.getfield 46, 3) := by decide +kernel
theorem dX5_addWord_40 : decode cX5_addWord 40 = .ok (.if_icmp .ge 26, 3) := by decide +kernel
theorem dX5_addWord_43 : decode cX5_addWord 43 = .ok (.aload_n 0, 1) := by decide +kernel
theorem dX5_addWord_44 : decode cX5_addWord 44 = .ok (.getfield 9, 3) := by decide +kernel
theorem dX5_addWord_47 : decode cX5_addWord 47 = .ok (.iload_n 3, 1) := by decide +kernel
theorem dX5_addWord_48 : decode cX5_addWord 48 = .ok (.laload, 1) := by decide +kernel
theorem dX5_addWord_49 : decode cX5_addWord 49 = .ok (.lload_n 1, 1) := by decide +kernel
theorem dX5_addWord_50 : decode cX5_addWord 50 = .ok (.lcmp, 1) := by decide +kernel
theorem dX5_addWord_51 : decode cX5_addWord 51 = .ok (.ifCond .ne 9, 3) := by decide +kernel
theorem dX5_addWord_54 : decode cX5_addWord 54 = .ok (.aload_n 0, 1) := by decide +kernel
theorem dX5_addWord_55 : decode cX5_addWord 55 = .ok (.iconst 2, 1) := by decide +kernel
theorem dX5_addWord_56 : decode cX5_addWord 56 = .ok (.invokevirtual 67, 3) := by decide +kernel
theorem dX5_addWord_59 : decode cX5_addWord 59 = .ok (.ireturn, 1) := by decide +kernel
theorem dX5_addWord_60 : decode cX5_addWord 60 = .ok (.iinc 3 1, 3) := by decide +kernel
theorem dX5_addWord_63 : decode cX5_addWord 63 = .ok (.goto (-28), 3) := by decide +kernel
theorem dX5_addWord_66 : decode cX5_addWord 66 = .ok (.aload_n 0, 1) := by decide +kernel
theorem dX5_addWord_67 : decode cX5_addWord 67 = .ok (.getfield 9, 3) := by decide +kernel
theorem dX5_addWord_70 : decode cX5_addWord 70 = .ok (.aload_n 0, 1) := by decide +kernel
theorem dX5_addWord_71 : decode cX5_addWord 71 = .ok (.getfield 46, 3) := by decide +kernel
theorem dX5_addWord_74 : decode cX5_addWord 74 = .ok (.lload_n 1, 1) := by decide +kernel
theorem dX5_addWord_75 : decode cX5_addWord 75 = .ok (.lastore, 1) := by decide +kernel
theorem dX5_addWord_76 : decode cX5_addWord 76 = .ok (.aload_n 0, 1) := by decide +kernel
theorem dX5_addWord_77 : decode cX5_addWord 77 = .ok (.dup, 1) := by decide +kernel
theorem dX5_addWord_78 : decode cX5_addWord 78 = .ok (.getfield 46, 3) := by decide +kernel
theorem dX5_addWord_81 : decode cX5_addWord 81 = .ok (.iconst 1, 1) := by decide +kernel
theorem dX5_addWord_82 : decode cX5_addWord 82 = .ok (.iadd, 1) := by decide +kernel
theorem dX5_addWord_83 : decode cX5_addWord 83 = .ok (.putfield 46, 3) := by decide +kernel
theorem dX5_addWord_86 : decode cX5_addWord 86 = .ok (.aload_n 0, 1) := by decide +kernel
theorem dX5_addWord_87 : decode cX5_addWord 87 = .ok (.getfield 46, 3) := by decide +kernel
theorem dX5_addWord_90 : decode cX5_addWord 90 = .ok (.iconst 1, 1) := by decide +kernel
theorem dX5_addWord_91 : decode cX5_addWord 91 = .ok (.isub, 1) := by decide +kernel
theorem dX5_addWord_92 : decode cX5_addWord 92 = .ok (.ireturn, 1) := by decide +kernel
theorem dX5_wordCount_0 : decode cX5_wordCount 0 = .ok (.aload_n 0, 1) := by decide +kernel
theorem dX5_wordCount_1 : decode cX5_wordCount 1 = .ok (.iconst 0, 1) := by decide +kernel
theorem dX5_wordCount_2 : decode cX5_wordCount 2 = .ok (.putfield 43, 3) := by decide +kernel
theorem dX5_wordCount_5 : decode cX5_wordCount 5 = .ok (.aload_n 0, 1) := by decide +kernel
theorem dX5_wordCount_6 : decode cX5_wordCount 6 = .ok (.getfield 46, 3) := by decide +kernel
theorem dX5_wordCount_9 : decode cX5_wordCount 9 = .ok (.ireturn, 1) := by decide +kernel
set_option maxRecDepth 20000 in
theorem ggX5_word_X5_isNumber : GoodIn wsX5_word wsX5_isNumber := goodIn_r _ [7, 8, 9, 10, 11, 12, 13, 14, 15, 16, 17, 18, 19, 20, 21, 22, 23, 24, 25, 26, 27, 28] (by decide +kernel) (by decide +kernel)
set_option maxRecDepth 20000 in
theorem gX5_word_X5_isNumber : GoodIn wsX5_word (wsV RX5 71 RX5 yX5_isNumber wsX5_isNumber) := goodIn_app (goodIn_of _ (by decide +kernel)) ggX5_word_X5_isNumber
theorem dX5_word_0 : decode cX5_word 0 = .ok (.aload_n 0, 1) := by decide +kernel
theorem dX5_word_1 : decode cX5_word 1 = .ok (.aload_n 0, 1) := by decide +kernel
theorem dX5_word_2 : decode cX5_word 2 = .ok (.iload_n 1, 1) := by decide +kernel
theorem dX5_word_3 : decode cX5_word 3 = .ok (.invokevirtual 71, 3) := by decide +kernel
theorem dX5_word_6 : decode cX5_word 6 = .ok (.ifCond .eq 7, 3) := by decide +kernel
theorem dX5_word_9 : decode cX5_word 9 = .ok (.iconst 0, 1) := by decide +kernel
theorem dX5_word_10 : decode cX5_word 10 = .ok (.goto 4, 3) := by decide +kernel
theorem dX5_word_13 : decode cX5_word 13 = .ok (.iconst 1, 1) := by decide +kernel
theorem dX5_word_14 : decode cX5_word 14 = .ok (.putfield 43, 3) := by decide +kernel
theorem dX5_word_17 : decode cX5_word 17 = .ok (.aload_n 0, 1) := by decide +kernel
theorem dX5_word_18 : decode cX5_word 18 = .ok (.getfield 43, 3) := by decide +kernel
theorem dX5_word_21 : decode cX5_word 21 = .ok (.ifCond .ne 12, 3) := by decide +kernel
theorem dX5_word_24 : decode cX5_word 24 = .ok (.aload_n 0, 1) := by decide +kernel
theorem dX5_word_25 : decode cX5_word 25 = .ok (.getfield 9, 3) := by decide +kernel
theorem dX5_word_28 : decode cX5_word 28 = .ok (.iload_n 1, 1) := by decide +kernel
theorem dX5_word_29 : decode cX5_word 29 = .ok (.laload, 1) := by decide +kernel
theorem dX5_word_30 : decode cX5_word 30 = .ok (.goto 4, 3) := by decide +kernel
theorem dX5_word_33 : decode cX5_word 33 = .ok (.lconst 0, 1) := by decide +kernel
theorem dX5_word_34 : decode cX5_word 34 = .ok (.lreturn, 1) := by decide +kernel
set_option maxRecDepth 20000 in
theorem ggX5_weakness_X5_pairOf : GoodIn wsX5_weakness wsX5_pairOf := goodIn_r _ [6] (by decide +kernel) (by decide +kernel)
set_option maxRecDepth 20000 in
theorem gX5_weakness_X5_pairOf : GoodIn wsX5_weakness (va_wsS RX5 74 yX5_pairOf wsX5_pairOf) := goodIn_app (goodIn_of _ (by decide +kernel)) ggX5_weakness_X5_pairOf
theorem dX5_weakness_0 : decode cX5_weakness 0 = .ok (.iload_n 1, 1) := by decide +kernel
theorem dX5_weakness_1 : decode cX5_weakness 1 = .ok (.iload_n 2, 1) := by decide +kernel
theorem dX5_weakness_2 : decode cX5_weakness 2 = .ok (.invokestatic 74, 3) := by decide +kernel
theorem dX5_weakness_5 : decode cX5_weakness 5 = .ok (.istore_n 3, 1) := by decide +kernel
theorem dX5_weakness_6 : decode cX5_weakness 6 = .ok (.sipush 1000, 3) := by decide +kernel
theorem dX5_weakness_9 : decode cX5_weakness 9 = .ok (.aload_n 0, 1) := by decide +kernel
theorem dX5_weakness_10 : decode cX5_weakness 10 = .ok (.getfield 20, 3) := by decide +kernel
theorem dX5_weakness_13 : decode cX5_weakness 13 = .ok (.iload_n 3, 1) := by decide +kernel
theorem dX5_weakness_14 : decode cX5_weakness 14 = .ok (.iaload, 1) := by decide +kernel
theorem dX5_weakness_15 : decode cX5_weakness 15 = .ok (.isub, 1) := by decide +kernel
theorem dX5_weakness_16 : decode cX5_weakness 16 = .ok (.aload_n 0, 1) := by decide +kernel
theorem dX5_weakness_17 : decode cX5_weakness 17 = .ok (.getfield 13, 3) := by decide +kernel
theorem dX5_weakness_20 : decode cX5_weakness 20 = .ok (.iload_n 3, 1) := by decide +kernel
theorem dX5_weakness_21 : decode cX5_weakness 21 = .ok (.iaload, 1) := by decide +kernel
theorem dX5_weakness_22 : decode cX5_weakness 22 = .ok (.ifCond .ne 9, 3) := by decide +kernel
theorem dX5_weakness_25 : decode cX5_weakness 25 = .ok (.sipush 200, 3) := by decide +kernel
theorem dX5_weakness_28 : decode cX5_weakness 28 = .ok (.goto 4, 3) := by decide +kernel
theorem dX5_weakness_31 : decode cX5_weakness 31 = .ok (.iconst 0, 1) := by decide +kernel
theorem dX5_weakness_32 : decode cX5_weakness 32 = .ok (.iadd, 1) := by decide +kernel
theorem dX5_weakness_33 : decode cX5_weakness 33 = .ok (.ireturn, 1) := by decide +kernel
set_option maxRecDepth 20000 in
theorem ggX5_weightOf_X5_size : GoodIn wsX5_weightOf wsX5_size := goodIn_r _ [5] (by decide +kernel) (by decide +kernel)
set_option maxRecDepth 20000 in
theorem gX5_weightOf_X5_size : GoodIn wsX5_weightOf (va_wsS RX5 49 yX5_size wsX5_size) := goodIn_app (goodIn_of _ (by decide +kernel)) ggX5_weightOf_X5_size
set_option maxRecDepth 20000 in
theorem ggX5_weightOf_X5_letter : GoodIn wsX5_weightOf wsX5_letter := goodIn_r _ [8, 9, 2, 3, 4, 5] (by decide +kernel) (by decide +kernel)
set_option maxRecDepth 20000 in
theorem gX5_weightOf_X5_letter : GoodIn wsX5_weightOf (va_wsS RX5 55 yX5_letter wsX5_letter) := goodIn_app (goodIn_of _ (by decide +kernel)) ggX5_weightOf_X5_letter
set_option maxRecDepth 20000 in
theorem ggX5_weightOf_X5_weakness : GoodIn wsX5_weightOf wsX5_weakness := goodIn_r _ [13, 1, 14, 15, 16, 4, 17, 18, 19, 20, 21, 22, 23, 24, 25, 26, 27, 28, 29, 30, 31, 32, 33, 34, 35, 36, 37] (by decide +kernel) (by decide +kernel)
set_option maxRecDepth 20000 in
theorem gX5_weightOf_X5_weakness : GoodIn wsX5_weightOf (wsV RX5 78 RX5 yX5_weakness wsX5_weakness) := goodIn_app (goodIn_of _ (by decide +kernel)) ggX5_weightOf_X5_weakness
theorem dX5_weightOf_0 : decode cX5_weightOf 0 = .ok (.lload_n 1, 1) := by decide +kernel
theorem dX5_weightOf_1 : decode cX5_weightOf 1 = .ok (.invokestatic 49, 3) := by decide +kernel
theorem dX5_weightOf_4 : decode cX5_weightOf 4 = .ok (.istore_n 3, 1) := by decide +kernel
theorem dX5_weightOf_5 : decode cX5_weightOf 5 = .ok (.iload_n 3, 1) := by decide +kernel
theorem dX5_weightOf_6 : decode cX5_weightOf 6 = .ok (.iconst 1, 1) := by decide +kernel
theorem dX5_weightOf_7 : decode cX5_weightOf 7 = .ok (.if_icmp .ne 18, 3) := by decide +kernel
theorem dX5_weightOf_10 : decode cX5_weightOf 10 = .ok (.sipush 1000, 3) := by decide +kernel
theorem dX5_weightOf_13 : decode cX5_weightOf 13 = .ok (.aload_n 0, 1) := by decide +kernel
theorem dX5_weightOf_14 : decode cX5_weightOf 14 = .ok (.getfield 20, 3) := by decide +kernel
theorem dX5_weightOf_17 : decode cX5_weightOf 17 = .ok (.lload_n 1, 1) := by decide +kernel
theorem dX5_weightOf_18 : decode cX5_weightOf 18 = .ok (.iconst 0, 1) := by decide +kernel
theorem dX5_weightOf_19 : decode cX5_weightOf 19 = .ok (.invokestatic 55, 3) := by decide +kernel
theorem dX5_weightOf_22 : decode cX5_weightOf 22 = .ok (.iaload, 1) := by decide +kernel
theorem dX5_weightOf_23 : decode cX5_weightOf 23 = .ok (.isub, 1) := by decide +kernel
theorem dX5_weightOf_24 : decode cX5_weightOf 24 = .ok (.ireturn, 1) := by decide +kernel
theorem dX5_weightOf_25 : decode cX5_weightOf 25 = .ok (.iconst 0, 1) := by decide +kernel
theorem dX5_weightOf_26 : decode cX5_weightOf 26 = .ok (.istore 4, 2) := by decide +kernel
theorem dX5_weightOf_28 : decode cX5_weightOf 28 = .ok (.iconst 1, 1) := by decide +kernel
theorem dX5_weightOf_29 : decode cX5_weightOf 29 = .ok (.istore 5, 2) := by decide +kernel
theorem dX5_weightOf_31 : decode cX5_weightOf 31 = .ok (.iload 5, 2) := by decide +kernel
theorem dX5_weightOf_33 : decode cX5_weightOf 33 = .ok (.iload_n 3, 1) := by decide +kernel
theorem dX5_weightOf_34 : decode cX5_weightOf 34 = .ok (.if_icmp .ge 32, 3) := by decide +kernel
theorem dX5_weightOf_37 : decode cX5_weightOf 37 = .ok (.iload 4, 2) := by decide +kernel
theorem dX5_weightOf_39 : decode cX5_weightOf 39 = .ok (.aload_n 0, 1) := by decide +kernel
theorem dX5_weightOf_40 : decode cX5_weightOf 40 = .ok (.lload_n 1, 1) := by decide +kernel
theorem dX5_weightOf_41 : decode cX5_weightOf 41 = .ok (.iload 5, 2) := by decide +kernel
theorem dX5_weightOf_43 : decode cX5_weightOf 43 = .ok (.iconst 1, 1) := by decide +kernel
theorem dX5_weightOf_44 : decode cX5_weightOf 44 = .ok (.isub, 1) := by decide +kernel
theorem dX5_weightOf_45 : decode cX5_weightOf 45 = .ok (.invokestatic 55, 3) := by decide +kernel
theorem dX5_weightOf_48 : decode cX5_weightOf 48 = .ok (.lload_n 1, 1) := by decide +kernel
theorem dX5_weightOf_49 : decode cX5_weightOf 49 = .ok (.iload 5, 2) := by decide +kernel
theorem dX5_weightOf_51 : decode cX5_weightOf 51 = .ok (.invokestatic 55, 3) := by decide +kernel
theorem dX5_weightOf_54 : decode cX5_weightOf 54 = .ok (.invokevirtual 78, 3) := by decide +kernel
theorem dX5_weightOf_57 : decode cX5_weightOf 57 = .ok (.iadd, 1) := by decide +kernel
theorem dX5_weightOf_58 : decode cX5_weightOf 58 = .ok (.istore 4, 2) := by decide +kernel
theorem dX5_weightOf_60 : decode cX5_weightOf 60 = .ok (.iinc 5 1, 3) := by decide +kernel
theorem dX5_weightOf_63 : decode cX5_weightOf 63 = .ok (.goto (-32), 3) := by decide +kernel
theorem dX5_weightOf_66 : decode cX5_weightOf 66 = .ok (.iload 4, 2) := by decide +kernel
theorem dX5_weightOf_68 : decode cX5_weightOf 68 = .ok (.iload_n 3, 1) := by decide +kernel
theorem dX5_weightOf_69 : decode cX5_weightOf 69 = .ok (.iconst 1, 1) := by decide +kernel
theorem dX5_weightOf_70 : decode cX5_weightOf 70 = .ok (.isub, 1) := by decide +kernel
theorem dX5_weightOf_71 : decode cX5_weightOf 71 = .ok (.idiv, 1) := by decide +kernel
theorem dX5_weightOf_72 : decode cX5_weightOf 72 = .ok (.ireturn, 1) := by decide +kernel
set_option maxRecDepth 20000 in
theorem ggX5_weight_X5_isNumber : GoodIn wsX5_weight wsX5_isNumber := goodIn_r _ [7, 8, 33, 34, 35, 36, 37, 38, 39, 40, 41, 42, 43, 44, 45, 46, 47, 48, 49, 50, 51, 52] (by decide +kernel) (by decide +kernel)
set_option maxRecDepth 20000 in
theorem gX5_weight_X5_isNumber : GoodIn wsX5_weight (wsV RX5 71 RX5 yX5_isNumber wsX5_isNumber) := goodIn_app (goodIn_of _ (by decide +kernel)) ggX5_weight_X5_isNumber
set_option maxRecDepth 20000 in
theorem ggX5_weight_X5_weightOf : GoodIn wsX5_weight wsX5_weightOf := goodIn_r _ [12, 13, 14, 15, 6, 16, 17, 18, 19, 20, 21, 22, 23, 24, 25, 26, 27, 28, 33, 34, 35, 36, 37, 38, 39, 40, 41, 42, 43, 44, 45, 46, 47, 48, 49, 50, 51, 52] (by decide +kernel) (by decide +kernel)
set_option maxRecDepth 20000 in
theorem gX5_weight_X5_weightOf : GoodIn wsX5_weight (wsV RX5 81 RX5 yX5_weightOf wsX5_weightOf) := goodIn_app (goodIn_of _ (by decide +kernel)) ggX5_weight_X5_weightOf
set_option maxRecDepth 20000 in
theorem ggX5_weight_X5_fail : GoodIn wsX5_weight wsX5_fail := goodIn_r _ [32, 1, 33, 34, 35, 36, 37, 38, 39, 40, 41, 42, 43, 44, 45, 46, 47, 48, 49, 50, 51, 52] (by decide +kernel) (by decide +kernel)
set_option maxRecDepth 20000 in
theorem gX5_weight_X5_fail : GoodIn wsX5_weight (wsV RX5 67 RX5 yX5_fail wsX5_fail) := goodIn_app (goodIn_of _ (by decide +kernel)) ggX5_weight_X5_fail
theorem dX5_weight_0 : decode cX5_weight 0 = .ok (.aload_n 0, 1) := by decide +kernel
theorem dX5_weight_1 : decode cX5_weight 1 = .ok (.iconst 0, 1) := by decide +kernel
theorem dX5_weight_2 : decode cX5_weight 2 = .ok (.putfield 43, 3) := by decide +kernel
theorem dX5_weight_5 : decode cX5_weight 5 = .ok (.aload_n 0, 1) := by decide +kernel
theorem dX5_weight_6 : decode cX5_weight 6 = .ok (.iload_n 1, 1) := by decide +kernel
theorem dX5_weight_7 : decode cX5_weight 7 = .ok (.invokevirtual 71, 3) := by decide +kernel
theorem dX5_weight_10 : decode cX5_weight 10 = .ok (.ifCond .eq 16, 3) := by decide +kernel
theorem dX5_weight_13 : decode cX5_weight 13 = .ok (.aload_n 0, 1) := by decide +kernel
theorem dX5_weight_14 : decode cX5_weight 14 = .ok (.aload_n 0, 1) := by decide +kernel
theorem dX5_weight_15 : decode cX5_weight 15 = .ok (.getfield 9, 3) := by decide +kernel
theorem dX5_weight_18 : decode cX5_weight 18 = .ok (.iload_n 1, 1) := by decide +kernel
theorem dX5_weight_19 : decode cX5_weight 19 = .ok (.laload, 1) := by decide +kernel
theorem dX5_weight_20 : decode cX5_weight 20 = .ok (.invokevirtual 81, 3) := by decide +kernel
theorem dX5_weight_23 : decode cX5_weight 23 = .ok (.goto 8, 3) := by decide +kernel
theorem dX5_weight_26 : decode cX5_weight 26 = .ok (.aload_n 0, 1) := by decide +kernel
theorem dX5_weight_27 : decode cX5_weight 27 = .ok (.iconst 1, 1) := by decide +kernel
theorem dX5_weight_28 : decode cX5_weight 28 = .ok (.invokevirtual 67, 3) := by decide +kernel
theorem dX5_weight_31 : decode cX5_weight 31 = .ok (.ireturn, 1) := by decide +kernel
set_option maxRecDepth 20000 in
theorem ggX5_nearTo_J0_indexOf_0f7a4 : GoodIn wsX5_nearTo wsJ0_indexOf_0f7a4 := goodIn_r _ [9, 10, 11, 12, 8, 13, 14, 15, 16, 17, 18, 19, 20, 21, 22, 23, 24, 25, 26, 27, 28, 29, 30, 31, 32, 33, 34, 3, 35, 36, 37, 38, 39, 40, 41, 42, 43, 44, 45, 46, 47, 48, 49, 50, 51, 52, 53, 54, 55, 56, 57, 58, 59, 60, 61, 62, 63, 64, 65, 66, 67, 68, 69, 70, 71, 72, 73, 74, 75, 76, 77, 78, 79, 80, 81, 82, 83, 84, 85, 86, 87, 88, 89, 90, 91, 92] (by decide +kernel) (by decide +kernel)
set_option maxRecDepth 20000 in
theorem gX5_nearTo_J0_indexOf_0f7a4 : GoodIn wsX5_nearTo (wsV RX5 86 RJ0 yJ0_indexOf_0f7a4 wsJ0_indexOf_0f7a4) := goodIn_app (goodIn_of _ (by decide +kernel)) ggX5_nearTo_J0_indexOf_0f7a4
theorem dX5_nearTo_0 : decode cX5_nearTo 0 = .ok (.ldc 84, 2) := by decide +kernel
theorem dX5_nearTo_2 : decode cX5_nearTo 2 = .ok (.bipush 97, 2) := by decide +kernel
theorem dX5_nearTo_4 : decode cX5_nearTo 4 = .ok (.iload_n 0, 1) := by decide +kernel
theorem dX5_nearTo_5 : decode cX5_nearTo 5 = .ok (.iadd, 1) := by decide +kernel
theorem dX5_nearTo_6 : decode cX5_nearTo 6 = .ok (.invokevirtual 86, 3) := by decide +kernel
theorem dX5_nearTo_9 : decode cX5_nearTo 9 = .ok (.istore_n 2, 1) := by decide +kernel
theorem dX5_nearTo_10 : decode cX5_nearTo 10 = .ok (.ldc 84, 2) := by decide +kernel
theorem dX5_nearTo_12 : decode cX5_nearTo 12 = .ok (.bipush 97, 2) := by decide +kernel
theorem dX5_nearTo_14 : decode cX5_nearTo 14 = .ok (.iload_n 1, 1) := by decide +kernel
theorem dX5_nearTo_15 : decode cX5_nearTo 15 = .ok (.iadd, 1) := by decide +kernel
theorem dX5_nearTo_16 : decode cX5_nearTo 16 = .ok (.invokevirtual 86, 3) := by decide +kernel
theorem dX5_nearTo_19 : decode cX5_nearTo 19 = .ok (.istore_n 3, 1) := by decide +kernel
theorem dX5_nearTo_20 : decode cX5_nearTo 20 = .ok (.iload_n 2, 1) := by decide +kernel
theorem dX5_nearTo_21 : decode cX5_nearTo 21 = .ok (.bipush 11, 2) := by decide +kernel
theorem dX5_nearTo_23 : decode cX5_nearTo 23 = .ok (.idiv, 1) := by decide +kernel
theorem dX5_nearTo_24 : decode cX5_nearTo 24 = .ok (.iload_n 3, 1) := by decide +kernel
theorem dX5_nearTo_25 : decode cX5_nearTo 25 = .ok (.bipush 11, 2) := by decide +kernel
theorem dX5_nearTo_27 : decode cX5_nearTo 27 = .ok (.idiv, 1) := by decide +kernel
theorem dX5_nearTo_28 : decode cX5_nearTo 28 = .ok (.isub, 1) := by decide +kernel
theorem dX5_nearTo_29 : decode cX5_nearTo 29 = .ok (.invokestatic 91, 3) := by decide +kernel
theorem dX5_nearTo_32 : decode cX5_nearTo 32 = .ok (.istore 4, 2) := by decide +kernel
theorem dX5_nearTo_34 : decode cX5_nearTo 34 = .ok (.iload_n 2, 1) := by decide +kernel
theorem dX5_nearTo_35 : decode cX5_nearTo 35 = .ok (.bipush 11, 2) := by decide +kernel
theorem dX5_nearTo_37 : decode cX5_nearTo 37 = .ok (.irem, 1) := by decide +kernel
theorem dX5_nearTo_38 : decode cX5_nearTo 38 = .ok (.iload_n 3, 1) := by decide +kernel
theorem dX5_nearTo_39 : decode cX5_nearTo 39 = .ok (.bipush 11, 2) := by decide +kernel
theorem dX5_nearTo_41 : decode cX5_nearTo 41 = .ok (.irem, 1) := by decide +kernel
theorem dX5_nearTo_42 : decode cX5_nearTo 42 = .ok (.isub, 1) := by decide +kernel
theorem dX5_nearTo_43 : decode cX5_nearTo 43 = .ok (.invokestatic 91, 3) := by decide +kernel
theorem dX5_nearTo_46 : decode cX5_nearTo 46 = .ok (.istore 5, 2) := by decide +kernel
theorem dX5_nearTo_48 : decode cX5_nearTo 48 = .ok (.iload 4, 2) := by decide +kernel
theorem dX5_nearTo_50 : decode cX5_nearTo 50 = .ok (.ifCond .ne 17, 3) := by decide +kernel
theorem dX5_nearTo_53 : decode cX5_nearTo 53 = .ok (.iload 5, 2) := by decide +kernel
theorem dX5_nearTo_55 : decode cX5_nearTo 55 = .ok (.iconst 1, 1) := by decide +kernel
theorem dX5_nearTo_56 : decode cX5_nearTo 56 = .ok (.if_icmp .ne 7, 3) := by decide +kernel
theorem dX5_nearTo_59 : decode cX5_nearTo 59 = .ok (.iconst 1, 1) := by decide +kernel
theorem dX5_nearTo_60 : decode cX5_nearTo 60 = .ok (.goto 24, 3) := by decide +kernel
theorem dX5_nearTo_63 : decode cX5_nearTo 63 = .ok (.iconst 0, 1) := by decide +kernel
theorem dX5_nearTo_64 : decode cX5_nearTo 64 = .ok (.goto 20, 3) := by decide +kernel
theorem dX5_nearTo_67 : decode cX5_nearTo 67 = .ok (.iload 4, 2) := by decide +kernel
theorem dX5_nearTo_69 : decode cX5_nearTo 69 = .ok (.iconst 1, 1) := by decide +kernel
theorem dX5_nearTo_70 : decode cX5_nearTo 70 = .ok (.if_icmp .ne 13, 3) := by decide +kernel
theorem dX5_nearTo_73 : decode cX5_nearTo 73 = .ok (.iload 5, 2) := by decide +kernel
theorem dX5_nearTo_75 : decode cX5_nearTo 75 = .ok (.iconst 1, 1) := by decide +kernel
theorem dX5_nearTo_76 : decode cX5_nearTo 76 = .ok (.if_icmp .gt 7, 3) := by decide +kernel
theorem dX5_nearTo_79 : decode cX5_nearTo 79 = .ok (.iconst 1, 1) := by decide +kernel
theorem dX5_nearTo_80 : decode cX5_nearTo 80 = .ok (.goto 4, 3) := by decide +kernel
theorem dX5_nearTo_83 : decode cX5_nearTo 83 = .ok (.iconst 0, 1) := by decide +kernel
theorem dX5_nearTo_84 : decode cX5_nearTo 84 = .ok (.ireturn, 1) := by decide +kernel
set_option maxRecDepth 20000 in
theorem ggX5_areNeighbours_X5_isKey : GoodIn wsX5_areNeighbours wsX5_isKey := goodIn_r _ [5] (by decide +kernel) (by decide +kernel)
set_option maxRecDepth 20000 in
theorem gX5_areNeighbours_X5_isKey : GoodIn wsX5_areNeighbours (va_wsS RX5 59 yX5_isKey wsX5_isKey) := goodIn_app (goodIn_of _ (by decide +kernel)) ggX5_areNeighbours_X5_isKey
set_option maxRecDepth 20000 in
theorem ggX5_areNeighbours_X5_nearTo : GoodIn wsX5_areNeighbours wsX5_nearTo := goodIn_r _ [8, 9, 10, 11, 12, 13, 14, 15, 16, 17, 18, 19, 20, 21, 22, 23, 24, 25, 26, 27, 28, 29, 30, 31, 32, 33, 34, 35, 36, 37, 38, 39, 40, 41, 42, 43, 44, 45, 46, 47, 48, 49, 50, 51, 52, 53, 54, 55, 56, 57, 58, 59, 60, 61, 62, 63, 64, 65, 66, 67, 68, 69, 70, 71, 72, 73, 74, 75, 76, 77, 78, 79, 80, 81, 82, 83, 84, 85, 86, 87, 88, 89, 90, 91, 92, 93, 94, 95, 96, 97, 98, 99, 100] (by decide +kernel) (by decide +kernel)
set_option maxRecDepth 20000 in
theorem gX5_areNeighbours_X5_nearTo : GoodIn wsX5_areNeighbours (va_wsS RX5 96 yX5_nearTo wsX5_nearTo) := goodIn_app (goodIn_of _ (by decide +kernel)) ggX5_areNeighbours_X5_nearTo
theorem dX5_areNeighbours_0 : decode cX5_areNeighbours 0 = .ok (.aload_n 0, 1) := by decide +kernel
theorem dX5_areNeighbours_1 : decode cX5_areNeighbours 1 = .ok (.iload_n 1, 1) := by decide +kernel
theorem dX5_areNeighbours_2 : decode cX5_areNeighbours 2 = .ok (.invokestatic 59, 3) := by decide +kernel
theorem dX5_areNeighbours_5 : decode cX5_areNeighbours 5 = .ok (.ifCond .eq 14, 3) := by decide +kernel
theorem dX5_areNeighbours_8 : decode cX5_areNeighbours 8 = .ok (.iload_n 2, 1) := by decide +kernel
theorem dX5_areNeighbours_9 : decode cX5_areNeighbours 9 = .ok (.invokestatic 59, 3) := by decide +kernel
theorem dX5_areNeighbours_12 : decode cX5_areNeighbours 12 = .ok (.ifCond .eq 7, 3) := by decide +kernel
theorem dX5_areNeighbours_15 : decode cX5_areNeighbours 15 = .ok (.iconst 0, 1) := by decide +kernel
theorem dX5_areNeighbours_16 : decode cX5_areNeighbours 16 = .ok (.goto 4, 3) := by decide +kernel
theorem dX5_areNeighbours_19 : decode cX5_areNeighbours 19 = .ok (.iconst 1, 1) := by decide +kernel
theorem dX5_areNeighbours_20 : decode cX5_areNeighbours 20 = .ok (.putfield 43, 3) := by decide +kernel
theorem dX5_areNeighbours_23 : decode cX5_areNeighbours 23 = .ok (.aload_n 0, 1) := by decide +kernel
theorem dX5_areNeighbours_24 : decode cX5_areNeighbours 24 = .ok (.getfield 43, 3) := by decide +kernel
theorem dX5_areNeighbours_27 : decode cX5_areNeighbours 27 = .ok (.ifCond .ne 15, 3) := by decide +kernel
theorem dX5_areNeighbours_30 : decode cX5_areNeighbours 30 = .ok (.iload_n 1, 1) := by decide +kernel
theorem dX5_areNeighbours_31 : decode cX5_areNeighbours 31 = .ok (.iload_n 2, 1) := by decide +kernel
theorem dX5_areNeighbours_32 : decode cX5_areNeighbours 32 = .ok (.invokestatic 96, 3) := by decide +kernel
theorem dX5_areNeighbours_35 : decode cX5_areNeighbours 35 = .ok (.ifCond .eq 7, 3) := by decide +kernel
theorem dX5_areNeighbours_38 : decode cX5_areNeighbours 38 = .ok (.iconst 1, 1) := by decide +kernel
theorem dX5_areNeighbours_39 : decode cX5_areNeighbours 39 = .ok (.goto 4, 3) := by decide +kernel
theorem dX5_areNeighbours_42 : decode cX5_areNeighbours 42 = .ok (.iconst 0, 1) := by decide +kernel
theorem dX5_areNeighbours_43 : decode cX5_areNeighbours 43 = .ok (.ireturn, 1) := by decide +kernel
set_option maxRecDepth 20000 in
theorem ggX5_put_X5_size : GoodIn wsX5_put wsX5_size := goodIn_r _ [10] (by decide +kernel) (by decide +kernel)
set_option maxRecDepth 20000 in
theorem gX5_put_X5_size : GoodIn wsX5_put (va_wsS RX5 49 yX5_size wsX5_size) := goodIn_app (goodIn_of _ (by decide +kernel)) ggX5_put_X5_size
set_option maxRecDepth 20000 in
theorem ggX5_put_X5_letter : GoodIn wsX5_put wsX5_letter := goodIn_r _ [13, 14, 7, 8, 9, 10] (by decide +kernel) (by decide +kernel)
set_option maxRecDepth 20000 in
theorem gX5_put_X5_letter : GoodIn wsX5_put (va_wsS RX5 55 yX5_letter wsX5_letter) := goodIn_app (goodIn_of _ (by decide +kernel)) ggX5_put_X5_letter
theorem dX5_put_0 : decode cX5_put 0 = .ok (.aload_n 0, 1) := by decide +kernel
theorem dX5_put_1 : decode cX5_put 1 = .ok (.getfield 26, 3) := by decide +kernel
theorem dX5_put_4 : decode cX5_put 4 = .ok (.aload_n 0, 1) := by decide +kernel
theorem dX5_put_5 : decode cX5_put 5 = .ok (.getfield 100, 3) := by decide +kernel
theorem dX5_put_8 : decode cX5_put 8 = .ok (.iload_n 1, 1) := by decide +kernel
theorem dX5_put_9 : decode cX5_put 9 = .ok (.iastore, 1) := by decide +kernel
theorem dX5_put_10 : decode cX5_put 10 = .ok (.aload_n 0, 1) := by decide +kernel
theorem dX5_put_11 : decode cX5_put 11 = .ok (.dup, 1) := by decide +kernel
theorem dX5_put_12 : decode cX5_put 12 = .ok (.getfield 100, 3) := by decide +kernel
theorem dX5_put_15 : decode cX5_put 15 = .ok (.iconst 1, 1) := by decide +kernel
theorem dX5_put_16 : decode cX5_put 16 = .ok (.iadd, 1) := by decide +kernel
theorem dX5_put_17 : decode cX5_put 17 = .ok (.putfield 100, 3) := by decide +kernel
theorem dX5_put_20 : decode cX5_put 20 = .ok (.iconst 0, 1) := by decide +kernel
theorem dX5_put_21 : decode cX5_put 21 = .ok (.istore_n 2, 1) := by decide +kernel
theorem dX5_put_22 : decode cX5_put 22 = .ok (.iload_n 2, 1) := by decide +kernel
theorem dX5_put_23 : decode cX5_put 23 = .ok (.aload_n 0, 1) := by decide +kernel
theorem dX5_put_24 : decode cX5_put 24 = .ok (.getfield 9, 3) := by decide +kernel
theorem dX5_put_27 : decode cX5_put 27 = .ok (.iload_n 1, 1) := by decide +kernel
theorem dX5_put_28 : decode cX5_put 28 = .ok (.laload, 1) := by decide +kernel
theorem dX5_put_29 : decode cX5_put 29 = .ok (.invokestatic 49, 3) := by decide +kernel
theorem dX5_put_32 : decode cX5_put 32 = .ok (.if_icmp .ge 56, 3) := by decide +kernel
theorem dX5_put_35 : decode cX5_put 35 = .ok (.aload_n 0, 1) := by decide +kernel
theorem dX5_put_36 : decode cX5_put 36 = .ok (.getfield 29, 3) := by decide +kernel
theorem dX5_put_39 : decode cX5_put 39 = .ok (.aload_n 0, 1) := by decide +kernel
theorem dX5_put_40 : decode cX5_put 40 = .ok (.getfield 103, 3) := by decide +kernel
theorem dX5_put_43 : decode cX5_put 43 = .ok (.aload_n 0, 1) := by decide +kernel
theorem dX5_put_44 : decode cX5_put 44 = .ok (.getfield 9, 3) := by decide +kernel
theorem dX5_put_47 : decode cX5_put 47 = .ok (.iload_n 1, 1) := by decide +kernel
theorem dX5_put_48 : decode cX5_put 48 = .ok (.laload, 1) := by decide +kernel
theorem dX5_put_49 : decode cX5_put 49 = .ok (.iload_n 2, 1) := by decide +kernel
theorem dX5_put_50 : decode cX5_put 50 = .ok (.invokestatic 55, 3) := by decide +kernel
theorem dX5_put_53 : decode cX5_put 53 = .ok (.iastore, 1) := by decide +kernel
theorem dX5_put_54 : decode cX5_put 54 = .ok (.aload_n 0, 1) := by decide +kernel
theorem dX5_put_55 : decode cX5_put 55 = .ok (.getfield 32, 3) := by decide +kernel
theorem dX5_put_58 : decode cX5_put 58 = .ok (.aload_n 0, 1) := by decide +kernel
theorem dX5_put_59 : decode cX5_put 59 = .ok (.getfield 103, 3) := by decide +kernel
theorem dX5_put_62 : decode cX5_put 62 = .ok (.iload_n 2, 1) := by decide +kernel
theorem dX5_put_63 : decode cX5_put 63 = .ok (.ifCond .ne 7, 3) := by decide +kernel
theorem dX5_put_66 : decode cX5_put 66 = .ok (.iconst 1, 1) := by decide +kernel
theorem dX5_put_67 : decode cX5_put 67 = .ok (.goto 4, 3) := by decide +kernel
theorem dX5_put_70 : decode cX5_put 70 = .ok (.iconst 0, 1) := by decide +kernel
theorem dX5_put_71 : decode cX5_put 71 = .ok (.bastore, 1) := by decide +kernel
theorem dX5_put_72 : decode cX5_put 72 = .ok (.aload_n 0, 1) := by decide +kernel
theorem dX5_put_73 : decode cX5_put 73 = .ok (.dup, 1) := by decide +kernel
theorem dX5_put_74 : decode cX5_put 74 = .ok (.getfield 103, 3) := by decide +kernel
theorem dX5_put_77 : decode cX5_put 77 = .ok (.iconst 1, 1) := by decide +kernel
theorem dX5_put_78 : decode cX5_put 78 = .ok (.iadd, 1) := by decide +kernel
theorem dX5_put_79 : decode cX5_put 79 = .ok (.putfield 103, 3) := by decide +kernel
theorem dX5_put_82 : decode cX5_put 82 = .ok (.iinc 2 1, 3) := by decide +kernel
theorem dX5_put_85 : decode cX5_put 85 = .ok (.goto (-63), 3) := by decide +kernel
theorem dX5_put_88 : decode cX5_put 88 = .ok (.return_, 1) := by decide +kernel
theorem dX5_begin_0 : decode cX5_begin 0 = .ok (.aload_n 0, 1) := by decide +kernel
theorem dX5_begin_1 : decode cX5_begin 1 = .ok (.iconst 1, 1) := by decide +kernel
theorem dX5_begin_2 : decode cX5_begin 2 = .ok (.putfield 106, 3) := by decide +kernel
theorem dX5_begin_5 : decode cX5_begin 5 = .ok (.aload_n 0, 1) := by decide +kernel
theorem dX5_begin_6 : decode cX5_begin 6 = .ok (.iconst 0, 1) := by decide +kernel
theorem dX5_begin_7 : decode cX5_begin 7 = .ok (.putfield 100, 3) := by decide +kernel
theorem dX5_begin_10 : decode cX5_begin 10 = .ok (.aload_n 0, 1) := by decide +kernel
theorem dX5_begin_11 : decode cX5_begin 11 = .ok (.iconst 0, 1) := by decide +kernel
theorem dX5_begin_12 : decode cX5_begin 12 = .ok (.putfield 103, 3) := by decide +kernel
theorem dX5_begin_15 : decode cX5_begin 15 = .ok (.aload_n 0, 1) := by decide +kernel
theorem dX5_begin_16 : decode cX5_begin 16 = .ok (.iconst 0, 1) := by decide +kernel
theorem dX5_begin_17 : decode cX5_begin 17 = .ok (.putfield 110, 3) := by decide +kernel
theorem dX5_begin_20 : decode cX5_begin 20 = .ok (.aload_n 0, 1) := by decide +kernel
theorem dX5_begin_21 : decode cX5_begin 21 = .ok (.iconst 0, 1) := by decide +kernel
theorem dX5_begin_22 : decode cX5_begin 22 = .ok (.putfield 113, 3) := by decide +kernel
theorem dX5_begin_25 : decode cX5_begin 25 = .ok (.aload_n 0, 1) := by decide +kernel
theorem dX5_begin_26 : decode cX5_begin 26 = .ok (.iconst 0, 1) := by decide +kernel
theorem dX5_begin_27 : decode cX5_begin 27 = .ok (.putfield 116, 3) := by decide +kernel
theorem dX5_begin_30 : decode cX5_begin 30 = .ok (.aload_n 0, 1) := by decide +kernel
theorem dX5_begin_31 : decode cX5_begin 31 = .ok (.iconst 0, 1) := by decide +kernel
theorem dX5_begin_32 : decode cX5_begin 32 = .ok (.putfield 119, 3) := by decide +kernel
theorem dX5_begin_35 : decode cX5_begin 35 = .ok (.return_, 1) := by decide +kernel
theorem dX5_hasPair_0 : decode cX5_hasPair 0 = .ok (.iconst 0, 1) := by decide +kernel
theorem dX5_hasPair_1 : decode cX5_hasPair 1 = .ok (.istore_n 3, 1) := by decide +kernel
theorem dX5_hasPair_2 : decode cX5_hasPair 2 = .ok (.iconst 1, 1) := by decide +kernel
theorem dX5_hasPair_3 : decode cX5_hasPair 3 = .ok (.istore 4, 2) := by decide +kernel
theorem dX5_hasPair_5 : decode cX5_hasPair 5 = .ok (.iload 4, 2) := by decide +kernel
theorem dX5_hasPair_7 : decode cX5_hasPair 7 = .ok (.aload_n 0, 1) := by decide +kernel
theorem dX5_hasPair_8 : decode cX5_hasPair 8 = .ok (.getfield 103, 3) := by decide +kernel
theorem dX5_hasPair_11 : decode cX5_hasPair 11 = .ok (.if_icmp .ge 53, 3) := by decide +kernel
theorem dX5_hasPair_14 : decode cX5_hasPair 14 = .ok (.iload_n 3, 1) := by decide +kernel
theorem dX5_hasPair_15 : decode cX5_hasPair 15 = .ok (.ifCond .ne 37, 3) := by decide +kernel
theorem dX5_hasPair_18 : decode cX5_hasPair 18 = .ok (.aload_n 0, 1) := by decide +kernel
theorem dX5_hasPair_19 : decode cX5_hasPair 19 = .ok (.getfield 32, 3) := by decide +kernel
theorem dX5_hasPair_22 : decode cX5_hasPair 22 = .ok (.iload 4, 2) := by decide +kernel
theorem dX5_hasPair_24 : decode cX5_hasPair 24 = .ok (.baload, 1) := by decide +kernel
theorem dX5_hasPair_25 : decode cX5_hasPair 25 = .ok (.ifCond .ne 31, 3) := by decide +kernel
theorem dX5_hasPair_28 : decode cX5_hasPair 28 = .ok (.aload_n 0, 1) := by decide +kernel
theorem dX5_hasPair_29 : decode cX5_hasPair 29 = .ok (.getfield 29, 3) := by decide +kernel
theorem dX5_hasPair_32 : decode cX5_hasPair 32 = .ok (.iload 4, 2) := by decide +kernel
theorem dX5_hasPair_34 : decode cX5_hasPair 34 = .ok (.iconst 1, 1) := by decide +kernel
theorem dX5_hasPair_35 : decode cX5_hasPair 35 = .ok (.isub, 1) := by decide +kernel
theorem dX5_hasPair_36 : decode cX5_hasPair 36 = .ok (.iaload, 1) := by decide +kernel
theorem dX5_hasPair_37 : decode cX5_hasPair 37 = .ok (.iload_n 1, 1) := by decide +kernel
theorem dX5_hasPair_38 : decode cX5_hasPair 38 = .ok (.if_icmp .ne 18, 3) := by decide +kernel
theorem dX5_hasPair_41 : decode cX5_hasPair 41 = .ok (.aload_n 0, 1) := by decide +kernel
theorem dX5_hasPair_42 : decode cX5_hasPair 42 = .ok (.getfield 29, 3) := by decide +kernel
theorem dX5_hasPair_45 : decode cX5_hasPair 45 = .ok (.iload 4, 2) := by decide +kernel
theorem dX5_hasPair_47 : decode cX5_hasPair 47 = .ok (.iaload, 1) := by decide +kernel
theorem dX5_hasPair_48 : decode cX5_hasPair 48 = .ok (.iload_n 2, 1) := by decide +kernel
theorem dX5_hasPair_49 : decode cX5_hasPair 49 = .ok (.if_icmp .ne 7, 3) := by decide +kernel
theorem dX5_hasPair_52 : decode cX5_hasPair 52 = .ok (.iconst 1, 1) := by decide +kernel
theorem dX5_hasPair_53 : decode cX5_hasPair 53 = .ok (.goto 4, 3) := by decide +kernel
theorem dX5_hasPair_56 : decode cX5_hasPair 56 = .ok (.iconst 0, 1) := by decide +kernel
theorem dX5_hasPair_57 : decode cX5_hasPair 57 = .ok (.istore_n 3, 1) := by decide +kernel
theorem dX5_hasPair_58 : decode cX5_hasPair 58 = .ok (.iinc 4 1, 3) := by decide +kernel
theorem dX5_hasPair_61 : decode cX5_hasPair 61 = .ok (.goto (-56), 3) := by decide +kernel
theorem dX5_hasPair_64 : decode cX5_hasPair 64 = .ok (.iload_n 3, 1) := by decide +kernel
theorem dX5_hasPair_65 : decode cX5_hasPair 65 = .ok (.ireturn, 1) := by decide +kernel
theorem dX5_isChosen_0 : decode cX5_isChosen 0 = .ok (.iconst 0, 1) := by decide +kernel
theorem dX5_isChosen_1 : decode cX5_isChosen 1 = .ok (.istore_n 2, 1) := by decide +kernel
theorem dX5_isChosen_2 : decode cX5_isChosen 2 = .ok (.iconst 0, 1) := by decide +kernel
theorem dX5_isChosen_3 : decode cX5_isChosen 3 = .ok (.istore_n 3, 1) := by decide +kernel
theorem dX5_isChosen_4 : decode cX5_isChosen 4 = .ok (.iload_n 3, 1) := by decide +kernel
theorem dX5_isChosen_5 : decode cX5_isChosen 5 = .ok (.aload_n 0, 1) := by decide +kernel
theorem dX5_isChosen_6 : decode cX5_isChosen 6 = .ok (.getfield 100, 3) := by decide +kernel
theorem dX5_isChosen_9 : decode cX5_isChosen 9 = .ok (.if_icmp .ge 29, 3) := by decide +kernel
theorem dX5_isChosen_12 : decode cX5_isChosen 12 = .ok (.iload_n 2, 1) := by decide +kernel
theorem dX5_isChosen_13 : decode cX5_isChosen 13 = .ok (.ifCond .ne 13, 3) := by decide +kernel
theorem dX5_isChosen_16 : decode cX5_isChosen 16 = .ok (.aload_n 0, 1) := by decide +kernel
theorem dX5_isChosen_17 : decode cX5_isChosen 17 = .ok (.getfield 26, 3) := by decide +kernel
theorem dX5_isChosen_20 : decode cX5_isChosen 20 = .ok (.iload_n 3, 1) := by decide +kernel
theorem dX5_isChosen_21 : decode cX5_isChosen 21 = .ok (.iaload, 1) := by decide +kernel
theorem dX5_isChosen_22 : decode cX5_isChosen 22 = .ok (.iload_n 1, 1) := by decide +kernel
theorem dX5_isChosen_23 : decode cX5_isChosen 23 = .ok (.if_icmp .ne 7, 3) := by decide +kernel
theorem dX5_isChosen_26 : decode cX5_isChosen 26 = .ok (.iconst 1, 1) := by decide +kernel
theorem dX5_isChosen_27 : decode cX5_isChosen 27 = .ok (.goto 4, 3) := by decide +kernel
theorem dX5_isChosen_30 : decode cX5_isChosen 30 = .ok (.iconst 0, 1) := by decide +kernel
theorem dX5_isChosen_31 : decode cX5_isChosen 31 = .ok (.istore_n 2, 1) := by decide +kernel
theorem dX5_isChosen_32 : decode cX5_isChosen 32 = .ok (.iinc 3 1, 3) := by decide +kernel
theorem dX5_isChosen_35 : decode cX5_isChosen 35 = .ok (.goto (-31), 3) := by decide +kernel
theorem dX5_isChosen_38 : decode cX5_isChosen 38 = .ok (.iload_n 2, 1) := by decide +kernel
theorem dX5_isChosen_39 : decode cX5_isChosen 39 = .ok (.ireturn, 1) := by decide +kernel
set_option maxRecDepth 20000 in
theorem ggX5_open_X5_fail : GoodIn wsX5_open wsX5_fail := goodIn_r _ [10, 1, 55, 56, 57, 58, 59, 60, 61, 62, 63, 64, 65, 66, 67, 68, 69, 70, 71, 72, 73, 74] (by decide +kernel) (by decide +kernel)
set_option maxRecDepth 20000 in
theorem gX5_open_X5_fail : GoodIn wsX5_open (wsV RX5 67 RX5 yX5_fail wsX5_fail) := goodIn_app (goodIn_of _ (by decide +kernel)) ggX5_open_X5_fail
set_option maxRecDepth 20000 in
theorem ggX5_open_X5_begin : GoodIn wsX5_open wsX5_begin := goodIn_r _ [14, 2, 4, 15, 16, 17, 18, 19, 55, 56, 57, 58, 59, 60, 61, 62, 63, 64, 65, 66, 67, 68, 69, 70, 71, 72, 73, 74] (by decide +kernel) (by decide +kernel)
set_option maxRecDepth 20000 in
theorem gX5_open_X5_begin : GoodIn wsX5_open (wsV RX5 122 RX5 yX5_begin wsX5_begin) := goodIn_app (goodIn_of _ (by decide +kernel)) ggX5_open_X5_begin
set_option maxRecDepth 20000 in
theorem ggX5_open_X5_isChosen : GoodIn wsX5_open wsX5_isChosen := goodIn_r _ [23, 4, 24, 55, 56, 57, 58, 59, 60, 61, 62, 63, 64, 65, 66, 67, 68, 69, 70, 71, 72, 73, 74] (by decide +kernel) (by decide +kernel)
set_option maxRecDepth 20000 in
theorem gX5_open_X5_isChosen : GoodIn wsX5_open (wsV RX5 125 RX5 yX5_isChosen wsX5_isChosen) := goodIn_app (goodIn_of _ (by decide +kernel)) ggX5_open_X5_isChosen
set_option maxRecDepth 20000 in
theorem ggX5_open_X5_weightOf : GoodIn wsX5_open wsX5_weightOf := goodIn_r _ [28, 29, 30, 31, 9, 32, 33, 34, 35, 36, 37, 38, 39, 40, 41, 42, 43, 44, 55, 56, 57, 58, 59, 60, 61, 62, 63, 64, 65, 66, 67, 68, 69, 70, 71, 72, 73, 74] (by decide +kernel) (by decide +kernel)
set_option maxRecDepth 20000 in
theorem gX5_open_X5_weightOf : GoodIn wsX5_open (wsV RX5 81 RX5 yX5_weightOf wsX5_weightOf) := goodIn_app (goodIn_of _ (by decide +kernel)) ggX5_open_X5_weightOf
set_option maxRecDepth 20000 in
theorem ggX5_open_X5_size : GoodIn wsX5_open wsX5_size := goodIn_r _ [32] (by decide +kernel) (by decide +kernel)
set_option maxRecDepth 20000 in
theorem gX5_open_X5_size : GoodIn wsX5_open (va_wsS RX5 49 yX5_size wsX5_size) := goodIn_app (goodIn_of _ (by decide +kernel)) ggX5_open_X5_size
set_option maxRecDepth 20000 in
theorem ggX5_open_X5_letter : GoodIn wsX5_open wsX5_letter := goodIn_r _ [35, 36, 30, 31, 9, 32] (by decide +kernel) (by decide +kernel)
set_option maxRecDepth 20000 in
theorem gX5_open_X5_letter : GoodIn wsX5_open (va_wsS RX5 55 yX5_letter wsX5_letter) := goodIn_app (goodIn_of _ (by decide +kernel)) ggX5_open_X5_letter
set_option maxRecDepth 20000 in
theorem ggX5_open_X5_hasPair : GoodIn wsX5_open wsX5_hasPair := goodIn_r _ [48, 15, 49, 50, 55, 56, 57, 58, 59, 60, 61, 62, 63, 64, 65, 66, 67, 68, 69, 70, 71, 72, 73, 74] (by decide +kernel) (by decide +kernel)
set_option maxRecDepth 20000 in
theorem gX5_open_X5_hasPair : GoodIn wsX5_open (wsV RX5 128 RX5 yX5_hasPair wsX5_hasPair) := goodIn_app (goodIn_of _ (by decide +kernel)) ggX5_open_X5_hasPair
set_option maxRecDepth 20000 in
theorem ggX5_open_X5_put : GoodIn wsX5_open wsX5_put := goodIn_r _ [54, 24, 4, 5, 50, 15, 49, 30, 31, 9, 32, 33, 34, 35, 36, 55, 56, 57, 58, 59, 60, 61, 62, 63, 64, 65, 66, 67, 68, 69, 70, 71, 72, 73, 74] (by decide +kernel) (by decide +kernel)
set_option maxRecDepth 20000 in
theorem gX5_open_X5_put : GoodIn wsX5_open (wsV RX5 131 RX5 yX5_put wsX5_put) := goodIn_app (goodIn_of _ (by decide +kernel)) ggX5_open_X5_put
theorem dX5_open_0 : decode cX5_open 0 = .ok (.aload_n 0, 1) := by decide +kernel
theorem dX5_open_1 : decode cX5_open 1 = .ok (.iconst 0, 1) := by decide +kernel
theorem dX5_open_2 : decode cX5_open 2 = .ok (.putfield 43, 3) := by decide +kernel
theorem dX5_open_5 : decode cX5_open 5 = .ok (.iload_n 1, 1) := by decide +kernel
theorem dX5_open_6 : decode cX5_open 6 = .ok (.iconst 1, 1) := by decide +kernel
theorem dX5_open_7 : decode cX5_open 7 = .ok (.if_icmp .lt 9, 3) := by decide +kernel
theorem dX5_open_10 : decode cX5_open 10 = .ok (.iload_n 1, 1) := by decide +kernel
theorem dX5_open_11 : decode cX5_open 11 = .ok (.bipush 6, 2) := by decide +kernel
theorem dX5_open_13 : decode cX5_open 13 = .ok (.if_icmp .le 9, 3) := by decide +kernel
theorem dX5_open_16 : decode cX5_open 16 = .ok (.aload_n 0, 1) := by decide +kernel
theorem dX5_open_17 : decode cX5_open 17 = .ok (.iconst 1, 1) := by decide +kernel
theorem dX5_open_18 : decode cX5_open 18 = .ok (.invokevirtual 67, 3) := by decide +kernel
theorem dX5_open_21 : decode cX5_open 21 = .ok (.ireturn, 1) := by decide +kernel
theorem dX5_open_22 : decode cX5_open 22 = .ok (.aload_n 0, 1) := by decide +kernel
theorem dX5_open_23 : decode cX5_open 23 = .ok (.getfield 106, 3) := by decide +kernel
theorem dX5_open_26 : decode cX5_open 26 = .ok (.ifCond .ne 10, 3) := by decide +kernel
theorem dX5_open_29 : decode cX5_open 29 = .ok (.aload_n 0, 1) := by decide +kernel
theorem dX5_open_30 : decode cX5_open 30 = .ok (.getfield 46, 3) := by decide +kernel
theorem dX5_open_33 : decode cX5_open 33 = .ok (.ifCond .ne 9, 3) := by decide +kernel
theorem dX5_open_36 : decode cX5_open 36 = .ok (.aload_n 0, 1) := by decide +kernel
theorem dX5_open_37 : decode cX5_open 37 = .ok (.iconst 2, 1) := by decide +kernel
theorem dX5_open_38 : decode cX5_open 38 = .ok (.invokevirtual 67, 3) := by decide +kernel
theorem dX5_open_41 : decode cX5_open 41 = .ok (.ireturn, 1) := by decide +kernel
theorem dX5_open_42 : decode cX5_open 42 = .ok (.aload_n 0, 1) := by decide +kernel
theorem dX5_open_43 : decode cX5_open 43 = .ok (.invokevirtual 122, 3) := by decide +kernel
theorem dX5_open_46 : decode cX5_open 46 = .ok (.iconst 0, 1) := by decide +kernel
theorem dX5_open_47 : decode cX5_open 47 = .ok (.istore_n 2, 1) := by decide +kernel
theorem dX5_open_48 : decode cX5_open 48 = .ok (.iload_n 2, 1) := by decide +kernel
theorem dX5_open_49 : decode cX5_open 49 = .ok (.iload_n 1, 1) := by decide +kernel
theorem dX5_open_50 : decode cX5_open 50 = .ok (.if_icmp .ge 164, 3) := by decide +kernel
theorem dX5_open_53 : decode cX5_open 53 = .ok (.aload_n 0, 1) := by decide +kernel
theorem dX5_open_54 : decode cX5_open 54 = .ok (.getfield 100, 3) := by decide +kernel
theorem dX5_open_57 : decode cX5_open 57 = .ok (.aload_n 0, 1) := by decide +kernel
theorem dX5_open_58 : decode cX5_open 58 = .ok (.getfield 46, 3) := by decide +kernel
theorem dX5_open_61 : decode cX5_open 61 = .ok (.if_icmp .ge 153, 3) := by decide +kernel
theorem dX5_open_64 : decode cX5_open 64 = .ok (.iconst (-1), 1) := by decide +kernel
theorem dX5_open_65 : decode cX5_open 65 = .ok (.istore_n 3, 1) := by decide +kernel
theorem dX5_open_66 : decode cX5_open 66 = .ok (.iconst 0, 1) := by decide +kernel
theorem dX5_open_67 : decode cX5_open 67 = .ok (.istore 4, 2) := by decide +kernel
theorem dX5_open_69 : decode cX5_open 69 = .ok (.iconst 0, 1) := by decide +kernel
theorem dX5_open_70 : decode cX5_open 70 = .ok (.istore 5, 2) := by decide +kernel
theorem dX5_open_72 : decode cX5_open 72 = .ok (.iload 5, 2) := by decide +kernel
theorem dX5_open_74 : decode cX5_open 74 = .ok (.aload_n 0, 1) := by decide +kernel
theorem dX5_open_75 : decode cX5_open 75 = .ok (.getfield 46, 3) := by decide +kernel
theorem dX5_open_78 : decode cX5_open 78 = .ok (.if_icmp .ge 125, 3) := by decide +kernel
theorem dX5_open_81 : decode cX5_open 81 = .ok (.aload_n 0, 1) := by decide +kernel
theorem dX5_open_82 : decode cX5_open 82 = .ok (.iload 5, 2) := by decide +kernel
theorem dX5_open_84 : decode cX5_open 84 = .ok (.invokevirtual 125, 3) := by decide +kernel
theorem dX5_open_87 : decode cX5_open 87 = .ok (.ifCond .eq 6, 3) := by decide +kernel
theorem dX5_open_90 : decode cX5_open 90 = .ok (.goto 107, 3) := by decide +kernel
theorem dX5_open_93 : decode cX5_open 93 = .ok (.aload_n 0, 1) := by decide +kernel
theorem dX5_open_94 : decode cX5_open 94 = .ok (.aload_n 0, 1) := by decide +kernel
theorem dX5_open_95 : decode cX5_open 95 = .ok (.getfield 9, 3) := by decide +kernel
theorem dX5_open_98 : decode cX5_open 98 = .ok (.iload 5, 2) := by decide +kernel
theorem dX5_open_100 : decode cX5_open 100 = .ok (.laload, 1) := by decide +kernel
theorem dX5_open_101 : decode cX5_open 101 = .ok (.invokevirtual 81, 3) := by decide +kernel
theorem dX5_open_104 : decode cX5_open 104 = .ok (.istore 6, 2) := by decide +kernel
theorem dX5_open_106 : decode cX5_open 106 = .ok (.iconst 1, 1) := by decide +kernel
theorem dX5_open_107 : decode cX5_open 107 = .ok (.istore 7, 2) := by decide +kernel
theorem dX5_open_109 : decode cX5_open 109 = .ok (.iload 7, 2) := by decide +kernel
theorem dX5_open_111 : decode cX5_open 111 = .ok (.aload_n 0, 1) := by decide +kernel
theorem dX5_open_112 : decode cX5_open 112 = .ok (.getfield 9, 3) := by decide +kernel
theorem dX5_open_115 : decode cX5_open 115 = .ok (.iload 5, 2) := by decide +kernel
theorem dX5_open_117 : decode cX5_open 117 = .ok (.laload, 1) := by decide +kernel
theorem dX5_open_118 : decode cX5_open 118 = .ok (.invokestatic 49, 3) := by decide +kernel
theorem dX5_open_121 : decode cX5_open 121 = .ok (.if_icmp .ge 54, 3) := by decide +kernel
theorem dX5_open_124 : decode cX5_open 124 = .ok (.iload 6, 2) := by decide +kernel
theorem dX5_open_126 : decode cX5_open 126 = .ok (.aload_n 0, 1) := by decide +kernel
theorem dX5_open_127 : decode cX5_open 127 = .ok (.aload_n 0, 1) := by decide +kernel
theorem dX5_open_128 : decode cX5_open 128 = .ok (.getfield 9, 3) := by decide +kernel
theorem dX5_open_131 : decode cX5_open 131 = .ok (.iload 5, 2) := by decide +kernel
theorem dX5_open_133 : decode cX5_open 133 = .ok (.laload, 1) := by decide +kernel
theorem dX5_open_134 : decode cX5_open 134 = .ok (.iload 7, 2) := by decide +kernel
theorem dX5_open_136 : decode cX5_open 136 = .ok (.iconst 1, 1) := by decide +kernel
theorem dX5_open_137 : decode cX5_open 137 = .ok (.isub, 1) := by decide +kernel
theorem dX5_open_138 : decode cX5_open 138 = .ok (.invokestatic 55, 3) := by decide +kernel
theorem dX5_open_141 : decode cX5_open 141 = .ok (.aload_n 0, 1) := by decide +kernel
theorem dX5_open_142 : decode cX5_open 142 = .ok (.getfield 9, 3) := by decide +kernel
theorem dX5_open_145 : decode cX5_open 145 = .ok (.iload 5, 2) := by decide +kernel
theorem dX5_open_147 : decode cX5_open 147 = .ok (.laload, 1) := by decide +kernel
theorem dX5_open_148 : decode cX5_open 148 = .ok (.iload 7, 2) := by decide +kernel
theorem dX5_open_150 : decode cX5_open 150 = .ok (.invokestatic 55, 3) := by decide +kernel
theorem dX5_open_153 : decode cX5_open 153 = .ok (.invokevirtual 128, 3) := by decide +kernel
theorem dX5_open_156 : decode cX5_open 156 = .ok (.ifCond .eq 9, 3) := by decide +kernel
theorem dX5_open_159 : decode cX5_open 159 = .ok (.sipush 150, 3) := by decide +kernel
theorem dX5_open_162 : decode cX5_open 162 = .ok (.goto 4, 3) := by decide +kernel
theorem dX5_open_165 : decode cX5_open 165 = .ok (.iconst 0, 1) := by decide +kernel
theorem dX5_open_166 : decode cX5_open 166 = .ok (.isub, 1) := by decide +kernel
theorem dX5_open_167 : decode cX5_open 167 = .ok (.istore 6, 2) := by decide +kernel
theorem dX5_open_169 : decode cX5_open 169 = .ok (.iinc 7 1, 3) := by decide +kernel
theorem dX5_open_172 : decode cX5_open 172 = .ok (.goto (-63), 3) := by decide +kernel
theorem dX5_open_175 : decode cX5_open 175 = .ok (.iload_n 3, 1) := by decide +kernel
theorem dX5_open_176 : decode cX5_open 176 = .ok (.iconst (-1), 1) := by decide +kernel
theorem dX5_open_177 : decode cX5_open 177 = .ok (.if_icmp .eq 13, 3) := by decide +kernel
theorem dX5_open_180 : decode cX5_open 180 = .ok (.iload 6, 2) := by decide +kernel
theorem dX5_open_182 : decode cX5_open 182 = .ok (.iload 4, 2) := by decide +kernel
theorem dX5_open_184 : decode cX5_open 184 = .ok (.if_icmp .gt 6, 3) := by decide +kernel
theorem dX5_open_187 : decode cX5_open 187 = .ok (.goto 10, 3) := by decide +kernel
theorem dX5_open_190 : decode cX5_open 190 = .ok (.iload 5, 2) := by decide +kernel
theorem dX5_open_192 : decode cX5_open 192 = .ok (.istore_n 3, 1) := by decide +kernel
theorem dX5_open_193 : decode cX5_open 193 = .ok (.iload 6, 2) := by decide +kernel
theorem dX5_open_195 : decode cX5_open 195 = .ok (.istore 4, 2) := by decide +kernel
theorem dX5_open_197 : decode cX5_open 197 = .ok (.iinc 5 1, 3) := by decide +kernel
theorem dX5_open_200 : decode cX5_open 200 = .ok (.goto (-128), 3) := by decide +kernel
theorem dX5_open_203 : decode cX5_open 203 = .ok (.aload_n 0, 1) := by decide +kernel
theorem dX5_open_204 : decode cX5_open 204 = .ok (.iload_n 3, 1) := by decide +kernel
theorem dX5_open_205 : decode cX5_open 205 = .ok (.invokevirtual 131, 3) := by decide +kernel
theorem dX5_open_208 : decode cX5_open 208 = .ok (.iinc 2 1, 3) := by decide +kernel
theorem dX5_open_211 : decode cX5_open 211 = .ok (.goto (-163), 3) := by decide +kernel
theorem dX5_open_214 : decode cX5_open 214 = .ok (.aload_n 0, 1) := by decide +kernel
theorem dX5_open_215 : decode cX5_open 215 = .ok (.getfield 100, 3) := by decide +kernel
theorem dX5_open_218 : decode cX5_open 218 = .ok (.ireturn, 1) := by decide +kernel
set_option maxRecDepth 20000 in
theorem ggX5_openWord_X5_isNumber : GoodIn wsX5_openWord wsX5_isNumber := goodIn_r _ [8, 9, 38, 39, 40, 41, 42, 43, 44, 45, 46, 47, 48, 49, 50, 51, 52, 53, 54, 55, 56, 57] (by decide +kernel) (by decide +kernel)
set_option maxRecDepth 20000 in
theorem gX5_openWord_X5_isNumber : GoodIn wsX5_openWord (wsV RX5 71 RX5 yX5_isNumber wsX5_isNumber) := goodIn_app (goodIn_of _ (by decide +kernel)) ggX5_openWord_X5_isNumber
set_option maxRecDepth 20000 in
theorem ggX5_openWord_X5_fail : GoodIn wsX5_openWord wsX5_fail := goodIn_r _ [13, 1, 38, 39, 40, 41, 42, 43, 44, 45, 46, 47, 48, 49, 50, 51, 52, 53, 54, 55, 56, 57] (by decide +kernel) (by decide +kernel)
set_option maxRecDepth 20000 in
theorem gX5_openWord_X5_fail : GoodIn wsX5_openWord (wsV RX5 67 RX5 yX5_fail wsX5_fail) := goodIn_app (goodIn_of _ (by decide +kernel)) ggX5_openWord_X5_fail
set_option maxRecDepth 20000 in
theorem ggX5_openWord_X5_begin : GoodIn wsX5_openWord wsX5_begin := goodIn_r _ [17, 2, 18, 3, 19, 20, 21, 22, 38, 39, 40, 41, 42, 43, 44, 45, 46, 47, 48, 49, 50, 51, 52, 53, 54, 55, 56, 57] (by decide +kernel) (by decide +kernel)
set_option maxRecDepth 20000 in
theorem gX5_openWord_X5_begin : GoodIn wsX5_openWord (wsV RX5 122 RX5 yX5_begin wsX5_begin) := goodIn_app (goodIn_of _ (by decide +kernel)) ggX5_openWord_X5_begin
set_option maxRecDepth 20000 in
theorem ggX5_openWord_X5_put : GoodIn wsX5_openWord wsX5_put := goodIn_r _ [26, 27, 18, 28, 29, 3, 30, 31, 32, 7, 33, 34, 35, 36, 37, 38, 39, 40, 41, 42, 43, 44, 45, 46, 47, 48, 49, 50, 51, 52, 53, 54, 55, 56, 57] (by decide +kernel) (by decide +kernel)
set_option maxRecDepth 20000 in
theorem gX5_openWord_X5_put : GoodIn wsX5_openWord (wsV RX5 131 RX5 yX5_put wsX5_put) := goodIn_app (goodIn_of _ (by decide +kernel)) ggX5_openWord_X5_put
theorem dX5_openWord_0 : decode cX5_openWord 0 = .ok (.aload_n 0, 1) := by decide +kernel
theorem dX5_openWord_1 : decode cX5_openWord 1 = .ok (.iconst 0, 1) := by decide +kernel
theorem dX5_openWord_2 : decode cX5_openWord 2 = .ok (.putfield 43, 3) := by decide +kernel
theorem dX5_openWord_5 : decode cX5_openWord 5 = .ok (.aload_n 0, 1) := by decide +kernel
theorem dX5_openWord_6 : decode cX5_openWord 6 = .ok (.iload_n 1, 1) := by decide +kernel
theorem dX5_openWord_7 : decode cX5_openWord 7 = .ok (.invokevirtual 71, 3) := by decide +kernel
theorem dX5_openWord_10 : decode cX5_openWord 10 = .ok (.ifCond .ne 9, 3) := by decide +kernel
theorem dX5_openWord_13 : decode cX5_openWord 13 = .ok (.aload_n 0, 1) := by decide +kernel
theorem dX5_openWord_14 : decode cX5_openWord 14 = .ok (.iconst 1, 1) := by decide +kernel
theorem dX5_openWord_15 : decode cX5_openWord 15 = .ok (.invokevirtual 67, 3) := by decide +kernel
theorem dX5_openWord_18 : decode cX5_openWord 18 = .ok (.ireturn, 1) := by decide +kernel
theorem dX5_openWord_19 : decode cX5_openWord 19 = .ok (.aload_n 0, 1) := by decide +kernel
theorem dX5_openWord_20 : decode cX5_openWord 20 = .ok (.getfield 106, 3) := by decide +kernel
theorem dX5_openWord_23 : decode cX5_openWord 23 = .ok (.ifCond .eq 9, 3) := by decide +kernel
theorem dX5_openWord_26 : decode cX5_openWord 26 = .ok (.aload_n 0, 1) := by decide +kernel
theorem dX5_openWord_27 : decode cX5_openWord 27 = .ok (.iconst 2, 1) := by decide +kernel
theorem dX5_openWord_28 : decode cX5_openWord 28 = .ok (.invokevirtual 67, 3) := by decide +kernel
theorem dX5_openWord_31 : decode cX5_openWord 31 = .ok (.ireturn, 1) := by decide +kernel
theorem dX5_openWord_32 : decode cX5_openWord 32 = .ok (.aload_n 0, 1) := by decide +kernel
theorem dX5_openWord_33 : decode cX5_openWord 33 = .ok (.invokevirtual 122, 3) := by decide +kernel
theorem dX5_openWord_36 : decode cX5_openWord 36 = .ok (.aload_n 0, 1) := by decide +kernel
theorem dX5_openWord_37 : decode cX5_openWord 37 = .ok (.iload_n 1, 1) := by decide +kernel
theorem dX5_openWord_38 : decode cX5_openWord 38 = .ok (.invokevirtual 131, 3) := by decide +kernel
theorem dX5_openWord_41 : decode cX5_openWord 41 = .ok (.aload_n 0, 1) := by decide +kernel
theorem dX5_openWord_42 : decode cX5_openWord 42 = .ok (.getfield 103, 3) := by decide +kernel
theorem dX5_openWord_45 : decode cX5_openWord 45 = .ok (.ireturn, 1) := by decide +kernel
set_option maxRecDepth 20000 in
theorem ggX5_giveUp_X5_fail : GoodIn wsX5_giveUp wsX5_fail := goodIn_r _ [9, 1, 10, 11, 12, 13, 14, 15, 16, 17, 18, 19, 20, 21, 22, 23, 24, 25, 26, 27, 28, 29] (by decide +kernel) (by decide +kernel)
set_option maxRecDepth 20000 in
theorem gX5_giveUp_X5_fail : GoodIn wsX5_giveUp (wsV RX5 67 RX5 yX5_fail wsX5_fail) := goodIn_app (goodIn_of _ (by decide +kernel)) ggX5_giveUp_X5_fail
theorem dX5_giveUp_0 : decode cX5_giveUp 0 = .ok (.aload_n 0, 1) := by decide +kernel
theorem dX5_giveUp_1 : decode cX5_giveUp 1 = .ok (.iconst 0, 1) := by decide +kernel
theorem dX5_giveUp_2 : decode cX5_giveUp 2 = .ok (.putfield 43, 3) := by decide +kernel
theorem dX5_giveUp_5 : decode cX5_giveUp 5 = .ok (.aload_n 0, 1) := by decide +kernel
theorem dX5_giveUp_6 : decode cX5_giveUp 6 = .ok (.getfield 106, 3) := by decide +kernel
theorem dX5_giveUp_9 : decode cX5_giveUp 9 = .ok (.ifCond .ne 9, 3) := by decide +kernel
theorem dX5_giveUp_12 : decode cX5_giveUp 12 = .ok (.aload_n 0, 1) := by decide +kernel
theorem dX5_giveUp_13 : decode cX5_giveUp 13 = .ok (.iconst 1, 1) := by decide +kernel
theorem dX5_giveUp_14 : decode cX5_giveUp 14 = .ok (.invokevirtual 67, 3) := by decide +kernel
theorem dX5_giveUp_17 : decode cX5_giveUp 17 = .ok (.ireturn, 1) := by decide +kernel
theorem dX5_giveUp_18 : decode cX5_giveUp 18 = .ok (.aload_n 0, 1) := by decide +kernel
theorem dX5_giveUp_19 : decode cX5_giveUp 19 = .ok (.iconst 0, 1) := by decide +kernel
theorem dX5_giveUp_20 : decode cX5_giveUp 20 = .ok (.putfield 106, 3) := by decide +kernel
theorem dX5_giveUp_23 : decode cX5_giveUp 23 = .ok (.aload_n 0, 1) := by decide +kernel
theorem dX5_giveUp_24 : decode cX5_giveUp 24 = .ok (.getfield 103, 3) := by decide +kernel
theorem dX5_giveUp_27 : decode cX5_giveUp 27 = .ok (.aload_n 0, 1) := by decide +kernel
theorem dX5_giveUp_28 : decode cX5_giveUp 28 = .ok (.getfield 110, 3) := by decide +kernel
theorem dX5_giveUp_31 : decode cX5_giveUp 31 = .ok (.isub, 1) := by decide +kernel
theorem dX5_giveUp_32 : decode cX5_giveUp 32 = .ok (.ireturn, 1) := by decide +kernel
theorem dX5_isOpen_0 : decode cX5_isOpen 0 = .ok (.aload_n 0, 1) := by decide +kernel
theorem dX5_isOpen_1 : decode cX5_isOpen 1 = .ok (.iconst 0, 1) := by decide +kernel
theorem dX5_isOpen_2 : decode cX5_isOpen 2 = .ok (.putfield 43, 3) := by decide +kernel
theorem dX5_isOpen_5 : decode cX5_isOpen 5 = .ok (.aload_n 0, 1) := by decide +kernel
theorem dX5_isOpen_6 : decode cX5_isOpen 6 = .ok (.getfield 106, 3) := by decide +kernel
theorem dX5_isOpen_9 : decode cX5_isOpen 9 = .ok (.ireturn, 1) := by decide +kernel
set_option maxRecDepth 20000 in
theorem ggX5_lessonWord_X5_fail : GoodIn wsX5_lessonWord wsX5_fail := goodIn_r _ [9, 1, 10, 11, 12, 13, 14, 15, 16, 17, 18, 19, 20, 21, 22, 23, 24, 25, 26, 27, 28, 29] (by decide +kernel) (by decide +kernel)
set_option maxRecDepth 20000 in
theorem gX5_lessonWord_X5_fail : GoodIn wsX5_lessonWord (wsV RX5 67 RX5 yX5_fail wsX5_fail) := goodIn_app (goodIn_of _ (by decide +kernel)) ggX5_lessonWord_X5_fail
theorem dX5_lessonWord_0 : decode cX5_lessonWord 0 = .ok (.aload_n 0, 1) := by decide +kernel
theorem dX5_lessonWord_1 : decode cX5_lessonWord 1 = .ok (.iconst 0, 1) := by decide +kernel
theorem dX5_lessonWord_2 : decode cX5_lessonWord 2 = .ok (.putfield 43, 3) := by decide +kernel
theorem dX5_lessonWord_5 : decode cX5_lessonWord 5 = .ok (.aload_n 0, 1) := by decide +kernel
theorem dX5_lessonWord_6 : decode cX5_lessonWord 6 = .ok (.getfield 106, 3) := by decide +kernel
theorem dX5_lessonWord_9 : decode cX5_lessonWord 9 = .ok (.ifCond .ne 9, 3) := by decide +kernel
theorem dX5_lessonWord_12 : decode cX5_lessonWord 12 = .ok (.aload_n 0, 1) := by decide +kernel
theorem dX5_lessonWord_13 : decode cX5_lessonWord 13 = .ok (.iconst 1, 1) := by decide +kernel
theorem dX5_lessonWord_14 : decode cX5_lessonWord 14 = .ok (.invokevirtual 67, 3) := by decide +kernel
theorem dX5_lessonWord_17 : decode cX5_lessonWord 17 = .ok (.ireturn, 1) := by decide +kernel
theorem dX5_lessonWord_18 : decode cX5_lessonWord 18 = .ok (.iload_n 1, 1) := by decide +kernel
theorem dX5_lessonWord_19 : decode cX5_lessonWord 19 = .ok (.ifCond .lt 20, 3) := by decide +kernel
theorem dX5_lessonWord_22 : decode cX5_lessonWord 22 = .ok (.iload_n 1, 1) := by decide +kernel
theorem dX5_lessonWord_23 : decode cX5_lessonWord 23 = .ok (.aload_n 0, 1) := by decide +kernel
theorem dX5_lessonWord_24 : decode cX5_lessonWord 24 = .ok (.getfield 100, 3) := by decide +kernel
theorem dX5_lessonWord_27 : decode cX5_lessonWord 27 = .ok (.if_icmp .ge 12, 3) := by decide +kernel
theorem dX5_lessonWord_30 : decode cX5_lessonWord 30 = .ok (.aload_n 0, 1) := by decide +kernel
theorem dX5_lessonWord_31 : decode cX5_lessonWord 31 = .ok (.getfield 26, 3) := by decide +kernel
theorem dX5_lessonWord_34 : decode cX5_lessonWord 34 = .ok (.iload_n 1, 1) := by decide +kernel
theorem dX5_lessonWord_35 : decode cX5_lessonWord 35 = .ok (.iaload, 1) := by decide +kernel
theorem dX5_lessonWord_36 : decode cX5_lessonWord 36 = .ok (.goto 8, 3) := by decide +kernel
theorem dX5_lessonWord_39 : decode cX5_lessonWord 39 = .ok (.aload_n 0, 1) := by decide +kernel
theorem dX5_lessonWord_40 : decode cX5_lessonWord 40 = .ok (.iconst 2, 1) := by decide +kernel
theorem dX5_lessonWord_41 : decode cX5_lessonWord 41 = .ok (.invokevirtual 67, 3) := by decide +kernel
theorem dX5_lessonWord_44 : decode cX5_lessonWord 44 = .ok (.ireturn, 1) := by decide +kernel
set_option maxRecDepth 20000 in
theorem ggX5_wanted_X5_fail : GoodIn wsX5_wanted wsX5_fail := goodIn_r _ [9, 1, 10, 11, 12, 13, 14, 15, 16, 17, 18, 19, 20, 21, 22, 23, 24, 25, 26, 27, 28, 29] (by decide +kernel) (by decide +kernel)
set_option maxRecDepth 20000 in
theorem gX5_wanted_X5_fail : GoodIn wsX5_wanted (wsV RX5 67 RX5 yX5_fail wsX5_fail) := goodIn_app (goodIn_of _ (by decide +kernel)) ggX5_wanted_X5_fail
theorem dX5_wanted_0 : decode cX5_wanted 0 = .ok (.aload_n 0, 1) := by decide +kernel
theorem dX5_wanted_1 : decode cX5_wanted 1 = .ok (.iconst 0, 1) := by decide +kernel
theorem dX5_wanted_2 : decode cX5_wanted 2 = .ok (.putfield 43, 3) := by decide +kernel
theorem dX5_wanted_5 : decode cX5_wanted 5 = .ok (.aload_n 0, 1) := by decide +kernel
theorem dX5_wanted_6 : decode cX5_wanted 6 = .ok (.getfield 106, 3) := by decide +kernel
theorem dX5_wanted_9 : decode cX5_wanted 9 = .ok (.ifCond .eq 15, 3) := by decide +kernel
theorem dX5_wanted_12 : decode cX5_wanted 12 = .ok (.aload_n 0, 1) := by decide +kernel
theorem dX5_wanted_13 : decode cX5_wanted 13 = .ok (.getfield 29, 3) := by decide +kernel
theorem dX5_wanted_16 : decode cX5_wanted 16 = .ok (.aload_n 0, 1) := by decide +kernel
theorem dX5_wanted_17 : decode cX5_wanted 17 = .ok (.getfield 110, 3) := by decide +kernel
theorem dX5_wanted_20 : decode cX5_wanted 20 = .ok (.iaload, 1) := by decide +kernel
theorem dX5_wanted_21 : decode cX5_wanted 21 = .ok (.goto 8, 3) := by decide +kernel
theorem dX5_wanted_24 : decode cX5_wanted 24 = .ok (.aload_n 0, 1) := by decide +kernel
theorem dX5_wanted_25 : decode cX5_wanted 25 = .ok (.iconst 1, 1) := by decide +kernel
theorem dX5_wanted_26 : decode cX5_wanted 26 = .ok (.invokevirtual 67, 3) := by decide +kernel
theorem dX5_wanted_29 : decode cX5_wanted 29 = .ok (.ireturn, 1) := by decide +kernel
set_option maxRecDepth 20000 in
theorem ggX5_done_X5_fail : GoodIn wsX5_done wsX5_fail := goodIn_r _ [8, 1, 9, 10, 11, 12, 13, 14, 15, 16, 17, 18, 19, 20, 21, 22, 23, 24, 25, 26, 27, 28] (by decide +kernel) (by decide +kernel)
set_option maxRecDepth 20000 in
theorem gX5_done_X5_fail : GoodIn wsX5_done (wsV RX5 67 RX5 yX5_fail wsX5_fail) := goodIn_app (goodIn_of _ (by decide +kernel)) ggX5_done_X5_fail
theorem dX5_done_0 : decode cX5_done 0 = .ok (.aload_n 0, 1) := by decide +kernel
theorem dX5_done_1 : decode cX5_done 1 = .ok (.iconst 0, 1) := by decide +kernel
theorem dX5_done_2 : decode cX5_done 2 = .ok (.putfield 43, 3) := by decide +kernel
theorem dX5_done_5 : decode cX5_done 5 = .ok (.aload_n 0, 1) := by decide +kernel
theorem dX5_done_6 : decode cX5_done 6 = .ok (.getfield 106, 3) := by decide +kernel
theorem dX5_done_9 : decode cX5_done 9 = .ok (.ifCond .eq 10, 3) := by decide +kernel
theorem dX5_done_12 : decode cX5_done 12 = .ok (.aload_n 0, 1) := by decide +kernel
theorem dX5_done_13 : decode cX5_done 13 = .ok (.getfield 110, 3) := by decide +kernel
theorem dX5_done_16 : decode cX5_done 16 = .ok (.goto 8, 3) := by decide +kernel
theorem dX5_done_19 : decode cX5_done 19 = .ok (.aload_n 0, 1) := by decide +kernel
theorem dX5_done_20 : decode cX5_done 20 = .ok (.iconst 1, 1) := by decide +kernel
theorem dX5_done_21 : decode cX5_done 21 = .ok (.invokevirtual 67, 3) := by decide +kernel
theorem dX5_done_24 : decode cX5_done 24 = .ok (.ireturn, 1) := by decide +kernel
set_option maxRecDepth 20000 in
theorem ggX5_kindOf_X5_nearTo : GoodIn wsX5_kindOf wsX5_nearTo := goodIn_r _ [8, 9, 10, 11, 12, 13, 14, 15, 16, 17, 18, 19, 20, 21, 22, 23, 24, 25, 26, 27, 28, 29, 30, 31, 32, 33, 34, 35, 36, 37, 38, 39, 40, 41, 42, 43, 44, 45, 46, 47, 48, 49, 50, 51, 52, 53, 54, 55, 56, 57, 58, 59, 60, 61, 62, 63, 64, 65, 66, 67, 68, 69, 70, 71, 72, 73, 74, 75, 76, 77, 78, 79, 80, 81, 82, 83, 84, 85, 86, 87, 88, 89, 90, 91, 92, 93, 94, 95, 96, 97, 98, 99, 100] (by decide +kernel) (by decide +kernel)
set_option maxRecDepth 20000 in
theorem gX5_kindOf_X5_nearTo : GoodIn wsX5_kindOf (va_wsS RX5 96 yX5_nearTo wsX5_nearTo) := goodIn_app (goodIn_of _ (by decide +kernel)) ggX5_kindOf_X5_nearTo
theorem dX5_kindOf_0 : decode cX5_kindOf 0 = .ok (.iload_n 1, 1) := by decide +kernel
theorem dX5_kindOf_1 : decode cX5_kindOf 1 = .ok (.aload_n 0, 1) := by decide +kernel
theorem dX5_kindOf_2 : decode cX5_kindOf 2 = .ok (.getfield 29, 3) := by decide +kernel
theorem dX5_kindOf_5 : decode cX5_kindOf 5 = .ok (.aload_n 0, 1) := by decide +kernel
theorem dX5_kindOf_6 : decode cX5_kindOf 6 = .ok (.getfield 110, 3) := by decide +kernel
theorem dX5_kindOf_9 : decode cX5_kindOf 9 = .ok (.iaload, 1) := by decide +kernel
theorem dX5_kindOf_10 : decode cX5_kindOf 10 = .ok (.if_icmp .ne 5, 3) := by decide +kernel
theorem dX5_kindOf_13 : decode cX5_kindOf 13 = .ok (.iconst 0, 1) := by decide +kernel
theorem dX5_kindOf_14 : decode cX5_kindOf 14 = .ok (.ireturn, 1) := by decide +kernel
theorem dX5_kindOf_15 : decode cX5_kindOf 15 = .ok (.aload_n 0, 1) := by decide +kernel
theorem dX5_kindOf_16 : decode cX5_kindOf 16 = .ok (.getfield 110, 3) := by decide +kernel
theorem dX5_kindOf_19 : decode cX5_kindOf 19 = .ok (.iconst 1, 1) := by decide +kernel
theorem dX5_kindOf_20 : decode cX5_kindOf 20 = .ok (.iadd, 1) := by decide +kernel
theorem dX5_kindOf_21 : decode cX5_kindOf 21 = .ok (.aload_n 0, 1) := by decide +kernel
theorem dX5_kindOf_22 : decode cX5_kindOf 22 = .ok (.getfield 103, 3) := by decide +kernel
theorem dX5_kindOf_25 : decode cX5_kindOf 25 = .ok (.if_icmp .ge 21, 3) := by decide +kernel
theorem dX5_kindOf_28 : decode cX5_kindOf 28 = .ok (.aload_n 0, 1) := by decide +kernel
theorem dX5_kindOf_29 : decode cX5_kindOf 29 = .ok (.getfield 32, 3) := by decide +kernel
theorem dX5_kindOf_32 : decode cX5_kindOf 32 = .ok (.aload_n 0, 1) := by decide +kernel
theorem dX5_kindOf_33 : decode cX5_kindOf 33 = .ok (.getfield 110, 3) := by decide +kernel
theorem dX5_kindOf_36 : decode cX5_kindOf 36 = .ok (.iconst 1, 1) := by decide +kernel
theorem dX5_kindOf_37 : decode cX5_kindOf 37 = .ok (.iadd, 1) := by decide +kernel
theorem dX5_kindOf_38 : decode cX5_kindOf 38 = .ok (.baload, 1) := by decide +kernel
theorem dX5_kindOf_39 : decode cX5_kindOf 39 = .ok (.ifCond .ne 7, 3) := by decide +kernel
theorem dX5_kindOf_42 : decode cX5_kindOf 42 = .ok (.iconst 1, 1) := by decide +kernel
theorem dX5_kindOf_43 : decode cX5_kindOf 43 = .ok (.goto 4, 3) := by decide +kernel
theorem dX5_kindOf_46 : decode cX5_kindOf 46 = .ok (.iconst 0, 1) := by decide +kernel
theorem dX5_kindOf_47 : decode cX5_kindOf 47 = .ok (.istore_n 2, 1) := by decide +kernel
theorem dX5_kindOf_48 : decode cX5_kindOf 48 = .ok (.iload_n 2, 1) := by decide +kernel
theorem dX5_kindOf_49 : decode cX5_kindOf 49 = .ok (.ifCond .eq 20, 3) := by decide +kernel
theorem dX5_kindOf_52 : decode cX5_kindOf 52 = .ok (.aload_n 0, 1) := by decide +kernel
theorem dX5_kindOf_53 : decode cX5_kindOf 53 = .ok (.getfield 29, 3) := by decide +kernel
theorem dX5_kindOf_56 : decode cX5_kindOf 56 = .ok (.aload_n 0, 1) := by decide +kernel
theorem dX5_kindOf_57 : decode cX5_kindOf 57 = .ok (.getfield 110, 3) := by decide +kernel
theorem dX5_kindOf_60 : decode cX5_kindOf 60 = .ok (.iconst 1, 1) := by decide +kernel
theorem dX5_kindOf_61 : decode cX5_kindOf 61 = .ok (.iadd, 1) := by decide +kernel
theorem dX5_kindOf_62 : decode cX5_kindOf 62 = .ok (.iaload, 1) := by decide +kernel
theorem dX5_kindOf_63 : decode cX5_kindOf 63 = .ok (.iload_n 1, 1) := by decide +kernel
theorem dX5_kindOf_64 : decode cX5_kindOf 64 = .ok (.if_icmp .ne 5, 3) := by decide +kernel
theorem dX5_kindOf_67 : decode cX5_kindOf 67 = .ok (.iconst 1, 1) := by decide +kernel
theorem dX5_kindOf_68 : decode cX5_kindOf 68 = .ok (.ireturn, 1) := by decide +kernel
theorem dX5_kindOf_69 : decode cX5_kindOf 69 = .ok (.aload_n 0, 1) := by decide +kernel
theorem dX5_kindOf_70 : decode cX5_kindOf 70 = .ok (.getfield 32, 3) := by decide +kernel
theorem dX5_kindOf_73 : decode cX5_kindOf 73 = .ok (.aload_n 0, 1) := by decide +kernel
theorem dX5_kindOf_74 : decode cX5_kindOf 74 = .ok (.getfield 110, 3) := by decide +kernel
theorem dX5_kindOf_77 : decode cX5_kindOf 77 = .ok (.baload, 1) := by decide +kernel
theorem dX5_kindOf_78 : decode cX5_kindOf 78 = .ok (.ifCond .ne 20, 3) := by decide +kernel
theorem dX5_kindOf_81 : decode cX5_kindOf 81 = .ok (.aload_n 0, 1) := by decide +kernel
theorem dX5_kindOf_82 : decode cX5_kindOf 82 = .ok (.getfield 29, 3) := by decide +kernel
theorem dX5_kindOf_85 : decode cX5_kindOf 85 = .ok (.aload_n 0, 1) := by decide +kernel
theorem dX5_kindOf_86 : decode cX5_kindOf 86 = .ok (.getfield 110, 3) := by decide +kernel
theorem dX5_kindOf_89 : decode cX5_kindOf 89 = .ok (.iconst 1, 1) := by decide +kernel
theorem dX5_kindOf_90 : decode cX5_kindOf 90 = .ok (.isub, 1) := by decide +kernel
theorem dX5_kindOf_91 : decode cX5_kindOf 91 = .ok (.iaload, 1) := by decide +kernel
theorem dX5_kindOf_92 : decode cX5_kindOf 92 = .ok (.iload_n 1, 1) := by decide +kernel
theorem dX5_kindOf_93 : decode cX5_kindOf 93 = .ok (.if_icmp .ne 5, 3) := by decide +kernel
theorem dX5_kindOf_96 : decode cX5_kindOf 96 = .ok (.iconst 2, 1) := by decide +kernel
theorem dX5_kindOf_97 : decode cX5_kindOf 97 = .ok (.ireturn, 1) := by decide +kernel
theorem dX5_kindOf_98 : decode cX5_kindOf 98 = .ok (.iload_n 1, 1) := by decide +kernel
theorem dX5_kindOf_99 : decode cX5_kindOf 99 = .ok (.aload_n 0, 1) := by decide +kernel
theorem dX5_kindOf_100 : decode cX5_kindOf 100 = .ok (.getfield 29, 3) := by decide +kernel
theorem dX5_kindOf_103 : decode cX5_kindOf 103 = .ok (.aload_n 0, 1) := by decide +kernel
theorem dX5_kindOf_104 : decode cX5_kindOf 104 = .ok (.getfield 110, 3) := by decide +kernel
theorem dX5_kindOf_107 : decode cX5_kindOf 107 = .ok (.iaload, 1) := by decide +kernel
theorem dX5_kindOf_108 : decode cX5_kindOf 108 = .ok (.invokestatic 96, 3) := by decide +kernel
theorem dX5_kindOf_111 : decode cX5_kindOf 111 = .ok (.ifCond .eq 7, 3) := by decide +kernel
theorem dX5_kindOf_114 : decode cX5_kindOf 114 = .ok (.iconst 3, 1) := by decide +kernel
theorem dX5_kindOf_115 : decode cX5_kindOf 115 = .ok (.goto 4, 3) := by decide +kernel
theorem dX5_kindOf_118 : decode cX5_kindOf 118 = .ok (.iconst 4, 1) := by decide +kernel
theorem dX5_kindOf_119 : decode cX5_kindOf 119 = .ok (.ireturn, 1) := by decide +kernel
theorem dX5_learn_0 : decode cX5_learn 0 = .ok (.aload_n 0, 1) := by decide +kernel
theorem dX5_learn_1 : decode cX5_learn 1 = .ok (.getfield 13, 3) := by decide +kernel
theorem dX5_learn_4 : decode cX5_learn 4 = .ok (.iload_n 1, 1) := by decide +kernel
theorem dX5_learn_5 : decode cX5_learn 5 = .ok (.dup2, 1) := by decide +kernel
theorem dX5_learn_6 : decode cX5_learn 6 = .ok (.iaload, 1) := by decide +kernel
theorem dX5_learn_7 : decode cX5_learn 7 = .ok (.iconst 1, 1) := by decide +kernel
theorem dX5_learn_8 : decode cX5_learn 8 = .ok (.iadd, 1) := by decide +kernel
theorem dX5_learn_9 : decode cX5_learn 9 = .ok (.iastore, 1) := by decide +kernel
theorem dX5_learn_10 : decode cX5_learn 10 = .ok (.aload_n 0, 1) := by decide +kernel
theorem dX5_learn_11 : decode cX5_learn 11 = .ok (.getfield 17, 3) := by decide +kernel
theorem dX5_learn_14 : decode cX5_learn 14 = .ok (.iload_n 1, 1) := by decide +kernel
theorem dX5_learn_15 : decode cX5_learn 15 = .ok (.dup2, 1) := by decide +kernel
theorem dX5_learn_16 : decode cX5_learn 16 = .ok (.iaload, 1) := by decide +kernel
theorem dX5_learn_17 : decode cX5_learn 17 = .ok (.iload_n 2, 1) := by decide +kernel
theorem dX5_learn_18 : decode cX5_learn 18 = .ok (.ifCond .eq 7, 3) := by decide +kernel
theorem dX5_learn_21 : decode cX5_learn 21 = .ok (.iconst 0, 1) := by decide +kernel
theorem dX5_learn_22 : decode cX5_learn 22 = .ok (.goto 4, 3) := by decide +kernel
theorem dX5_learn_25 : decode cX5_learn 25 = .ok (.iconst 1, 1) := by decide +kernel
theorem dX5_learn_26 : decode cX5_learn 26 = .ok (.iadd, 1) := by decide +kernel
theorem dX5_learn_27 : decode cX5_learn 27 = .ok (.iastore, 1) := by decide +kernel
theorem dX5_learn_28 : decode cX5_learn 28 = .ok (.aload_n 0, 1) := by decide +kernel
theorem dX5_learn_29 : decode cX5_learn 29 = .ok (.getfield 20, 3) := by decide +kernel
theorem dX5_learn_32 : decode cX5_learn 32 = .ok (.iload_n 1, 1) := by decide +kernel
theorem dX5_learn_33 : decode cX5_learn 33 = .ok (.dup2, 1) := by decide +kernel
theorem dX5_learn_34 : decode cX5_learn 34 = .ok (.iaload, 1) := by decide +kernel
theorem dX5_learn_35 : decode cX5_learn 35 = .ok (.iload_n 3, 1) := by decide +kernel
theorem dX5_learn_36 : decode cX5_learn 36 = .ok (.aload_n 0, 1) := by decide +kernel
theorem dX5_learn_37 : decode cX5_learn 37 = .ok (.getfield 20, 3) := by decide +kernel
theorem dX5_learn_40 : decode cX5_learn 40 = .ok (.iload_n 1, 1) := by decide +kernel
theorem dX5_learn_41 : decode cX5_learn 41 = .ok (.iaload, 1) := by decide +kernel
theorem dX5_learn_42 : decode cX5_learn 42 = .ok (.isub, 1) := by decide +kernel
theorem dX5_learn_43 : decode cX5_learn 43 = .ok (.iconst 4, 1) := by decide +kernel
theorem dX5_learn_44 : decode cX5_learn 44 = .ok (.idiv, 1) := by decide +kernel
theorem dX5_learn_45 : decode cX5_learn 45 = .ok (.iadd, 1) := by decide +kernel
theorem dX5_learn_46 : decode cX5_learn 46 = .ok (.iastore, 1) := by decide +kernel
theorem dX5_learn_47 : decode cX5_learn 47 = .ok (.return_, 1) := by decide +kernel
set_option maxRecDepth 20000 in
theorem ggX5_tryLetter_X5_learn : GoodIn wsX5_tryLetter wsX5_learn := goodIn_r _ [15, 16, 17, 18, 39, 40, 41, 42, 43, 44, 45, 46, 47, 48, 49, 50, 51, 52, 53, 54, 55, 56, 57, 58] (by decide +kernel) (by decide +kernel)
set_option maxRecDepth 20000 in
theorem gX5_tryLetter_X5_learn : GoodIn wsX5_tryLetter (wsV RX5 138 RX5 yX5_learn wsX5_learn) := goodIn_app (goodIn_of _ (by decide +kernel)) ggX5_tryLetter_X5_learn
set_option maxRecDepth 20000 in
theorem ggX5_tryLetter_X5_pairOf : GoodIn wsX5_tryLetter wsX5_pairOf := goodIn_r _ [21] (by decide +kernel) (by decide +kernel)
set_option maxRecDepth 20000 in
theorem gX5_tryLetter_X5_pairOf : GoodIn wsX5_tryLetter (va_wsS RX5 74 yX5_pairOf wsX5_pairOf) := goodIn_app (goodIn_of _ (by decide +kernel)) ggX5_tryLetter_X5_pairOf
set_option maxRecDepth 20000 in
theorem ggX5_tryLetter_X5_finish : GoodIn wsX5_tryLetter wsX5_finish := goodIn_r _ [25, 26, 27, 28, 29, 30, 31, 32, 33, 10, 9, 34, 35, 36, 37, 4, 38, 2, 3, 5, 39, 40, 41, 42, 43, 44, 45, 46, 47, 48, 49, 50, 51, 52, 53, 54, 55, 56, 57, 58] (by decide +kernel) (by decide +kernel)
set_option maxRecDepth 20000 in
theorem gX5_tryLetter_X5_finish : GoodIn wsX5_tryLetter (wsV RX5 142 RX5 yX5_finish wsX5_finish) := goodIn_app (goodIn_of _ (by decide +kernel)) ggX5_tryLetter_X5_finish
theorem dX5_tryLetter_0 : decode cX5_tryLetter 0 = .ok (.aload_n 0, 1) := by decide +kernel
theorem dX5_tryLetter_1 : decode cX5_tryLetter 1 = .ok (.getfield 113, 3) := by decide +kernel
theorem dX5_tryLetter_4 : decode cX5_tryLetter 4 = .ok (.ifCond .ne 7, 3) := by decide +kernel
theorem dX5_tryLetter_7 : decode cX5_tryLetter 7 = .ok (.iconst 1, 1) := by decide +kernel
theorem dX5_tryLetter_8 : decode cX5_tryLetter 8 = .ok (.goto 4, 3) := by decide +kernel
theorem dX5_tryLetter_11 : decode cX5_tryLetter 11 = .ok (.iconst 0, 1) := by decide +kernel
theorem dX5_tryLetter_12 : decode cX5_tryLetter 12 = .ok (.istore_n 2, 1) := by decide +kernel
theorem dX5_tryLetter_13 : decode cX5_tryLetter 13 = .ok (.iload_n 2, 1) := by decide +kernel
theorem dX5_tryLetter_14 : decode cX5_tryLetter 14 = .ok (.ifCond .eq 17, 3) := by decide +kernel
theorem dX5_tryLetter_17 : decode cX5_tryLetter 17 = .ok (.iconst 0, 1) := by decide +kernel
theorem dX5_tryLetter_18 : decode cX5_tryLetter 18 = .ok (.sipush 1000, 3) := by decide +kernel
theorem dX5_tryLetter_21 : decode cX5_tryLetter 21 = .ok (.iload_n 1, 1) := by decide +kernel
theorem dX5_tryLetter_22 : decode cX5_tryLetter 22 = .ok (.iconst 5, 1) := by decide +kernel
theorem dX5_tryLetter_23 : decode cX5_tryLetter 23 = .ok (.idiv, 1) := by decide +kernel
theorem dX5_tryLetter_24 : decode cX5_tryLetter 24 = .ok (.isub, 1) := by decide +kernel
theorem dX5_tryLetter_25 : decode cX5_tryLetter 25 = .ok (.invokestatic 135, 3) := by decide +kernel
theorem dX5_tryLetter_28 : decode cX5_tryLetter 28 = .ok (.goto 4, 3) := by decide +kernel
theorem dX5_tryLetter_31 : decode cX5_tryLetter 31 = .ok (.iconst 0, 1) := by decide +kernel
theorem dX5_tryLetter_32 : decode cX5_tryLetter 32 = .ok (.istore_n 3, 1) := by decide +kernel
theorem dX5_tryLetter_33 : decode cX5_tryLetter 33 = .ok (.aload_n 0, 1) := by decide +kernel
theorem dX5_tryLetter_34 : decode cX5_tryLetter 34 = .ok (.aload_n 0, 1) := by decide +kernel
theorem dX5_tryLetter_35 : decode cX5_tryLetter 35 = .ok (.getfield 29, 3) := by decide +kernel
theorem dX5_tryLetter_38 : decode cX5_tryLetter 38 = .ok (.aload_n 0, 1) := by decide +kernel
theorem dX5_tryLetter_39 : decode cX5_tryLetter 39 = .ok (.getfield 110, 3) := by decide +kernel
theorem dX5_tryLetter_42 : decode cX5_tryLetter 42 = .ok (.iaload, 1) := by decide +kernel
theorem dX5_tryLetter_43 : decode cX5_tryLetter 43 = .ok (.iload_n 2, 1) := by decide +kernel
theorem dX5_tryLetter_44 : decode cX5_tryLetter 44 = .ok (.iload_n 3, 1) := by decide +kernel
theorem dX5_tryLetter_45 : decode cX5_tryLetter 45 = .ok (.invokevirtual 138, 3) := by decide +kernel
theorem dX5_tryLetter_48 : decode cX5_tryLetter 48 = .ok (.aload_n 0, 1) := by decide +kernel
theorem dX5_tryLetter_49 : decode cX5_tryLetter 49 = .ok (.getfield 32, 3) := by decide +kernel
theorem dX5_tryLetter_52 : decode cX5_tryLetter 52 = .ok (.aload_n 0, 1) := by decide +kernel
theorem dX5_tryLetter_53 : decode cX5_tryLetter 53 = .ok (.getfield 110, 3) := by decide +kernel
theorem dX5_tryLetter_56 : decode cX5_tryLetter 56 = .ok (.baload, 1) := by decide +kernel
theorem dX5_tryLetter_57 : decode cX5_tryLetter 57 = .ok (.ifCond .ne 32, 3) := by decide +kernel
theorem dX5_tryLetter_60 : decode cX5_tryLetter 60 = .ok (.aload_n 0, 1) := by decide +kernel
theorem dX5_tryLetter_61 : decode cX5_tryLetter 61 = .ok (.aload_n 0, 1) := by decide +kernel
theorem dX5_tryLetter_62 : decode cX5_tryLetter 62 = .ok (.getfield 29, 3) := by decide +kernel
theorem dX5_tryLetter_65 : decode cX5_tryLetter 65 = .ok (.aload_n 0, 1) := by decide +kernel
theorem dX5_tryLetter_66 : decode cX5_tryLetter 66 = .ok (.getfield 110, 3) := by decide +kernel
theorem dX5_tryLetter_69 : decode cX5_tryLetter 69 = .ok (.iconst 1, 1) := by decide +kernel
theorem dX5_tryLetter_70 : decode cX5_tryLetter 70 = .ok (.isub, 1) := by decide +kernel
theorem dX5_tryLetter_71 : decode cX5_tryLetter 71 = .ok (.iaload, 1) := by decide +kernel
theorem dX5_tryLetter_72 : decode cX5_tryLetter 72 = .ok (.aload_n 0, 1) := by decide +kernel
theorem dX5_tryLetter_73 : decode cX5_tryLetter 73 = .ok (.getfield 29, 3) := by decide +kernel
theorem dX5_tryLetter_76 : decode cX5_tryLetter 76 = .ok (.aload_n 0, 1) := by decide +kernel
theorem dX5_tryLetter_77 : decode cX5_tryLetter 77 = .ok (.getfield 110, 3) := by decide +kernel
theorem dX5_tryLetter_80 : decode cX5_tryLetter 80 = .ok (.iaload, 1) := by decide +kernel
theorem dX5_tryLetter_81 : decode cX5_tryLetter 81 = .ok (.invokestatic 74, 3) := by decide +kernel
theorem dX5_tryLetter_84 : decode cX5_tryLetter 84 = .ok (.iload_n 2, 1) := by decide +kernel
theorem dX5_tryLetter_85 : decode cX5_tryLetter 85 = .ok (.iload_n 3, 1) := by decide +kernel
theorem dX5_tryLetter_86 : decode cX5_tryLetter 86 = .ok (.invokevirtual 138, 3) := by decide +kernel
theorem dX5_tryLetter_89 : decode cX5_tryLetter 89 = .ok (.aload_n 0, 1) := by decide +kernel
theorem dX5_tryLetter_90 : decode cX5_tryLetter 90 = .ok (.dup, 1) := by decide +kernel
theorem dX5_tryLetter_91 : decode cX5_tryLetter 91 = .ok (.getfield 116, 3) := by decide +kernel
theorem dX5_tryLetter_94 : decode cX5_tryLetter 94 = .ok (.iload_n 2, 1) := by decide +kernel
theorem dX5_tryLetter_95 : decode cX5_tryLetter 95 = .ok (.ifCond .eq 7, 3) := by decide +kernel
theorem dX5_tryLetter_98 : decode cX5_tryLetter 98 = .ok (.iconst 1, 1) := by decide +kernel
theorem dX5_tryLetter_99 : decode cX5_tryLetter 99 = .ok (.goto 4, 3) := by decide +kernel
theorem dX5_tryLetter_102 : decode cX5_tryLetter 102 = .ok (.iconst 0, 1) := by decide +kernel
theorem dX5_tryLetter_103 : decode cX5_tryLetter 103 = .ok (.iadd, 1) := by decide +kernel
theorem dX5_tryLetter_104 : decode cX5_tryLetter 104 = .ok (.putfield 116, 3) := by decide +kernel
theorem dX5_tryLetter_107 : decode cX5_tryLetter 107 = .ok (.aload_n 0, 1) := by decide +kernel
theorem dX5_tryLetter_108 : decode cX5_tryLetter 108 = .ok (.iconst 0, 1) := by decide +kernel
theorem dX5_tryLetter_109 : decode cX5_tryLetter 109 = .ok (.putfield 113, 3) := by decide +kernel
theorem dX5_tryLetter_112 : decode cX5_tryLetter 112 = .ok (.aload_n 0, 1) := by decide +kernel
theorem dX5_tryLetter_113 : decode cX5_tryLetter 113 = .ok (.dup, 1) := by decide +kernel
theorem dX5_tryLetter_114 : decode cX5_tryLetter 114 = .ok (.getfield 110, 3) := by decide +kernel
theorem dX5_tryLetter_117 : decode cX5_tryLetter 117 = .ok (.iconst 1, 1) := by decide +kernel
theorem dX5_tryLetter_118 : decode cX5_tryLetter 118 = .ok (.iadd, 1) := by decide +kernel
theorem dX5_tryLetter_119 : decode cX5_tryLetter 119 = .ok (.putfield 110, 3) := by decide +kernel
theorem dX5_tryLetter_122 : decode cX5_tryLetter 122 = .ok (.aload_n 0, 1) := by decide +kernel
theorem dX5_tryLetter_123 : decode cX5_tryLetter 123 = .ok (.getfield 110, 3) := by decide +kernel
theorem dX5_tryLetter_126 : decode cX5_tryLetter 126 = .ok (.aload_n 0, 1) := by decide +kernel
theorem dX5_tryLetter_127 : decode cX5_tryLetter 127 = .ok (.getfield 103, 3) := by decide +kernel
theorem dX5_tryLetter_130 : decode cX5_tryLetter 130 = .ok (.if_icmp .ne 7, 3) := by decide +kernel
theorem dX5_tryLetter_133 : decode cX5_tryLetter 133 = .ok (.aload_n 0, 1) := by decide +kernel
theorem dX5_tryLetter_134 : decode cX5_tryLetter 134 = .ok (.invokevirtual 142, 3) := by decide +kernel
theorem dX5_tryLetter_137 : decode cX5_tryLetter 137 = .ok (.return_, 1) := by decide +kernel
theorem dX5_finish_0 : decode cX5_finish 0 = .ok (.aload_n 0, 1) := by decide +kernel
theorem dX5_finish_1 : decode cX5_finish 1 = .ok (.iconst 0, 1) := by decide +kernel
theorem dX5_finish_2 : decode cX5_finish 2 = .ok (.putfield 106, 3) := by decide +kernel
theorem dX5_finish_5 : decode cX5_finish 5 = .ok (.iconst 3, 1) := by decide +kernel
theorem dX5_finish_6 : decode cX5_finish 6 = .ok (.aload_n 0, 1) := by decide +kernel
theorem dX5_finish_7 : decode cX5_finish 7 = .ok (.getfield 145, 3) := by decide +kernel
theorem dX5_finish_10 : decode cX5_finish 10 = .ok (.imul, 1) := by decide +kernel
theorem dX5_finish_11 : decode cX5_finish 11 = .ok (.aload_n 0, 1) := by decide +kernel
theorem dX5_finish_12 : decode cX5_finish 12 = .ok (.getfield 36, 3) := by decide +kernel
theorem dX5_finish_15 : decode cX5_finish 15 = .ok (.arraylength, 1) := by decide +kernel
theorem dX5_finish_16 : decode cX5_finish 16 = .ok (.if_icmp .ne 33, 3) := by decide +kernel
theorem dX5_finish_19 : decode cX5_finish 19 = .ok (.iconst 2, 1) := by decide +kernel
theorem dX5_finish_20 : decode cX5_finish 20 = .ok (.aload_n 0, 1) := by decide +kernel
theorem dX5_finish_21 : decode cX5_finish 21 = .ok (.getfield 36, 3) := by decide +kernel
theorem dX5_finish_24 : decode cX5_finish 24 = .ok (.arraylength, 1) := by decide +kernel
theorem dX5_finish_25 : decode cX5_finish 25 = .ok (.imul, 1) := by decide +kernel
theorem dX5_finish_26 : decode cX5_finish 26 = .ok (.newarray .int, 2) := by decide +kernel
theorem dX5_finish_28 : decode cX5_finish 28 = .ok (.astore_n 1, 1) := by decide +kernel
theorem dX5_finish_29 : decode cX5_finish 29 = .ok (.aload_n 0, 1) := by decide +kernel
theorem dX5_finish_30 : decode cX5_finish 30 = .ok (.getfield 36, 3) := by decide +kernel
theorem dX5_finish_33 : decode cX5_finish 33 = .ok (.iconst 0, 1) := by decide +kernel
theorem dX5_finish_34 : decode cX5_finish 34 = .ok (.aload_n 1, 1) := by decide +kernel
theorem dX5_finish_35 : decode cX5_finish 35 = .ok (.iconst 0, 1) := by decide +kernel
theorem dX5_finish_36 : decode cX5_finish 36 = .ok (.aload_n 0, 1) := by decide +kernel
theorem dX5_finish_37 : decode cX5_finish 37 = .ok (.getfield 36, 3) := by decide +kernel
theorem dX5_finish_40 : decode cX5_finish 40 = .ok (.arraylength, 1) := by decide +kernel
theorem dX5_finish_41 : decode cX5_finish 41 = .ok (.invokestatic 148, 3) := by decide +kernel
theorem dX5_finish_44 : decode cX5_finish 44 = .ok (.aload_n 0, 1) := by decide +kernel
theorem dX5_finish_45 : decode cX5_finish 45 = .ok (.aload_n 1, 1) := by decide +kernel
theorem dX5_finish_46 : decode cX5_finish 46 = .ok (.putfield 36, 3) := by decide +kernel
theorem dX5_finish_49 : decode cX5_finish 49 = .ok (.aload_n 0, 1) := by decide +kernel
theorem dX5_finish_50 : decode cX5_finish 50 = .ok (.getfield 36, 3) := by decide +kernel
theorem dX5_finish_53 : decode cX5_finish 53 = .ok (.iconst 3, 1) := by decide +kernel
theorem dX5_finish_54 : decode cX5_finish 54 = .ok (.aload_n 0, 1) := by decide +kernel
theorem dX5_finish_55 : decode cX5_finish 55 = .ok (.getfield 145, 3) := by decide +kernel
theorem dX5_finish_58 : decode cX5_finish 58 = .ok (.imul, 1) := by decide +kernel
theorem dX5_finish_59 : decode cX5_finish 59 = .ok (.aload_n 0, 1) := by decide +kernel
theorem dX5_finish_60 : decode cX5_finish 60 = .ok (.getfield 103, 3) := by decide +kernel
theorem dX5_finish_63 : decode cX5_finish 63 = .ok (.iastore, 1) := by decide +kernel
theorem dX5_finish_64 : decode cX5_finish 64 = .ok (.aload_n 0, 1) := by decide +kernel
theorem dX5_finish_65 : decode cX5_finish 65 = .ok (.getfield 36, 3) := by decide +kernel
theorem dX5_finish_68 : decode cX5_finish 68 = .ok (.iconst 3, 1) := by decide +kernel
theorem dX5_finish_69 : decode cX5_finish 69 = .ok (.aload_n 0, 1) := by decide +kernel
theorem dX5_finish_70 : decode cX5_finish 70 = .ok (.getfield 145, 3) := by decide +kernel
theorem dX5_finish_73 : decode cX5_finish 73 = .ok (.imul, 1) := by decide +kernel
theorem dX5_finish_74 : decode cX5_finish 74 = .ok (.iconst 1, 1) := by decide +kernel
theorem dX5_finish_75 : decode cX5_finish 75 = .ok (.iadd, 1) := by decide +kernel
theorem dX5_finish_76 : decode cX5_finish 76 = .ok (.aload_n 0, 1) := by decide +kernel
theorem dX5_finish_77 : decode cX5_finish 77 = .ok (.getfield 116, 3) := by decide +kernel
theorem dX5_finish_80 : decode cX5_finish 80 = .ok (.iastore, 1) := by decide +kernel
theorem dX5_finish_81 : decode cX5_finish 81 = .ok (.aload_n 0, 1) := by decide +kernel
theorem dX5_finish_82 : decode cX5_finish 82 = .ok (.getfield 36, 3) := by decide +kernel
theorem dX5_finish_85 : decode cX5_finish 85 = .ok (.iconst 3, 1) := by decide +kernel
theorem dX5_finish_86 : decode cX5_finish 86 = .ok (.aload_n 0, 1) := by decide +kernel
theorem dX5_finish_87 : decode cX5_finish 87 = .ok (.getfield 145, 3) := by decide +kernel
theorem dX5_finish_90 : decode cX5_finish 90 = .ok (.imul, 1) := by decide +kernel
theorem dX5_finish_91 : decode cX5_finish 91 = .ok (.iconst 2, 1) := by decide +kernel
theorem dX5_finish_92 : decode cX5_finish 92 = .ok (.iadd, 1) := by decide +kernel
theorem dX5_finish_93 : decode cX5_finish 93 = .ok (.aload_n 0, 1) := by decide +kernel
theorem dX5_finish_94 : decode cX5_finish 94 = .ok (.getfield 119, 3) := by decide +kernel
theorem dX5_finish_97 : decode cX5_finish 97 = .ok (.iastore, 1) := by decide +kernel
theorem dX5_finish_98 : decode cX5_finish 98 = .ok (.aload_n 0, 1) := by decide +kernel
theorem dX5_finish_99 : decode cX5_finish 99 = .ok (.dup, 1) := by decide +kernel
theorem dX5_finish_100 : decode cX5_finish 100 = .ok (.getfield 145, 3) := by decide +kernel
theorem dX5_finish_103 : decode cX5_finish 103 = .ok (.iconst 1, 1) := by decide +kernel
theorem dX5_finish_104 : decode cX5_finish 104 = .ok (.iadd, 1) := by decide +kernel
theorem dX5_finish_105 : decode cX5_finish 105 = .ok (.putfield 145, 3) := by decide +kernel
theorem dX5_finish_108 : decode cX5_finish 108 = .ok (.bipush 100, 2) := by decide +kernel
theorem dX5_finish_110 : decode cX5_finish 110 = .ok (.aload_n 0, 1) := by decide +kernel
theorem dX5_finish_111 : decode cX5_finish 111 = .ok (.getfield 116, 3) := by decide +kernel
theorem dX5_finish_114 : decode cX5_finish 114 = .ok (.imul, 1) := by decide +kernel
theorem dX5_finish_115 : decode cX5_finish 115 = .ok (.bipush 95, 2) := by decide +kernel
theorem dX5_finish_117 : decode cX5_finish 117 = .ok (.aload_n 0, 1) := by decide +kernel
theorem dX5_finish_118 : decode cX5_finish 118 = .ok (.getfield 103, 3) := by decide +kernel
theorem dX5_finish_121 : decode cX5_finish 121 = .ok (.imul, 1) := by decide +kernel
theorem dX5_finish_122 : decode cX5_finish 122 = .ok (.if_icmp .lt 24, 3) := by decide +kernel
theorem dX5_finish_125 : decode cX5_finish 125 = .ok (.aload_n 0, 1) := by decide +kernel
theorem dX5_finish_126 : decode cX5_finish 126 = .ok (.dup, 1) := by decide +kernel
theorem dX5_finish_127 : decode cX5_finish 127 = .ok (.getfield 39, 3) := by decide +kernel
theorem dX5_finish_130 : decode cX5_finish 130 = .ok (.aload_n 0, 1) := by decide +kernel
theorem dX5_finish_131 : decode cX5_finish 131 = .ok (.getfield 39, 3) := by decide +kernel
theorem dX5_finish_134 : decode cX5_finish 134 = .ok (.bipush 20, 2) := by decide +kernel
theorem dX5_finish_136 : decode cX5_finish 136 = .ok (.idiv, 1) := by decide +kernel
theorem dX5_finish_137 : decode cX5_finish 137 = .ok (.iconst 1, 1) := by decide +kernel
theorem dX5_finish_138 : decode cX5_finish 138 = .ok (.iadd, 1) := by decide +kernel
theorem dX5_finish_139 : decode cX5_finish 139 = .ok (.iadd, 1) := by decide +kernel
theorem dX5_finish_140 : decode cX5_finish 140 = .ok (.putfield 39, 3) := by decide +kernel
theorem dX5_finish_143 : decode cX5_finish 143 = .ok (.goto 36, 3) := by decide +kernel
theorem dX5_finish_146 : decode cX5_finish 146 = .ok (.bipush 100, 2) := by decide +kernel
theorem dX5_finish_148 : decode cX5_finish 148 = .ok (.aload_n 0, 1) := by decide +kernel
theorem dX5_finish_149 : decode cX5_finish 149 = .ok (.getfield 116, 3) := by decide +kernel
theorem dX5_finish_152 : decode cX5_finish 152 = .ok (.imul, 1) := by decide +kernel
theorem dX5_finish_153 : decode cX5_finish 153 = .ok (.bipush 85, 2) := by decide +kernel
theorem dX5_finish_155 : decode cX5_finish 155 = .ok (.aload_n 0, 1) := by decide +kernel
theorem dX5_finish_156 : decode cX5_finish 156 = .ok (.getfield 103, 3) := by decide +kernel
theorem dX5_finish_159 : decode cX5_finish 159 = .ok (.imul, 1) := by decide +kernel
theorem dX5_finish_160 : decode cX5_finish 160 = .ok (.if_icmp .ge 19, 3) := by decide +kernel
theorem dX5_finish_163 : decode cX5_finish 163 = .ok (.aload_n 0, 1) := by decide +kernel
theorem dX5_finish_164 : decode cX5_finish 164 = .ok (.dup, 1) := by decide +kernel
theorem dX5_finish_165 : decode cX5_finish 165 = .ok (.getfield 39, 3) := by decide +kernel
theorem dX5_finish_168 : decode cX5_finish 168 = .ok (.aload_n 0, 1) := by decide +kernel
theorem dX5_finish_169 : decode cX5_finish 169 = .ok (.getfield 39, 3) := by decide +kernel
theorem dX5_finish_172 : decode cX5_finish 172 = .ok (.bipush 10, 2) := by decide +kernel
theorem dX5_finish_174 : decode cX5_finish 174 = .ok (.idiv, 1) := by decide +kernel
theorem dX5_finish_175 : decode cX5_finish 175 = .ok (.isub, 1) := by decide +kernel
theorem dX5_finish_176 : decode cX5_finish 176 = .ok (.putfield 39, 3) := by decide +kernel
theorem dX5_finish_179 : decode cX5_finish 179 = .ok (.aload_n 0, 1) := by decide +kernel
theorem dX5_finish_180 : decode cX5_finish 180 = .ok (.bipush 20, 2) := by decide +kernel
theorem dX5_finish_182 : decode cX5_finish 182 = .ok (.sipush 900, 3) := by decide +kernel
theorem dX5_finish_185 : decode cX5_finish 185 = .ok (.aload_n 0, 1) := by decide +kernel
theorem dX5_finish_186 : decode cX5_finish 186 = .ok (.getfield 39, 3) := by decide +kernel
theorem dX5_finish_189 : decode cX5_finish 189 = .ok (.invokestatic 154, 3) := by decide +kernel
theorem dX5_finish_192 : decode cX5_finish 192 = .ok (.invokestatic 135, 3) := by decide +kernel
theorem dX5_finish_195 : decode cX5_finish 195 = .ok (.putfield 39, 3) := by decide +kernel
theorem dX5_finish_198 : decode cX5_finish 198 = .ok (.return_, 1) := by decide +kernel
set_option maxRecDepth 20000 in
theorem ggX5_strike_X5_isKey : GoodIn wsX5_strike wsX5_isKey := goodIn_r _ [9] (by decide +kernel) (by decide +kernel)
set_option maxRecDepth 20000 in
theorem gX5_strike_X5_isKey : GoodIn wsX5_strike (va_wsS RX5 59 yX5_isKey wsX5_isKey) := goodIn_app (goodIn_of _ (by decide +kernel)) ggX5_strike_X5_isKey
set_option maxRecDepth 20000 in
theorem ggX5_strike_X5_fail : GoodIn wsX5_strike wsX5_fail := goodIn_r _ [13, 1, 146, 147, 148, 149, 150, 151, 152, 153, 154, 155, 156, 157, 158, 159, 160, 161, 162, 163, 164, 165] (by decide +kernel) (by decide +kernel)
set_option maxRecDepth 20000 in
theorem gX5_strike_X5_fail : GoodIn wsX5_strike (wsV RX5 67 RX5 yX5_fail wsX5_fail) := goodIn_app (goodIn_of _ (by decide +kernel)) ggX5_strike_X5_fail
set_option maxRecDepth 20000 in
theorem ggX5_strike_X5_kindOf : GoodIn wsX5_strike wsX5_kindOf := goodIn_r _ [17, 18, 19, 20, 21, 22, 23, 8, 24, 25, 26, 27, 28, 29, 30, 31, 32, 33, 34, 35, 36, 37, 38, 39, 40, 41, 42, 43, 44, 45, 46, 47, 48, 49, 50, 51, 52, 53, 54, 55, 56, 57, 58, 59, 60, 61, 62, 63, 64, 65, 66, 67, 68, 69, 70, 71, 72, 73, 74, 75, 76, 77, 78, 79, 80, 81, 82, 83, 84, 85, 86, 87, 88, 89, 90, 91, 92, 93, 94, 95, 96, 97, 98, 99, 100, 101, 102, 103, 104, 105, 106, 107, 108, 109, 110, 111, 112, 113, 114, 115, 116, 146, 147, 148, 149, 150, 151, 152, 153, 154, 155, 156, 157, 158, 159, 160, 161, 162, 163, 164, 165] (by decide +kernel) (by decide +kernel)
set_option maxRecDepth 20000 in
theorem gX5_strike_X5_kindOf : GoodIn wsX5_strike (wsV RX5 157 RX5 yX5_kindOf wsX5_kindOf) := goodIn_app (goodIn_of _ (by decide +kernel)) ggX5_strike_X5_kindOf
set_option maxRecDepth 20000 in
theorem ggX5_strike_X5_tryLetter : GoodIn wsX5_strike wsX5_tryLetter := goodIn_r _ [120, 5, 121, 58, 27, 59, 18, 19, 21, 122, 20, 123, 124, 125, 8, 126, 127, 128, 129, 130, 131, 132, 133, 134, 135, 136, 2, 137, 138, 139, 140, 141, 142, 143, 3, 144, 145, 61, 62, 146, 147, 148, 149, 150, 151, 152, 153, 154, 155, 156, 157, 158, 159, 160, 161, 162, 163, 164, 165] (by decide +kernel) (by decide +kernel)
set_option maxRecDepth 20000 in
theorem gX5_strike_X5_tryLetter : GoodIn wsX5_strike (wsV RX5 160 RX5 yX5_tryLetter wsX5_tryLetter) := goodIn_app (goodIn_of _ (by decide +kernel)) ggX5_strike_X5_tryLetter
theorem dX5_strike_0 : decode cX5_strike 0 = .ok (.aload_n 0, 1) := by decide +kernel
theorem dX5_strike_1 : decode cX5_strike 1 = .ok (.iconst 0, 1) := by decide +kernel
theorem dX5_strike_2 : decode cX5_strike 2 = .ok (.putfield 43, 3) := by decide +kernel
theorem dX5_strike_5 : decode cX5_strike 5 = .ok (.iload_n 1, 1) := by decide +kernel
theorem dX5_strike_6 : decode cX5_strike 6 = .ok (.invokestatic 59, 3) := by decide +kernel
theorem dX5_strike_9 : decode cX5_strike 9 = .ok (.ifCond .ne 9, 3) := by decide +kernel
theorem dX5_strike_12 : decode cX5_strike 12 = .ok (.aload_n 0, 1) := by decide +kernel
theorem dX5_strike_13 : decode cX5_strike 13 = .ok (.iconst 1, 1) := by decide +kernel
theorem dX5_strike_14 : decode cX5_strike 14 = .ok (.invokevirtual 67, 3) := by decide +kernel
theorem dX5_strike_17 : decode cX5_strike 17 = .ok (.ireturn, 1) := by decide +kernel
theorem dX5_strike_18 : decode cX5_strike 18 = .ok (.iload_n 2, 1) := by decide +kernel
theorem dX5_strike_19 : decode cX5_strike 19 = .ok (.iconst 1, 1) := by decide +kernel
theorem dX5_strike_20 : decode cX5_strike 20 = .ok (.if_icmp .lt 10, 3) := by decide +kernel
theorem dX5_strike_23 : decode cX5_strike 23 = .ok (.iload_n 2, 1) := by decide +kernel
theorem dX5_strike_24 : decode cX5_strike 24 = .ok (.sipush 5000, 3) := by decide +kernel
theorem dX5_strike_27 : decode cX5_strike 27 = .ok (.if_icmp .le 9, 3) := by decide +kernel
theorem dX5_strike_30 : decode cX5_strike 30 = .ok (.aload_n 0, 1) := by decide +kernel
theorem dX5_strike_31 : decode cX5_strike 31 = .ok (.iconst 2, 1) := by decide +kernel
theorem dX5_strike_32 : decode cX5_strike 32 = .ok (.invokevirtual 67, 3) := by decide +kernel
theorem dX5_strike_35 : decode cX5_strike 35 = .ok (.ireturn, 1) := by decide +kernel
theorem dX5_strike_36 : decode cX5_strike 36 = .ok (.aload_n 0, 1) := by decide +kernel
theorem dX5_strike_37 : decode cX5_strike 37 = .ok (.getfield 106, 3) := by decide +kernel
theorem dX5_strike_40 : decode cX5_strike 40 = .ok (.ifCond .ne 9, 3) := by decide +kernel
theorem dX5_strike_43 : decode cX5_strike 43 = .ok (.aload_n 0, 1) := by decide +kernel
theorem dX5_strike_44 : decode cX5_strike 44 = .ok (.iconst 3, 1) := by decide +kernel
theorem dX5_strike_45 : decode cX5_strike 45 = .ok (.invokevirtual 67, 3) := by decide +kernel
theorem dX5_strike_48 : decode cX5_strike 48 = .ok (.ireturn, 1) := by decide +kernel
theorem dX5_strike_49 : decode cX5_strike 49 = .ok (.aload_n 0, 1) := by decide +kernel
theorem dX5_strike_50 : decode cX5_strike 50 = .ok (.iload_n 1, 1) := by decide +kernel
theorem dX5_strike_51 : decode cX5_strike 51 = .ok (.invokevirtual 157, 3) := by decide +kernel
theorem dX5_strike_54 : decode cX5_strike 54 = .ok (.istore_n 3, 1) := by decide +kernel
theorem dX5_strike_55 : decode cX5_strike 55 = .ok (.aload_n 0, 1) := by decide +kernel
theorem dX5_strike_56 : decode cX5_strike 56 = .ok (.dup, 1) := by decide +kernel
theorem dX5_strike_57 : decode cX5_strike 57 = .ok (.getfield 119, 3) := by decide +kernel
theorem dX5_strike_60 : decode cX5_strike 60 = .ok (.iload_n 2, 1) := by decide +kernel
theorem dX5_strike_61 : decode cX5_strike 61 = .ok (.iadd, 1) := by decide +kernel
theorem dX5_strike_62 : decode cX5_strike 62 = .ok (.putfield 119, 3) := by decide +kernel
theorem dX5_strike_65 : decode cX5_strike 65 = .ok (.aload_n 0, 1) := by decide +kernel
theorem dX5_strike_66 : decode cX5_strike 66 = .ok (.getfield 23, 3) := by decide +kernel
theorem dX5_strike_69 : decode cX5_strike 69 = .ok (.iload_n 3, 1) := by decide +kernel
theorem dX5_strike_70 : decode cX5_strike 70 = .ok (.dup2, 1) := by decide +kernel
theorem dX5_strike_71 : decode cX5_strike 71 = .ok (.iaload, 1) := by decide +kernel
theorem dX5_strike_72 : decode cX5_strike 72 = .ok (.iload_n 3, 1) := by decide +kernel
theorem dX5_strike_73 : decode cX5_strike 73 = .ok (.ifCond .ne 7, 3) := by decide +kernel
theorem dX5_strike_76 : decode cX5_strike 76 = .ok (.iconst 0, 1) := by decide +kernel
theorem dX5_strike_77 : decode cX5_strike 77 = .ok (.goto 4, 3) := by decide +kernel
theorem dX5_strike_80 : decode cX5_strike 80 = .ok (.iconst 1, 1) := by decide +kernel
theorem dX5_strike_81 : decode cX5_strike 81 = .ok (.iadd, 1) := by decide +kernel
theorem dX5_strike_82 : decode cX5_strike 82 = .ok (.iastore, 1) := by decide +kernel
theorem dX5_strike_83 : decode cX5_strike 83 = .ok (.aload_n 0, 1) := by decide +kernel
theorem dX5_strike_84 : decode cX5_strike 84 = .ok (.dup, 1) := by decide +kernel
theorem dX5_strike_85 : decode cX5_strike 85 = .ok (.getfield 113, 3) := by decide +kernel
theorem dX5_strike_88 : decode cX5_strike 88 = .ok (.iload_n 3, 1) := by decide +kernel
theorem dX5_strike_89 : decode cX5_strike 89 = .ok (.ifCond .ne 7, 3) := by decide +kernel
theorem dX5_strike_92 : decode cX5_strike 92 = .ok (.iconst 0, 1) := by decide +kernel
theorem dX5_strike_93 : decode cX5_strike 93 = .ok (.goto 4, 3) := by decide +kernel
theorem dX5_strike_96 : decode cX5_strike 96 = .ok (.iconst 1, 1) := by decide +kernel
theorem dX5_strike_97 : decode cX5_strike 97 = .ok (.iadd, 1) := by decide +kernel
theorem dX5_strike_98 : decode cX5_strike 98 = .ok (.putfield 113, 3) := by decide +kernel
theorem dX5_strike_101 : decode cX5_strike 101 = .ok (.iload_n 3, 1) := by decide +kernel
theorem dX5_strike_102 : decode cX5_strike 102 = .ok (.ifCond .eq 11, 3) := by decide +kernel
theorem dX5_strike_105 : decode cX5_strike 105 = .ok (.aload_n 0, 1) := by decide +kernel
theorem dX5_strike_106 : decode cX5_strike 106 = .ok (.getfield 113, 3) := by decide +kernel
theorem dX5_strike_109 : decode cX5_strike 109 = .ok (.iconst 2, 1) := by decide +kernel
theorem dX5_strike_110 : decode cX5_strike 110 = .ok (.if_icmp .ne 8, 3) := by decide +kernel
theorem dX5_strike_113 : decode cX5_strike 113 = .ok (.aload_n 0, 1) := by decide +kernel
theorem dX5_strike_114 : decode cX5_strike 114 = .ok (.iload_n 2, 1) := by decide +kernel
theorem dX5_strike_115 : decode cX5_strike 115 = .ok (.invokevirtual 160, 3) := by decide +kernel
theorem dX5_strike_118 : decode cX5_strike 118 = .ok (.iload_n 3, 1) := by decide +kernel
theorem dX5_strike_119 : decode cX5_strike 119 = .ok (.ireturn, 1) := by decide +kernel
theorem dX5_known_0 : decode cX5_known 0 = .ok (.iload_n 2, 1) := by decide +kernel
theorem dX5_known_1 : decode cX5_known 1 = .ok (.ifCond .ne 12, 3) := by decide +kernel
theorem dX5_known_4 : decode cX5_known 4 = .ok (.aload_n 0, 1) := by decide +kernel
theorem dX5_known_5 : decode cX5_known 5 = .ok (.getfield 13, 3) := by decide +kernel
theorem dX5_known_8 : decode cX5_known 8 = .ok (.iload_n 1, 1) := by decide +kernel
theorem dX5_known_9 : decode cX5_known 9 = .ok (.iaload, 1) := by decide +kernel
theorem dX5_known_10 : decode cX5_known 10 = .ok (.goto 23, 3) := by decide +kernel
theorem dX5_known_13 : decode cX5_known 13 = .ok (.iload_n 2, 1) := by decide +kernel
theorem dX5_known_14 : decode cX5_known 14 = .ok (.iconst 1, 1) := by decide +kernel
theorem dX5_known_15 : decode cX5_known 15 = .ok (.if_icmp .ne 12, 3) := by decide +kernel
theorem dX5_known_18 : decode cX5_known 18 = .ok (.aload_n 0, 1) := by decide +kernel
theorem dX5_known_19 : decode cX5_known 19 = .ok (.getfield 17, 3) := by decide +kernel
theorem dX5_known_22 : decode cX5_known 22 = .ok (.iload_n 1, 1) := by decide +kernel
theorem dX5_known_23 : decode cX5_known 23 = .ok (.iaload, 1) := by decide +kernel
theorem dX5_known_24 : decode cX5_known 24 = .ok (.goto 9, 3) := by decide +kernel
theorem dX5_known_27 : decode cX5_known 27 = .ok (.aload_n 0, 1) := by decide +kernel
theorem dX5_known_28 : decode cX5_known 28 = .ok (.getfield 20, 3) := by decide +kernel
theorem dX5_known_31 : decode cX5_known 31 = .ok (.iload_n 1, 1) := by decide +kernel
theorem dX5_known_32 : decode cX5_known 32 = .ok (.iaload, 1) := by decide +kernel
theorem dX5_known_33 : decode cX5_known 33 = .ok (.ireturn, 1) := by decide +kernel
set_option maxRecDepth 20000 in
theorem ggX5_key_X5_isKey : GoodIn wsX5_key wsX5_isKey := goodIn_r _ [5] (by decide +kernel) (by decide +kernel)
set_option maxRecDepth 20000 in
theorem gX5_key_X5_isKey : GoodIn wsX5_key (va_wsS RX5 59 yX5_isKey wsX5_isKey) := goodIn_app (goodIn_of _ (by decide +kernel)) ggX5_key_X5_isKey
set_option maxRecDepth 20000 in
theorem ggX5_key_X5_known : GoodIn wsX5_key wsX5_known := goodIn_r _ [9, 10, 11, 12, 17, 18, 19, 20, 21, 22, 23, 24, 25, 26, 27, 28, 29, 30, 31, 32, 33, 34, 35, 36] (by decide +kernel) (by decide +kernel)
set_option maxRecDepth 20000 in
theorem gX5_key_X5_known : GoodIn wsX5_key (wsV RX5 163 RX5 yX5_known wsX5_known) := goodIn_app (goodIn_of _ (by decide +kernel)) ggX5_key_X5_known
set_option maxRecDepth 20000 in
theorem ggX5_key_X5_fail : GoodIn wsX5_key wsX5_fail := goodIn_r _ [16, 1, 17, 18, 19, 20, 21, 22, 23, 24, 25, 26, 27, 28, 29, 30, 31, 32, 33, 34, 35, 36] (by decide +kernel) (by decide +kernel)
set_option maxRecDepth 20000 in
theorem gX5_key_X5_fail : GoodIn wsX5_key (wsV RX5 67 RX5 yX5_fail wsX5_fail) := goodIn_app (goodIn_of _ (by decide +kernel)) ggX5_key_X5_fail
theorem dX5_key_0 : decode cX5_key 0 = .ok (.aload_n 0, 1) := by decide +kernel
theorem dX5_key_1 : decode cX5_key 1 = .ok (.iconst 0, 1) := by decide +kernel
theorem dX5_key_2 : decode cX5_key 2 = .ok (.putfield 43, 3) := by decide +kernel
theorem dX5_key_5 : decode cX5_key 5 = .ok (.iload_n 1, 1) := by decide +kernel
theorem dX5_key_6 : decode cX5_key 6 = .ok (.invokestatic 59, 3) := by decide +kernel
theorem dX5_key_9 : decode cX5_key 9 = .ok (.ifCond .eq 21, 3) := by decide +kernel
theorem dX5_key_12 : decode cX5_key 12 = .ok (.iload_n 2, 1) := by decide +kernel
theorem dX5_key_13 : decode cX5_key 13 = .ok (.ifCond .lt 17, 3) := by decide +kernel
theorem dX5_key_16 : decode cX5_key 16 = .ok (.iload_n 2, 1) := by decide +kernel
theorem dX5_key_17 : decode cX5_key 17 = .ok (.iconst 2, 1) := by decide +kernel
theorem dX5_key_18 : decode cX5_key 18 = .ok (.if_icmp .gt 12, 3) := by decide +kernel
theorem dX5_key_21 : decode cX5_key 21 = .ok (.aload_n 0, 1) := by decide +kernel
theorem dX5_key_22 : decode cX5_key 22 = .ok (.iload_n 1, 1) := by decide +kernel
theorem dX5_key_23 : decode cX5_key 23 = .ok (.iload_n 2, 1) := by decide +kernel
theorem dX5_key_24 : decode cX5_key 24 = .ok (.invokevirtual 163, 3) := by decide +kernel
theorem dX5_key_27 : decode cX5_key 27 = .ok (.goto 8, 3) := by decide +kernel
theorem dX5_key_30 : decode cX5_key 30 = .ok (.aload_n 0, 1) := by decide +kernel
theorem dX5_key_31 : decode cX5_key 31 = .ok (.iconst 1, 1) := by decide +kernel
theorem dX5_key_32 : decode cX5_key 32 = .ok (.invokevirtual 67, 3) := by decide +kernel
theorem dX5_key_35 : decode cX5_key 35 = .ok (.ireturn, 1) := by decide +kernel
set_option maxRecDepth 20000 in
theorem ggX5_pair_X5_isKey : GoodIn wsX5_pair wsX5_isKey := goodIn_r _ [5] (by decide +kernel) (by decide +kernel)
set_option maxRecDepth 20000 in
theorem gX5_pair_X5_isKey : GoodIn wsX5_pair (va_wsS RX5 59 yX5_isKey wsX5_isKey) := goodIn_app (goodIn_of _ (by decide +kernel)) ggX5_pair_X5_isKey
set_option maxRecDepth 20000 in
theorem ggX5_pair_X5_fail : GoodIn wsX5_pair wsX5_fail := goodIn_r _ [9, 1, 24, 25, 26, 27, 28, 29, 30, 31, 32, 33, 34, 35, 36, 37, 38, 39, 40, 41, 42, 43] (by decide +kernel) (by decide +kernel)
set_option maxRecDepth 20000 in
theorem gX5_pair_X5_fail : GoodIn wsX5_pair (wsV RX5 67 RX5 yX5_fail wsX5_fail) := goodIn_app (goodIn_of _ (by decide +kernel)) ggX5_pair_X5_fail
set_option maxRecDepth 20000 in
theorem ggX5_pair_X5_weakness : GoodIn wsX5_pair wsX5_weakness := goodIn_r _ [13, 14, 15, 16, 17, 4, 18, 24, 25, 26, 27, 28, 29, 30, 31, 32, 33, 34, 35, 36, 37, 38, 39, 40, 41, 42, 43] (by decide +kernel) (by decide +kernel)
set_option maxRecDepth 20000 in
theorem gX5_pair_X5_weakness : GoodIn wsX5_pair (wsV RX5 78 RX5 yX5_weakness wsX5_weakness) := goodIn_app (goodIn_of _ (by decide +kernel)) ggX5_pair_X5_weakness
set_option maxRecDepth 20000 in
theorem ggX5_pair_X5_pairOf : GoodIn wsX5_pair wsX5_pairOf := goodIn_r _ [18] (by decide +kernel) (by decide +kernel)
set_option maxRecDepth 20000 in
theorem gX5_pair_X5_pairOf : GoodIn wsX5_pair (va_wsS RX5 74 yX5_pairOf wsX5_pairOf) := goodIn_app (goodIn_of _ (by decide +kernel)) ggX5_pair_X5_pairOf
set_option maxRecDepth 20000 in
theorem ggX5_pair_X5_known : GoodIn wsX5_pair wsX5_known := goodIn_r _ [22, 15, 23, 14, 24, 25, 26, 27, 28, 29, 30, 31, 32, 33, 34, 35, 36, 37, 38, 39, 40, 41, 42, 43] (by decide +kernel) (by decide +kernel)
set_option maxRecDepth 20000 in
theorem gX5_pair_X5_known : GoodIn wsX5_pair (wsV RX5 163 RX5 yX5_known wsX5_known) := goodIn_app (goodIn_of _ (by decide +kernel)) ggX5_pair_X5_known
theorem dX5_pair_0 : decode cX5_pair 0 = .ok (.aload_n 0, 1) := by decide +kernel
theorem dX5_pair_1 : decode cX5_pair 1 = .ok (.iconst 0, 1) := by decide +kernel
theorem dX5_pair_2 : decode cX5_pair 2 = .ok (.putfield 43, 3) := by decide +kernel
theorem dX5_pair_5 : decode cX5_pair 5 = .ok (.iload_n 1, 1) := by decide +kernel
theorem dX5_pair_6 : decode cX5_pair 6 = .ok (.invokestatic 59, 3) := by decide +kernel
theorem dX5_pair_9 : decode cX5_pair 9 = .ok (.ifCond .eq 19, 3) := by decide +kernel
theorem dX5_pair_12 : decode cX5_pair 12 = .ok (.iload_n 2, 1) := by decide +kernel
theorem dX5_pair_13 : decode cX5_pair 13 = .ok (.invokestatic 59, 3) := by decide +kernel
theorem dX5_pair_16 : decode cX5_pair 16 = .ok (.ifCond .eq 12, 3) := by decide +kernel
theorem dX5_pair_19 : decode cX5_pair 19 = .ok (.iload_n 3, 1) := by decide +kernel
theorem dX5_pair_20 : decode cX5_pair 20 = .ok (.ifCond .lt 8, 3) := by decide +kernel
theorem dX5_pair_23 : decode cX5_pair 23 = .ok (.iload_n 3, 1) := by decide +kernel
theorem dX5_pair_24 : decode cX5_pair 24 = .ok (.iconst 3, 1) := by decide +kernel
theorem dX5_pair_25 : decode cX5_pair 25 = .ok (.if_icmp .le 9, 3) := by decide +kernel
theorem dX5_pair_28 : decode cX5_pair 28 = .ok (.aload_n 0, 1) := by decide +kernel
theorem dX5_pair_29 : decode cX5_pair 29 = .ok (.iconst 1, 1) := by decide +kernel
theorem dX5_pair_30 : decode cX5_pair 30 = .ok (.invokevirtual 67, 3) := by decide +kernel
theorem dX5_pair_33 : decode cX5_pair 33 = .ok (.ireturn, 1) := by decide +kernel
theorem dX5_pair_34 : decode cX5_pair 34 = .ok (.iload_n 3, 1) := by decide +kernel
theorem dX5_pair_35 : decode cX5_pair 35 = .ok (.iconst 3, 1) := by decide +kernel
theorem dX5_pair_36 : decode cX5_pair 36 = .ok (.if_icmp .ne 12, 3) := by decide +kernel
theorem dX5_pair_39 : decode cX5_pair 39 = .ok (.aload_n 0, 1) := by decide +kernel
theorem dX5_pair_40 : decode cX5_pair 40 = .ok (.iload_n 1, 1) := by decide +kernel
theorem dX5_pair_41 : decode cX5_pair 41 = .ok (.iload_n 2, 1) := by decide +kernel
theorem dX5_pair_42 : decode cX5_pair 42 = .ok (.invokevirtual 78, 3) := by decide +kernel
theorem dX5_pair_45 : decode cX5_pair 45 = .ok (.goto 13, 3) := by decide +kernel
theorem dX5_pair_48 : decode cX5_pair 48 = .ok (.aload_n 0, 1) := by decide +kernel
theorem dX5_pair_49 : decode cX5_pair 49 = .ok (.iload_n 1, 1) := by decide +kernel
theorem dX5_pair_50 : decode cX5_pair 50 = .ok (.iload_n 2, 1) := by decide +kernel
theorem dX5_pair_51 : decode cX5_pair 51 = .ok (.invokestatic 74, 3) := by decide +kernel
theorem dX5_pair_54 : decode cX5_pair 54 = .ok (.iload_n 3, 1) := by decide +kernel
theorem dX5_pair_55 : decode cX5_pair 55 = .ok (.invokevirtual 163, 3) := by decide +kernel
theorem dX5_pair_58 : decode cX5_pair 58 = .ok (.ireturn, 1) := by decide +kernel
set_option maxRecDepth 20000 in
theorem ggX5_weakest_X5_weakness : GoodIn wsX5_weakest wsX5_weakness := goodIn_r _ [7, 8, 2, 9, 10, 6, 11, 12, 13, 14, 15, 16, 17, 18, 19, 20, 21, 22, 23, 24, 25, 26, 27, 28, 29, 30, 31] (by decide +kernel) (by decide +kernel)
set_option maxRecDepth 20000 in
theorem gX5_weakest_X5_weakness : GoodIn wsX5_weakest (wsV RX5 78 RX5 yX5_weakness wsX5_weakness) := goodIn_app (goodIn_of _ (by decide +kernel)) ggX5_weakest_X5_weakness
theorem dX5_weakest_0 : decode cX5_weakest 0 = .ok (.aload_n 0, 1) := by decide +kernel
theorem dX5_weakest_1 : decode cX5_weakest 1 = .ok (.iconst 0, 1) := by decide +kernel
theorem dX5_weakest_2 : decode cX5_weakest 2 = .ok (.putfield 43, 3) := by decide +kernel
theorem dX5_weakest_5 : decode cX5_weakest 5 = .ok (.iconst (-1), 1) := by decide +kernel
theorem dX5_weakest_6 : decode cX5_weakest 6 = .ok (.istore_n 1, 1) := by decide +kernel
theorem dX5_weakest_7 : decode cX5_weakest 7 = .ok (.iconst 0, 1) := by decide +kernel
theorem dX5_weakest_8 : decode cX5_weakest 8 = .ok (.istore_n 2, 1) := by decide +kernel
theorem dX5_weakest_9 : decode cX5_weakest 9 = .ok (.iload_n 2, 1) := by decide +kernel
theorem dX5_weakest_10 : decode cX5_weakest 10 = .ok (.sipush 676, 3) := by decide +kernel
theorem dX5_weakest_13 : decode cX5_weakest 13 = .ok (.if_icmp .ge 58, 3) := by decide +kernel
theorem dX5_weakest_16 : decode cX5_weakest 16 = .ok (.aload_n 0, 1) := by decide +kernel
theorem dX5_weakest_17 : decode cX5_weakest 17 = .ok (.getfield 13, 3) := by decide +kernel
theorem dX5_weakest_20 : decode cX5_weakest 20 = .ok (.bipush 26, 2) := by decide +kernel
theorem dX5_weakest_22 : decode cX5_weakest 22 = .ok (.iload_n 2, 1) := by decide +kernel
theorem dX5_weakest_23 : decode cX5_weakest 23 = .ok (.iadd, 1) := by decide +kernel
theorem dX5_weakest_24 : decode cX5_weakest 24 = .ok (.iaload, 1) := by decide +kernel
theorem dX5_weakest_25 : decode cX5_weakest 25 = .ok (.ifCond .ne 6, 3) := by decide +kernel
theorem dX5_weakest_28 : decode cX5_weakest 28 = .ok (.goto 37, 3) := by decide +kernel
theorem dX5_weakest_31 : decode cX5_weakest 31 = .ok (.iload_n 1, 1) := by decide +kernel
theorem dX5_weakest_32 : decode cX5_weakest 32 = .ok (.iconst (-1), 1) := by decide +kernel
theorem dX5_weakest_33 : decode cX5_weakest 33 = .ok (.if_icmp .eq 30, 3) := by decide +kernel
theorem dX5_weakest_36 : decode cX5_weakest 36 = .ok (.aload_n 0, 1) := by decide +kernel
theorem dX5_weakest_37 : decode cX5_weakest 37 = .ok (.iload_n 2, 1) := by decide +kernel
theorem dX5_weakest_38 : decode cX5_weakest 38 = .ok (.bipush 26, 2) := by decide +kernel
theorem dX5_weakest_40 : decode cX5_weakest 40 = .ok (.idiv, 1) := by decide +kernel
theorem dX5_weakest_41 : decode cX5_weakest 41 = .ok (.iload_n 2, 1) := by decide +kernel
theorem dX5_weakest_42 : decode cX5_weakest 42 = .ok (.bipush 26, 2) := by decide +kernel
theorem dX5_weakest_44 : decode cX5_weakest 44 = .ok (.irem, 1) := by decide +kernel
theorem dX5_weakest_45 : decode cX5_weakest 45 = .ok (.invokevirtual 78, 3) := by decide +kernel
theorem dX5_weakest_48 : decode cX5_weakest 48 = .ok (.aload_n 0, 1) := by decide +kernel
theorem dX5_weakest_49 : decode cX5_weakest 49 = .ok (.iload_n 1, 1) := by decide +kernel
theorem dX5_weakest_50 : decode cX5_weakest 50 = .ok (.bipush 26, 2) := by decide +kernel
theorem dX5_weakest_52 : decode cX5_weakest 52 = .ok (.idiv, 1) := by decide +kernel
theorem dX5_weakest_53 : decode cX5_weakest 53 = .ok (.iload_n 1, 1) := by decide +kernel
theorem dX5_weakest_54 : decode cX5_weakest 54 = .ok (.bipush 26, 2) := by decide +kernel
theorem dX5_weakest_56 : decode cX5_weakest 56 = .ok (.irem, 1) := by decide +kernel
theorem dX5_weakest_57 : decode cX5_weakest 57 = .ok (.invokevirtual 78, 3) := by decide +kernel
theorem dX5_weakest_60 : decode cX5_weakest 60 = .ok (.if_icmp .le 5, 3) := by decide +kernel
theorem dX5_weakest_63 : decode cX5_weakest 63 = .ok (.iload_n 2, 1) := by decide +kernel
theorem dX5_weakest_64 : decode cX5_weakest 64 = .ok (.istore_n 1, 1) := by decide +kernel
theorem dX5_weakest_65 : decode cX5_weakest 65 = .ok (.iinc 2 1, 3) := by decide +kernel
theorem dX5_weakest_68 : decode cX5_weakest 68 = .ok (.goto (-59), 3) := by decide +kernel
theorem dX5_weakest_71 : decode cX5_weakest 71 = .ok (.iload_n 1, 1) := by decide +kernel
theorem dX5_weakest_72 : decode cX5_weakest 72 = .ok (.ireturn, 1) := by decide +kernel
set_option maxRecDepth 20000 in
theorem ggX5_mistakes_X5_fail : GoodIn wsX5_mistakes wsX5_fail := goodIn_r _ [7, 1, 8, 9, 10, 11, 12, 13, 14, 15, 16, 17, 18, 19, 20, 21, 22, 23, 24, 25, 26, 27] (by decide +kernel) (by decide +kernel)
set_option maxRecDepth 20000 in
theorem gX5_mistakes_X5_fail : GoodIn wsX5_mistakes (wsV RX5 67 RX5 yX5_fail wsX5_fail) := goodIn_app (goodIn_of _ (by decide +kernel)) ggX5_mistakes_X5_fail
theorem dX5_mistakes_0 : decode cX5_mistakes 0 = .ok (.aload_n 0, 1) := by decide +kernel
theorem dX5_mistakes_1 : decode cX5_mistakes 1 = .ok (.iconst 0, 1) := by decide +kernel
theorem dX5_mistakes_2 : decode cX5_mistakes 2 = .ok (.putfield 43, 3) := by decide +kernel
theorem dX5_mistakes_5 : decode cX5_mistakes 5 = .ok (.iload_n 1, 1) := by decide +kernel
theorem dX5_mistakes_6 : decode cX5_mistakes 6 = .ok (.iconst 1, 1) := by decide +kernel
theorem dX5_mistakes_7 : decode cX5_mistakes 7 = .ok (.if_icmp .lt 17, 3) := by decide +kernel
theorem dX5_mistakes_10 : decode cX5_mistakes 10 = .ok (.iload_n 1, 1) := by decide +kernel
theorem dX5_mistakes_11 : decode cX5_mistakes 11 = .ok (.iconst 4, 1) := by decide +kernel
theorem dX5_mistakes_12 : decode cX5_mistakes 12 = .ok (.if_icmp .gt 12, 3) := by decide +kernel
theorem dX5_mistakes_15 : decode cX5_mistakes 15 = .ok (.aload_n 0, 1) := by decide +kernel
theorem dX5_mistakes_16 : decode cX5_mistakes 16 = .ok (.getfield 23, 3) := by decide +kernel
theorem dX5_mistakes_19 : decode cX5_mistakes 19 = .ok (.iload_n 1, 1) := by decide +kernel
theorem dX5_mistakes_20 : decode cX5_mistakes 20 = .ok (.iaload, 1) := by decide +kernel
theorem dX5_mistakes_21 : decode cX5_mistakes 21 = .ok (.goto 8, 3) := by decide +kernel
theorem dX5_mistakes_24 : decode cX5_mistakes 24 = .ok (.aload_n 0, 1) := by decide +kernel
theorem dX5_mistakes_25 : decode cX5_mistakes 25 = .ok (.iconst 1, 1) := by decide +kernel
theorem dX5_mistakes_26 : decode cX5_mistakes 26 = .ok (.invokevirtual 67, 3) := by decide +kernel
theorem dX5_mistakes_29 : decode cX5_mistakes 29 = .ok (.ireturn, 1) := by decide +kernel
theorem dX5_lessons_0 : decode cX5_lessons 0 = .ok (.aload_n 0, 1) := by decide +kernel
theorem dX5_lessons_1 : decode cX5_lessons 1 = .ok (.iconst 0, 1) := by decide +kernel
theorem dX5_lessons_2 : decode cX5_lessons 2 = .ok (.putfield 43, 3) := by decide +kernel
theorem dX5_lessons_5 : decode cX5_lessons 5 = .ok (.aload_n 0, 1) := by decide +kernel
theorem dX5_lessons_6 : decode cX5_lessons 6 = .ok (.getfield 145, 3) := by decide +kernel
theorem dX5_lessons_9 : decode cX5_lessons 9 = .ok (.ireturn, 1) := by decide +kernel
theorem dX5_told_0 : decode cX5_told 0 = .ok (.iload_n 2, 1) := by decide +kernel
theorem dX5_told_1 : decode cX5_told 1 = .ok (.iconst 3, 1) := by decide +kernel
theorem dX5_told_2 : decode cX5_told 2 = .ok (.if_icmp .ge 16, 3) := by decide +kernel
theorem dX5_told_5 : decode cX5_told 5 = .ok (.aload_n 0, 1) := by decide +kernel
theorem dX5_told_6 : decode cX5_told 6 = .ok (.getfield 36, 3) := by decide +kernel
theorem dX5_told_9 : decode cX5_told 9 = .ok (.iconst 3, 1) := by decide +kernel
theorem dX5_told_10 : decode cX5_told 10 = .ok (.iload_n 1, 1) := by decide +kernel
theorem dX5_told_11 : decode cX5_told 11 = .ok (.imul, 1) := by decide +kernel
theorem dX5_told_12 : decode cX5_told 12 = .ok (.iload_n 2, 1) := by decide +kernel
theorem dX5_told_13 : decode cX5_told 13 = .ok (.iadd, 1) := by decide +kernel
theorem dX5_told_14 : decode cX5_told 14 = .ok (.iaload, 1) := by decide +kernel
theorem dX5_told_15 : decode cX5_told 15 = .ok (.goto 25, 3) := by decide +kernel
theorem dX5_told_18 : decode cX5_told 18 = .ok (.aload_n 0, 1) := by decide +kernel
theorem dX5_told_19 : decode cX5_told 19 = .ok (.getfield 36, 3) := by decide +kernel
theorem dX5_told_22 : decode cX5_told 22 = .ok (.iconst 3, 1) := by decide +kernel
theorem dX5_told_23 : decode cX5_told 23 = .ok (.iload_n 1, 1) := by decide +kernel
theorem dX5_told_24 : decode cX5_told 24 = .ok (.imul, 1) := by decide +kernel
theorem dX5_told_25 : decode cX5_told 25 = .ok (.iaload, 1) := by decide +kernel
theorem dX5_told_26 : decode cX5_told 26 = .ok (.ldc 166, 2) := by decide +kernel
theorem dX5_told_28 : decode cX5_told 28 = .ok (.imul, 1) := by decide +kernel
theorem dX5_told_29 : decode cX5_told 29 = .ok (.aload_n 0, 1) := by decide +kernel
theorem dX5_told_30 : decode cX5_told 30 = .ok (.getfield 36, 3) := by decide +kernel
theorem dX5_told_33 : decode cX5_told 33 = .ok (.iconst 3, 1) := by decide +kernel
theorem dX5_told_34 : decode cX5_told 34 = .ok (.iload_n 1, 1) := by decide +kernel
theorem dX5_told_35 : decode cX5_told 35 = .ok (.imul, 1) := by decide +kernel
theorem dX5_told_36 : decode cX5_told 36 = .ok (.iconst 2, 1) := by decide +kernel
theorem dX5_told_37 : decode cX5_told 37 = .ok (.iadd, 1) := by decide +kernel
theorem dX5_told_38 : decode cX5_told 38 = .ok (.iaload, 1) := by decide +kernel
theorem dX5_told_39 : decode cX5_told 39 = .ok (.idiv, 1) := by decide +kernel
theorem dX5_told_40 : decode cX5_told 40 = .ok (.ireturn, 1) := by decide +kernel
set_option maxRecDepth 20000 in
theorem ggX5_lesson_X5_told : GoodIn wsX5_lesson wsX5_told := goodIn_r _ [7, 8, 9, 14, 15, 16, 17, 18, 19, 20, 21, 22, 23, 24, 25, 26, 27, 28, 29, 30, 31, 32, 33] (by decide +kernel) (by decide +kernel)
set_option maxRecDepth 20000 in
theorem gX5_lesson_X5_told : GoodIn wsX5_lesson (wsV RX5 167 RX5 yX5_told wsX5_told) := goodIn_app (goodIn_of _ (by decide +kernel)) ggX5_lesson_X5_told
set_option maxRecDepth 20000 in
theorem ggX5_lesson_X5_fail : GoodIn wsX5_lesson wsX5_fail := goodIn_r _ [13, 1, 14, 15, 16, 17, 18, 19, 20, 21, 22, 23, 24, 25, 26, 27, 28, 29, 30, 31, 32, 33] (by decide +kernel) (by decide +kernel)
set_option maxRecDepth 20000 in
theorem gX5_lesson_X5_fail : GoodIn wsX5_lesson (wsV RX5 67 RX5 yX5_fail wsX5_fail) := goodIn_app (goodIn_of _ (by decide +kernel)) ggX5_lesson_X5_fail
theorem dX5_lesson_0 : decode cX5_lesson 0 = .ok (.aload_n 0, 1) := by decide +kernel
theorem dX5_lesson_1 : decode cX5_lesson 1 = .ok (.iconst 0, 1) := by decide +kernel
theorem dX5_lesson_2 : decode cX5_lesson 2 = .ok (.putfield 43, 3) := by decide +kernel
theorem dX5_lesson_5 : decode cX5_lesson 5 = .ok (.iload_n 1, 1) := by decide +kernel
theorem dX5_lesson_6 : decode cX5_lesson 6 = .ok (.ifCond .lt 29, 3) := by decide +kernel
theorem dX5_lesson_9 : decode cX5_lesson 9 = .ok (.iload_n 1, 1) := by decide +kernel
theorem dX5_lesson_10 : decode cX5_lesson 10 = .ok (.aload_n 0, 1) := by decide +kernel
theorem dX5_lesson_11 : decode cX5_lesson 11 = .ok (.getfield 145, 3) := by decide +kernel
theorem dX5_lesson_14 : decode cX5_lesson 14 = .ok (.if_icmp .ge 21, 3) := by decide +kernel
theorem dX5_lesson_17 : decode cX5_lesson 17 = .ok (.iload_n 2, 1) := by decide +kernel
theorem dX5_lesson_18 : decode cX5_lesson 18 = .ok (.ifCond .lt 17, 3) := by decide +kernel
theorem dX5_lesson_21 : decode cX5_lesson 21 = .ok (.iload_n 2, 1) := by decide +kernel
theorem dX5_lesson_22 : decode cX5_lesson 22 = .ok (.iconst 3, 1) := by decide +kernel
theorem dX5_lesson_23 : decode cX5_lesson 23 = .ok (.if_icmp .gt 12, 3) := by decide +kernel
theorem dX5_lesson_26 : decode cX5_lesson 26 = .ok (.aload_n 0, 1) := by decide +kernel
theorem dX5_lesson_27 : decode cX5_lesson 27 = .ok (.iload_n 1, 1) := by decide +kernel
theorem dX5_lesson_28 : decode cX5_lesson 28 = .ok (.iload_n 2, 1) := by decide +kernel
theorem dX5_lesson_29 : decode cX5_lesson 29 = .ok (.invokevirtual 167, 3) := by decide +kernel
theorem dX5_lesson_32 : decode cX5_lesson 32 = .ok (.goto 8, 3) := by decide +kernel
theorem dX5_lesson_35 : decode cX5_lesson 35 = .ok (.aload_n 0, 1) := by decide +kernel
theorem dX5_lesson_36 : decode cX5_lesson 36 = .ok (.iconst 1, 1) := by decide +kernel
theorem dX5_lesson_37 : decode cX5_lesson 37 = .ok (.invokevirtual 67, 3) := by decide +kernel
theorem dX5_lesson_40 : decode cX5_lesson 40 = .ok (.ireturn, 1) := by decide +kernel
theorem dX5_pace_0 : decode cX5_pace 0 = .ok (.aload_n 0, 1) := by decide +kernel
theorem dX5_pace_1 : decode cX5_pace 1 = .ok (.iconst 0, 1) := by decide +kernel
theorem dX5_pace_2 : decode cX5_pace 2 = .ok (.putfield 43, 3) := by decide +kernel
theorem dX5_pace_5 : decode cX5_pace 5 = .ok (.aload_n 0, 1) := by decide +kernel
theorem dX5_pace_6 : decode cX5_pace 6 = .ok (.getfield 39, 3) := by decide +kernel
theorem dX5_pace_9 : decode cX5_pace 9 = .ok (.ireturn, 1) := by decide +kernel
set_option maxRecDepth 20000 in
theorem ggX5_greatest_X5_told : GoodIn wsX5_greatest wsX5_told := goodIn_r _ [9, 10, 11, 12, 13, 14, 15, 16, 17, 18, 19, 20, 21, 22, 23, 24, 25, 26, 27, 28, 29, 30, 31] (by decide +kernel) (by decide +kernel)
set_option maxRecDepth 20000 in
theorem gX5_greatest_X5_told : GoodIn wsX5_greatest (wsV RX5 167 RX5 yX5_told wsX5_told) := goodIn_app (goodIn_of _ (by decide +kernel)) ggX5_greatest_X5_told
theorem dX5_greatest_0 : decode cX5_greatest 0 = .ok (.aload_n 0, 1) := by decide +kernel
theorem dX5_greatest_1 : decode cX5_greatest 1 = .ok (.iload_n 1, 1) := by decide +kernel
theorem dX5_greatest_2 : decode cX5_greatest 2 = .ok (.iconst 3, 1) := by decide +kernel
theorem dX5_greatest_3 : decode cX5_greatest 3 = .ok (.invokevirtual 167, 3) := by decide +kernel
theorem dX5_greatest_6 : decode cX5_greatest 6 = .ok (.aload_n 0, 1) := by decide +kernel
theorem dX5_greatest_7 : decode cX5_greatest 7 = .ok (.iload_n 1, 1) := by decide +kernel
theorem dX5_greatest_8 : decode cX5_greatest 8 = .ok (.iconst 1, 1) := by decide +kernel
theorem dX5_greatest_9 : decode cX5_greatest 9 = .ok (.iadd, 1) := by decide +kernel
theorem dX5_greatest_10 : decode cX5_greatest 10 = .ok (.iconst 3, 1) := by decide +kernel
theorem dX5_greatest_11 : decode cX5_greatest 11 = .ok (.invokevirtual 167, 3) := by decide +kernel
theorem dX5_greatest_14 : decode cX5_greatest 14 = .ok (.aload_n 0, 1) := by decide +kernel
theorem dX5_greatest_15 : decode cX5_greatest 15 = .ok (.iload_n 1, 1) := by decide +kernel
theorem dX5_greatest_16 : decode cX5_greatest 16 = .ok (.iconst 2, 1) := by decide +kernel
theorem dX5_greatest_17 : decode cX5_greatest 17 = .ok (.iadd, 1) := by decide +kernel
theorem dX5_greatest_18 : decode cX5_greatest 18 = .ok (.iconst 3, 1) := by decide +kernel
theorem dX5_greatest_19 : decode cX5_greatest 19 = .ok (.invokevirtual 167, 3) := by decide +kernel
theorem dX5_greatest_22 : decode cX5_greatest 22 = .ok (.invokestatic 135, 3) := by decide +kernel
theorem dX5_greatest_25 : decode cX5_greatest 25 = .ok (.invokestatic 135, 3) := by decide +kernel
theorem dX5_greatest_28 : decode cX5_greatest 28 = .ok (.ireturn, 1) := by decide +kernel
set_option maxRecDepth 20000 in
theorem ggX5_isPlateau_X5_greatest : GoodIn wsX5_isPlateau wsX5_greatest := goodIn_r _ [7, 8, 9, 10, 11, 12, 13, 14, 6, 15, 16, 17, 18, 19, 20, 21, 22, 23, 24, 25, 26, 27, 28, 29, 30, 31, 32, 33, 34, 35, 36, 37] (by decide +kernel) (by decide +kernel)
set_option maxRecDepth 20000 in
theorem gX5_isPlateau_X5_greatest : GoodIn wsX5_isPlateau (wsV RX5 170 RX5 yX5_greatest wsX5_greatest) := goodIn_app (goodIn_of _ (by decide +kernel)) ggX5_isPlateau_X5_greatest
theorem dX5_isPlateau_0 : decode cX5_isPlateau 0 = .ok (.aload_n 0, 1) := by decide +kernel
theorem dX5_isPlateau_1 : decode cX5_isPlateau 1 = .ok (.iconst 0, 1) := by decide +kernel
theorem dX5_isPlateau_2 : decode cX5_isPlateau 2 = .ok (.putfield 43, 3) := by decide +kernel
theorem dX5_isPlateau_5 : decode cX5_isPlateau 5 = .ok (.aload_n 0, 1) := by decide +kernel
theorem dX5_isPlateau_6 : decode cX5_isPlateau 6 = .ok (.getfield 145, 3) := by decide +kernel
theorem dX5_isPlateau_9 : decode cX5_isPlateau 9 = .ok (.bipush 6, 2) := by decide +kernel
theorem dX5_isPlateau_11 : decode cX5_isPlateau 11 = .ok (.if_icmp .lt 31, 3) := by decide +kernel
theorem dX5_isPlateau_14 : decode cX5_isPlateau 14 = .ok (.aload_n 0, 1) := by decide +kernel
theorem dX5_isPlateau_15 : decode cX5_isPlateau 15 = .ok (.aload_n 0, 1) := by decide +kernel
theorem dX5_isPlateau_16 : decode cX5_isPlateau 16 = .ok (.getfield 145, 3) := by decide +kernel
theorem dX5_isPlateau_19 : decode cX5_isPlateau 19 = .ok (.iconst 3, 1) := by decide +kernel
theorem dX5_isPlateau_20 : decode cX5_isPlateau 20 = .ok (.isub, 1) := by decide +kernel
theorem dX5_isPlateau_21 : decode cX5_isPlateau 21 = .ok (.invokevirtual 170, 3) := by decide +kernel
theorem dX5_isPlateau_24 : decode cX5_isPlateau 24 = .ok (.aload_n 0, 1) := by decide +kernel
theorem dX5_isPlateau_25 : decode cX5_isPlateau 25 = .ok (.aload_n 0, 1) := by decide +kernel
theorem dX5_isPlateau_26 : decode cX5_isPlateau 26 = .ok (.getfield 145, 3) := by decide +kernel
theorem dX5_isPlateau_29 : decode cX5_isPlateau 29 = .ok (.bipush 6, 2) := by decide +kernel
theorem dX5_isPlateau_31 : decode cX5_isPlateau 31 = .ok (.isub, 1) := by decide +kernel
theorem dX5_isPlateau_32 : decode cX5_isPlateau 32 = .ok (.invokevirtual 170, 3) := by decide +kernel
theorem dX5_isPlateau_35 : decode cX5_isPlateau 35 = .ok (.if_icmp .gt 7, 3) := by decide +kernel
theorem dX5_isPlateau_38 : decode cX5_isPlateau 38 = .ok (.iconst 1, 1) := by decide +kernel
theorem dX5_isPlateau_39 : decode cX5_isPlateau 39 = .ok (.goto 4, 3) := by decide +kernel
theorem dX5_isPlateau_42 : decode cX5_isPlateau 42 = .ok (.iconst 0, 1) := by decide +kernel
theorem dX5_isPlateau_43 : decode cX5_isPlateau 43 = .ok (.ireturn, 1) := by decide +kernel
theorem dX5_accuracy_0 : decode cX5_accuracy 0 = .ok (.aload_n 0, 1) := by decide +kernel
theorem dX5_accuracy_1 : decode cX5_accuracy 1 = .ok (.iconst 0, 1) := by decide +kernel
theorem dX5_accuracy_2 : decode cX5_accuracy 2 = .ok (.putfield 43, 3) := by decide +kernel
theorem dX5_accuracy_5 : decode cX5_accuracy 5 = .ok (.iconst 0, 1) := by decide +kernel
theorem dX5_accuracy_6 : decode cX5_accuracy 6 = .ok (.istore_n 1, 1) := by decide +kernel
theorem dX5_accuracy_7 : decode cX5_accuracy 7 = .ok (.iconst 0, 1) := by decide +kernel
theorem dX5_accuracy_8 : decode cX5_accuracy 8 = .ok (.istore_n 2, 1) := by decide +kernel
theorem dX5_accuracy_9 : decode cX5_accuracy 9 = .ok (.iconst 0, 1) := by decide +kernel
theorem dX5_accuracy_10 : decode cX5_accuracy 10 = .ok (.istore_n 3, 1) := by decide +kernel
theorem dX5_accuracy_11 : decode cX5_accuracy 11 = .ok (.iload_n 3, 1) := by decide +kernel
theorem dX5_accuracy_12 : decode cX5_accuracy 12 = .ok (.aload_n 0, 1) := by decide +kernel
theorem dX5_accuracy_13 : decode cX5_accuracy 13 = .ok (.getfield 145, 3) := by decide +kernel
theorem dX5_accuracy_16 : decode cX5_accuracy 16 = .ok (.if_icmp .ge 33, 3) := by decide +kernel
theorem dX5_accuracy_19 : decode cX5_accuracy 19 = .ok (.iload_n 1, 1) := by decide +kernel
theorem dX5_accuracy_20 : decode cX5_accuracy 20 = .ok (.aload_n 0, 1) := by decide +kernel
theorem dX5_accuracy_21 : decode cX5_accuracy 21 = .ok (.getfield 36, 3) := by decide +kernel
theorem dX5_accuracy_24 : decode cX5_accuracy 24 = .ok (.iconst 3, 1) := by decide +kernel
theorem dX5_accuracy_25 : decode cX5_accuracy 25 = .ok (.iload_n 3, 1) := by decide +kernel
theorem dX5_accuracy_26 : decode cX5_accuracy 26 = .ok (.imul, 1) := by decide +kernel
theorem dX5_accuracy_27 : decode cX5_accuracy 27 = .ok (.iaload, 1) := by decide +kernel
theorem dX5_accuracy_28 : decode cX5_accuracy 28 = .ok (.iadd, 1) := by decide +kernel
theorem dX5_accuracy_29 : decode cX5_accuracy 29 = .ok (.istore_n 1, 1) := by decide +kernel
theorem dX5_accuracy_30 : decode cX5_accuracy 30 = .ok (.iload_n 2, 1) := by decide +kernel
theorem dX5_accuracy_31 : decode cX5_accuracy 31 = .ok (.aload_n 0, 1) := by decide +kernel
theorem dX5_accuracy_32 : decode cX5_accuracy 32 = .ok (.getfield 36, 3) := by decide +kernel
theorem dX5_accuracy_35 : decode cX5_accuracy 35 = .ok (.iconst 3, 1) := by decide +kernel
theorem dX5_accuracy_36 : decode cX5_accuracy 36 = .ok (.iload_n 3, 1) := by decide +kernel
theorem dX5_accuracy_37 : decode cX5_accuracy 37 = .ok (.imul, 1) := by decide +kernel
theorem dX5_accuracy_38 : decode cX5_accuracy 38 = .ok (.iconst 1, 1) := by decide +kernel
theorem dX5_accuracy_39 : decode cX5_accuracy 39 = .ok (.iadd, 1) := by decide +kernel
theorem dX5_accuracy_40 : decode cX5_accuracy 40 = .ok (.iaload, 1) := by decide +kernel
theorem dX5_accuracy_41 : decode cX5_accuracy 41 = .ok (.iadd, 1) := by decide +kernel
theorem dX5_accuracy_42 : decode cX5_accuracy 42 = .ok (.istore_n 2, 1) := by decide +kernel
theorem dX5_accuracy_43 : decode cX5_accuracy 43 = .ok (.iinc 3 1, 3) := by decide +kernel
theorem dX5_accuracy_46 : decode cX5_accuracy 46 = .ok (.goto (-35), 3) := by decide +kernel
theorem dX5_accuracy_49 : decode cX5_accuracy 49 = .ok (.iload_n 1, 1) := by decide +kernel
theorem dX5_accuracy_50 : decode cX5_accuracy 50 = .ok (.ifCond .ne 7, 3) := by decide +kernel
theorem dX5_accuracy_53 : decode cX5_accuracy 53 = .ok (.dconst 1, 1) := by decide +kernel
theorem dX5_accuracy_54 : decode cX5_accuracy 54 = .ok (.goto 8, 3) := by decide +kernel
theorem dX5_accuracy_57 : decode cX5_accuracy 57 = .ok (.iload_n 2, 1) := by decide +kernel
theorem dX5_accuracy_58 : decode cX5_accuracy 58 = .ok (.i2d, 1) := by decide +kernel
theorem dX5_accuracy_59 : decode cX5_accuracy 59 = .ok (.iload_n 1, 1) := by decide +kernel
theorem dX5_accuracy_60 : decode cX5_accuracy 60 = .ok (.i2d, 1) := by decide +kernel
theorem dX5_accuracy_61 : decode cX5_accuracy 61 = .ok (.ddiv, 1) := by decide +kernel
theorem dX5_accuracy_62 : decode cX5_accuracy 62 = .ok (.dreturn, 1) := by decide +kernel
set_option maxRecDepth 20000 in
theorem ggX5_digest_X5_known : GoodIn wsX5_digest wsX5_known := goodIn_r _ [18, 6, 19, 20, 27, 28, 29, 30, 31, 32, 33, 34, 35, 36, 37, 38, 39, 40, 41, 42, 43, 44, 45, 46] (by decide +kernel) (by decide +kernel)
set_option maxRecDepth 20000 in
theorem gX5_digest_X5_known : GoodIn wsX5_digest (wsV RX5 163 RX5 yX5_known wsX5_known) := goodIn_app (goodIn_of _ (by decide +kernel)) ggX5_digest_X5_known
set_option maxRecDepth 20000 in
theorem ggX5_digest_X5_told : GoodIn wsX5_digest wsX5_told := goodIn_r _ [24, 25, 26, 27, 28, 29, 30, 31, 32, 33, 34, 35, 36, 37, 38, 39, 40, 41, 42, 43, 44, 45, 46] (by decide +kernel) (by decide +kernel)
set_option maxRecDepth 20000 in
theorem gX5_digest_X5_told : GoodIn wsX5_digest (wsV RX5 167 RX5 yX5_told wsX5_told) := goodIn_app (goodIn_of _ (by decide +kernel)) ggX5_digest_X5_told
theorem dX5_digest_0 : decode cX5_digest 0 = .ok (.aload_n 0, 1) := by decide +kernel
theorem dX5_digest_1 : decode cX5_digest 1 = .ok (.iconst 0, 1) := by decide +kernel
theorem dX5_digest_2 : decode cX5_digest 2 = .ok (.putfield 43, 3) := by decide +kernel
theorem dX5_digest_5 : decode cX5_digest 5 = .ok (.ldc2_w 173, 3) := by decide +kernel
theorem dX5_digest_8 : decode cX5_digest 8 = .ok (.aload_n 0, 1) := by decide +kernel
theorem dX5_digest_9 : decode cX5_digest 9 = .ok (.getfield 46, 3) := by decide +kernel
theorem dX5_digest_12 : decode cX5_digest 12 = .ok (.i2l, 1) := by decide +kernel
theorem dX5_digest_13 : decode cX5_digest 13 = .ok (.ladd, 1) := by decide +kernel
theorem dX5_digest_14 : decode cX5_digest 14 = .ok (.lstore_n 1, 1) := by decide +kernel
theorem dX5_digest_15 : decode cX5_digest 15 = .ok (.iconst 0, 1) := by decide +kernel
theorem dX5_digest_16 : decode cX5_digest 16 = .ok (.istore_n 3, 1) := by decide +kernel
theorem dX5_digest_17 : decode cX5_digest 17 = .ok (.iload_n 3, 1) := by decide +kernel
theorem dX5_digest_18 : decode cX5_digest 18 = .ok (.aload_n 0, 1) := by decide +kernel
theorem dX5_digest_19 : decode cX5_digest 19 = .ok (.getfield 46, 3) := by decide +kernel
theorem dX5_digest_22 : decode cX5_digest 22 = .ok (.if_icmp .ge 22, 3) := by decide +kernel
theorem dX5_digest_25 : decode cX5_digest 25 = .ok (.lload_n 1, 1) := by decide +kernel
theorem dX5_digest_26 : decode cX5_digest 26 = .ok (.ldc2_w 175, 3) := by decide +kernel
theorem dX5_digest_29 : decode cX5_digest 29 = .ok (.lmul, 1) := by decide +kernel
theorem dX5_digest_30 : decode cX5_digest 30 = .ok (.aload_n 0, 1) := by decide +kernel
theorem dX5_digest_31 : decode cX5_digest 31 = .ok (.getfield 9, 3) := by decide +kernel
theorem dX5_digest_34 : decode cX5_digest 34 = .ok (.iload_n 3, 1) := by decide +kernel
theorem dX5_digest_35 : decode cX5_digest 35 = .ok (.laload, 1) := by decide +kernel
theorem dX5_digest_36 : decode cX5_digest 36 = .ok (.ladd, 1) := by decide +kernel
theorem dX5_digest_37 : decode cX5_digest 37 = .ok (.lstore_n 1, 1) := by decide +kernel
theorem dX5_digest_38 : decode cX5_digest 38 = .ok (.iinc 3 1, 3) := by decide +kernel
theorem dX5_digest_41 : decode cX5_digest 41 = .ok (.goto (-24), 3) := by decide +kernel
theorem dX5_digest_44 : decode cX5_digest 44 = .ok (.iconst 0, 1) := by decide +kernel
theorem dX5_digest_45 : decode cX5_digest 45 = .ok (.istore_n 3, 1) := by decide +kernel
theorem dX5_digest_46 : decode cX5_digest 46 = .ok (.iload_n 3, 1) := by decide +kernel
theorem dX5_digest_47 : decode cX5_digest 47 = .ok (.bipush 26, 2) := by decide +kernel
theorem dX5_digest_49 : decode cX5_digest 49 = .ok (.if_icmp .ge 39, 3) := by decide +kernel
theorem dX5_digest_52 : decode cX5_digest 52 = .ok (.iconst 0, 1) := by decide +kernel
theorem dX5_digest_53 : decode cX5_digest 53 = .ok (.istore 4, 2) := by decide +kernel
theorem dX5_digest_55 : decode cX5_digest 55 = .ok (.iload 4, 2) := by decide +kernel
theorem dX5_digest_57 : decode cX5_digest 57 = .ok (.iconst 3, 1) := by decide +kernel
theorem dX5_digest_58 : decode cX5_digest 58 = .ok (.if_icmp .ge 24, 3) := by decide +kernel
theorem dX5_digest_61 : decode cX5_digest 61 = .ok (.lload_n 1, 1) := by decide +kernel
theorem dX5_digest_62 : decode cX5_digest 62 = .ok (.ldc2_w 175, 3) := by decide +kernel
theorem dX5_digest_65 : decode cX5_digest 65 = .ok (.lmul, 1) := by decide +kernel
theorem dX5_digest_66 : decode cX5_digest 66 = .ok (.aload_n 0, 1) := by decide +kernel
theorem dX5_digest_67 : decode cX5_digest 67 = .ok (.iload_n 3, 1) := by decide +kernel
theorem dX5_digest_68 : decode cX5_digest 68 = .ok (.iload 4, 2) := by decide +kernel
theorem dX5_digest_70 : decode cX5_digest 70 = .ok (.invokevirtual 163, 3) := by decide +kernel
theorem dX5_digest_73 : decode cX5_digest 73 = .ok (.i2l, 1) := by decide +kernel
theorem dX5_digest_74 : decode cX5_digest 74 = .ok (.ladd, 1) := by decide +kernel
theorem dX5_digest_75 : decode cX5_digest 75 = .ok (.lstore_n 1, 1) := by decide +kernel
theorem dX5_digest_76 : decode cX5_digest 76 = .ok (.iinc 4 1, 3) := by decide +kernel
theorem dX5_digest_79 : decode cX5_digest 79 = .ok (.goto (-24), 3) := by decide +kernel
theorem dX5_digest_82 : decode cX5_digest 82 = .ok (.iinc 3 1, 3) := by decide +kernel
theorem dX5_digest_85 : decode cX5_digest 85 = .ok (.goto (-39), 3) := by decide +kernel
theorem dX5_digest_88 : decode cX5_digest 88 = .ok (.iconst 0, 1) := by decide +kernel
theorem dX5_digest_89 : decode cX5_digest 89 = .ok (.istore_n 3, 1) := by decide +kernel
theorem dX5_digest_90 : decode cX5_digest 90 = .ok (.iload_n 3, 1) := by decide +kernel
theorem dX5_digest_91 : decode cX5_digest 91 = .ok (.sipush 676, 3) := by decide +kernel
theorem dX5_digest_94 : decode cX5_digest 94 = .ok (.if_icmp .ge 66, 3) := by decide +kernel
theorem dX5_digest_97 : decode cX5_digest 97 = .ok (.aload_n 0, 1) := by decide +kernel
theorem dX5_digest_98 : decode cX5_digest 98 = .ok (.getfield 13, 3) := by decide +kernel
theorem dX5_digest_101 : decode cX5_digest 101 = .ok (.bipush 26, 2) := by decide +kernel
theorem dX5_digest_103 : decode cX5_digest 103 = .ok (.iload_n 3, 1) := by decide +kernel
theorem dX5_digest_104 : decode cX5_digest 104 = .ok (.iadd, 1) := by decide +kernel
theorem dX5_digest_105 : decode cX5_digest 105 = .ok (.iaload, 1) := by decide +kernel
theorem dX5_digest_106 : decode cX5_digest 106 = .ok (.ifCond .ne 6, 3) := by decide +kernel
theorem dX5_digest_109 : decode cX5_digest 109 = .ok (.goto 45, 3) := by decide +kernel
theorem dX5_digest_112 : decode cX5_digest 112 = .ok (.lload_n 1, 1) := by decide +kernel
theorem dX5_digest_113 : decode cX5_digest 113 = .ok (.ldc2_w 175, 3) := by decide +kernel
theorem dX5_digest_116 : decode cX5_digest 116 = .ok (.lmul, 1) := by decide +kernel
theorem dX5_digest_117 : decode cX5_digest 117 = .ok (.iload_n 3, 1) := by decide +kernel
theorem dX5_digest_118 : decode cX5_digest 118 = .ok (.i2l, 1) := by decide +kernel
theorem dX5_digest_119 : decode cX5_digest 119 = .ok (.ladd, 1) := by decide +kernel
theorem dX5_digest_120 : decode cX5_digest 120 = .ok (.lstore_n 1, 1) := by decide +kernel
theorem dX5_digest_121 : decode cX5_digest 121 = .ok (.iconst 0, 1) := by decide +kernel
theorem dX5_digest_122 : decode cX5_digest 122 = .ok (.istore 4, 2) := by decide +kernel
theorem dX5_digest_124 : decode cX5_digest 124 = .ok (.iload 4, 2) := by decide +kernel
theorem dX5_digest_126 : decode cX5_digest 126 = .ok (.iconst 3, 1) := by decide +kernel
theorem dX5_digest_127 : decode cX5_digest 127 = .ok (.if_icmp .ge 27, 3) := by decide +kernel
theorem dX5_digest_130 : decode cX5_digest 130 = .ok (.lload_n 1, 1) := by decide +kernel
theorem dX5_digest_131 : decode cX5_digest 131 = .ok (.ldc2_w 175, 3) := by decide +kernel
theorem dX5_digest_134 : decode cX5_digest 134 = .ok (.lmul, 1) := by decide +kernel
theorem dX5_digest_135 : decode cX5_digest 135 = .ok (.aload_n 0, 1) := by decide +kernel
theorem dX5_digest_136 : decode cX5_digest 136 = .ok (.bipush 26, 2) := by decide +kernel
theorem dX5_digest_138 : decode cX5_digest 138 = .ok (.iload_n 3, 1) := by decide +kernel
theorem dX5_digest_139 : decode cX5_digest 139 = .ok (.iadd, 1) := by decide +kernel
theorem dX5_digest_140 : decode cX5_digest 140 = .ok (.iload 4, 2) := by decide +kernel
theorem dX5_digest_142 : decode cX5_digest 142 = .ok (.invokevirtual 163, 3) := by decide +kernel
theorem dX5_digest_145 : decode cX5_digest 145 = .ok (.i2l, 1) := by decide +kernel
theorem dX5_digest_146 : decode cX5_digest 146 = .ok (.ladd, 1) := by decide +kernel
theorem dX5_digest_147 : decode cX5_digest 147 = .ok (.lstore_n 1, 1) := by decide +kernel
theorem dX5_digest_148 : decode cX5_digest 148 = .ok (.iinc 4 1, 3) := by decide +kernel
theorem dX5_digest_151 : decode cX5_digest 151 = .ok (.goto (-27), 3) := by decide +kernel
theorem dX5_digest_154 : decode cX5_digest 154 = .ok (.iinc 3 1, 3) := by decide +kernel
theorem dX5_digest_157 : decode cX5_digest 157 = .ok (.goto (-67), 3) := by decide +kernel
theorem dX5_digest_160 : decode cX5_digest 160 = .ok (.iconst 1, 1) := by decide +kernel
theorem dX5_digest_161 : decode cX5_digest 161 = .ok (.istore_n 3, 1) := by decide +kernel
theorem dX5_digest_162 : decode cX5_digest 162 = .ok (.iload_n 3, 1) := by decide +kernel
theorem dX5_digest_163 : decode cX5_digest 163 = .ok (.iconst 5, 1) := by decide +kernel
theorem dX5_digest_164 : decode cX5_digest 164 = .ok (.if_icmp .ge 23, 3) := by decide +kernel
theorem dX5_digest_167 : decode cX5_digest 167 = .ok (.lload_n 1, 1) := by decide +kernel
theorem dX5_digest_168 : decode cX5_digest 168 = .ok (.ldc2_w 175, 3) := by decide +kernel
theorem dX5_digest_171 : decode cX5_digest 171 = .ok (.lmul, 1) := by decide +kernel
theorem dX5_digest_172 : decode cX5_digest 172 = .ok (.aload_n 0, 1) := by decide +kernel
theorem dX5_digest_173 : decode cX5_digest 173 = .ok (.getfield 23, 3) := by decide +kernel
theorem dX5_digest_176 : decode cX5_digest 176 = .ok (.iload_n 3, 1) := by decide +kernel
theorem dX5_digest_177 : decode cX5_digest 177 = .ok (.iaload, 1) := by decide +kernel
theorem dX5_digest_178 : decode cX5_digest 178 = .ok (.i2l, 1) := by decide +kernel
theorem dX5_digest_179 : decode cX5_digest 179 = .ok (.ladd, 1) := by decide +kernel
theorem dX5_digest_180 : decode cX5_digest 180 = .ok (.lstore_n 1, 1) := by decide +kernel
theorem dX5_digest_181 : decode cX5_digest 181 = .ok (.iinc 3 1, 3) := by decide +kernel
theorem dX5_digest_184 : decode cX5_digest 184 = .ok (.goto (-22), 3) := by decide +kernel
theorem dX5_digest_187 : decode cX5_digest 187 = .ok (.lload_n 1, 1) := by decide +kernel
theorem dX5_digest_188 : decode cX5_digest 188 = .ok (.ldc2_w 175, 3) := by decide +kernel
theorem dX5_digest_191 : decode cX5_digest 191 = .ok (.lmul, 1) := by decide +kernel
theorem dX5_digest_192 : decode cX5_digest 192 = .ok (.aload_n 0, 1) := by decide +kernel
theorem dX5_digest_193 : decode cX5_digest 193 = .ok (.getfield 106, 3) := by decide +kernel
theorem dX5_digest_196 : decode cX5_digest 196 = .ok (.ifCond .eq 7, 3) := by decide +kernel
theorem dX5_digest_199 : decode cX5_digest 199 = .ok (.lconst 1, 1) := by decide +kernel
theorem dX5_digest_200 : decode cX5_digest 200 = .ok (.goto 4, 3) := by decide +kernel
theorem dX5_digest_203 : decode cX5_digest 203 = .ok (.lconst 0, 1) := by decide +kernel
theorem dX5_digest_204 : decode cX5_digest 204 = .ok (.ladd, 1) := by decide +kernel
theorem dX5_digest_205 : decode cX5_digest 205 = .ok (.lstore_n 1, 1) := by decide +kernel
theorem dX5_digest_206 : decode cX5_digest 206 = .ok (.aload_n 0, 1) := by decide +kernel
theorem dX5_digest_207 : decode cX5_digest 207 = .ok (.getfield 106, 3) := by decide +kernel
theorem dX5_digest_210 : decode cX5_digest 210 = .ok (.ifCond .eq 57, 3) := by decide +kernel
theorem dX5_digest_213 : decode cX5_digest 213 = .ok (.lload_n 1, 1) := by decide +kernel
theorem dX5_digest_214 : decode cX5_digest 214 = .ok (.ldc2_w 175, 3) := by decide +kernel
theorem dX5_digest_217 : decode cX5_digest 217 = .ok (.lmul, 1) := by decide +kernel
theorem dX5_digest_218 : decode cX5_digest 218 = .ok (.aload_n 0, 1) := by decide +kernel
theorem dX5_digest_219 : decode cX5_digest 219 = .ok (.getfield 100, 3) := by decide +kernel
theorem dX5_digest_222 : decode cX5_digest 222 = .ok (.i2l, 1) := by decide +kernel
theorem dX5_digest_223 : decode cX5_digest 223 = .ok (.ladd, 1) := by decide +kernel
theorem dX5_digest_224 : decode cX5_digest 224 = .ok (.lstore_n 1, 1) := by decide +kernel
theorem dX5_digest_225 : decode cX5_digest 225 = .ok (.iconst 0, 1) := by decide +kernel
theorem dX5_digest_226 : decode cX5_digest 226 = .ok (.istore_n 3, 1) := by decide +kernel
theorem dX5_digest_227 : decode cX5_digest 227 = .ok (.iload_n 3, 1) := by decide +kernel
theorem dX5_digest_228 : decode cX5_digest 228 = .ok (.aload_n 0, 1) := by decide +kernel
theorem dX5_digest_229 : decode cX5_digest 229 = .ok (.getfield 100, 3) := by decide +kernel
theorem dX5_digest_232 : decode cX5_digest 232 = .ok (.if_icmp .ge 23, 3) := by decide +kernel
theorem dX5_digest_235 : decode cX5_digest 235 = .ok (.lload_n 1, 1) := by decide +kernel
theorem dX5_digest_236 : decode cX5_digest 236 = .ok (.ldc2_w 175, 3) := by decide +kernel
theorem dX5_digest_239 : decode cX5_digest 239 = .ok (.lmul, 1) := by decide +kernel
theorem dX5_digest_240 : decode cX5_digest 240 = .ok (.aload_n 0, 1) := by decide +kernel
theorem dX5_digest_241 : decode cX5_digest 241 = .ok (.getfield 26, 3) := by decide +kernel
theorem dX5_digest_244 : decode cX5_digest 244 = .ok (.iload_n 3, 1) := by decide +kernel
theorem dX5_digest_245 : decode cX5_digest 245 = .ok (.iaload, 1) := by decide +kernel
theorem dX5_digest_246 : decode cX5_digest 246 = .ok (.i2l, 1) := by decide +kernel
theorem dX5_digest_247 : decode cX5_digest 247 = .ok (.ladd, 1) := by decide +kernel
theorem dX5_digest_248 : decode cX5_digest 248 = .ok (.lstore_n 1, 1) := by decide +kernel
theorem dX5_digest_249 : decode cX5_digest 249 = .ok (.iinc 3 1, 3) := by decide +kernel
theorem dX5_digest_252 : decode cX5_digest 252 = .ok (.goto (-25), 3) := by decide +kernel
theorem dX5_digest_255 : decode cX5_digest 255 = .ok (.lload_n 1, 1) := by decide +kernel
theorem dX5_digest_256 : decode cX5_digest 256 = .ok (.ldc2_w 175, 3) := by decide +kernel
theorem dX5_digest_259 : decode cX5_digest 259 = .ok (.lmul, 1) := by decide +kernel
theorem dX5_digest_260 : decode cX5_digest 260 = .ok (.aload_n 0, 1) := by decide +kernel
theorem dX5_digest_261 : decode cX5_digest 261 = .ok (.getfield 110, 3) := by decide +kernel
theorem dX5_digest_264 : decode cX5_digest 264 = .ok (.i2l, 1) := by decide +kernel
theorem dX5_digest_265 : decode cX5_digest 265 = .ok (.ladd, 1) := by decide +kernel
theorem dX5_digest_266 : decode cX5_digest 266 = .ok (.lstore_n 1, 1) := by decide +kernel
theorem dX5_digest_267 : decode cX5_digest 267 = .ok (.lload_n 1, 1) := by decide +kernel
theorem dX5_digest_268 : decode cX5_digest 268 = .ok (.ldc2_w 175, 3) := by decide +kernel
theorem dX5_digest_271 : decode cX5_digest 271 = .ok (.lmul, 1) := by decide +kernel
theorem dX5_digest_272 : decode cX5_digest 272 = .ok (.aload_n 0, 1) := by decide +kernel
theorem dX5_digest_273 : decode cX5_digest 273 = .ok (.getfield 145, 3) := by decide +kernel
theorem dX5_digest_276 : decode cX5_digest 276 = .ok (.i2l, 1) := by decide +kernel
theorem dX5_digest_277 : decode cX5_digest 277 = .ok (.ladd, 1) := by decide +kernel
theorem dX5_digest_278 : decode cX5_digest 278 = .ok (.lstore_n 1, 1) := by decide +kernel
theorem dX5_digest_279 : decode cX5_digest 279 = .ok (.iconst 0, 1) := by decide +kernel
theorem dX5_digest_280 : decode cX5_digest 280 = .ok (.istore_n 3, 1) := by decide +kernel
theorem dX5_digest_281 : decode cX5_digest 281 = .ok (.iload_n 3, 1) := by decide +kernel
theorem dX5_digest_282 : decode cX5_digest 282 = .ok (.aload_n 0, 1) := by decide +kernel
theorem dX5_digest_283 : decode cX5_digest 283 = .ok (.getfield 145, 3) := by decide +kernel
theorem dX5_digest_286 : decode cX5_digest 286 = .ok (.if_icmp .ge 39, 3) := by decide +kernel
theorem dX5_digest_289 : decode cX5_digest 289 = .ok (.iconst 0, 1) := by decide +kernel
theorem dX5_digest_290 : decode cX5_digest 290 = .ok (.istore 4, 2) := by decide +kernel
theorem dX5_digest_292 : decode cX5_digest 292 = .ok (.iload 4, 2) := by decide +kernel
theorem dX5_digest_294 : decode cX5_digest 294 = .ok (.iconst 4, 1) := by decide +kernel
theorem dX5_digest_295 : decode cX5_digest 295 = .ok (.if_icmp .ge 24, 3) := by decide +kernel
theorem dX5_digest_298 : decode cX5_digest 298 = .ok (.lload_n 1, 1) := by decide +kernel
theorem dX5_digest_299 : decode cX5_digest 299 = .ok (.ldc2_w 175, 3) := by decide +kernel
theorem dX5_digest_302 : decode cX5_digest 302 = .ok (.lmul, 1) := by decide +kernel
theorem dX5_digest_303 : decode cX5_digest 303 = .ok (.aload_n 0, 1) := by decide +kernel
theorem dX5_digest_304 : decode cX5_digest 304 = .ok (.iload_n 3, 1) := by decide +kernel
theorem dX5_digest_305 : decode cX5_digest 305 = .ok (.iload 4, 2) := by decide +kernel
theorem dX5_digest_307 : decode cX5_digest 307 = .ok (.invokevirtual 167, 3) := by decide +kernel
theorem dX5_digest_310 : decode cX5_digest 310 = .ok (.i2l, 1) := by decide +kernel
theorem dX5_digest_311 : decode cX5_digest 311 = .ok (.ladd, 1) := by decide +kernel
theorem dX5_digest_312 : decode cX5_digest 312 = .ok (.lstore_n 1, 1) := by decide +kernel
theorem dX5_digest_313 : decode cX5_digest 313 = .ok (.iinc 4 1, 3) := by decide +kernel
theorem dX5_digest_316 : decode cX5_digest 316 = .ok (.goto (-24), 3) := by decide +kernel
theorem dX5_digest_319 : decode cX5_digest 319 = .ok (.iinc 3 1, 3) := by decide +kernel
theorem dX5_digest_322 : decode cX5_digest 322 = .ok (.goto (-41), 3) := by decide +kernel
theorem dX5_digest_325 : decode cX5_digest 325 = .ok (.lload_n 1, 1) := by decide +kernel
theorem dX5_digest_326 : decode cX5_digest 326 = .ok (.ldc2_w 175, 3) := by decide +kernel
theorem dX5_digest_329 : decode cX5_digest 329 = .ok (.lmul, 1) := by decide +kernel
theorem dX5_digest_330 : decode cX5_digest 330 = .ok (.aload_n 0, 1) := by decide +kernel
theorem dX5_digest_331 : decode cX5_digest 331 = .ok (.getfield 39, 3) := by decide +kernel
theorem dX5_digest_334 : decode cX5_digest 334 = .ok (.i2l, 1) := by decide +kernel
theorem dX5_digest_335 : decode cX5_digest 335 = .ok (.ladd, 1) := by decide +kernel
theorem dX5_digest_336 : decode cX5_digest 336 = .ok (.lreturn, 1) := by decide +kernel
