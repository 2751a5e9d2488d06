theorem dX0_init_0 : decode cX0_init 0 = .ok (.aload_n 0, 1) := by decide +kernel
theorem dX0_init_1 : decode cX0_init 1 = .ok (.invokespecial 3, 3) := by decide +kernel
theorem dX0_init_4 : decode cX0_init 4 = .ok (.aload_n 0, 1) := by decide +kernel
theorem dX0_init_5 : decode cX0_init 5 = .ok (.sipush 256, 3) := by decide +kernel
theorem dX0_init_8 : decode cX0_init 8 = .ok (.newarray .int, 2) := by decide +kernel
theorem dX0_init_10 : decode cX0_init 10 = .ok (.putfield 9, 3) := by decide +kernel
theorem dX0_init_13 : decode cX0_init 13 = .ok (.aload_n 0, 1) := by decide +kernel
theorem dX0_init_14 : decode cX0_init 14 = .ok (.sipush 256, 3) := by decide +kernel
theorem dX0_init_17 : decode cX0_init 17 = .ok (.newarray .int, 2) := by decide +kernel
theorem dX0_init_19 : decode cX0_init 19 = .ok (.putfield 15, 3) := by decide +kernel
theorem dX0_init_22 : decode cX0_init 22 = .ok (.aload_n 0, 1) := by decide +kernel
theorem dX0_init_23 : decode cX0_init 23 = .ok (.sipush 256, 3) := by decide +kernel
theorem dX0_init_26 : decode cX0_init 26 = .ok (.newarray .int, 2) := by decide +kernel
theorem dX0_init_28 : decode cX0_init 28 = .ok (.putfield 18, 3) := by decide +kernel
theorem dX0_init_31 : decode cX0_init 31 = .ok (.aload_n 0, 1) := by decide +kernel
theorem dX0_init_32 : decode cX0_init 32 = .ok (.iconst 0, 1) := by decide +kernel
theorem dX0_init_33 : decode cX0_init 33 = .ok (.putfield 21, 3) := by decide +kernel
theorem dX0_init_36 : decode cX0_init 36 = .ok (.aload_n 0, 1) := by decide +kernel
theorem dX0_init_37 : decode cX0_init 37 = .ok (.bipush 100, 2) := by decide +kernel
theorem dX0_init_39 : decode cX0_init 39 = .ok (.putfield 25, 3) := by decide +kernel
theorem dX0_init_42 : decode cX0_init 42 = .ok (.aload_n 0, 1) := by decide +kernel
theorem dX0_init_43 : decode cX0_init 43 = .ok (.iconst 0, 1) := by decide +kernel
theorem dX0_init_44 : decode cX0_init 44 = .ok (.putfield 28, 3) := by decide +kernel
theorem dX0_init_47 : decode cX0_init 47 = .ok (.aload_n 0, 1) := by decide +kernel
theorem dX0_init_48 : decode cX0_init 48 = .ok (.iconst 0, 1) := by decide +kernel
theorem dX0_init_49 : decode cX0_init 49 = .ok (.putfield 31, 3) := by decide +kernel
theorem dX0_init_52 : decode cX0_init 52 = .ok (.return_, 1) := by decide +kernel
theorem dX0_size_0 : decode cX0_size 0 = .ok (.aload_n 0, 1) := by decide +kernel
theorem dX0_size_1 : decode cX0_size 1 = .ok (.getfield 21, 3) := by decide +kernel
theorem dX0_size_4 : decode cX0_size 4 = .ok (.ireturn, 1) := by decide +kernel
theorem dX0_advisedPace_0 : decode cX0_advisedPace 0 = .ok (.aload_n 0, 1) := by decide +kernel
theorem dX0_advisedPace_1 : decode cX0_advisedPace 1 = .ok (.getfield 25, 3) := by decide +kernel
theorem dX0_advisedPace_4 : decode cX0_advisedPace 4 = .ok (.ireturn, 1) := by decide +kernel
theorem dX0_letterSum_0 : decode cX0_letterSum 0 = .ok (.aload_n 0, 1) := by decide +kernel
theorem dX0_letterSum_1 : decode cX0_letterSum 1 = .ok (.getfield 28, 3) := by decide +kernel
theorem dX0_letterSum_4 : decode cX0_letterSum 4 = .ok (.ireturn, 1) := by decide +kernel
theorem dX0_cleanSum_0 : decode cX0_cleanSum 0 = .ok (.aload_n 0, 1) := by decide +kernel
theorem dX0_cleanSum_1 : decode cX0_cleanSum 1 = .ok (.getfield 31, 3) := by decide +kernel
theorem dX0_cleanSum_4 : decode cX0_cleanSum 4 = .ok (.ireturn, 1) := by decide +kernel
set_option maxRecDepth 20000 in
theorem ggX0_tell_X4_read : GoodIn wsX0_tell wsX4_read := goodIn_r _ [6] (by decide +kernel) (by decide +kernel)
set_option maxRecDepth 20000 in
theorem gX0_tell_X4_read_n34 : GoodIn wsX0_tell (wsX4_read) := ggX0_tell_X4_read
set_option maxRecDepth 20000 in
theorem ggX0_tell_X0_speedOf : GoodIn wsX0_tell wsX0_speedOf := goodIn_r _ [11, 3, 1, 12, 4, 5, 6, 13, 14, 15, 16, 17, 18, 19] (by decide +kernel) (by decide +kernel)
set_option maxRecDepth 20000 in
theorem gX0_tell_X0_speedOf : GoodIn wsX0_tell (wsV RX0 38 RX0 yX0_speedOf wsX0_speedOf) := goodIn_app (goodIn_of _ (by decide +kernel)) ggX0_tell_X0_speedOf
theorem dX0_tell_0 : decode cX0_tell 0 = .ok (.iload_n 2, 1) := by decide +kernel
theorem dX0_tell_1 : decode cX0_tell 1 = .ok (.tableswitch 54 0 2 #[27, 36, 45], 27) := by decide +kernel
theorem dX0_tell_28 : decode cX0_tell 28 = .ok (.aload_n 0, 1) := by decide +kernel
theorem dX0_tell_29 : decode cX0_tell 29 = .ok (.getfield 9, 3) := by decide +kernel
theorem dX0_tell_32 : decode cX0_tell 32 = .ok (.iload_n 1, 1) := by decide +kernel
theorem dX0_tell_33 : decode cX0_tell 33 = .ok (.invokestatic 34, 3) := by decide +kernel
theorem dX0_tell_36 : decode cX0_tell 36 = .ok (.ireturn, 1) := by decide +kernel
theorem dX0_tell_37 : decode cX0_tell 37 = .ok (.aload_n 0, 1) := by decide +kernel
theorem dX0_tell_38 : decode cX0_tell 38 = .ok (.getfield 15, 3) := by decide +kernel
theorem dX0_tell_41 : decode cX0_tell 41 = .ok (.iload_n 1, 1) := by decide +kernel
theorem dX0_tell_42 : decode cX0_tell 42 = .ok (.invokestatic 34, 3) := by decide +kernel
theorem dX0_tell_45 : decode cX0_tell 45 = .ok (.ireturn, 1) := by decide +kernel
theorem dX0_tell_46 : decode cX0_tell 46 = .ok (.aload_n 0, 1) := by decide +kernel
theorem dX0_tell_47 : decode cX0_tell 47 = .ok (.getfield 18, 3) := by decide +kernel
theorem dX0_tell_50 : decode cX0_tell 50 = .ok (.iload_n 1, 1) := by decide +kernel
theorem dX0_tell_51 : decode cX0_tell 51 = .ok (.invokestatic 34, 3) := by decide +kernel
theorem dX0_tell_54 : decode cX0_tell 54 = .ok (.ireturn, 1) := by decide +kernel
theorem dX0_tell_55 : decode cX0_tell 55 = .ok (.aload_n 0, 1) := by decide +kernel
theorem dX0_tell_56 : decode cX0_tell 56 = .ok (.iload_n 1, 1) := by decide +kernel
theorem dX0_tell_57 : decode cX0_tell 57 = .ok (.invokevirtual 38, 3) := by decide +kernel
theorem dX0_tell_60 : decode cX0_tell 60 = .ok (.ireturn, 1) := by decide +kernel
set_option maxRecDepth 20000 in
theorem ggX0_speedOf_X4_read : GoodIn wsX0_speedOf wsX4_read := goodIn_r _ [6] (by decide +kernel) (by decide +kernel)
set_option maxRecDepth 20000 in
theorem gX0_speedOf_X4_read_n34 : GoodIn wsX0_speedOf (wsX4_read) := ggX0_speedOf_X4_read
theorem dX0_speedOf_0 : decode cX0_speedOf 0 = .ok (.aload_n 0, 1) := by decide +kernel
theorem dX0_speedOf_1 : decode cX0_speedOf 1 = .ok (.getfield 18, 3) := by decide +kernel
theorem dX0_speedOf_4 : decode cX0_speedOf 4 = .ok (.iload_n 1, 1) := by decide +kernel
theorem dX0_speedOf_5 : decode cX0_speedOf 5 = .ok (.invokestatic 34, 3) := by decide +kernel
theorem dX0_speedOf_8 : decode cX0_speedOf 8 = .ok (.istore_n 2, 1) := by decide +kernel
theorem dX0_speedOf_9 : decode cX0_speedOf 9 = .ok (.iload_n 2, 1) := by decide +kernel
theorem dX0_speedOf_10 : decode cX0_speedOf 10 = .ok (.ifCond .le 19, 3) := by decide +kernel
theorem dX0_speedOf_13 : decode cX0_speedOf 13 = .ok (.aload_n 0, 1) := by decide +kernel
theorem dX0_speedOf_14 : decode cX0_speedOf 14 = .ok (.getfield 9, 3) := by decide +kernel
theorem dX0_speedOf_17 : decode cX0_speedOf 17 = .ok (.iload_n 1, 1) := by decide +kernel
theorem dX0_speedOf_18 : decode cX0_speedOf 18 = .ok (.invokestatic 34, 3) := by decide +kernel
theorem dX0_speedOf_21 : decode cX0_speedOf 21 = .ok (.ldc 42, 2) := by decide +kernel
theorem dX0_speedOf_23 : decode cX0_speedOf 23 = .ok (.imul, 1) := by decide +kernel
theorem dX0_speedOf_24 : decode cX0_speedOf 24 = .ok (.iload_n 2, 1) := by decide +kernel
theorem dX0_speedOf_25 : decode cX0_speedOf 25 = .ok (.idiv, 1) := by decide +kernel
theorem dX0_speedOf_26 : decode cX0_speedOf 26 = .ok (.goto 4, 3) := by decide +kernel
theorem dX0_speedOf_29 : decode cX0_speedOf 29 = .ok (.iconst 0, 1) := by decide +kernel
theorem dX0_speedOf_30 : decode cX0_speedOf 30 = .ok (.ireturn, 1) := by decide +kernel
set_option maxRecDepth 20000 in
theorem ggX0_greatestSpeed_X0_speedOf : GoodIn wsX0_greatestSpeed wsX0_speedOf := goodIn_r _ [9, 10, 11, 12, 13, 14, 15, 16, 17, 18, 19, 20, 21, 22] (by decide +kernel) (by decide +kernel)
set_option maxRecDepth 20000 in
theorem gX0_greatestSpeed_X0_speedOf : GoodIn wsX0_greatestSpeed (wsV RX0 38 RX0 yX0_speedOf wsX0_speedOf) := goodIn_app (goodIn_of _ (by decide +kernel)) ggX0_greatestSpeed_X0_speedOf
theorem dX0_greatestSpeed_0 : decode cX0_greatestSpeed 0 = .ok (.iconst 0, 1) := by decide +kernel
theorem dX0_greatestSpeed_1 : decode cX0_greatestSpeed 1 = .ok (.istore_n 3, 1) := by decide +kernel
theorem dX0_greatestSpeed_2 : decode cX0_greatestSpeed 2 = .ok (.iload_n 1, 1) := by decide +kernel
theorem dX0_greatestSpeed_3 : decode cX0_greatestSpeed 3 = .ok (.istore 4, 2) := by decide +kernel
theorem dX0_greatestSpeed_5 : decode cX0_greatestSpeed 5 = .ok (.iload 4, 2) := by decide +kernel
theorem dX0_greatestSpeed_7 : decode cX0_greatestSpeed 7 = .ok (.iload_n 2, 1) := by decide +kernel
theorem dX0_greatestSpeed_8 : decode cX0_greatestSpeed 8 = .ok (.if_icmp .ge 20, 3) := by decide +kernel
theorem dX0_greatestSpeed_11 : decode cX0_greatestSpeed 11 = .ok (.iload_n 3, 1) := by decide +kernel
theorem dX0_greatestSpeed_12 : decode cX0_greatestSpeed 12 = .ok (.aload_n 0, 1) := by decide +kernel
theorem dX0_greatestSpeed_13 : decode cX0_greatestSpeed 13 = .ok (.iload 4, 2) := by decide +kernel
theorem dX0_greatestSpeed_15 : decode cX0_greatestSpeed 15 = .ok (.invokevirtual 38, 3) := by decide +kernel
theorem dX0_greatestSpeed_18 : decode cX0_greatestSpeed 18 = .ok (.invokestatic 43, 3) := by decide +kernel
theorem dX0_greatestSpeed_21 : decode cX0_greatestSpeed 21 = .ok (.istore_n 3, 1) := by decide +kernel
theorem dX0_greatestSpeed_22 : decode cX0_greatestSpeed 22 = .ok (.iinc 4 1, 3) := by decide +kernel
theorem dX0_greatestSpeed_25 : decode cX0_greatestSpeed 25 = .ok (.goto (-20), 3) := by decide +kernel
theorem dX0_greatestSpeed_28 : decode cX0_greatestSpeed 28 = .ok (.iload_n 3, 1) := by decide +kernel
theorem dX0_greatestSpeed_29 : decode cX0_greatestSpeed 29 = .ok (.ireturn, 1) := by decide +kernel
set_option maxRecDepth 20000 in
theorem ggX0_keep_X4_write : GoodIn wsX0_keep wsX4_write := goodIn_r _ [10] (by decide +kernel) (by decide +kernel)
set_option maxRecDepth 20000 in
theorem gX0_keep_X4_write_n49 : GoodIn wsX0_keep (wsX4_write) := ggX0_keep_X4_write
set_option maxRecDepth 20000 in
theorem ggX0_keep_X0_paceBehind : GoodIn wsX0_keep wsX0_paceBehind := goodIn_r _ [15, 7, 16, 17, 18, 19, 20, 21, 22, 23, 24, 25, 26, 27, 28, 29] (by decide +kernel) (by decide +kernel)
set_option maxRecDepth 20000 in
theorem gX0_keep_X0_paceBehind : GoodIn wsX0_keep (wsV RX0 53 RX0 yX0_paceBehind wsX0_paceBehind) := goodIn_app (goodIn_of _ (by decide +kernel)) ggX0_keep_X0_paceBehind
theorem dX0_keep_0 : decode cX0_keep 0 = .ok (.aload_n 0, 1) := by decide +kernel
theorem dX0_keep_1 : decode cX0_keep 1 = .ok (.getfield 21, 3) := by decide +kernel
theorem dX0_keep_4 : decode cX0_keep 4 = .ok (.sipush 256, 3) := by decide +kernel
theorem dX0_keep_7 : decode cX0_keep 7 = .ok (.if_icmp .lt 4, 3) := by decide +kernel
theorem dX0_keep_10 : decode cX0_keep 10 = .ok (.return_, 1) := by decide +kernel
theorem dX0_keep_11 : decode cX0_keep 11 = .ok (.aload_n 0, 1) := by decide +kernel
theorem dX0_keep_12 : decode cX0_keep 12 = .ok (.getfield 9, 3) := by decide +kernel
theorem dX0_keep_15 : decode cX0_keep 15 = .ok (.aload_n 0, 1) := by decide +kernel
theorem dX0_keep_16 : decode cX0_keep 16 = .ok (.getfield 21, 3) := by decide +kernel
theorem dX0_keep_19 : decode cX0_keep 19 = .ok (.iload_n 1, 1) := by decide +kernel
theorem dX0_keep_20 : decode cX0_keep 20 = .ok (.invokestatic 49, 3) := by decide +kernel
theorem dX0_keep_23 : decode cX0_keep 23 = .ok (.aload_n 0, 1) := by decide +kernel
theorem dX0_keep_24 : decode cX0_keep 24 = .ok (.getfield 15, 3) := by decide +kernel
theorem dX0_keep_27 : decode cX0_keep 27 = .ok (.aload_n 0, 1) := by decide +kernel
theorem dX0_keep_28 : decode cX0_keep 28 = .ok (.getfield 21, 3) := by decide +kernel
theorem dX0_keep_31 : decode cX0_keep 31 = .ok (.iload_n 2, 1) := by decide +kernel
theorem dX0_keep_32 : decode cX0_keep 32 = .ok (.invokestatic 49, 3) := by decide +kernel
theorem dX0_keep_35 : decode cX0_keep 35 = .ok (.aload_n 0, 1) := by decide +kernel
theorem dX0_keep_36 : decode cX0_keep 36 = .ok (.getfield 18, 3) := by decide +kernel
theorem dX0_keep_39 : decode cX0_keep 39 = .ok (.aload_n 0, 1) := by decide +kernel
theorem dX0_keep_40 : decode cX0_keep 40 = .ok (.getfield 21, 3) := by decide +kernel
theorem dX0_keep_43 : decode cX0_keep 43 = .ok (.iload_n 3, 1) := by decide +kernel
theorem dX0_keep_44 : decode cX0_keep 44 = .ok (.invokestatic 49, 3) := by decide +kernel
theorem dX0_keep_47 : decode cX0_keep 47 = .ok (.aload_n 0, 1) := by decide +kernel
theorem dX0_keep_48 : decode cX0_keep 48 = .ok (.dup, 1) := by decide +kernel
theorem dX0_keep_49 : decode cX0_keep 49 = .ok (.getfield 21, 3) := by decide +kernel
theorem dX0_keep_52 : decode cX0_keep 52 = .ok (.iconst 1, 1) := by decide +kernel
theorem dX0_keep_53 : decode cX0_keep 53 = .ok (.iadd, 1) := by decide +kernel
theorem dX0_keep_54 : decode cX0_keep 54 = .ok (.putfield 21, 3) := by decide +kernel
theorem dX0_keep_57 : decode cX0_keep 57 = .ok (.aload_n 0, 1) := by decide +kernel
theorem dX0_keep_58 : decode cX0_keep 58 = .ok (.dup, 1) := by decide +kernel
theorem dX0_keep_59 : decode cX0_keep 59 = .ok (.getfield 28, 3) := by decide +kernel
theorem dX0_keep_62 : decode cX0_keep 62 = .ok (.iload_n 1, 1) := by decide +kernel
theorem dX0_keep_63 : decode cX0_keep 63 = .ok (.iadd, 1) := by decide +kernel
theorem dX0_keep_64 : decode cX0_keep 64 = .ok (.putfield 28, 3) := by decide +kernel
theorem dX0_keep_67 : decode cX0_keep 67 = .ok (.aload_n 0, 1) := by decide +kernel
theorem dX0_keep_68 : decode cX0_keep 68 = .ok (.dup, 1) := by decide +kernel
theorem dX0_keep_69 : decode cX0_keep 69 = .ok (.getfield 31, 3) := by decide +kernel
theorem dX0_keep_72 : decode cX0_keep 72 = .ok (.iload_n 2, 1) := by decide +kernel
theorem dX0_keep_73 : decode cX0_keep 73 = .ok (.iadd, 1) := by decide +kernel
theorem dX0_keep_74 : decode cX0_keep 74 = .ok (.putfield 31, 3) := by decide +kernel
theorem dX0_keep_77 : decode cX0_keep 77 = .ok (.aload_n 0, 1) := by decide +kernel
theorem dX0_keep_78 : decode cX0_keep 78 = .ok (.aload_n 0, 1) := by decide +kernel
theorem dX0_keep_79 : decode cX0_keep 79 = .ok (.iload_n 1, 1) := by decide +kernel
theorem dX0_keep_80 : decode cX0_keep 80 = .ok (.iload_n 2, 1) := by decide +kernel
theorem dX0_keep_81 : decode cX0_keep 81 = .ok (.invokevirtual 53, 3) := by decide +kernel
theorem dX0_keep_84 : decode cX0_keep 84 = .ok (.putfield 25, 3) := by decide +kernel
theorem dX0_keep_87 : decode cX0_keep 87 = .ok (.return_, 1) := by decide +kernel
theorem dX0_paceBehind_0 : decode cX0_paceBehind 0 = .ok (.aload_n 0, 1) := by decide +kernel
theorem dX0_paceBehind_1 : decode cX0_paceBehind 1 = .ok (.getfield 25, 3) := by decide +kernel
theorem dX0_paceBehind_4 : decode cX0_paceBehind 4 = .ok (.istore_n 3, 1) := by decide +kernel
theorem dX0_paceBehind_5 : decode cX0_paceBehind 5 = .ok (.iload_n 2, 1) := by decide +kernel
theorem dX0_paceBehind_6 : decode cX0_paceBehind 6 = .ok (.bipush 100, 2) := by decide +kernel
theorem dX0_paceBehind_8 : decode cX0_paceBehind 8 = .ok (.imul, 1) := by decide +kernel
theorem dX0_paceBehind_9 : decode cX0_paceBehind 9 = .ok (.iload_n 1, 1) := by decide +kernel
theorem dX0_paceBehind_10 : decode cX0_paceBehind 10 = .ok (.bipush 95, 2) := by decide +kernel
theorem dX0_paceBehind_12 : decode cX0_paceBehind 12 = .ok (.imul, 1) := by decide +kernel
theorem dX0_paceBehind_13 : decode cX0_paceBehind 13 = .ok (.if_icmp .lt 21, 3) := by decide +kernel
theorem dX0_paceBehind_16 : decode cX0_paceBehind 16 = .ok (.aload_n 0, 1) := by decide +kernel
theorem dX0_paceBehind_17 : decode cX0_paceBehind 17 = .ok (.getfield 25, 3) := by decide +kernel
theorem dX0_paceBehind_20 : decode cX0_paceBehind 20 = .ok (.aload_n 0, 1) := by decide +kernel
theorem dX0_paceBehind_21 : decode cX0_paceBehind 21 = .ok (.getfield 25, 3) := by decide +kernel
theorem dX0_paceBehind_24 : decode cX0_paceBehind 24 = .ok (.bipush 20, 2) := by decide +kernel
theorem dX0_paceBehind_26 : decode cX0_paceBehind 26 = .ok (.idiv, 1) := by decide +kernel
theorem dX0_paceBehind_27 : decode cX0_paceBehind 27 = .ok (.iadd, 1) := by decide +kernel
theorem dX0_paceBehind_28 : decode cX0_paceBehind 28 = .ok (.iconst 1, 1) := by decide +kernel
theorem dX0_paceBehind_29 : decode cX0_paceBehind 29 = .ok (.iadd, 1) := by decide +kernel
theorem dX0_paceBehind_30 : decode cX0_paceBehind 30 = .ok (.istore_n 3, 1) := by decide +kernel
theorem dX0_paceBehind_31 : decode cX0_paceBehind 31 = .ok (.goto 27, 3) := by decide +kernel
theorem dX0_paceBehind_34 : decode cX0_paceBehind 34 = .ok (.iload_n 2, 1) := by decide +kernel
theorem dX0_paceBehind_35 : decode cX0_paceBehind 35 = .ok (.bipush 100, 2) := by decide +kernel
theorem dX0_paceBehind_37 : decode cX0_paceBehind 37 = .ok (.imul, 1) := by decide +kernel
theorem dX0_paceBehind_38 : decode cX0_paceBehind 38 = .ok (.iload_n 1, 1) := by decide +kernel
theorem dX0_paceBehind_39 : decode cX0_paceBehind 39 = .ok (.bipush 85, 2) := by decide +kernel
theorem dX0_paceBehind_41 : decode cX0_paceBehind 41 = .ok (.imul, 1) := by decide +kernel
theorem dX0_paceBehind_42 : decode cX0_paceBehind 42 = .ok (.if_icmp .ge 16, 3) := by decide +kernel
theorem dX0_paceBehind_45 : decode cX0_paceBehind 45 = .ok (.aload_n 0, 1) := by decide +kernel
theorem dX0_paceBehind_46 : decode cX0_paceBehind 46 = .ok (.getfield 25, 3) := by decide +kernel
theorem dX0_paceBehind_49 : decode cX0_paceBehind 49 = .ok (.aload_n 0, 1) := by decide +kernel
theorem dX0_paceBehind_50 : decode cX0_paceBehind 50 = .ok (.getfield 25, 3) := by decide +kernel
theorem dX0_paceBehind_53 : decode cX0_paceBehind 53 = .ok (.bipush 10, 2) := by decide +kernel
theorem dX0_paceBehind_55 : decode cX0_paceBehind 55 = .ok (.idiv, 1) := by decide +kernel
theorem dX0_paceBehind_56 : decode cX0_paceBehind 56 = .ok (.isub, 1) := by decide +kernel
theorem dX0_paceBehind_57 : decode cX0_paceBehind 57 = .ok (.istore_n 3, 1) := by decide +kernel
theorem dX0_paceBehind_58 : decode cX0_paceBehind 58 = .ok (.sipush 900, 3) := by decide +kernel
theorem dX0_paceBehind_61 : decode cX0_paceBehind 61 = .ok (.bipush 20, 2) := by decide +kernel
theorem dX0_paceBehind_63 : decode cX0_paceBehind 63 = .ok (.iload_n 3, 1) := by decide +kernel
theorem dX0_paceBehind_64 : decode cX0_paceBehind 64 = .ok (.invokestatic 43, 3) := by decide +kernel
theorem dX0_paceBehind_67 : decode cX0_paceBehind 67 = .ok (.invokestatic 56, 3) := by decide +kernel
theorem dX0_paceBehind_70 : decode cX0_paceBehind 70 = .ok (.ireturn, 1) := by decide +kernel
set_option maxRecDepth 20000 in
theorem ggX1_init_J7_fill_53178 : GoodIn wsX1_init wsJ7_fill_53178 := goodIn_r _ [15] (by decide +kernel) (by decide +kernel)
set_option maxRecDepth 20000 in
theorem gX1_init_J7_fill_53178 : GoodIn wsX1_init (va_wsS RX1 27 yJ7_fill_53178 wsJ7_fill_53178) := goodIn_app (goodIn_of _ (by decide +kernel)) ggX1_init_J7_fill_53178
theorem dX1_init_0 : decode cX1_init 0 = .ok (.aload_n 0, 1) := by decide +kernel
theorem dX1_init_1 : decode cX1_init 1 = .ok (.invokespecial 3, 3) := by decide +kernel
theorem dX1_init_4 : decode cX1_init 4 = .ok (.iconst 0, 1) := by decide +kernel
theorem dX1_init_5 : decode cX1_init 5 = .ok (.iload_n 1, 1) := by decide +kernel
theorem dX1_init_6 : decode cX1_init 6 = .ok (.invokestatic 9, 3) := by decide +kernel
theorem dX1_init_9 : decode cX1_init 9 = .ok (.istore_n 2, 1) := by decide +kernel
theorem dX1_init_10 : decode cX1_init 10 = .ok (.aload_n 0, 1) := by decide +kernel
theorem dX1_init_11 : decode cX1_init 11 = .ok (.iload_n 2, 1) := by decide +kernel
theorem dX1_init_12 : decode cX1_init 12 = .ok (.newarray .int, 2) := by decide +kernel
theorem dX1_init_14 : decode cX1_init 14 = .ok (.putfield 15, 3) := by decide +kernel
theorem dX1_init_17 : decode cX1_init 17 = .ok (.aload_n 0, 1) := by decide +kernel
theorem dX1_init_18 : decode cX1_init 18 = .ok (.iload_n 2, 1) := by decide +kernel
theorem dX1_init_19 : decode cX1_init 19 = .ok (.newarray .int, 2) := by decide +kernel
theorem dX1_init_21 : decode cX1_init 21 = .ok (.putfield 21, 3) := by decide +kernel
theorem dX1_init_24 : decode cX1_init 24 = .ok (.aload_n 0, 1) := by decide +kernel
theorem dX1_init_25 : decode cX1_init 25 = .ok (.iload_n 2, 1) := by decide +kernel
theorem dX1_init_26 : decode cX1_init 26 = .ok (.newarray .int, 2) := by decide +kernel
theorem dX1_init_28 : decode cX1_init 28 = .ok (.putfield 24, 3) := by decide +kernel
theorem dX1_init_31 : decode cX1_init 31 = .ok (.aload_n 0, 1) := by decide +kernel
theorem dX1_init_32 : decode cX1_init 32 = .ok (.getfield 24, 3) := by decide +kernel
theorem dX1_init_35 : decode cX1_init 35 = .ok (.sipush 500, 3) := by decide +kernel
theorem dX1_init_38 : decode cX1_init 38 = .ok (.invokestatic 27, 3) := by decide +kernel
theorem dX1_init_41 : decode cX1_init 41 = .ok (.return_, 1) := by decide +kernel
set_option maxRecDepth 20000 in
theorem ggX1_triesOf_X4_read : GoodIn wsX1_triesOf wsX4_read := goodIn_r _ [4] (by decide +kernel) (by decide +kernel)
set_option maxRecDepth 20000 in
theorem gX1_triesOf_X4_read_n33 : GoodIn wsX1_triesOf (wsX4_read) := ggX1_triesOf_X4_read
theorem dX1_triesOf_0 : decode cX1_triesOf 0 = .ok (.aload_n 0, 1) := by decide +kernel
theorem dX1_triesOf_1 : decode cX1_triesOf 1 = .ok (.getfield 15, 3) := by decide +kernel
theorem dX1_triesOf_4 : decode cX1_triesOf 4 = .ok (.iload_n 1, 1) := by decide +kernel
theorem dX1_triesOf_5 : decode cX1_triesOf 5 = .ok (.invokestatic 33, 3) := by decide +kernel
theorem dX1_triesOf_8 : decode cX1_triesOf 8 = .ok (.ireturn, 1) := by decide +kernel
set_option maxRecDepth 20000 in
theorem ggX1_levelOf_X4_read : GoodIn wsX1_levelOf wsX4_read := goodIn_r _ [4] (by decide +kernel) (by decide +kernel)
set_option maxRecDepth 20000 in
theorem gX1_levelOf_X4_read_n33 : GoodIn wsX1_levelOf (wsX4_read) := ggX1_levelOf_X4_read
theorem dX1_levelOf_0 : decode cX1_levelOf 0 = .ok (.aload_n 0, 1) := by decide +kernel
theorem dX1_levelOf_1 : decode cX1_levelOf 1 = .ok (.getfield 24, 3) := by decide +kernel
theorem dX1_levelOf_4 : decode cX1_levelOf 4 = .ok (.iload_n 1, 1) := by decide +kernel
theorem dX1_levelOf_5 : decode cX1_levelOf 5 = .ok (.invokestatic 33, 3) := by decide +kernel
theorem dX1_levelOf_8 : decode cX1_levelOf 8 = .ok (.ireturn, 1) := by decide +kernel
set_option maxRecDepth 20000 in
theorem ggX1_tell_X4_read : GoodIn wsX1_tell wsX4_read := goodIn_r _ [6] (by decide +kernel) (by decide +kernel)
set_option maxRecDepth 20000 in
theorem gX1_tell_X4_read_n33 : GoodIn wsX1_tell (wsX4_read) := ggX1_tell_X4_read
theorem dX1_tell_0 : decode cX1_tell 0 = .ok (.iload_n 2, 1) := by decide +kernel
theorem dX1_tell_1 : decode cX1_tell 1 = .ok (.lookupswitch 45 #[(0, 27), (1, 36)], 27) := by decide +kernel
theorem dX1_tell_28 : decode cX1_tell 28 = .ok (.aload_n 0, 1) := by decide +kernel
theorem dX1_tell_29 : decode cX1_tell 29 = .ok (.getfield 15, 3) := by decide +kernel
theorem dX1_tell_32 : decode cX1_tell 32 = .ok (.iload_n 1, 1) := by decide +kernel
theorem dX1_tell_33 : decode cX1_tell 33 = .ok (.invokestatic 33, 3) := by decide +kernel
theorem dX1_tell_36 : decode cX1_tell 36 = .ok (.ireturn, 1) := by decide +kernel
theorem dX1_tell_37 : decode cX1_tell 37 = .ok (.aload_n 0, 1) := by decide +kernel
theorem dX1_tell_38 : decode cX1_tell 38 = .ok (.getfield 21, 3) := by decide +kernel
theorem dX1_tell_41 : decode cX1_tell 41 = .ok (.iload_n 1, 1) := by decide +kernel
theorem dX1_tell_42 : decode cX1_tell 42 = .ok (.invokestatic 33, 3) := by decide +kernel
theorem dX1_tell_45 : decode cX1_tell 45 = .ok (.ireturn, 1) := by decide +kernel
theorem dX1_tell_46 : decode cX1_tell 46 = .ok (.aload_n 0, 1) := by decide +kernel
theorem dX1_tell_47 : decode cX1_tell 47 = .ok (.getfield 24, 3) := by decide +kernel
theorem dX1_tell_50 : decode cX1_tell 50 = .ok (.iload_n 1, 1) := by decide +kernel
theorem dX1_tell_51 : decode cX1_tell 51 = .ok (.invokestatic 33, 3) := by decide +kernel
theorem dX1_tell_54 : decode cX1_tell 54 = .ok (.ireturn, 1) := by decide +kernel
set_option maxRecDepth 20000 in
theorem ggX1_learn_X4_read : GoodIn wsX1_learn wsX4_read := goodIn_r _ [10] (by decide +kernel) (by decide +kernel)
set_option maxRecDepth 20000 in
theorem gX1_learn_X4_read_n33 : GoodIn wsX1_learn (wsX4_read) := ggX1_learn_X4_read
set_option maxRecDepth 20000 in
theorem ggX1_learn_X4_write : GoodIn wsX1_learn wsX4_write := goodIn_r _ [12] (by decide +kernel) (by decide +kernel)
set_option maxRecDepth 20000 in
theorem gX1_learn_X4_write_n37 : GoodIn wsX1_learn (wsX4_write) := ggX1_learn_X4_write
theorem dX1_learn_0 : decode cX1_learn 0 = .ok (.iload_n 2, 1) := by decide +kernel
theorem dX1_learn_1 : decode cX1_learn 1 = .ok (.ifCond .eq 17, 3) := by decide +kernel
theorem dX1_learn_4 : decode cX1_learn 4 = .ok (.iconst 0, 1) := by decide +kernel
theorem dX1_learn_5 : decode cX1_learn 5 = .ok (.sipush 1000, 3) := by decide +kernel
theorem dX1_learn_8 : decode cX1_learn 8 = .ok (.iload_n 3, 1) := by decide +kernel
theorem dX1_learn_9 : decode cX1_learn 9 = .ok (.iconst 5, 1) := by decide +kernel
theorem dX1_learn_10 : decode cX1_learn 10 = .ok (.idiv, 1) := by decide +kernel
theorem dX1_learn_11 : decode cX1_learn 11 = .ok (.isub, 1) := by decide +kernel
theorem dX1_learn_12 : decode cX1_learn 12 = .ok (.invokestatic 9, 3) := by decide +kernel
theorem dX1_learn_15 : decode cX1_learn 15 = .ok (.goto 4, 3) := by decide +kernel
theorem dX1_learn_18 : decode cX1_learn 18 = .ok (.iconst 0, 1) := by decide +kernel
theorem dX1_learn_19 : decode cX1_learn 19 = .ok (.istore 4, 2) := by decide +kernel
theorem dX1_learn_21 : decode cX1_learn 21 = .ok (.aload_n 0, 1) := by decide +kernel
theorem dX1_learn_22 : decode cX1_learn 22 = .ok (.getfield 24, 3) := by decide +kernel
theorem dX1_learn_25 : decode cX1_learn 25 = .ok (.iload_n 1, 1) := by decide +kernel
theorem dX1_learn_26 : decode cX1_learn 26 = .ok (.invokestatic 33, 3) := by decide +kernel
theorem dX1_learn_29 : decode cX1_learn 29 = .ok (.istore 5, 2) := by decide +kernel
theorem dX1_learn_31 : decode cX1_learn 31 = .ok (.aload_n 0, 1) := by decide +kernel
theorem dX1_learn_32 : decode cX1_learn 32 = .ok (.getfield 15, 3) := by decide +kernel
theorem dX1_learn_35 : decode cX1_learn 35 = .ok (.iload_n 1, 1) := by decide +kernel
theorem dX1_learn_36 : decode cX1_learn 36 = .ok (.aload_n 0, 1) := by decide +kernel
theorem dX1_learn_37 : decode cX1_learn 37 = .ok (.getfield 15, 3) := by decide +kernel
theorem dX1_learn_40 : decode cX1_learn 40 = .ok (.iload_n 1, 1) := by decide +kernel
theorem dX1_learn_41 : decode cX1_learn 41 = .ok (.invokestatic 33, 3) := by decide +kernel
theorem dX1_learn_44 : decode cX1_learn 44 = .ok (.iconst 1, 1) := by decide +kernel
theorem dX1_learn_45 : decode cX1_learn 45 = .ok (.iadd, 1) := by decide +kernel
theorem dX1_learn_46 : decode cX1_learn 46 = .ok (.invokestatic 37, 3) := by decide +kernel
theorem dX1_learn_49 : decode cX1_learn 49 = .ok (.iload_n 2, 1) := by decide +kernel
theorem dX1_learn_50 : decode cX1_learn 50 = .ok (.ifCond .ne 21, 3) := by decide +kernel
theorem dX1_learn_53 : decode cX1_learn 53 = .ok (.aload_n 0, 1) := by decide +kernel
theorem dX1_learn_54 : decode cX1_learn 54 = .ok (.getfield 21, 3) := by decide +kernel
theorem dX1_learn_57 : decode cX1_learn 57 = .ok (.iload_n 1, 1) := by decide +kernel
theorem dX1_learn_58 : decode cX1_learn 58 = .ok (.aload_n 0, 1) := by decide +kernel
theorem dX1_learn_59 : decode cX1_learn 59 = .ok (.getfield 21, 3) := by decide +kernel
theorem dX1_learn_62 : decode cX1_learn 62 = .ok (.iload_n 1, 1) := by decide +kernel
theorem dX1_learn_63 : decode cX1_learn 63 = .ok (.invokestatic 33, 3) := by decide +kernel
theorem dX1_learn_66 : decode cX1_learn 66 = .ok (.iconst 1, 1) := by decide +kernel
theorem dX1_learn_67 : decode cX1_learn 67 = .ok (.iadd, 1) := by decide +kernel
theorem dX1_learn_68 : decode cX1_learn 68 = .ok (.invokestatic 37, 3) := by decide +kernel
theorem dX1_learn_71 : decode cX1_learn 71 = .ok (.aload_n 0, 1) := by decide +kernel
theorem dX1_learn_72 : decode cX1_learn 72 = .ok (.getfield 24, 3) := by decide +kernel
theorem dX1_learn_75 : decode cX1_learn 75 = .ok (.iload_n 1, 1) := by decide +kernel
theorem dX1_learn_76 : decode cX1_learn 76 = .ok (.iload 5, 2) := by decide +kernel
theorem dX1_learn_78 : decode cX1_learn 78 = .ok (.iload 4, 2) := by decide +kernel
theorem dX1_learn_80 : decode cX1_learn 80 = .ok (.iload 5, 2) := by decide +kernel
theorem dX1_learn_82 : decode cX1_learn 82 = .ok (.isub, 1) := by decide +kernel
theorem dX1_learn_83 : decode cX1_learn 83 = .ok (.iconst 4, 1) := by decide +kernel
theorem dX1_learn_84 : decode cX1_learn 84 = .ok (.idiv, 1) := by decide +kernel
theorem dX1_learn_85 : decode cX1_learn 85 = .ok (.iadd, 1) := by decide +kernel
theorem dX1_learn_86 : decode cX1_learn 86 = .ok (.invokestatic 37, 3) := by decide +kernel
theorem dX1_learn_89 : decode cX1_learn 89 = .ok (.return_, 1) := by decide +kernel
theorem dX2_init_0 : decode cX2_init 0 = .ok (.aload_n 0, 1) := by decide +kernel
theorem dX2_init_1 : decode cX2_init 1 = .ok (.invokespecial 3, 3) := by decide +kernel
theorem dX2_init_4 : decode cX2_init 4 = .ok (.aload_n 0, 1) := by decide +kernel
theorem dX2_init_5 : decode cX2_init 5 = .ok (.bipush 6, 2) := by decide +kernel
theorem dX2_init_7 : decode cX2_init 7 = .ok (.newarray .int, 2) := by decide +kernel
theorem dX2_init_9 : decode cX2_init 9 = .ok (.putfield 9, 3) := by decide +kernel
theorem dX2_init_12 : decode cX2_init 12 = .ok (.aload_n 0, 1) := by decide +kernel
theorem dX2_init_13 : decode cX2_init 13 = .ok (.bipush 48, 2) := by decide +kernel
theorem dX2_init_15 : decode cX2_init 15 = .ok (.newarray .int, 2) := by decide +kernel
theorem dX2_init_17 : decode cX2_init 17 = .ok (.putfield 15, 3) := by decide +kernel
theorem dX2_init_20 : decode cX2_init 20 = .ok (.aload_n 0, 1) := by decide +kernel
theorem dX2_init_21 : decode cX2_init 21 = .ok (.bipush 48, 2) := by decide +kernel
theorem dX2_init_23 : decode cX2_init 23 = .ok (.newarray .int, 2) := by decide +kernel
theorem dX2_init_25 : decode cX2_init 25 = .ok (.putfield 18, 3) := by decide +kernel
theorem dX2_init_28 : decode cX2_init 28 = .ok (.aload_n 0, 1) := by decide +kernel
theorem dX2_init_29 : decode cX2_init 29 = .ok (.bipush 26, 2) := by decide +kernel
theorem dX2_init_31 : decode cX2_init 31 = .ok (.newarray .int, 2) := by decide +kernel
theorem dX2_init_33 : decode cX2_init 33 = .ok (.putfield 21, 3) := by decide +kernel
theorem dX2_init_36 : decode cX2_init 36 = .ok (.aload_n 0, 1) := by decide +kernel
theorem dX2_init_37 : decode cX2_init 37 = .ok (.iconst 0, 1) := by decide +kernel
theorem dX2_init_38 : decode cX2_init 38 = .ok (.putfield 24, 3) := by decide +kernel
theorem dX2_init_41 : decode cX2_init 41 = .ok (.aload_n 0, 1) := by decide +kernel
theorem dX2_init_42 : decode cX2_init 42 = .ok (.iconst 0, 1) := by decide +kernel
theorem dX2_init_43 : decode cX2_init 43 = .ok (.putfield 28, 3) := by decide +kernel
theorem dX2_init_46 : decode cX2_init 46 = .ok (.aload_n 0, 1) := by decide +kernel
theorem dX2_init_47 : decode cX2_init 47 = .ok (.iconst 0, 1) := by decide +kernel
theorem dX2_init_48 : decode cX2_init 48 = .ok (.putfield 32, 3) := by decide +kernel
theorem dX2_init_51 : decode cX2_init 51 = .ok (.aload_n 0, 1) := by decide +kernel
theorem dX2_init_52 : decode cX2_init 52 = .ok (.iconst 0, 1) := by decide +kernel
theorem dX2_init_53 : decode cX2_init 53 = .ok (.putfield 35, 3) := by decide +kernel
theorem dX2_init_56 : decode cX2_init 56 = .ok (.aload_n 0, 1) := by decide +kernel
theorem dX2_init_57 : decode cX2_init 57 = .ok (.iconst 0, 1) := by decide +kernel
theorem dX2_init_58 : decode cX2_init 58 = .ok (.putfield 38, 3) := by decide +kernel
theorem dX2_init_61 : decode cX2_init 61 = .ok (.aload_n 0, 1) := by decide +kernel
theorem dX2_init_62 : decode cX2_init 62 = .ok (.iconst 0, 1) := by decide +kernel
theorem dX2_init_63 : decode cX2_init 63 = .ok (.putfield 41, 3) := by decide +kernel
theorem dX2_init_66 : decode cX2_init 66 = .ok (.aload_n 0, 1) := by decide +kernel
theorem dX2_init_67 : decode cX2_init 67 = .ok (.iconst 0, 1) := by decide +kernel
theorem dX2_init_68 : decode cX2_init 68 = .ok (.putfield 44, 3) := by decide +kernel
theorem dX2_init_71 : decode cX2_init 71 = .ok (.return_, 1) := by decide +kernel
theorem dX2_isRunning_0 : decode cX2_isRunning 0 = .ok (.aload_n 0, 1) := by decide +kernel
theorem dX2_isRunning_1 : decode cX2_isRunning 1 = .ok (.getfield 24, 3) := by decide +kernel
theorem dX2_isRunning_4 : decode cX2_isRunning 4 = .ok (.ireturn, 1) := by decide +kernel
theorem dX2_wordTotal_0 : decode cX2_wordTotal 0 = .ok (.aload_n 0, 1) := by decide +kernel
theorem dX2_wordTotal_1 : decode cX2_wordTotal 1 = .ok (.getfield 28, 3) := by decide +kernel
theorem dX2_wordTotal_4 : decode cX2_wordTotal 4 = .ok (.ireturn, 1) := by decide +kernel
theorem dX2_letterTotal_0 : decode cX2_letterTotal 0 = .ok (.aload_n 0, 1) := by decide +kernel
theorem dX2_letterTotal_1 : decode cX2_letterTotal 1 = .ok (.getfield 32, 3) := by decide +kernel
theorem dX2_letterTotal_4 : decode cX2_letterTotal 4 = .ok (.ireturn, 1) := by decide +kernel
theorem dX2_triedTotal_0 : decode cX2_triedTotal 0 = .ok (.aload_n 0, 1) := by decide +kernel
theorem dX2_triedTotal_1 : decode cX2_triedTotal 1 = .ok (.getfield 35, 3) := by decide +kernel
theorem dX2_triedTotal_4 : decode cX2_triedTotal 4 = .ok (.ireturn, 1) := by decide +kernel
theorem dX2_cleanTotal_0 : decode cX2_cleanTotal 0 = .ok (.aload_n 0, 1) := by decide +kernel
theorem dX2_cleanTotal_1 : decode cX2_cleanTotal 1 = .ok (.getfield 38, 3) := by decide +kernel
theorem dX2_cleanTotal_4 : decode cX2_cleanTotal 4 = .ok (.ireturn, 1) := by decide +kernel
theorem dX2_timeSum_0 : decode cX2_timeSum 0 = .ok (.aload_n 0, 1) := by decide +kernel
theorem dX2_timeSum_1 : decode cX2_timeSum 1 = .ok (.getfield 41, 3) := by decide +kernel
theorem dX2_timeSum_4 : decode cX2_timeSum 4 = .ok (.ireturn, 1) := by decide +kernel
theorem dX2_mistakesHere_0 : decode cX2_mistakesHere 0 = .ok (.aload_n 0, 1) := by decide +kernel
theorem dX2_mistakesHere_1 : decode cX2_mistakesHere 1 = .ok (.getfield 44, 3) := by decide +kernel
theorem dX2_mistakesHere_4 : decode cX2_mistakesHere 4 = .ok (.ireturn, 1) := by decide +kernel
set_option maxRecDepth 20000 in
theorem ggX2_numberAt_X4_read : GoodIn wsX2_numberAt wsX4_read := goodIn_r _ [4] (by decide +kernel) (by decide +kernel)
set_option maxRecDepth 20000 in
theorem gX2_numberAt_X4_read_n47 : GoodIn wsX2_numberAt (wsX4_read) := ggX2_numberAt_X4_read
theorem dX2_numberAt_0 : decode cX2_numberAt 0 = .ok (.aload_n 0, 1) := by decide +kernel
theorem dX2_numberAt_1 : decode cX2_numberAt 1 = .ok (.getfield 9, 3) := by decide +kernel
theorem dX2_numberAt_4 : decode cX2_numberAt 4 = .ok (.iload_n 1, 1) := by decide +kernel
theorem dX2_numberAt_5 : decode cX2_numberAt 5 = .ok (.invokestatic 47, 3) := by decide +kernel
theorem dX2_numberAt_8 : decode cX2_numberAt 8 = .ok (.ireturn, 1) := by decide +kernel
set_option maxRecDepth 20000 in
theorem ggX2_letterHere_X4_read : GoodIn wsX2_letterHere wsX4_read := goodIn_r _ [5] (by decide +kernel) (by decide +kernel)
set_option maxRecDepth 20000 in
theorem gX2_letterHere_X4_read_n47 : GoodIn wsX2_letterHere (wsX4_read) := ggX2_letterHere_X4_read
theorem dX2_letterHere_0 : decode cX2_letterHere 0 = .ok (.aload_n 0, 1) := by decide +kernel
theorem dX2_letterHere_1 : decode cX2_letterHere 1 = .ok (.getfield 15, 3) := by decide +kernel
theorem dX2_letterHere_4 : decode cX2_letterHere 4 = .ok (.aload_n 0, 1) := by decide +kernel
theorem dX2_letterHere_5 : decode cX2_letterHere 5 = .ok (.getfield 35, 3) := by decide +kernel
theorem dX2_letterHere_8 : decode cX2_letterHere 8 = .ok (.invokestatic 47, 3) := by decide +kernel
theorem dX2_letterHere_11 : decode cX2_letterHere 11 = .ok (.ireturn, 1) := by decide +kernel
set_option maxRecDepth 20000 in
theorem ggX2_letterBefore_X2_letterInSameWord : GoodIn wsX2_letterBefore wsX2_letterInSameWord := goodIn_r _ [6, 7, 8, 1, 9, 10, 11, 12, 13, 14, 15, 16, 17, 18, 19, 20, 21, 22, 23] (by decide +kernel) (by decide +kernel)
set_option maxRecDepth 20000 in
theorem gX2_letterBefore_X2_letterInSameWord : GoodIn wsX2_letterBefore (wsV RX2 51 RX2 yX2_letterInSameWord wsX2_letterInSameWord) := goodIn_app (goodIn_of _ (by decide +kernel)) ggX2_letterBefore_X2_letterInSameWord
theorem dX2_letterBefore_0 : decode cX2_letterBefore 0 = .ok (.aload_n 0, 1) := by decide +kernel
theorem dX2_letterBefore_1 : decode cX2_letterBefore 1 = .ok (.aload_n 0, 1) := by decide +kernel
theorem dX2_letterBefore_2 : decode cX2_letterBefore 2 = .ok (.getfield 35, 3) := by decide +kernel
theorem dX2_letterBefore_5 : decode cX2_letterBefore 5 = .ok (.iconst 1, 1) := by decide +kernel
theorem dX2_letterBefore_6 : decode cX2_letterBefore 6 = .ok (.isub, 1) := by decide +kernel
theorem dX2_letterBefore_7 : decode cX2_letterBefore 7 = .ok (.invokevirtual 51, 3) := by decide +kernel
theorem dX2_letterBefore_10 : decode cX2_letterBefore 10 = .ok (.ireturn, 1) := by decide +kernel
set_option maxRecDepth 20000 in
theorem ggX2_letterAfter_X2_letterInSameWord : GoodIn wsX2_letterAfter wsX2_letterInSameWord := goodIn_r _ [6, 7, 8, 1, 9, 10, 11, 12, 13, 14, 15, 16, 17, 18, 19, 20, 21, 22, 23] (by decide +kernel) (by decide +kernel)
set_option maxRecDepth 20000 in
theorem gX2_letterAfter_X2_letterInSameWord : GoodIn wsX2_letterAfter (wsV RX2 51 RX2 yX2_letterInSameWord wsX2_letterInSameWord) := goodIn_app (goodIn_of _ (by decide +kernel)) ggX2_letterAfter_X2_letterInSameWord
theorem dX2_letterAfter_0 : decode cX2_letterAfter 0 = .ok (.aload_n 0, 1) := by decide +kernel
theorem dX2_letterAfter_1 : decode cX2_letterAfter 1 = .ok (.aload_n 0, 1) := by decide +kernel
theorem dX2_letterAfter_2 : decode cX2_letterAfter 2 = .ok (.getfield 35, 3) := by decide +kernel
theorem dX2_letterAfter_5 : decode cX2_letterAfter 5 = .ok (.iconst 1, 1) := by decide +kernel
theorem dX2_letterAfter_6 : decode cX2_letterAfter 6 = .ok (.iadd, 1) := by decide +kernel
theorem dX2_letterAfter_7 : decode cX2_letterAfter 7 = .ok (.invokevirtual 51, 3) := by decide +kernel
theorem dX2_letterAfter_10 : decode cX2_letterAfter 10 = .ok (.ireturn, 1) := by decide +kernel
set_option maxRecDepth 20000 in
theorem ggX2_letterInSameWord_X4_read : GoodIn wsX2_letterInSameWord wsX4_read := goodIn_r _ [7] (by decide +kernel) (by decide +kernel)
set_option maxRecDepth 20000 in
theorem gX2_letterInSameWord_X4_read_n47 : GoodIn wsX2_letterInSameWord (wsX4_read) := ggX2_letterInSameWord_X4_read
theorem dX2_letterInSameWord_0 : decode cX2_letterInSameWord 0 = .ok (.iload_n 1, 1) := by decide +kernel
theorem dX2_letterInSameWord_1 : decode cX2_letterInSameWord 1 = .ok (.ifCond .lt 33, 3) := by decide +kernel
theorem dX2_letterInSameWord_4 : decode cX2_letterInSameWord 4 = .ok (.iload_n 1, 1) := by decide +kernel
theorem dX2_letterInSameWord_5 : decode cX2_letterInSameWord 5 = .ok (.aload_n 0, 1) := by decide +kernel
theorem dX2_letterInSameWord_6 : decode cX2_letterInSameWord 6 = .ok (.getfield 32, 3) := by decide +kernel
theorem dX2_letterInSameWord_9 : decode cX2_letterInSameWord 9 = .ok (.if_icmp .ge 25, 3) := by decide +kernel
theorem dX2_letterInSameWord_12 : decode cX2_letterInSameWord 12 = .ok (.aload_n 0, 1) := by decide +kernel
theorem dX2_letterInSameWord_13 : decode cX2_letterInSameWord 13 = .ok (.getfield 18, 3) := by decide +kernel
theorem dX2_letterInSameWord_16 : decode cX2_letterInSameWord 16 = .ok (.iload_n 1, 1) := by decide +kernel
theorem dX2_letterInSameWord_17 : decode cX2_letterInSameWord 17 = .ok (.invokestatic 47, 3) := by decide +kernel
theorem dX2_letterInSameWord_20 : decode cX2_letterInSameWord 20 = .ok (.aload_n 0, 1) := by decide +kernel
theorem dX2_letterInSameWord_21 : decode cX2_letterInSameWord 21 = .ok (.getfield 18, 3) := by decide +kernel
theorem dX2_letterInSameWord_24 : decode cX2_letterInSameWord 24 = .ok (.aload_n 0, 1) := by decide +kernel
theorem dX2_letterInSameWord_25 : decode cX2_letterInSameWord 25 = .ok (.getfield 35, 3) := by decide +kernel
theorem dX2_letterInSameWord_28 : decode cX2_letterInSameWord 28 = .ok (.invokestatic 47, 3) := by decide +kernel
theorem dX2_letterInSameWord_31 : decode cX2_letterInSameWord 31 = .ok (.if_icmp .eq 5, 3) := by decide +kernel
theorem dX2_letterInSameWord_34 : decode cX2_letterInSameWord 34 = .ok (.iconst (-1), 1) := by decide +kernel
theorem dX2_letterInSameWord_35 : decode cX2_letterInSameWord 35 = .ok (.ireturn, 1) := by decide +kernel
theorem dX2_letterInSameWord_36 : decode cX2_letterInSameWord 36 = .ok (.aload_n 0, 1) := by decide +kernel
theorem dX2_letterInSameWord_37 : decode cX2_letterInSameWord 37 = .ok (.getfield 15, 3) := by decide +kernel
theorem dX2_letterInSameWord_40 : decode cX2_letterInSameWord 40 = .ok (.iload_n 1, 1) := by decide +kernel
theorem dX2_letterInSameWord_41 : decode cX2_letterInSameWord 41 = .ok (.invokestatic 47, 3) := by decide +kernel
theorem dX2_letterInSameWord_44 : decode cX2_letterInSameWord 44 = .ok (.ireturn, 1) := by decide +kernel
set_option maxRecDepth 20000 in
theorem ggX2_hasWord_X4_read : GoodIn wsX2_hasWord wsX4_read := goodIn_r _ [5] (by decide +kernel) (by decide +kernel)
set_option maxRecDepth 20000 in
theorem gX2_hasWord_X4_read_n47 : GoodIn wsX2_hasWord (wsX4_read) := ggX2_hasWord_X4_read
theorem dX2_hasWord_0 : decode cX2_hasWord 0 = .ok (.iconst 0, 1) := by decide +kernel
theorem dX2_hasWord_1 : decode cX2_hasWord 1 = .ok (.istore_n 2, 1) := by decide +kernel
theorem dX2_hasWord_2 : decode cX2_hasWord 2 = .ok (.iload_n 2, 1) := by decide +kernel
theorem dX2_hasWord_3 : decode cX2_hasWord 3 = .ok (.aload_n 0, 1) := by decide +kernel
theorem dX2_hasWord_4 : decode cX2_hasWord 4 = .ok (.getfield 28, 3) := by decide +kernel
theorem dX2_hasWord_7 : decode cX2_hasWord 7 = .ok (.if_icmp .ge 23, 3) := by decide +kernel
theorem dX2_hasWord_10 : decode cX2_hasWord 10 = .ok (.aload_n 0, 1) := by decide +kernel
theorem dX2_hasWord_11 : decode cX2_hasWord 11 = .ok (.getfield 9, 3) := by decide +kernel
theorem dX2_hasWord_14 : decode cX2_hasWord 14 = .ok (.iload_n 2, 1) := by decide +kernel
theorem dX2_hasWord_15 : decode cX2_hasWord 15 = .ok (.invokestatic 47, 3) := by decide +kernel
theorem dX2_hasWord_18 : decode cX2_hasWord 18 = .ok (.iload_n 1, 1) := by decide +kernel
theorem dX2_hasWord_19 : decode cX2_hasWord 19 = .ok (.if_icmp .ne 5, 3) := by decide +kernel
theorem dX2_hasWord_22 : decode cX2_hasWord 22 = .ok (.iconst 1, 1) := by decide +kernel
theorem dX2_hasWord_23 : decode cX2_hasWord 23 = .ok (.ireturn, 1) := by decide +kernel
theorem dX2_hasWord_24 : decode cX2_hasWord 24 = .ok (.iinc 2 1, 3) := by decide +kernel
theorem dX2_hasWord_27 : decode cX2_hasWord 27 = .ok (.goto (-25), 3) := by decide +kernel
theorem dX2_hasWord_30 : decode cX2_hasWord 30 = .ok (.iconst 0, 1) := by decide +kernel
theorem dX2_hasWord_31 : decode cX2_hasWord 31 = .ok (.ireturn, 1) := by decide +kernel
set_option maxRecDepth 20000 in
theorem ggX2_hasPair_X4_read : GoodIn wsX2_hasPair wsX4_read := goodIn_r _ [4] (by decide +kernel) (by decide +kernel)
set_option maxRecDepth 20000 in
theorem gX2_hasPair_X4_read_n47 : GoodIn wsX2_hasPair (wsX4_read) := ggX2_hasPair_X4_read
theorem dX2_hasPair_0 : decode cX2_hasPair 0 = .ok (.aload_n 0, 1) := by decide +kernel
theorem dX2_hasPair_1 : decode cX2_hasPair 1 = .ok (.getfield 21, 3) := by decide +kernel
theorem dX2_hasPair_4 : decode cX2_hasPair 4 = .ok (.iload_n 1, 1) := by decide +kernel
theorem dX2_hasPair_5 : decode cX2_hasPair 5 = .ok (.invokestatic 47, 3) := by decide +kernel
theorem dX2_hasPair_8 : decode cX2_hasPair 8 = .ok (.iconst 1, 1) := by decide +kernel
theorem dX2_hasPair_9 : decode cX2_hasPair 9 = .ok (.iload_n 2, 1) := by decide +kernel
theorem dX2_hasPair_10 : decode cX2_hasPair 10 = .ok (.ishl, 1) := by decide +kernel
theorem dX2_hasPair_11 : decode cX2_hasPair 11 = .ok (.iand, 1) := by decide +kernel
theorem dX2_hasPair_12 : decode cX2_hasPair 12 = .ok (.ifCond .eq 7, 3) := by decide +kernel
theorem dX2_hasPair_15 : decode cX2_hasPair 15 = .ok (.iconst 1, 1) := by decide +kernel
theorem dX2_hasPair_16 : decode cX2_hasPair 16 = .ok (.goto 4, 3) := by decide +kernel
theorem dX2_hasPair_19 : decode cX2_hasPair 19 = .ok (.iconst 0, 1) := by decide +kernel
theorem dX2_hasPair_20 : decode cX2_hasPair 20 = .ok (.ireturn, 1) := by decide +kernel
set_option maxRecDepth 20000 in
theorem ggX2_start_J7_fill_53178 : GoodIn wsX2_start wsJ7_fill_53178 := goodIn_r _ [12] (by decide +kernel) (by decide +kernel)
set_option maxRecDepth 20000 in
theorem gX2_start_J7_fill_53178 : GoodIn wsX2_start (va_wsS RX2 55 yJ7_fill_53178 wsJ7_fill_53178) := goodIn_app (goodIn_of _ (by decide +kernel)) ggX2_start_J7_fill_53178
theorem dX2_start_0 : decode cX2_start 0 = .ok (.aload_n 0, 1) := by decide +kernel
theorem dX2_start_1 : decode cX2_start 1 = .ok (.getfield 21, 3) := by decide +kernel
theorem dX2_start_4 : decode cX2_start 4 = .ok (.iconst 0, 1) := by decide +kernel
theorem dX2_start_5 : decode cX2_start 5 = .ok (.invokestatic 55, 3) := by decide +kernel
theorem dX2_start_8 : decode cX2_start 8 = .ok (.aload_n 0, 1) := by decide +kernel
theorem dX2_start_9 : decode cX2_start 9 = .ok (.iconst 1, 1) := by decide +kernel
theorem dX2_start_10 : decode cX2_start 10 = .ok (.putfield 24, 3) := by decide +kernel
theorem dX2_start_13 : decode cX2_start 13 = .ok (.aload_n 0, 1) := by decide +kernel
theorem dX2_start_14 : decode cX2_start 14 = .ok (.iconst 0, 1) := by decide +kernel
theorem dX2_start_15 : decode cX2_start 15 = .ok (.putfield 28, 3) := by decide +kernel
theorem dX2_start_18 : decode cX2_start 18 = .ok (.aload_n 0, 1) := by decide +kernel
theorem dX2_start_19 : decode cX2_start 19 = .ok (.iconst 0, 1) := by decide +kernel
theorem dX2_start_20 : decode cX2_start 20 = .ok (.putfield 32, 3) := by decide +kernel
theorem dX2_start_23 : decode cX2_start 23 = .ok (.aload_n 0, 1) := by decide +kernel
theorem dX2_start_24 : decode cX2_start 24 = .ok (.iconst 0, 1) := by decide +kernel
theorem dX2_start_25 : decode cX2_start 25 = .ok (.putfield 35, 3) := by decide +kernel
theorem dX2_start_28 : decode cX2_start 28 = .ok (.aload_n 0, 1) := by decide +kernel
theorem dX2_start_29 : decode cX2_start 29 = .ok (.iconst 0, 1) := by decide +kernel
theorem dX2_start_30 : decode cX2_start 30 = .ok (.putfield 38, 3) := by decide +kernel
theorem dX2_start_33 : decode cX2_start 33 = .ok (.aload_n 0, 1) := by decide +kernel
theorem dX2_start_34 : decode cX2_start 34 = .ok (.iconst 0, 1) := by decide +kernel
theorem dX2_start_35 : decode cX2_start 35 = .ok (.putfield 41, 3) := by decide +kernel
theorem dX2_start_38 : decode cX2_start 38 = .ok (.aload_n 0, 1) := by decide +kernel
theorem dX2_start_39 : decode cX2_start 39 = .ok (.iconst 0, 1) := by decide +kernel
theorem dX2_start_40 : decode cX2_start 40 = .ok (.putfield 44, 3) := by decide +kernel
theorem dX2_start_43 : decode cX2_start 43 = .ok (.return_, 1) := by decide +kernel
set_option maxRecDepth 20000 in
theorem ggX2_append_X4_lengthOf : GoodIn wsX2_append wsX4_lengthOf := goodIn_r _ [9] (by decide +kernel) (by decide +kernel)
set_option maxRecDepth 20000 in
theorem gX2_append_X4_lengthOf_n61 : GoodIn wsX2_append (wsX4_lengthOf) := ggX2_append_X4_lengthOf
set_option maxRecDepth 20000 in
theorem ggX2_append_X4_letterOf : GoodIn wsX2_append wsX4_letterOf := goodIn_r _ [11, 12] (by decide +kernel) (by decide +kernel)
set_option maxRecDepth 20000 in
theorem gX2_append_X4_letterOf_n65 : GoodIn wsX2_append (wsX4_letterOf) := ggX2_append_X4_letterOf
set_option maxRecDepth 20000 in
theorem ggX2_append_X4_read : GoodIn wsX2_append wsX4_read := goodIn_r _ [14] (by decide +kernel) (by decide +kernel)
set_option maxRecDepth 20000 in
theorem gX2_append_X4_read_n47 : GoodIn wsX2_append (wsX4_read) := ggX2_append_X4_read
set_option maxRecDepth 20000 in
theorem ggX2_append_X4_write : GoodIn wsX2_append wsX4_write := goodIn_r _ [16] (by decide +kernel) (by decide +kernel)
set_option maxRecDepth 20000 in
theorem gX2_append_X4_write_n69 : GoodIn wsX2_append (wsX4_write) := ggX2_append_X4_write
theorem dX2_append_0 : decode cX2_append 0 = .ok (.lload_n 2, 1) := by decide +kernel
theorem dX2_append_1 : decode cX2_append 1 = .ok (.invokestatic 61, 3) := by decide +kernel
theorem dX2_append_4 : decode cX2_append 4 = .ok (.istore 4, 2) := by decide +kernel
theorem dX2_append_6 : decode cX2_append 6 = .ok (.iconst 0, 1) := by decide +kernel
theorem dX2_append_7 : decode cX2_append 7 = .ok (.istore 5, 2) := by decide +kernel
theorem dX2_append_9 : decode cX2_append 9 = .ok (.iload 5, 2) := by decide +kernel
theorem dX2_append_11 : decode cX2_append 11 = .ok (.iload 4, 2) := by decide +kernel
theorem dX2_append_13 : decode cX2_append 13 = .ok (.if_icmp .ge 97, 3) := by decide +kernel
theorem dX2_append_16 : decode cX2_append 16 = .ok (.lload_n 2, 1) := by decide +kernel
theorem dX2_append_17 : decode cX2_append 17 = .ok (.iload 4, 2) := by decide +kernel
theorem dX2_append_19 : decode cX2_append 19 = .ok (.iload 5, 2) := by decide +kernel
theorem dX2_append_21 : decode cX2_append 21 = .ok (.invokestatic 65, 3) := by decide +kernel
theorem dX2_append_24 : decode cX2_append 24 = .ok (.istore 6, 2) := by decide +kernel
theorem dX2_append_26 : decode cX2_append 26 = .ok (.iload 5, 2) := by decide +kernel
theorem dX2_append_28 : decode cX2_append 28 = .ok (.ifCond .le 38, 3) := by decide +kernel
theorem dX2_append_31 : decode cX2_append 31 = .ok (.lload_n 2, 1) := by decide +kernel
theorem dX2_append_32 : decode cX2_append 32 = .ok (.iload 4, 2) := by decide +kernel
theorem dX2_append_34 : decode cX2_append 34 = .ok (.iload 5, 2) := by decide +kernel
theorem dX2_append_36 : decode cX2_append 36 = .ok (.iconst 1, 1) := by decide +kernel
theorem dX2_append_37 : decode cX2_append 37 = .ok (.isub, 1) := by decide +kernel
theorem dX2_append_38 : decode cX2_append 38 = .ok (.invokestatic 65, 3) := by decide +kernel
theorem dX2_append_41 : decode cX2_append 41 = .ok (.istore 7, 2) := by decide +kernel
theorem dX2_append_43 : decode cX2_append 43 = .ok (.aload_n 0, 1) := by decide +kernel
theorem dX2_append_44 : decode cX2_append 44 = .ok (.getfield 21, 3) := by decide +kernel
theorem dX2_append_47 : decode cX2_append 47 = .ok (.iload 7, 2) := by decide +kernel
theorem dX2_append_49 : decode cX2_append 49 = .ok (.aload_n 0, 1) := by decide +kernel
theorem dX2_append_50 : decode cX2_append 50 = .ok (.getfield 21, 3) := by decide +kernel
theorem dX2_append_53 : decode cX2_append 53 = .ok (.iload 7, 2) := by decide +kernel
theorem dX2_append_55 : decode cX2_append 55 = .ok (.invokestatic 47, 3) := by decide +kernel
theorem dX2_append_58 : decode cX2_append 58 = .ok (.iconst 1, 1) := by decide +kernel
theorem dX2_append_59 : decode cX2_append 59 = .ok (.iload 6, 2) := by decide +kernel
theorem dX2_append_61 : decode cX2_append 61 = .ok (.ishl, 1) := by decide +kernel
theorem dX2_append_62 : decode cX2_append 62 = .ok (.ior, 1) := by decide +kernel
theorem dX2_append_63 : decode cX2_append 63 = .ok (.invokestatic 69, 3) := by decide +kernel
theorem dX2_append_66 : decode cX2_append 66 = .ok (.aload_n 0, 1) := by decide +kernel
theorem dX2_append_67 : decode cX2_append 67 = .ok (.getfield 15, 3) := by decide +kernel
theorem dX2_append_70 : decode cX2_append 70 = .ok (.aload_n 0, 1) := by decide +kernel
theorem dX2_append_71 : decode cX2_append 71 = .ok (.getfield 32, 3) := by decide +kernel
theorem dX2_append_74 : decode cX2_append 74 = .ok (.iload 6, 2) := by decide +kernel
theorem dX2_append_76 : decode cX2_append 76 = .ok (.invokestatic 69, 3) := by decide +kernel
theorem dX2_append_79 : decode cX2_append 79 = .ok (.aload_n 0, 1) := by decide +kernel
theorem dX2_append_80 : decode cX2_append 80 = .ok (.getfield 18, 3) := by decide +kernel
theorem dX2_append_83 : decode cX2_append 83 = .ok (.aload_n 0, 1) := by decide +kernel
theorem dX2_append_84 : decode cX2_append 84 = .ok (.getfield 32, 3) := by decide +kernel
theorem dX2_append_87 : decode cX2_append 87 = .ok (.aload_n 0, 1) := by decide +kernel
theorem dX2_append_88 : decode cX2_append 88 = .ok (.getfield 28, 3) := by decide +kernel
theorem dX2_append_91 : decode cX2_append 91 = .ok (.invokestatic 69, 3) := by decide +kernel
theorem dX2_append_94 : decode cX2_append 94 = .ok (.aload_n 0, 1) := by decide +kernel
theorem dX2_append_95 : decode cX2_append 95 = .ok (.dup, 1) := by decide +kernel
theorem dX2_append_96 : decode cX2_append 96 = .ok (.getfield 32, 3) := by decide +kernel
theorem dX2_append_99 : decode cX2_append 99 = .ok (.iconst 1, 1) := by decide +kernel
theorem dX2_append_100 : decode cX2_append 100 = .ok (.iadd, 1) := by decide +kernel
theorem dX2_append_101 : decode cX2_append 101 = .ok (.putfield 32, 3) := by decide +kernel
theorem dX2_append_104 : decode cX2_append 104 = .ok (.iinc 5 1, 3) := by decide +kernel
theorem dX2_append_107 : decode cX2_append 107 = .ok (.goto (-98), 3) := by decide +kernel
theorem dX2_append_110 : decode cX2_append 110 = .ok (.aload_n 0, 1) := by decide +kernel
theorem dX2_append_111 : decode cX2_append 111 = .ok (.getfield 9, 3) := by decide +kernel
theorem dX2_append_114 : decode cX2_append 114 = .ok (.aload_n 0, 1) := by decide +kernel
theorem dX2_append_115 : decode cX2_append 115 = .ok (.getfield 28, 3) := by decide +kernel
theorem dX2_append_118 : decode cX2_append 118 = .ok (.iload_n 1, 1) := by decide +kernel
theorem dX2_append_119 : decode cX2_append 119 = .ok (.invokestatic 69, 3) := by decide +kernel
theorem dX2_append_122 : decode cX2_append 122 = .ok (.aload_n 0, 1) := by decide +kernel
theorem dX2_append_123 : decode cX2_append 123 = .ok (.dup, 1) := by decide +kernel
theorem dX2_append_124 : decode cX2_append 124 = .ok (.getfield 28, 3) := by decide +kernel
theorem dX2_append_127 : decode cX2_append 127 = .ok (.iconst 1, 1) := by decide +kernel
theorem dX2_append_128 : decode cX2_append 128 = .ok (.iadd, 1) := by decide +kernel
theorem dX2_append_129 : decode cX2_append 129 = .ok (.putfield 28, 3) := by decide +kernel
theorem dX2_append_132 : decode cX2_append 132 = .ok (.return_, 1) := by decide +kernel
theorem dX2_noteStroke_0 : decode cX2_noteStroke 0 = .ok (.aload_n 0, 1) := by decide +kernel
theorem dX2_noteStroke_1 : decode cX2_noteStroke 1 = .ok (.dup, 1) := by decide +kernel
theorem dX2_noteStroke_2 : decode cX2_noteStroke 2 = .ok (.getfield 41, 3) := by decide +kernel
theorem dX2_noteStroke_5 : decode cX2_noteStroke 5 = .ok (.iload_n 2, 1) := by decide +kernel
theorem dX2_noteStroke_6 : decode cX2_noteStroke 6 = .ok (.iadd, 1) := by decide +kernel
theorem dX2_noteStroke_7 : decode cX2_noteStroke 7 = .ok (.putfield 41, 3) := by decide +kernel
theorem dX2_noteStroke_10 : decode cX2_noteStroke 10 = .ok (.iload_n 1, 1) := by decide +kernel
theorem dX2_noteStroke_11 : decode cX2_noteStroke 11 = .ok (.ifCond .eq 13, 3) := by decide +kernel
theorem dX2_noteStroke_14 : decode cX2_noteStroke 14 = .ok (.aload_n 0, 1) := by decide +kernel
theorem dX2_noteStroke_15 : decode cX2_noteStroke 15 = .ok (.dup, 1) := by decide +kernel
theorem dX2_noteStroke_16 : decode cX2_noteStroke 16 = .ok (.getfield 44, 3) := by decide +kernel
theorem dX2_noteStroke_19 : decode cX2_noteStroke 19 = .ok (.iconst 1, 1) := by decide +kernel
theorem dX2_noteStroke_20 : decode cX2_noteStroke 20 = .ok (.iadd, 1) := by decide +kernel
theorem dX2_noteStroke_21 : decode cX2_noteStroke 21 = .ok (.putfield 44, 3) := by decide +kernel
theorem dX2_noteStroke_24 : decode cX2_noteStroke 24 = .ok (.return_, 1) := by decide +kernel
theorem dX2_goOn_0 : decode cX2_goOn 0 = .ok (.aload_n 0, 1) := by decide +kernel
theorem dX2_goOn_1 : decode cX2_goOn 1 = .ok (.dup, 1) := by decide +kernel
theorem dX2_goOn_2 : decode cX2_goOn 2 = .ok (.getfield 35, 3) := by decide +kernel
theorem dX2_goOn_5 : decode cX2_goOn 5 = .ok (.iconst 1, 1) := by decide +kernel
theorem dX2_goOn_6 : decode cX2_goOn 6 = .ok (.iadd, 1) := by decide +kernel
theorem dX2_goOn_7 : decode cX2_goOn 7 = .ok (.putfield 35, 3) := by decide +kernel
theorem dX2_goOn_10 : decode cX2_goOn 10 = .ok (.aload_n 0, 1) := by decide +kernel
theorem dX2_goOn_11 : decode cX2_goOn 11 = .ok (.iconst 0, 1) := by decide +kernel
theorem dX2_goOn_12 : decode cX2_goOn 12 = .ok (.putfield 44, 3) := by decide +kernel
theorem dX2_goOn_15 : decode cX2_goOn 15 = .ok (.iload_n 1, 1) := by decide +kernel
theorem dX2_goOn_16 : decode cX2_goOn 16 = .ok (.ifCond .eq 13, 3) := by decide +kernel
theorem dX2_goOn_19 : decode cX2_goOn 19 = .ok (.aload_n 0, 1) := by decide +kernel
theorem dX2_goOn_20 : decode cX2_goOn 20 = .ok (.dup, 1) := by decide +kernel
theorem dX2_goOn_21 : decode cX2_goOn 21 = .ok (.getfield 38, 3) := by decide +kernel
theorem dX2_goOn_24 : decode cX2_goOn 24 = .ok (.iconst 1, 1) := by decide +kernel
theorem dX2_goOn_25 : decode cX2_goOn 25 = .ok (.iadd, 1) := by decide +kernel
theorem dX2_goOn_26 : decode cX2_goOn 26 = .ok (.putfield 38, 3) := by decide +kernel
theorem dX2_goOn_29 : decode cX2_goOn 29 = .ok (.return_, 1) := by decide +kernel
theorem dX2_stop_0 : decode cX2_stop 0 = .ok (.aload_n 0, 1) := by decide +kernel
theorem dX2_stop_1 : decode cX2_stop 1 = .ok (.iconst 0, 1) := by decide +kernel
theorem dX2_stop_2 : decode cX2_stop 2 = .ok (.putfield 24, 3) := by decide +kernel
theorem dX2_stop_5 : decode cX2_stop 5 = .ok (.return_, 1) := by decide +kernel
theorem dX3_init_0 : decode cX3_init 0 = .ok (.aload_n 0, 1) := by decide +kernel
theorem dX3_init_1 : decode cX3_init 1 = .ok (.invokespecial 3, 3) := by decide +kernel
theorem dX3_init_4 : decode cX3_init 4 = .ok (.aload_n 0, 1) := by decide +kernel
theorem dX3_init_5 : decode cX3_init 5 = .ok (.bipush 40, 2) := by decide +kernel
theorem dX3_init_7 : decode cX3_init 7 = .ok (.newarray .long, 2) := by decide +kernel
theorem dX3_init_9 : decode cX3_init 9 = .ok (.putfield 9, 3) := by decide +kernel
theorem dX3_init_12 : decode cX3_init 12 = .ok (.aload_n 0, 1) := by decide +kernel
theorem dX3_init_13 : decode cX3_init 13 = .ok (.iconst 0, 1) := by decide +kernel
theorem dX3_init_14 : decode cX3_init 14 = .ok (.putfield 15, 3) := by decide +kernel
theorem dX3_init_17 : decode cX3_init 17 = .ok (.return_, 1) := by decide +kernel
theorem dX3_size_0 : decode cX3_size 0 = .ok (.aload_n 0, 1) := by decide +kernel
theorem dX3_size_1 : decode cX3_size 1 = .ok (.getfield 15, 3) := by decide +kernel
theorem dX3_size_4 : decode cX3_size 4 = .ok (.ireturn, 1) := by decide +kernel
theorem dX3_isFull_0 : decode cX3_isFull 0 = .ok (.aload_n 0, 1) := by decide +kernel
theorem dX3_isFull_1 : decode cX3_isFull 1 = .ok (.getfield 15, 3) := by decide +kernel
theorem dX3_isFull_4 : decode cX3_isFull 4 = .ok (.aload_n 0, 1) := by decide +kernel
theorem dX3_isFull_5 : decode cX3_isFull 5 = .ok (.getfield 9, 3) := by decide +kernel
theorem dX3_isFull_8 : decode cX3_isFull 8 = .ok (.arraylength, 1) := by decide +kernel
theorem dX3_isFull_9 : decode cX3_isFull 9 = .ok (.if_icmp .lt 7, 3) := by decide +kernel
theorem dX3_isFull_12 : decode cX3_isFull 12 = .ok (.iconst 1, 1) := by decide +kernel
theorem dX3_isFull_13 : decode cX3_isFull 13 = .ok (.goto 4, 3) := by decide +kernel
theorem dX3_isFull_16 : decode cX3_isFull 16 = .ok (.iconst 0, 1) := by decide +kernel
theorem dX3_isFull_17 : decode cX3_isFull 17 = .ok (.ireturn, 1) := by decide +kernel
theorem dX3_hasNumber_0 : decode cX3_hasNumber 0 = .ok (.iload_n 1, 1) := by decide +kernel
theorem dX3_hasNumber_1 : decode cX3_hasNumber 1 = .ok (.ifCond .lt 15, 3) := by decide +kernel
theorem dX3_hasNumber_4 : decode cX3_hasNumber 4 = .ok (.iload_n 1, 1) := by decide +kernel
theorem dX3_hasNumber_5 : decode cX3_hasNumber 5 = .ok (.aload_n 0, 1) := by decide +kernel
theorem dX3_hasNumber_6 : decode cX3_hasNumber 6 = .ok (.getfield 15, 3) := by decide +kernel
theorem dX3_hasNumber_9 : decode cX3_hasNumber 9 = .ok (.if_icmp .ge 7, 3) := by decide +kernel
theorem dX3_hasNumber_12 : decode cX3_hasNumber 12 = .ok (.iconst 1, 1) := by decide +kernel
theorem dX3_hasNumber_13 : decode cX3_hasNumber 13 = .ok (.goto 4, 3) := by decide +kernel
theorem dX3_hasNumber_16 : decode cX3_hasNumber 16 = .ok (.iconst 0, 1) := by decide +kernel
theorem dX3_hasNumber_17 : decode cX3_hasNumber 17 = .ok (.ireturn, 1) := by decide +kernel
set_option maxRecDepth 20000 in
theorem ggX3_holds_X3_wordAt : GoodIn wsX3_holds wsX3_wordAt := goodIn_r _ [6, 7, 8, 9] (by decide +kernel) (by decide +kernel)
set_option maxRecDepth 20000 in
theorem gX3_holds_X3_wordAt : GoodIn wsX3_holds (wsV RX3 19 RX3 yX3_wordAt wsX3_wordAt) := goodIn_app (goodIn_of _ (by decide +kernel)) ggX3_holds_X3_wordAt
theorem dX3_holds_0 : decode cX3_holds 0 = .ok (.iconst 0, 1) := by decide +kernel
theorem dX3_holds_1 : decode cX3_holds 1 = .ok (.istore_n 3, 1) := by decide +kernel
theorem dX3_holds_2 : decode cX3_holds 2 = .ok (.iload_n 3, 1) := by decide +kernel
theorem dX3_holds_3 : decode cX3_holds 3 = .ok (.aload_n 0, 1) := by decide +kernel
theorem dX3_holds_4 : decode cX3_holds 4 = .ok (.getfield 15, 3) := by decide +kernel
theorem dX3_holds_7 : decode cX3_holds 7 = .ok (.if_icmp .ge 21, 3) := by decide +kernel
theorem dX3_holds_10 : decode cX3_holds 10 = .ok (.aload_n 0, 1) := by decide +kernel
theorem dX3_holds_11 : decode cX3_holds 11 = .ok (.iload_n 3, 1) := by decide +kernel
theorem dX3_holds_12 : decode cX3_holds 12 = .ok (.invokevirtual 19, 3) := by decide +kernel
theorem dX3_holds_15 : decode cX3_holds 15 = .ok (.lload_n 1, 1) := by decide +kernel
theorem dX3_holds_16 : decode cX3_holds 16 = .ok (.lcmp, 1) := by decide +kernel
theorem dX3_holds_17 : decode cX3_holds 17 = .ok (.ifCond .ne 5, 3) := by decide +kernel
theorem dX3_holds_20 : decode cX3_holds 20 = .ok (.iconst 1, 1) := by decide +kernel
theorem dX3_holds_21 : decode cX3_holds 21 = .ok (.ireturn, 1) := by decide +kernel
theorem dX3_holds_22 : decode cX3_holds 22 = .ok (.iinc 3 1, 3) := by decide +kernel
theorem dX3_holds_25 : decode cX3_holds 25 = .ok (.goto (-23), 3) := by decide +kernel
theorem dX3_holds_28 : decode cX3_holds 28 = .ok (.iconst 0, 1) := by decide +kernel
theorem dX3_holds_29 : decode cX3_holds 29 = .ok (.ireturn, 1) := by decide +kernel
theorem dX3_wordAt_0 : decode cX3_wordAt 0 = .ok (.iload_n 1, 1) := by decide +kernel
theorem dX3_wordAt_1 : decode cX3_wordAt 1 = .ok (.ifCond .lt 21, 3) := by decide +kernel
theorem dX3_wordAt_4 : decode cX3_wordAt 4 = .ok (.iload_n 1, 1) := by decide +kernel
theorem dX3_wordAt_5 : decode cX3_wordAt 5 = .ok (.aload_n 0, 1) := by decide +kernel
theorem dX3_wordAt_6 : decode cX3_wordAt 6 = .ok (.getfield 9, 3) := by decide +kernel
theorem dX3_wordAt_9 : decode cX3_wordAt 9 = .ok (.arraylength, 1) := by decide +kernel
theorem dX3_wordAt_10 : decode cX3_wordAt 10 = .ok (.if_icmp .ge 12, 3) := by decide +kernel
theorem dX3_wordAt_13 : decode cX3_wordAt 13 = .ok (.aload_n 0, 1) := by decide +kernel
theorem dX3_wordAt_14 : decode cX3_wordAt 14 = .ok (.getfield 9, 3) := by decide +kernel
theorem dX3_wordAt_17 : decode cX3_wordAt 17 = .ok (.iload_n 1, 1) := by decide +kernel
theorem dX3_wordAt_18 : decode cX3_wordAt 18 = .ok (.laload, 1) := by decide +kernel
theorem dX3_wordAt_19 : decode cX3_wordAt 19 = .ok (.goto 4, 3) := by decide +kernel
theorem dX3_wordAt_22 : decode cX3_wordAt 22 = .ok (.lconst 0, 1) := by decide +kernel
theorem dX3_wordAt_23 : decode cX3_wordAt 23 = .ok (.lreturn, 1) := by decide +kernel
theorem dX3_append_0 : decode cX3_append 0 = .ok (.aload_n 0, 1) := by decide +kernel
theorem dX3_append_1 : decode cX3_append 1 = .ok (.getfield 15, 3) := by decide +kernel
theorem dX3_append_4 : decode cX3_append 4 = .ok (.ifCond .lt 15, 3) := by decide +kernel
theorem dX3_append_7 : decode cX3_append 7 = .ok (.aload_n 0, 1) := by decide +kernel
theorem dX3_append_8 : decode cX3_append 8 = .ok (.getfield 15, 3) := by decide +kernel
theorem dX3_append_11 : decode cX3_append 11 = .ok (.aload_n 0, 1) := by decide +kernel
theorem dX3_append_12 : decode cX3_append 12 = .ok (.getfield 9, 3) := by decide +kernel
theorem dX3_append_15 : decode cX3_append 15 = .ok (.arraylength, 1) := by decide +kernel
theorem dX3_append_16 : decode cX3_append 16 = .ok (.if_icmp .lt 5, 3) := by decide +kernel
theorem dX3_append_19 : decode cX3_append 19 = .ok (.iconst (-1), 1) := by decide +kernel
theorem dX3_append_20 : decode cX3_append 20 = .ok (.ireturn, 1) := by decide +kernel
theorem dX3_append_21 : decode cX3_append 21 = .ok (.aload_n 0, 1) := by decide +kernel
theorem dX3_append_22 : decode cX3_append 22 = .ok (.getfield 9, 3) := by decide +kernel
theorem dX3_append_25 : decode cX3_append 25 = .ok (.aload_n 0, 1) := by decide +kernel
theorem dX3_append_26 : decode cX3_append 26 = .ok (.getfield 15, 3) := by decide +kernel
theorem dX3_append_29 : decode cX3_append 29 = .ok (.lload_n 1, 1) := by decide +kernel
theorem dX3_append_30 : decode cX3_append 30 = .ok (.lastore, 1) := by decide +kernel
theorem dX3_append_31 : decode cX3_append 31 = .ok (.aload_n 0, 1) := by decide +kernel
theorem dX3_append_32 : decode cX3_append 32 = .ok (.dup, 1) := by decide +kernel
theorem dX3_append_33 : decode cX3_append 33 = .ok (.getfield 15, 3) := by decide +kernel
theorem dX3_append_36 : decode cX3_append 36 = .ok (.iconst 1, 1) := by decide +kernel
theorem dX3_append_37 : decode cX3_append 37 = .ok (.iadd, 1) := by decide +kernel
theorem dX3_append_38 : decode cX3_append 38 = .ok (.putfield 15, 3) := by decide +kernel
theorem dX3_append_41 : decode cX3_append 41 = .ok (.aload_n 0, 1) := by decide +kernel
theorem dX3_append_42 : decode cX3_append 42 = .ok (.getfield 15, 3) := by decide +kernel
theorem dX3_append_45 : decode cX3_append 45 = .ok (.iconst 1, 1) := by decide +kernel
theorem dX3_append_46 : decode cX3_append 46 = .ok (.isub, 1) := by decide +kernel
theorem dX3_append_47 : decode cX3_append 47 = .ok (.ireturn, 1) := by decide +kernel
set_option maxRecDepth 20000 in
theorem ggX4_init_X3_init : GoodIn wsX4_init wsX3_init := goodIn_r _ [24, 25, 2, 3, 26, 27, 28, 68, 69] (by decide +kernel) (by decide +kernel)
set_option maxRecDepth 20000 in
theorem gX4_init_X3_init_n11 : GoodIn wsX4_init (wsX3_init) := ggX4_init_X3_init
set_option maxRecDepth 20000 in
theorem ggX4_init_X1_init : GoodIn wsX4_init wsX1_init := goodIn_r _ [31, 32, 2, 3, 33, 34, 35, 36, 21, 37, 38, 39, 40, 41, 42, 43, 76, 77, 78] (by decide +kernel) (by decide +kernel)
set_option maxRecDepth 20000 in
theorem gX4_init_X1_init : GoodIn wsX4_init (wsX1_init) := ggX4_init_X1_init
set_option maxRecDepth 20000 in
theorem ggX4_init_X2_init : GoodIn wsX4_init wsX2_init := goodIn_r _ [45, 46, 2, 3, 21, 47, 48, 49, 50, 51, 52, 53, 54, 55, 56, 57, 79, 80, 81, 82, 83, 84, 85, 86, 87, 88, 89] (by decide +kernel) (by decide +kernel)
set_option maxRecDepth 20000 in
theorem gX4_init_X2_init_n30 : GoodIn wsX4_init (wsX2_init) := ggX4_init_X2_init
set_option maxRecDepth 20000 in
theorem ggX4_init_X0_init : GoodIn wsX4_init wsX0_init := goodIn_r _ [59, 60, 2, 3, 21, 61, 62, 63, 64, 65, 66, 67, 90, 91, 92, 93, 94, 95, 96] (by decide +kernel) (by decide +kernel)
set_option maxRecDepth 20000 in
theorem gX4_init_X0_init_n37 : GoodIn wsX4_init (wsX0_init) := ggX4_init_X0_init
theorem dX4_init_0 : decode cX4_init 0 = .ok (.aload_n 0, 1) := by decide +kernel
theorem dX4_init_1 : decode cX4_init 1 = .ok (.invokespecial 3, 3) := by decide +kernel
theorem dX4_init_4 : decode cX4_init 4 = .ok (.aload_n 0, 1) := by decide +kernel
theorem dX4_init_5 : decode cX4_init 5 = .ok (.new 9, 3) := by decide +kernel
theorem dX4_init_8 : decode cX4_init 8 = .ok (.dup, 1) := by decide +kernel
theorem dX4_init_9 : decode cX4_init 9 = .ok (.invokespecial 11, 3) := by decide +kernel
theorem dX4_init_12 : decode cX4_init 12 = .ok (.putfield 12, 3) := by decide +kernel
theorem dX4_init_15 : decode cX4_init 15 = .ok (.aload_n 0, 1) := by decide +kernel
theorem dX4_init_16 : decode cX4_init 16 = .ok (.new 16, 3) := by decide +kernel
theorem dX4_init_19 : decode cX4_init 19 = .ok (.dup, 1) := by decide +kernel
theorem dX4_init_20 : decode cX4_init 20 = .ok (.bipush 26, 2) := by decide +kernel
theorem dX4_init_22 : decode cX4_init 22 = .ok (.invokespecial 18, 3) := by decide +kernel
theorem dX4_init_25 : decode cX4_init 25 = .ok (.putfield 21, 3) := by decide +kernel
theorem dX4_init_28 : decode cX4_init 28 = .ok (.aload_n 0, 1) := by decide +kernel
theorem dX4_init_29 : decode cX4_init 29 = .ok (.new 16, 3) := by decide +kernel
theorem dX4_init_32 : decode cX4_init 32 = .ok (.dup, 1) := by decide +kernel
theorem dX4_init_33 : decode cX4_init 33 = .ok (.sipush 676, 3) := by decide +kernel
theorem dX4_init_36 : decode cX4_init 36 = .ok (.invokespecial 18, 3) := by decide +kernel
theorem dX4_init_39 : decode cX4_init 39 = .ok (.putfield 25, 3) := by decide +kernel
theorem dX4_init_42 : decode cX4_init 42 = .ok (.aload_n 0, 1) := by decide +kernel
theorem dX4_init_43 : decode cX4_init 43 = .ok (.new 28, 3) := by decide +kernel
theorem dX4_init_46 : decode cX4_init 46 = .ok (.dup, 1) := by decide +kernel
theorem dX4_init_47 : decode cX4_init 47 = .ok (.invokespecial 30, 3) := by decide +kernel
theorem dX4_init_50 : decode cX4_init 50 = .ok (.putfield 31, 3) := by decide +kernel
theorem dX4_init_53 : decode cX4_init 53 = .ok (.aload_n 0, 1) := by decide +kernel
theorem dX4_init_54 : decode cX4_init 54 = .ok (.new 35, 3) := by decide +kernel
theorem dX4_init_57 : decode cX4_init 57 = .ok (.dup, 1) := by decide +kernel
theorem dX4_init_58 : decode cX4_init 58 = .ok (.invokespecial 37, 3) := by decide +kernel
theorem dX4_init_61 : decode cX4_init 61 = .ok (.putfield 38, 3) := by decide +kernel
theorem dX4_init_64 : decode cX4_init 64 = .ok (.aload_n 0, 1) := by decide +kernel
theorem dX4_init_65 : decode cX4_init 65 = .ok (.iconst 5, 1) := by decide +kernel
theorem dX4_init_66 : decode cX4_init 66 = .ok (.newarray .int, 2) := by decide +kernel
theorem dX4_init_68 : decode cX4_init 68 = .ok (.putfield 42, 3) := by decide +kernel
theorem dX4_init_71 : decode cX4_init 71 = .ok (.return_, 1) := by decide +kernel
set_option maxRecDepth 20000 in
theorem ggX4_addWord_X4_tellsWord : GoodIn wsX4_addWord wsX4_tellsWord := goodIn_r _ [9, 10, 11, 12] (by decide +kernel) (by decide +kernel)
set_option maxRecDepth 20000 in
theorem gX4_addWord_X4_tellsWord : GoodIn wsX4_addWord (va_wsS RX4 46 yX4_tellsWord wsX4_tellsWord) := goodIn_app (goodIn_of _ (by decide +kernel)) ggX4_addWord_X4_tellsWord
set_option maxRecDepth 20000 in
theorem ggX4_addWord_X3_isFull : GoodIn wsX4_addWord wsX3_isFull := goodIn_r _ [17, 18, 19, 38, 39] (by decide +kernel) (by decide +kernel)
set_option maxRecDepth 20000 in
theorem gX4_addWord_X3_isFull : GoodIn wsX4_addWord (wsV RX4 57 RX3 yX3_isFull wsX3_isFull) := goodIn_app (goodIn_of _ (by decide +kernel)) ggX4_addWord_X3_isFull
set_option maxRecDepth 20000 in
theorem ggX4_addWord_X3_holds : GoodIn wsX4_addWord wsX3_holds := goodIn_r _ [23, 18, 24, 25, 26, 16, 27, 19, 38, 39] (by decide +kernel) (by decide +kernel)
set_option maxRecDepth 20000 in
theorem gX4_addWord_X3_holds : GoodIn wsX4_addWord (wsV RX4 61 RX3 yX3_holds wsX3_holds) := goodIn_app (goodIn_of _ (by decide +kernel)) ggX4_addWord_X3_holds
set_option maxRecDepth 20000 in
theorem ggX4_addWord_X3_append : GoodIn wsX4_addWord wsX3_append := goodIn_r _ [31, 18, 19, 38, 39] (by decide +kernel) (by decide +kernel)
set_option maxRecDepth 20000 in
theorem gX4_addWord_X3_append : GoodIn wsX4_addWord (wsV RX4 69 RX3 yX3_append wsX3_append) := goodIn_app (goodIn_of _ (by decide +kernel)) ggX4_addWord_X3_append
theorem dX4_addWord_0 : decode cX4_addWord 0 = .ok (.lload_n 1, 1) := by decide +kernel
theorem dX4_addWord_1 : decode cX4_addWord 1 = .ok (.invokestatic 46, 3) := by decide +kernel
theorem dX4_addWord_4 : decode cX4_addWord 4 = .ok (.ifCond .ne 13, 3) := by decide +kernel
theorem dX4_addWord_7 : decode cX4_addWord 7 = .ok (.new 50, 3) := by decide +kernel
theorem dX4_addWord_10 : decode cX4_addWord 10 = .ok (.dup, 1) := by decide +kernel
theorem dX4_addWord_11 : decode cX4_addWord 11 = .ok (.ldc 52, 2) := by decide +kernel
theorem dX4_addWord_13 : decode cX4_addWord 13 = .ok (.invokespecial 54, 3) := by decide +kernel
theorem dX4_addWord_16 : decode cX4_addWord 16 = .ok (.athrow, 1) := by decide +kernel
theorem dX4_addWord_17 : decode cX4_addWord 17 = .ok (.aload_n 0, 1) := by decide +kernel
theorem dX4_addWord_18 : decode cX4_addWord 18 = .ok (.getfield 12, 3) := by decide +kernel
theorem dX4_addWord_21 : decode cX4_addWord 21 = .ok (.invokevirtual 57, 3) := by decide +kernel
theorem dX4_addWord_24 : decode cX4_addWord 24 = .ok (.ifCond .ne 14, 3) := by decide +kernel
theorem dX4_addWord_27 : decode cX4_addWord 27 = .ok (.aload_n 0, 1) := by decide +kernel
theorem dX4_addWord_28 : decode cX4_addWord 28 = .ok (.getfield 12, 3) := by decide +kernel
theorem dX4_addWord_31 : decode cX4_addWord 31 = .ok (.lload_n 1, 1) := by decide +kernel
theorem dX4_addWord_32 : decode cX4_addWord 32 = .ok (.invokevirtual 61, 3) := by decide +kernel
theorem dX4_addWord_35 : decode cX4_addWord 35 = .ok (.ifCond .eq 13, 3) := by decide +kernel
theorem dX4_addWord_38 : decode cX4_addWord 38 = .ok (.new 64, 3) := by decide +kernel
theorem dX4_addWord_41 : decode cX4_addWord 41 = .ok (.dup, 1) := by decide +kernel
theorem dX4_addWord_42 : decode cX4_addWord 42 = .ok (.ldc 66, 2) := by decide +kernel
theorem dX4_addWord_44 : decode cX4_addWord 44 = .ok (.invokespecial 68, 3) := by decide +kernel
theorem dX4_addWord_47 : decode cX4_addWord 47 = .ok (.athrow, 1) := by decide +kernel
theorem dX4_addWord_48 : decode cX4_addWord 48 = .ok (.aload_n 0, 1) := by decide +kernel
theorem dX4_addWord_49 : decode cX4_addWord 49 = .ok (.getfield 12, 3) := by decide +kernel
theorem dX4_addWord_52 : decode cX4_addWord 52 = .ok (.lload_n 1, 1) := by decide +kernel
theorem dX4_addWord_53 : decode cX4_addWord 53 = .ok (.invokevirtual 69, 3) := by decide +kernel
theorem dX4_addWord_56 : decode cX4_addWord 56 = .ok (.ireturn, 1) := by decide +kernel
set_option maxRecDepth 20000 in
theorem ggX4_wordCount_X3_size : GoodIn wsX4_wordCount wsX3_size := goodIn_r _ [6, 7, 14, 15] (by decide +kernel) (by decide +kernel)
set_option maxRecDepth 20000 in
theorem gX4_wordCount_X3_size : GoodIn wsX4_wordCount (wsV RX4 73 RX3 yX3_size wsX3_size) := goodIn_app (goodIn_of _ (by decide +kernel)) ggX4_wordCount_X3_size
theorem dX4_wordCount_0 : decode cX4_wordCount 0 = .ok (.aload_n 0, 1) := by decide +kernel
theorem dX4_wordCount_1 : decode cX4_wordCount 1 = .ok (.getfield 12, 3) := by decide +kernel
theorem dX4_wordCount_4 : decode cX4_wordCount 4 = .ok (.invokevirtual 73, 3) := by decide +kernel
theorem dX4_wordCount_7 : decode cX4_wordCount 7 = .ok (.ireturn, 1) := by decide +kernel
set_option maxRecDepth 20000 in
theorem ggX4_word_X3_hasNumber : GoodIn wsX4_word wsX3_hasNumber := goodIn_r _ [8, 9, 21, 22] (by decide +kernel) (by decide +kernel)
set_option maxRecDepth 20000 in
theorem gX4_word_X3_hasNumber : GoodIn wsX4_word (wsV RX4 77 RX3 yX3_hasNumber wsX3_hasNumber) := goodIn_app (goodIn_of _ (by decide +kernel)) ggX4_word_X3_hasNumber
set_option maxRecDepth 20000 in
theorem ggX4_word_X3_wordAt : GoodIn wsX4_word wsX3_wordAt := goodIn_r _ [13, 14, 21, 22] (by decide +kernel) (by decide +kernel)
set_option maxRecDepth 20000 in
theorem gX4_word_X3_wordAt : GoodIn wsX4_word (wsV RX4 86 RX3 yX3_wordAt wsX3_wordAt) := goodIn_app (goodIn_of _ (by decide +kernel)) ggX4_word_X3_wordAt
theorem dX4_word_0 : decode cX4_word 0 = .ok (.aload_n 0, 1) := by decide +kernel
theorem dX4_word_1 : decode cX4_word 1 = .ok (.getfield 12, 3) := by decide +kernel
theorem dX4_word_4 : decode cX4_word 4 = .ok (.iload_n 1, 1) := by decide +kernel
theorem dX4_word_5 : decode cX4_word 5 = .ok (.invokevirtual 77, 3) := by decide +kernel
theorem dX4_word_8 : decode cX4_word 8 = .ok (.ifCond .ne 13, 3) := by decide +kernel
theorem dX4_word_11 : decode cX4_word 11 = .ok (.new 81, 3) := by decide +kernel
theorem dX4_word_14 : decode cX4_word 14 = .ok (.dup, 1) := by decide +kernel
theorem dX4_word_15 : decode cX4_word 15 = .ok (.ldc 83, 2) := by decide +kernel
theorem dX4_word_17 : decode cX4_word 17 = .ok (.invokespecial 85, 3) := by decide +kernel
theorem dX4_word_20 : decode cX4_word 20 = .ok (.athrow, 1) := by decide +kernel
theorem dX4_word_21 : decode cX4_word 21 = .ok (.aload_n 0, 1) := by decide +kernel
theorem dX4_word_22 : decode cX4_word 22 = .ok (.getfield 12, 3) := by decide +kernel
theorem dX4_word_25 : decode cX4_word 25 = .ok (.iload_n 1, 1) := by decide +kernel
theorem dX4_word_26 : decode cX4_word 26 = .ok (.invokevirtual 86, 3) := by decide +kernel
theorem dX4_word_29 : decode cX4_word 29 = .ok (.lreturn, 1) := by decide +kernel
set_option maxRecDepth 20000 in
theorem ggX4_weight_X3_hasNumber : GoodIn wsX4_weight wsX3_hasNumber := goodIn_r _ [8, 9, 58, 59] (by decide +kernel) (by decide +kernel)
set_option maxRecDepth 20000 in
theorem gX4_weight_X3_hasNumber : GoodIn wsX4_weight (wsV RX4 77 RX3 yX3_hasNumber wsX3_hasNumber) := goodIn_app (goodIn_of _ (by decide +kernel)) ggX4_weight_X3_hasNumber
set_option maxRecDepth 20000 in
theorem ggX4_weight_X3_wordAt : GoodIn wsX4_weight wsX3_wordAt := goodIn_r _ [13, 14, 58, 59] (by decide +kernel) (by decide +kernel)
set_option maxRecDepth 20000 in
theorem gX4_weight_X3_wordAt : GoodIn wsX4_weight (wsV RX4 86 RX3 yX3_wordAt wsX3_wordAt) := goodIn_app (goodIn_of _ (by decide +kernel)) ggX4_weight_X3_wordAt
set_option maxRecDepth 20000 in
theorem ggX4_weight_X4_weightOf : GoodIn wsX4_weight wsX4_weightOf := goodIn_r _ [19, 20, 21, 22, 18, 23, 24, 25, 26, 27, 28, 29, 30, 31, 32, 33, 34, 35, 36, 37, 38, 39, 40, 41, 42, 43, 44, 45, 46, 47, 48, 49, 50, 51, 52, 53, 54, 55, 56, 57, 60, 61, 62] (by decide +kernel) (by decide +kernel)
set_option maxRecDepth 20000 in
theorem gX4_weight_X4_weightOf : GoodIn wsX4_weight (wsV RX4 90 RX4 yX4_weightOf wsX4_weightOf) := goodIn_app (goodIn_of _ (by decide +kernel)) ggX4_weight_X4_weightOf
theorem dX4_weight_0 : decode cX4_weight 0 = .ok (.aload_n 0, 1) := by decide +kernel
theorem dX4_weight_1 : decode cX4_weight 1 = .ok (.getfield 12, 3) := by decide +kernel
theorem dX4_weight_4 : decode cX4_weight 4 = .ok (.iload_n 1, 1) := by decide +kernel
theorem dX4_weight_5 : decode cX4_weight 5 = .ok (.invokevirtual 77, 3) := by decide +kernel
theorem dX4_weight_8 : decode cX4_weight 8 = .ok (.ifCond .ne 13, 3) := by decide +kernel
theorem dX4_weight_11 : decode cX4_weight 11 = .ok (.new 81, 3) := by decide +kernel
theorem dX4_weight_14 : decode cX4_weight 14 = .ok (.dup, 1) := by decide +kernel
theorem dX4_weight_15 : decode cX4_weight 15 = .ok (.ldc 83, 2) := by decide +kernel
theorem dX4_weight_17 : decode cX4_weight 17 = .ok (.invokespecial 85, 3) := by decide +kernel
theorem dX4_weight_20 : decode cX4_weight 20 = .ok (.athrow, 1) := by decide +kernel
theorem dX4_weight_21 : decode cX4_weight 21 = .ok (.aload_n 0, 1) := by decide +kernel
theorem dX4_weight_22 : decode cX4_weight 22 = .ok (.aload_n 0, 1) := by decide +kernel
theorem dX4_weight_23 : decode cX4_weight 23 = .ok (.getfield 12, 3) := by decide +kernel
theorem dX4_weight_26 : decode cX4_weight 26 = .ok (.iload_n 1, 1) := by decide +kernel
theorem dX4_weight_27 : decode cX4_weight 27 = .ok (.invokevirtual 86, 3) := by decide +kernel
theorem dX4_weight_30 : decode cX4_weight 30 = .ok (.invokevirtual 90, 3) := by decide +kernel
theorem dX4_weight_33 : decode cX4_weight 33 = .ok (.ireturn, 1) := by decide +kernel
set_option maxRecDepth 20000 in
theorem ggX4_areNeighbours_X4_isKey : GoodIn wsX4_areNeighbours wsX4_isKey := goodIn_r _ [6] (by decide +kernel) (by decide +kernel)
set_option maxRecDepth 20000 in
theorem gX4_areNeighbours_X4_isKey : GoodIn wsX4_areNeighbours (va_wsS RX4 93 yX4_isKey wsX4_isKey) := goodIn_app (goodIn_of _ (by decide +kernel)) ggX4_areNeighbours_X4_isKey
set_option maxRecDepth 20000 in
theorem ggX4_areNeighbours_X4_standSideBySide : GoodIn wsX4_areNeighbours wsX4_standSideBySide := goodIn_r _ [9, 10, 11, 12, 13, 14, 15, 16, 17, 5, 18] (by decide +kernel) (by decide +kernel)
set_option maxRecDepth 20000 in
theorem gX4_areNeighbours_X4_standSideBySide : GoodIn wsX4_areNeighbours (va_wsS RX4 98 yX4_standSideBySide wsX4_standSideBySide) := goodIn_app (goodIn_of _ (by decide +kernel)) ggX4_areNeighbours_X4_standSideBySide
theorem dX4_areNeighbours_0 : decode cX4_areNeighbours 0 = .ok (.iload_n 1, 1) := by decide +kernel
theorem dX4_areNeighbours_1 : decode cX4_areNeighbours 1 = .ok (.invokestatic 93, 3) := by decide +kernel
theorem dX4_areNeighbours_4 : decode cX4_areNeighbours 4 = .ok (.ifCond .eq 10, 3) := by decide +kernel
theorem dX4_areNeighbours_7 : decode cX4_areNeighbours 7 = .ok (.iload_n 2, 1) := by decide +kernel
theorem dX4_areNeighbours_8 : decode cX4_areNeighbours 8 = .ok (.invokestatic 93, 3) := by decide +kernel
theorem dX4_areNeighbours_11 : decode cX4_areNeighbours 11 = .ok (.ifCond .ne 13, 3) := by decide +kernel
theorem dX4_areNeighbours_14 : decode cX4_areNeighbours 14 = .ok (.new 81, 3) := by decide +kernel
theorem dX4_areNeighbours_17 : decode cX4_areNeighbours 17 = .ok (.dup, 1) := by decide +kernel
theorem dX4_areNeighbours_18 : decode cX4_areNeighbours 18 = .ok (.ldc 96, 2) := by decide +kernel
theorem dX4_areNeighbours_20 : decode cX4_areNeighbours 20 = .ok (.invokespecial 85, 3) := by decide +kernel
theorem dX4_areNeighbours_23 : decode cX4_areNeighbours 23 = .ok (.athrow, 1) := by decide +kernel
theorem dX4_areNeighbours_24 : decode cX4_areNeighbours 24 = .ok (.iload_n 1, 1) := by decide +kernel
theorem dX4_areNeighbours_25 : decode cX4_areNeighbours 25 = .ok (.iload_n 2, 1) := by decide +kernel
theorem dX4_areNeighbours_26 : decode cX4_areNeighbours 26 = .ok (.invokestatic 98, 3) := by decide +kernel
theorem dX4_areNeighbours_29 : decode cX4_areNeighbours 29 = .ok (.ireturn, 1) := by decide +kernel
set_option maxRecDepth 20000 in
theorem ggX4_open_X2_isRunning : GoodIn wsX4_open wsX2_isRunning := goodIn_r _ [11, 12, 111, 112, 113, 114, 115, 116, 117, 118, 119, 120, 121] (by decide +kernel) (by decide +kernel)
set_option maxRecDepth 20000 in
theorem gX4_open_X2_isRunning : GoodIn wsX4_open (wsV RX4 104 RX2 yX2_isRunning wsX2_isRunning) := goodIn_app (goodIn_of _ (by decide +kernel)) ggX4_open_X2_isRunning
set_option maxRecDepth 20000 in
theorem ggX4_open_X3_size : GoodIn wsX4_open wsX3_size := goodIn_r _ [17, 18, 122, 123] (by decide +kernel) (by decide +kernel)
set_option maxRecDepth 20000 in
theorem gX4_open_X3_size : GoodIn wsX4_open (wsV RX4 73 RX3 yX3_size wsX3_size) := goodIn_app (goodIn_of _ (by decide +kernel)) ggX4_open_X3_size
set_option maxRecDepth 20000 in
theorem ggX4_open_X2_start : GoodIn wsX4_open wsX2_start := goodIn_r _ [22, 23, 12, 24, 25, 26, 27, 28, 29, 30, 31, 32, 33, 111, 112, 113, 114, 115, 116, 117, 118, 119, 120, 121] (by decide +kernel) (by decide +kernel)
set_option maxRecDepth 20000 in
theorem gX4_open_X2_start : GoodIn wsX4_open (wsV RX4 109 RX2 yX2_start wsX2_start) := goodIn_app (goodIn_of _ (by decide +kernel)) ggX4_open_X2_start
set_option maxRecDepth 20000 in
theorem ggX4_open_X4_weakestWordLeft : GoodIn wsX4_open wsX4_weakestWordLeft := goodIn_r _ [38, 6, 5, 13, 14, 15, 16, 17, 18, 39, 40, 41, 10, 42, 24, 43, 44, 37, 45, 46, 47, 48, 49, 50, 51, 52, 53, 54, 55, 56, 57, 58, 59, 60, 61, 62, 63, 64, 65, 66, 67, 68, 69, 70, 71, 72, 73, 74, 75, 76, 77, 78, 79, 80, 81, 82, 83, 84, 85, 86, 87, 88, 89, 90, 91, 92, 23, 105, 106, 107, 108, 109, 110, 122, 123, 111, 112, 113, 114, 115, 116, 117, 118, 119, 120, 121, 124, 125, 126] (by decide +kernel) (by decide +kernel)
set_option maxRecDepth 20000 in
theorem gX4_open_X4_weakestWordLeft : GoodIn wsX4_open (wsV RX4 112 RX4 yX4_weakestWordLeft wsX4_weakestWordLeft) := goodIn_app (goodIn_of _ (by decide +kernel)) ggX4_open_X4_weakestWordLeft
set_option maxRecDepth 20000 in
theorem ggX4_open_X3_wordAt : GoodIn wsX4_open wsX3_wordAt := goodIn_r _ [49, 50, 122, 123] (by decide +kernel) (by decide +kernel)
set_option maxRecDepth 20000 in
theorem gX4_open_X3_wordAt : GoodIn wsX4_open (wsV RX4 86 RX3 yX3_wordAt wsX3_wordAt) := goodIn_app (goodIn_of _ (by decide +kernel)) ggX4_open_X3_wordAt
set_option maxRecDepth 20000 in
theorem ggX4_open_X2_append : GoodIn wsX4_open wsX2_append := goodIn_r _ [96, 23, 97, 25, 98, 24, 43, 56, 37, 57, 64, 65, 66, 44, 45, 99, 100, 111, 112, 113, 114, 115, 116, 117, 118, 119, 120, 121] (by decide +kernel) (by decide +kernel)
set_option maxRecDepth 20000 in
theorem gX4_open_X2_append : GoodIn wsX4_open (wsV RX4 115 RX2 yX2_append wsX2_append) := goodIn_app (goodIn_of _ (by decide +kernel)) ggX4_open_X2_append
set_option maxRecDepth 20000 in
theorem ggX4_open_X2_wordTotal : GoodIn wsX4_open wsX2_wordTotal := goodIn_r _ [104, 24, 111, 112, 113, 114, 115, 116, 117, 118, 119, 120, 121] (by decide +kernel) (by decide +kernel)
set_option maxRecDepth 20000 in
theorem gX4_open_X2_wordTotal : GoodIn wsX4_open (wsV RX4 118 RX2 yX2_wordTotal wsX2_wordTotal) := goodIn_app (goodIn_of _ (by decide +kernel)) ggX4_open_X2_wordTotal
theorem dX4_open_0 : decode cX4_open 0 = .ok (.iload_n 1, 1) := by decide +kernel
theorem dX4_open_1 : decode cX4_open 1 = .ok (.iconst 1, 1) := by decide +kernel
theorem dX4_open_2 : decode cX4_open 2 = .ok (.if_icmp .lt 9, 3) := by decide +kernel
theorem dX4_open_5 : decode cX4_open 5 = .ok (.iload_n 1, 1) := by decide +kernel
theorem dX4_open_6 : decode cX4_open 6 = .ok (.bipush 6, 2) := by decide +kernel
theorem dX4_open_8 : decode cX4_open 8 = .ok (.if_icmp .le 13, 3) := by decide +kernel
theorem dX4_open_11 : decode cX4_open 11 = .ok (.new 50, 3) := by decide +kernel
theorem dX4_open_14 : decode cX4_open 14 = .ok (.dup, 1) := by decide +kernel
theorem dX4_open_15 : decode cX4_open 15 = .ok (.ldc 102, 2) := by decide +kernel
theorem dX4_open_17 : decode cX4_open 17 = .ok (.invokespecial 54, 3) := by decide +kernel
theorem dX4_open_20 : decode cX4_open 20 = .ok (.athrow, 1) := by decide +kernel
theorem dX4_open_21 : decode cX4_open 21 = .ok (.aload_n 0, 1) := by decide +kernel
theorem dX4_open_22 : decode cX4_open 22 = .ok (.getfield 31, 3) := by decide +kernel
theorem dX4_open_25 : decode cX4_open 25 = .ok (.invokevirtual 104, 3) := by decide +kernel
theorem dX4_open_28 : decode cX4_open 28 = .ok (.ifCond .ne 13, 3) := by decide +kernel
theorem dX4_open_31 : decode cX4_open 31 = .ok (.aload_n 0, 1) := by decide +kernel
theorem dX4_open_32 : decode cX4_open 32 = .ok (.getfield 12, 3) := by decide +kernel
theorem dX4_open_35 : decode cX4_open 35 = .ok (.invokevirtual 73, 3) := by decide +kernel
theorem dX4_open_38 : decode cX4_open 38 = .ok (.ifCond .ne 13, 3) := by decide +kernel
theorem dX4_open_41 : decode cX4_open 41 = .ok (.new 64, 3) := by decide +kernel
theorem dX4_open_44 : decode cX4_open 44 = .ok (.dup, 1) := by decide +kernel
theorem dX4_open_45 : decode cX4_open 45 = .ok (.ldc 107, 2) := by decide +kernel
theorem dX4_open_47 : decode cX4_open 47 = .ok (.invokespecial 68, 3) := by decide +kernel
theorem dX4_open_50 : decode cX4_open 50 = .ok (.athrow, 1) := by decide +kernel
theorem dX4_open_51 : decode cX4_open 51 = .ok (.aload_n 0, 1) := by decide +kernel
theorem dX4_open_52 : decode cX4_open 52 = .ok (.getfield 31, 3) := by decide +kernel
theorem dX4_open_55 : decode cX4_open 55 = .ok (.invokevirtual 109, 3) := by decide +kernel
theorem dX4_open_58 : decode cX4_open 58 = .ok (.iconst 0, 1) := by decide +kernel
theorem dX4_open_59 : decode cX4_open 59 = .ok (.istore_n 2, 1) := by decide +kernel
theorem dX4_open_60 : decode cX4_open 60 = .ok (.iload_n 2, 1) := by decide +kernel
theorem dX4_open_61 : decode cX4_open 61 = .ok (.iload_n 1, 1) := by decide +kernel
theorem dX4_open_62 : decode cX4_open 62 = .ok (.if_icmp .ge 38, 3) := by decide +kernel
theorem dX4_open_65 : decode cX4_open 65 = .ok (.aload_n 0, 1) := by decide +kernel
theorem dX4_open_66 : decode cX4_open 66 = .ok (.invokevirtual 112, 3) := by decide +kernel
theorem dX4_open_69 : decode cX4_open 69 = .ok (.istore_n 3, 1) := by decide +kernel
theorem dX4_open_70 : decode cX4_open 70 = .ok (.iload_n 3, 1) := by decide +kernel
theorem dX4_open_71 : decode cX4_open 71 = .ok (.iconst (-1), 1) := by decide +kernel
theorem dX4_open_72 : decode cX4_open 72 = .ok (.if_icmp .ne 6, 3) := by decide +kernel
theorem dX4_open_75 : decode cX4_open 75 = .ok (.goto 25, 3) := by decide +kernel
theorem dX4_open_78 : decode cX4_open 78 = .ok (.aload_n 0, 1) := by decide +kernel
theorem dX4_open_79 : decode cX4_open 79 = .ok (.getfield 31, 3) := by decide +kernel
theorem dX4_open_82 : decode cX4_open 82 = .ok (.iload_n 3, 1) := by decide +kernel
theorem dX4_open_83 : decode cX4_open 83 = .ok (.aload_n 0, 1) := by decide +kernel
theorem dX4_open_84 : decode cX4_open 84 = .ok (.getfield 12, 3) := by decide +kernel
theorem dX4_open_87 : decode cX4_open 87 = .ok (.iload_n 3, 1) := by decide +kernel
theorem dX4_open_88 : decode cX4_open 88 = .ok (.invokevirtual 86, 3) := by decide +kernel
theorem dX4_open_91 : decode cX4_open 91 = .ok (.invokevirtual 115, 3) := by decide +kernel
theorem dX4_open_94 : decode cX4_open 94 = .ok (.iinc 2 1, 3) := by decide +kernel
theorem dX4_open_97 : decode cX4_open 97 = .ok (.goto (-37), 3) := by decide +kernel
theorem dX4_open_100 : decode cX4_open 100 = .ok (.aload_n 0, 1) := by decide +kernel
theorem dX4_open_101 : decode cX4_open 101 = .ok (.getfield 31, 3) := by decide +kernel
theorem dX4_open_104 : decode cX4_open 104 = .ok (.invokevirtual 118, 3) := by decide +kernel
theorem dX4_open_107 : decode cX4_open 107 = .ok (.ireturn, 1) := by decide +kernel
set_option maxRecDepth 20000 in
theorem ggX4_openWord_X3_hasNumber : GoodIn wsX4_openWord wsX3_hasNumber := goodIn_r _ [11, 12, 66, 67] (by decide +kernel) (by decide +kernel)
set_option maxRecDepth 20000 in
theorem gX4_openWord_X3_hasNumber : GoodIn wsX4_openWord (wsV RX4 77 RX3 yX3_hasNumber wsX3_hasNumber) := goodIn_app (goodIn_of _ (by decide +kernel)) ggX4_openWord_X3_hasNumber
set_option maxRecDepth 20000 in
theorem ggX4_openWord_X2_isRunning : GoodIn wsX4_openWord wsX2_isRunning := goodIn_r _ [17, 18, 68, 69, 70, 71, 72, 73, 74, 75, 76, 77, 78] (by decide +kernel) (by decide +kernel)
set_option maxRecDepth 20000 in
theorem gX4_openWord_X2_isRunning : GoodIn wsX4_openWord (wsV RX4 104 RX2 yX2_isRunning wsX2_isRunning) := goodIn_app (goodIn_of _ (by decide +kernel)) ggX4_openWord_X2_isRunning
set_option maxRecDepth 20000 in
theorem ggX4_openWord_X2_start : GoodIn wsX4_openWord wsX2_start := goodIn_r _ [22, 23, 18, 24, 25, 26, 27, 28, 29, 30, 31, 32, 33, 68, 69, 70, 71, 72, 73, 74, 75, 76, 77, 78] (by decide +kernel) (by decide +kernel)
set_option maxRecDepth 20000 in
theorem gX4_openWord_X2_start : GoodIn wsX4_openWord (wsV RX4 109 RX2 yX2_start wsX2_start) := goodIn_app (goodIn_of _ (by decide +kernel)) ggX4_openWord_X2_start
set_option maxRecDepth 20000 in
theorem ggX4_openWord_X3_wordAt : GoodIn wsX4_openWord wsX3_wordAt := goodIn_r _ [37, 38, 66, 67] (by decide +kernel) (by decide +kernel)
set_option maxRecDepth 20000 in
theorem gX4_openWord_X3_wordAt : GoodIn wsX4_openWord (wsV RX4 86 RX3 yX3_wordAt wsX3_wordAt) := goodIn_app (goodIn_of _ (by decide +kernel)) ggX4_openWord_X3_wordAt
set_option maxRecDepth 20000 in
theorem ggX4_openWord_X2_append : GoodIn wsX4_openWord wsX2_append := goodIn_r _ [42, 23, 43, 25, 44, 24, 45, 46, 47, 48, 49, 50, 51, 52, 53, 54, 55, 68, 69, 70, 71, 72, 73, 74, 75, 76, 77, 78] (by decide +kernel) (by decide +kernel)
set_option maxRecDepth 20000 in
theorem gX4_openWord_X2_append : GoodIn wsX4_openWord (wsV RX4 115 RX2 yX2_append wsX2_append) := goodIn_app (goodIn_of _ (by decide +kernel)) ggX4_openWord_X2_append
set_option maxRecDepth 20000 in
theorem ggX4_openWord_X2_letterTotal : GoodIn wsX4_openWord wsX2_letterTotal := goodIn_r _ [59, 25, 68, 69, 70, 71, 72, 73, 74, 75, 76, 77, 78] (by decide +kernel) (by decide +kernel)
set_option maxRecDepth 20000 in
theorem gX4_openWord_X2_letterTotal : GoodIn wsX4_openWord (wsV RX4 123 RX2 yX2_letterTotal wsX2_letterTotal) := goodIn_app (goodIn_of _ (by decide +kernel)) ggX4_openWord_X2_letterTotal
theorem dX4_openWord_0 : decode cX4_openWord 0 = .ok (.aload_n 0, 1) := by decide +kernel
theorem dX4_openWord_1 : decode cX4_openWord 1 = .ok (.getfield 12, 3) := by decide +kernel
theorem dX4_openWord_4 : decode cX4_openWord 4 = .ok (.iload_n 1, 1) := by decide +kernel
theorem dX4_openWord_5 : decode cX4_openWord 5 = .ok (.invokevirtual 77, 3) := by decide +kernel
theorem dX4_openWord_8 : decode cX4_openWord 8 = .ok (.ifCond .ne 13, 3) := by decide +kernel
theorem dX4_openWord_11 : decode cX4_openWord 11 = .ok (.new 81, 3) := by decide +kernel
theorem dX4_openWord_14 : decode cX4_openWord 14 = .ok (.dup, 1) := by decide +kernel
theorem dX4_openWord_15 : decode cX4_openWord 15 = .ok (.ldc 83, 2) := by decide +kernel
theorem dX4_openWord_17 : decode cX4_openWord 17 = .ok (.invokespecial 85, 3) := by decide +kernel
theorem dX4_openWord_20 : decode cX4_openWord 20 = .ok (.athrow, 1) := by decide +kernel
theorem dX4_openWord_21 : decode cX4_openWord 21 = .ok (.aload_n 0, 1) := by decide +kernel
theorem dX4_openWord_22 : decode cX4_openWord 22 = .ok (.getfield 31, 3) := by decide +kernel
theorem dX4_openWord_25 : decode cX4_openWord 25 = .ok (.invokevirtual 104, 3) := by decide +kernel
theorem dX4_openWord_28 : decode cX4_openWord 28 = .ok (.ifCond .eq 13, 3) := by decide +kernel
theorem dX4_openWord_31 : decode cX4_openWord 31 = .ok (.new 64, 3) := by decide +kernel
theorem dX4_openWord_34 : decode cX4_openWord 34 = .ok (.dup, 1) := by decide +kernel
theorem dX4_openWord_35 : decode cX4_openWord 35 = .ok (.ldc 121, 2) := by decide +kernel
theorem dX4_openWord_37 : decode cX4_openWord 37 = .ok (.invokespecial 68, 3) := by decide +kernel
theorem dX4_openWord_40 : decode cX4_openWord 40 = .ok (.athrow, 1) := by decide +kernel
theorem dX4_openWord_41 : decode cX4_openWord 41 = .ok (.aload_n 0, 1) := by decide +kernel
theorem dX4_openWord_42 : decode cX4_openWord 42 = .ok (.getfield 31, 3) := by decide +kernel
theorem dX4_openWord_45 : decode cX4_openWord 45 = .ok (.invokevirtual 109, 3) := by decide +kernel
theorem dX4_openWord_48 : decode cX4_openWord 48 = .ok (.aload_n 0, 1) := by decide +kernel
theorem dX4_openWord_49 : decode cX4_openWord 49 = .ok (.getfield 31, 3) := by decide +kernel
theorem dX4_openWord_52 : decode cX4_openWord 52 = .ok (.iload_n 1, 1) := by decide +kernel
theorem dX4_openWord_53 : decode cX4_openWord 53 = .ok (.aload_n 0, 1) := by decide +kernel
theorem dX4_openWord_54 : decode cX4_openWord 54 = .ok (.getfield 12, 3) := by decide +kernel
theorem dX4_openWord_57 : decode cX4_openWord 57 = .ok (.iload_n 1, 1) := by decide +kernel
theorem dX4_openWord_58 : decode cX4_openWord 58 = .ok (.invokevirtual 86, 3) := by decide +kernel
theorem dX4_openWord_61 : decode cX4_openWord 61 = .ok (.invokevirtual 115, 3) := by decide +kernel
theorem dX4_openWord_64 : decode cX4_openWord 64 = .ok (.aload_n 0, 1) := by decide +kernel
theorem dX4_openWord_65 : decode cX4_openWord 65 = .ok (.getfield 31, 3) := by decide +kernel
theorem dX4_openWord_68 : decode cX4_openWord 68 = .ok (.invokevirtual 123, 3) := by decide +kernel
theorem dX4_openWord_71 : decode cX4_openWord 71 = .ok (.ireturn, 1) := by decide +kernel
set_option maxRecDepth 20000 in
theorem ggX4_giveUp_X2_isRunning : GoodIn wsX4_giveUp wsX2_isRunning := goodIn_r _ [8, 9, 30, 31, 32, 33, 34, 35, 36, 37, 38, 39, 40] (by decide +kernel) (by decide +kernel)
set_option maxRecDepth 20000 in
theorem gX4_giveUp_X2_isRunning : GoodIn wsX4_giveUp (wsV RX4 104 RX2 yX2_isRunning wsX2_isRunning) := goodIn_app (goodIn_of _ (by decide +kernel)) ggX4_giveUp_X2_isRunning
set_option maxRecDepth 20000 in
theorem ggX4_giveUp_X2_stop : GoodIn wsX4_giveUp wsX2_stop := goodIn_r _ [13, 9, 30, 31, 32, 33, 34, 35, 36, 37, 38, 39, 40] (by decide +kernel) (by decide +kernel)
set_option maxRecDepth 20000 in
theorem gX4_giveUp_X2_stop : GoodIn wsX4_giveUp (wsV RX4 128 RX2 yX2_stop wsX2_stop) := goodIn_app (goodIn_of _ (by decide +kernel)) ggX4_giveUp_X2_stop
set_option maxRecDepth 20000 in
theorem ggX4_giveUp_X2_letterTotal : GoodIn wsX4_giveUp wsX2_letterTotal := goodIn_r _ [17, 18, 30, 31, 32, 33, 34, 35, 36, 37, 38, 39, 40] (by decide +kernel) (by decide +kernel)
set_option maxRecDepth 20000 in
theorem gX4_giveUp_X2_letterTotal : GoodIn wsX4_giveUp (wsV RX4 123 RX2 yX2_letterTotal wsX2_letterTotal) := goodIn_app (goodIn_of _ (by decide +kernel)) ggX4_giveUp_X2_letterTotal
set_option maxRecDepth 20000 in
theorem ggX4_giveUp_X2_triedTotal : GoodIn wsX4_giveUp wsX2_triedTotal := goodIn_r _ [22, 23, 30, 31, 32, 33, 34, 35, 36, 37, 38, 39, 40] (by decide +kernel) (by decide +kernel)
set_option maxRecDepth 20000 in
theorem gX4_giveUp_X2_triedTotal : GoodIn wsX4_giveUp (wsV RX4 131 RX2 yX2_triedTotal wsX2_triedTotal) := goodIn_app (goodIn_of _ (by decide +kernel)) ggX4_giveUp_X2_triedTotal
theorem dX4_giveUp_0 : decode cX4_giveUp 0 = .ok (.aload_n 0, 1) := by decide +kernel
theorem dX4_giveUp_1 : decode cX4_giveUp 1 = .ok (.getfield 31, 3) := by decide +kernel
theorem dX4_giveUp_4 : decode cX4_giveUp 4 = .ok (.invokevirtual 104, 3) := by decide +kernel
theorem dX4_giveUp_7 : decode cX4_giveUp 7 = .ok (.ifCond .ne 13, 3) := by decide +kernel
theorem dX4_giveUp_10 : decode cX4_giveUp 10 = .ok (.new 64, 3) := by decide +kernel
theorem dX4_giveUp_13 : decode cX4_giveUp 13 = .ok (.dup, 1) := by decide +kernel
theorem dX4_giveUp_14 : decode cX4_giveUp 14 = .ok (.ldc 126, 2) := by decide +kernel
theorem dX4_giveUp_16 : decode cX4_giveUp 16 = .ok (.invokespecial 68, 3) := by decide +kernel
theorem dX4_giveUp_19 : decode cX4_giveUp 19 = .ok (.athrow, 1) := by decide +kernel
theorem dX4_giveUp_20 : decode cX4_giveUp 20 = .ok (.aload_n 0, 1) := by decide +kernel
theorem dX4_giveUp_21 : decode cX4_giveUp 21 = .ok (.getfield 31, 3) := by decide +kernel
theorem dX4_giveUp_24 : decode cX4_giveUp 24 = .ok (.invokevirtual 128, 3) := by decide +kernel
theorem dX4_giveUp_27 : decode cX4_giveUp 27 = .ok (.aload_n 0, 1) := by decide +kernel
theorem dX4_giveUp_28 : decode cX4_giveUp 28 = .ok (.getfield 31, 3) := by decide +kernel
theorem dX4_giveUp_31 : decode cX4_giveUp 31 = .ok (.invokevirtual 123, 3) := by decide +kernel
theorem dX4_giveUp_34 : decode cX4_giveUp 34 = .ok (.aload_n 0, 1) := by decide +kernel
theorem dX4_giveUp_35 : decode cX4_giveUp 35 = .ok (.getfield 31, 3) := by decide +kernel
theorem dX4_giveUp_38 : decode cX4_giveUp 38 = .ok (.invokevirtual 131, 3) := by decide +kernel
theorem dX4_giveUp_41 : decode cX4_giveUp 41 = .ok (.isub, 1) := by decide +kernel
theorem dX4_giveUp_42 : decode cX4_giveUp 42 = .ok (.ireturn, 1) := by decide +kernel
set_option maxRecDepth 20000 in
theorem ggX4_isOpen_X2_isRunning : GoodIn wsX4_isOpen wsX2_isRunning := goodIn_r _ [6, 7, 14, 15, 16, 17, 18, 19, 20, 21, 22, 23, 24] (by decide +kernel) (by decide +kernel)
set_option maxRecDepth 20000 in
theorem gX4_isOpen_X2_isRunning : GoodIn wsX4_isOpen (wsV RX4 104 RX2 yX2_isRunning wsX2_isRunning) := goodIn_app (goodIn_of _ (by decide +kernel)) ggX4_isOpen_X2_isRunning
theorem dX4_isOpen_0 : decode cX4_isOpen 0 = .ok (.aload_n 0, 1) := by decide +kernel
theorem dX4_isOpen_1 : decode cX4_isOpen 1 = .ok (.getfield 31, 3) := by decide +kernel
theorem dX4_isOpen_4 : decode cX4_isOpen 4 = .ok (.invokevirtual 104, 3) := by decide +kernel
theorem dX4_isOpen_7 : decode cX4_isOpen 7 = .ok (.ireturn, 1) := by decide +kernel
set_option maxRecDepth 20000 in
theorem ggX4_lessonWord_X2_isRunning : GoodIn wsX4_lessonWord wsX2_isRunning := goodIn_r _ [10, 11, 31, 32, 33, 34, 35, 36, 37, 38, 39, 40, 41] (by decide +kernel) (by decide +kernel)
set_option maxRecDepth 20000 in
theorem gX4_lessonWord_X2_isRunning : GoodIn wsX4_lessonWord (wsV RX4 104 RX2 yX2_isRunning wsX2_isRunning) := goodIn_app (goodIn_of _ (by decide +kernel)) ggX4_lessonWord_X2_isRunning
set_option maxRecDepth 20000 in
theorem ggX4_lessonWord_X2_wordTotal : GoodIn wsX4_lessonWord wsX2_wordTotal := goodIn_r _ [15, 16, 31, 32, 33, 34, 35, 36, 37, 38, 39, 40, 41] (by decide +kernel) (by decide +kernel)
set_option maxRecDepth 20000 in
theorem gX4_lessonWord_X2_wordTotal : GoodIn wsX4_lessonWord (wsV RX4 118 RX2 yX2_wordTotal wsX2_wordTotal) := goodIn_app (goodIn_of _ (by decide +kernel)) ggX4_lessonWord_X2_wordTotal
set_option maxRecDepth 20000 in
theorem ggX4_lessonWord_X2_numberAt : GoodIn wsX4_lessonWord wsX2_numberAt := goodIn_r _ [20, 21, 22, 23, 24, 31, 32, 33, 34, 35, 36, 37, 38, 39, 40, 41] (by decide +kernel) (by decide +kernel)
set_option maxRecDepth 20000 in
theorem gX4_lessonWord_X2_numberAt : GoodIn wsX4_lessonWord (wsV RX4 136 RX2 yX2_numberAt wsX2_numberAt) := goodIn_app (goodIn_of _ (by decide +kernel)) ggX4_lessonWord_X2_numberAt
theorem dX4_lessonWord_0 : decode cX4_lessonWord 0 = .ok (.aload_n 0, 1) := by decide +kernel
theorem dX4_lessonWord_1 : decode cX4_lessonWord 1 = .ok (.getfield 31, 3) := by decide +kernel
theorem dX4_lessonWord_4 : decode cX4_lessonWord 4 = .ok (.invokevirtual 104, 3) := by decide +kernel
theorem dX4_lessonWord_7 : decode cX4_lessonWord 7 = .ok (.ifCond .ne 13, 3) := by decide +kernel
theorem dX4_lessonWord_10 : decode cX4_lessonWord 10 = .ok (.new 64, 3) := by decide +kernel
theorem dX4_lessonWord_13 : decode cX4_lessonWord 13 = .ok (.dup, 1) := by decide +kernel
theorem dX4_lessonWord_14 : decode cX4_lessonWord 14 = .ok (.ldc 126, 2) := by decide +kernel
theorem dX4_lessonWord_16 : decode cX4_lessonWord 16 = .ok (.invokespecial 68, 3) := by decide +kernel
theorem dX4_lessonWord_19 : decode cX4_lessonWord 19 = .ok (.athrow, 1) := by decide +kernel
theorem dX4_lessonWord_20 : decode cX4_lessonWord 20 = .ok (.iload_n 1, 1) := by decide +kernel
theorem dX4_lessonWord_21 : decode cX4_lessonWord 21 = .ok (.ifCond .lt 14, 3) := by decide +kernel
theorem dX4_lessonWord_24 : decode cX4_lessonWord 24 = .ok (.iload_n 1, 1) := by decide +kernel
theorem dX4_lessonWord_25 : decode cX4_lessonWord 25 = .ok (.aload_n 0, 1) := by decide +kernel
theorem dX4_lessonWord_26 : decode cX4_lessonWord 26 = .ok (.getfield 31, 3) := by decide +kernel
theorem dX4_lessonWord_29 : decode cX4_lessonWord 29 = .ok (.invokevirtual 118, 3) := by decide +kernel
theorem dX4_lessonWord_32 : decode cX4_lessonWord 32 = .ok (.if_icmp .lt 13, 3) := by decide +kernel
theorem dX4_lessonWord_35 : decode cX4_lessonWord 35 = .ok (.new 81, 3) := by decide +kernel
theorem dX4_lessonWord_38 : decode cX4_lessonWord 38 = .ok (.dup, 1) := by decide +kernel
theorem dX4_lessonWord_39 : decode cX4_lessonWord 39 = .ok (.ldc 134, 2) := by decide +kernel
theorem dX4_lessonWord_41 : decode cX4_lessonWord 41 = .ok (.invokespecial 85, 3) := by decide +kernel
theorem dX4_lessonWord_44 : decode cX4_lessonWord 44 = .ok (.athrow, 1) := by decide +kernel
theorem dX4_lessonWord_45 : decode cX4_lessonWord 45 = .ok (.aload_n 0, 1) := by decide +kernel
theorem dX4_lessonWord_46 : decode cX4_lessonWord 46 = .ok (.getfield 31, 3) := by decide +kernel
theorem dX4_lessonWord_49 : decode cX4_lessonWord 49 = .ok (.iload_n 1, 1) := by decide +kernel
theorem dX4_lessonWord_50 : decode cX4_lessonWord 50 = .ok (.invokevirtual 136, 3) := by decide +kernel
theorem dX4_lessonWord_53 : decode cX4_lessonWord 53 = .ok (.ireturn, 1) := by decide +kernel
set_option maxRecDepth 20000 in
theorem ggX4_wanted_X2_isRunning : GoodIn wsX4_wanted wsX2_isRunning := goodIn_r _ [8, 9, 25, 26, 27, 28, 29, 30, 31, 32, 33, 34, 35] (by decide +kernel) (by decide +kernel)
set_option maxRecDepth 20000 in
theorem gX4_wanted_X2_isRunning : GoodIn wsX4_wanted (wsV RX4 104 RX2 yX2_isRunning wsX2_isRunning) := goodIn_app (goodIn_of _ (by decide +kernel)) ggX4_wanted_X2_isRunning
set_option maxRecDepth 20000 in
theorem ggX4_wanted_X2_letterHere : GoodIn wsX4_wanted wsX2_letterHere := goodIn_r _ [13, 14, 15, 16, 17, 18, 25, 26, 27, 28, 29, 30, 31, 32, 33, 34, 35] (by decide +kernel) (by decide +kernel)
set_option maxRecDepth 20000 in
theorem gX4_wanted_X2_letterHere : GoodIn wsX4_wanted (wsV RX4 140 RX2 yX2_letterHere wsX2_letterHere) := goodIn_app (goodIn_of _ (by decide +kernel)) ggX4_wanted_X2_letterHere
theorem dX4_wanted_0 : decode cX4_wanted 0 = .ok (.aload_n 0, 1) := by decide +kernel
theorem dX4_wanted_1 : decode cX4_wanted 1 = .ok (.getfield 31, 3) := by decide +kernel
theorem dX4_wanted_4 : decode cX4_wanted 4 = .ok (.invokevirtual 104, 3) := by decide +kernel
theorem dX4_wanted_7 : decode cX4_wanted 7 = .ok (.ifCond .ne 13, 3) := by decide +kernel
theorem dX4_wanted_10 : decode cX4_wanted 10 = .ok (.new 64, 3) := by decide +kernel
theorem dX4_wanted_13 : decode cX4_wanted 13 = .ok (.dup, 1) := by decide +kernel
theorem dX4_wanted_14 : decode cX4_wanted 14 = .ok (.ldc 126, 2) := by decide +kernel
theorem dX4_wanted_16 : decode cX4_wanted 16 = .ok (.invokespecial 68, 3) := by decide +kernel
theorem dX4_wanted_19 : decode cX4_wanted 19 = .ok (.athrow, 1) := by decide +kernel
theorem dX4_wanted_20 : decode cX4_wanted 20 = .ok (.aload_n 0, 1) := by decide +kernel
theorem dX4_wanted_21 : decode cX4_wanted 21 = .ok (.getfield 31, 3) := by decide +kernel
theorem dX4_wanted_24 : decode cX4_wanted 24 = .ok (.invokevirtual 140, 3) := by decide +kernel
theorem dX4_wanted_27 : decode cX4_wanted 27 = .ok (.ireturn, 1) := by decide +kernel
set_option maxRecDepth 20000 in
theorem ggX4_done_X2_isRunning : GoodIn wsX4_done wsX2_isRunning := goodIn_r _ [8, 9, 21, 22, 23, 24, 25, 26, 27, 28, 29, 30, 31] (by decide +kernel) (by decide +kernel)
set_option maxRecDepth 20000 in
theorem gX4_done_X2_isRunning : GoodIn wsX4_done (wsV RX4 104 RX2 yX2_isRunning wsX2_isRunning) := goodIn_app (goodIn_of _ (by decide +kernel)) ggX4_done_X2_isRunning
set_option maxRecDepth 20000 in
theorem ggX4_done_X2_triedTotal : GoodIn wsX4_done wsX2_triedTotal := goodIn_r _ [13, 14, 21, 22, 23, 24, 25, 26, 27, 28, 29, 30, 31] (by decide +kernel) (by decide +kernel)
set_option maxRecDepth 20000 in
theorem gX4_done_X2_triedTotal : GoodIn wsX4_done (wsV RX4 131 RX2 yX2_triedTotal wsX2_triedTotal) := goodIn_app (goodIn_of _ (by decide +kernel)) ggX4_done_X2_triedTotal
theorem dX4_done_0 : decode cX4_done 0 = .ok (.aload_n 0, 1) := by decide +kernel
theorem dX4_done_1 : decode cX4_done 1 = .ok (.getfield 31, 3) := by decide +kernel
theorem dX4_done_4 : decode cX4_done 4 = .ok (.invokevirtual 104, 3) := by decide +kernel
theorem dX4_done_7 : decode cX4_done 7 = .ok (.ifCond .ne 13, 3) := by decide +kernel
theorem dX4_done_10 : decode cX4_done 10 = .ok (.new 64, 3) := by decide +kernel
theorem dX4_done_13 : decode cX4_done 13 = .ok (.dup, 1) := by decide +kernel
theorem dX4_done_14 : decode cX4_done 14 = .ok (.ldc 126, 2) := by decide +kernel
theorem dX4_done_16 : decode cX4_done 16 = .ok (.invokespecial 68, 3) := by decide +kernel
theorem dX4_done_19 : decode cX4_done 19 = .ok (.athrow, 1) := by decide +kernel
theorem dX4_done_20 : decode cX4_done 20 = .ok (.aload_n 0, 1) := by decide +kernel
theorem dX4_done_21 : decode cX4_done 21 = .ok (.getfield 31, 3) := by decide +kernel
theorem dX4_done_24 : decode cX4_done 24 = .ok (.invokevirtual 131, 3) := by decide +kernel
theorem dX4_done_27 : decode cX4_done 27 = .ok (.ireturn, 1) := by decide +kernel
set_option maxRecDepth 20000 in
theorem ggX4_strike_X4_isKey : GoodIn wsX4_strike wsX4_isKey := goodIn_r _ [12] (by decide +kernel) (by decide +kernel)
set_option maxRecDepth 20000 in
theorem gX4_strike_X4_isKey : GoodIn wsX4_strike (va_wsS RX4 93 yX4_isKey wsX4_isKey) := goodIn_app (goodIn_of _ (by decide +kernel)) ggX4_strike_X4_isKey
set_option maxRecDepth 20000 in
theorem ggX4_strike_X2_isRunning : GoodIn wsX4_strike wsX2_isRunning := goodIn_r _ [17, 18, 140, 141, 142, 143, 144, 145, 146, 147, 148, 149, 150] (by decide +kernel) (by decide +kernel)
set_option maxRecDepth 20000 in
theorem gX4_strike_X2_isRunning : GoodIn wsX4_strike (wsV RX4 104 RX2 yX2_isRunning wsX2_isRunning) := goodIn_app (goodIn_of _ (by decide +kernel)) ggX4_strike_X2_isRunning
set_option maxRecDepth 20000 in
theorem ggX4_strike_X4_kindOfStroke : GoodIn wsX4_strike wsX4_kindOfStroke := goodIn_r _ [22, 7, 23, 24, 25, 16, 26, 27, 28, 29, 11, 30, 31, 32, 33, 34, 35, 36, 37, 38, 39, 40, 41, 42, 43, 44, 45, 46, 47, 48, 49, 50, 51, 52, 53, 54, 134, 135, 136, 137, 138, 139, 140, 141, 142, 143, 144, 145, 146, 147, 148, 149, 150] (by decide +kernel) (by decide +kernel)
set_option maxRecDepth 20000 in
theorem gX4_strike_X4_kindOfStroke : GoodIn wsX4_strike (wsV RX4 145 RX4 yX4_kindOfStroke wsX4_kindOfStroke) := goodIn_app (goodIn_of _ (by decide +kernel)) ggX4_strike_X4_kindOfStroke
set_option maxRecDepth 20000 in
theorem ggX4_strike_X2_noteStroke : GoodIn wsX4_strike wsX2_noteStroke := goodIn_r _ [58, 59, 60, 140, 141, 142, 143, 144, 145, 146, 147, 148, 149, 150] (by decide +kernel) (by decide +kernel)
set_option maxRecDepth 20000 in
theorem gX4_strike_X2_noteStroke : GoodIn wsX4_strike (wsV RX4 148 RX2 yX2_noteStroke wsX2_noteStroke) := goodIn_app (goodIn_of _ (by decide +kernel)) ggX4_strike_X2_noteStroke
set_option maxRecDepth 20000 in
theorem ggX4_strike_X4_read : GoodIn wsX4_strike wsX4_read := goodIn_r _ [30] (by decide +kernel) (by decide +kernel)
set_option maxRecDepth 20000 in
theorem gX4_strike_X4_read : GoodIn wsX4_strike (va_wsS RX4 152 yX4_read wsX4_read) := goodIn_app (goodIn_of _ (by decide +kernel)) ggX4_strike_X4_read
set_option maxRecDepth 20000 in
theorem ggX4_strike_X4_write : GoodIn wsX4_strike wsX4_write := goodIn_r _ [63] (by decide +kernel) (by decide +kernel)
set_option maxRecDepth 20000 in
theorem gX4_strike_X4_write : GoodIn wsX4_strike (va_wsS RX4 156 yX4_write wsX4_write) := goodIn_app (goodIn_of _ (by decide +kernel)) ggX4_strike_X4_write
set_option maxRecDepth 20000 in
theorem ggX4_strike_X2_mistakesHere : GoodIn wsX4_strike wsX2_mistakesHere := goodIn_r _ [67, 60, 140, 141, 142, 143, 144, 145, 146, 147, 148, 149, 150] (by decide +kernel) (by decide +kernel)
set_option maxRecDepth 20000 in
theorem gX4_strike_X2_mistakesHere : GoodIn wsX4_strike (wsV RX4 160 RX2 yX2_mistakesHere wsX2_mistakesHere) := goodIn_app (goodIn_of _ (by decide +kernel)) ggX4_strike_X2_mistakesHere
set_option maxRecDepth 20000 in
theorem ggX4_strike_X4_tryLetter : GoodIn wsX4_strike wsX4_tryLetter := goodIn_r _ [71, 7, 72, 73, 74, 64, 65, 66, 16, 67, 60, 23, 24, 25, 26, 27, 28, 29, 11, 30, 41, 42, 43, 44, 35, 36, 37, 38, 39, 40, 75, 76, 77, 78, 79, 80, 81, 51, 82, 83, 84, 85, 62, 63, 86, 87, 88, 89, 90, 91, 92, 93, 94, 95, 96, 97, 98, 99, 100, 101, 102, 103, 104, 105, 18, 106, 107, 108, 109, 110, 111, 112, 113, 59, 114, 115, 116, 117, 118, 119, 120, 121, 122, 123, 124, 125, 126, 127, 128, 129, 130, 131, 132, 133, 134, 135, 136, 137, 138, 139, 140, 141, 142, 143, 144, 145, 146, 147, 148, 149, 150, 151, 152, 153, 154, 155, 156, 157, 158, 159, 160] (by decide +kernel) (by decide +kernel)
set_option maxRecDepth 20000 in
theorem gX4_strike_X4_tryLetter : GoodIn wsX4_strike (wsV RX4 163 RX4 yX4_tryLetter wsX4_tryLetter) := goodIn_app (goodIn_of _ (by decide +kernel)) ggX4_strike_X4_tryLetter
theorem dX4_strike_0 : decode cX4_strike 0 = .ok (.iload_n 1, 1) := by decide +kernel
theorem dX4_strike_1 : decode cX4_strike 1 = .ok (.invokestatic 93, 3) := by decide +kernel
theorem dX4_strike_4 : decode cX4_strike 4 = .ok (.ifCond .ne 13, 3) := by decide +kernel
theorem dX4_strike_7 : decode cX4_strike 7 = .ok (.new 81, 3) := by decide +kernel
theorem dX4_strike_10 : decode cX4_strike 10 = .ok (.dup, 1) := by decide +kernel
theorem dX4_strike_11 : decode cX4_strike 11 = .ok (.ldc 96, 2) := by decide +kernel
theorem dX4_strike_13 : decode cX4_strike 13 = .ok (.invokespecial 85, 3) := by decide +kernel
theorem dX4_strike_16 : decode cX4_strike 16 = .ok (.athrow, 1) := by decide +kernel
theorem dX4_strike_17 : decode cX4_strike 17 = .ok (.iload_n 2, 1) := by decide +kernel
theorem dX4_strike_18 : decode cX4_strike 18 = .ok (.iconst 1, 1) := by decide +kernel
theorem dX4_strike_19 : decode cX4_strike 19 = .ok (.if_icmp .lt 10, 3) := by decide +kernel
theorem dX4_strike_22 : decode cX4_strike 22 = .ok (.iload_n 2, 1) := by decide +kernel
theorem dX4_strike_23 : decode cX4_strike 23 = .ok (.sipush 5000, 3) := by decide +kernel
theorem dX4_strike_26 : decode cX4_strike 26 = .ok (.if_icmp .le 13, 3) := by decide +kernel
theorem dX4_strike_29 : decode cX4_strike 29 = .ok (.new 50, 3) := by decide +kernel
theorem dX4_strike_32 : decode cX4_strike 32 = .ok (.dup, 1) := by decide +kernel
theorem dX4_strike_33 : decode cX4_strike 33 = .ok (.ldc 143, 2) := by decide +kernel
theorem dX4_strike_35 : decode cX4_strike 35 = .ok (.invokespecial 54, 3) := by decide +kernel
theorem dX4_strike_38 : decode cX4_strike 38 = .ok (.athrow, 1) := by decide +kernel
theorem dX4_strike_39 : decode cX4_strike 39 = .ok (.aload_n 0, 1) := by decide +kernel
theorem dX4_strike_40 : decode cX4_strike 40 = .ok (.getfield 31, 3) := by decide +kernel
theorem dX4_strike_43 : decode cX4_strike 43 = .ok (.invokevirtual 104, 3) := by decide +kernel
theorem dX4_strike_46 : decode cX4_strike 46 = .ok (.ifCond .ne 13, 3) := by decide +kernel
theorem dX4_strike_49 : decode cX4_strike 49 = .ok (.new 64, 3) := by decide +kernel
theorem dX4_strike_52 : decode cX4_strike 52 = .ok (.dup, 1) := by decide +kernel
theorem dX4_strike_53 : decode cX4_strike 53 = .ok (.ldc 126, 2) := by decide +kernel
theorem dX4_strike_55 : decode cX4_strike 55 = .ok (.invokespecial 68, 3) := by decide +kernel
theorem dX4_strike_58 : decode cX4_strike 58 = .ok (.athrow, 1) := by decide +kernel
theorem dX4_strike_59 : decode cX4_strike 59 = .ok (.aload_n 0, 1) := by decide +kernel
theorem dX4_strike_60 : decode cX4_strike 60 = .ok (.iload_n 1, 1) := by decide +kernel
theorem dX4_strike_61 : decode cX4_strike 61 = .ok (.invokevirtual 145, 3) := by decide +kernel
theorem dX4_strike_64 : decode cX4_strike 64 = .ok (.istore_n 3, 1) := by decide +kernel
theorem dX4_strike_65 : decode cX4_strike 65 = .ok (.aload_n 0, 1) := by decide +kernel
theorem dX4_strike_66 : decode cX4_strike 66 = .ok (.getfield 31, 3) := by decide +kernel
theorem dX4_strike_69 : decode cX4_strike 69 = .ok (.iload_n 3, 1) := by decide +kernel
theorem dX4_strike_70 : decode cX4_strike 70 = .ok (.iload_n 2, 1) := by decide +kernel
theorem dX4_strike_71 : decode cX4_strike 71 = .ok (.invokevirtual 148, 3) := by decide +kernel
theorem dX4_strike_74 : decode cX4_strike 74 = .ok (.iload_n 3, 1) := by decide +kernel
theorem dX4_strike_75 : decode cX4_strike 75 = .ok (.ifCond .eq 21, 3) := by decide +kernel
theorem dX4_strike_78 : decode cX4_strike 78 = .ok (.aload_n 0, 1) := by decide +kernel
theorem dX4_strike_79 : decode cX4_strike 79 = .ok (.getfield 42, 3) := by decide +kernel
theorem dX4_strike_82 : decode cX4_strike 82 = .ok (.iload_n 3, 1) := by decide +kernel
theorem dX4_strike_83 : decode cX4_strike 83 = .ok (.aload_n 0, 1) := by decide +kernel
theorem dX4_strike_84 : decode cX4_strike 84 = .ok (.getfield 42, 3) := by decide +kernel
theorem dX4_strike_87 : decode cX4_strike 87 = .ok (.iload_n 3, 1) := by decide +kernel
theorem dX4_strike_88 : decode cX4_strike 88 = .ok (.invokestatic 152, 3) := by decide +kernel
theorem dX4_strike_91 : decode cX4_strike 91 = .ok (.iconst 1, 1) := by decide +kernel
theorem dX4_strike_92 : decode cX4_strike 92 = .ok (.iadd, 1) := by decide +kernel
theorem dX4_strike_93 : decode cX4_strike 93 = .ok (.invokestatic 156, 3) := by decide +kernel
theorem dX4_strike_96 : decode cX4_strike 96 = .ok (.iload_n 3, 1) := by decide +kernel
theorem dX4_strike_97 : decode cX4_strike 97 = .ok (.ifCond .eq 14, 3) := by decide +kernel
theorem dX4_strike_100 : decode cX4_strike 100 = .ok (.aload_n 0, 1) := by decide +kernel
theorem dX4_strike_101 : decode cX4_strike 101 = .ok (.getfield 31, 3) := by decide +kernel
theorem dX4_strike_104 : decode cX4_strike 104 = .ok (.invokevirtual 160, 3) := by decide +kernel
theorem dX4_strike_107 : decode cX4_strike 107 = .ok (.iconst 2, 1) := by decide +kernel
theorem dX4_strike_108 : decode cX4_strike 108 = .ok (.if_icmp .lt 8, 3) := by decide +kernel
theorem dX4_strike_111 : decode cX4_strike 111 = .ok (.aload_n 0, 1) := by decide +kernel
theorem dX4_strike_112 : decode cX4_strike 112 = .ok (.iload_n 2, 1) := by decide +kernel
theorem dX4_strike_113 : decode cX4_strike 113 = .ok (.invokevirtual 163, 3) := by decide +kernel
theorem dX4_strike_116 : decode cX4_strike 116 = .ok (.iload_n 3, 1) := by decide +kernel
theorem dX4_strike_117 : decode cX4_strike 117 = .ok (.ireturn, 1) := by decide +kernel
set_option maxRecDepth 20000 in
theorem ggX4_key_X4_isKey : GoodIn wsX4_key wsX4_isKey := goodIn_r _ [7] (by decide +kernel) (by decide +kernel)
set_option maxRecDepth 20000 in
theorem gX4_key_X4_isKey : GoodIn wsX4_key (va_wsS RX4 93 yX4_isKey wsX4_isKey) := goodIn_app (goodIn_of _ (by decide +kernel)) ggX4_key_X4_isKey
set_option maxRecDepth 20000 in
theorem ggX4_key_X1_tell : GoodIn wsX4_key wsX1_tell := goodIn_r _ [12, 13, 14, 15, 16, 6, 17, 24, 25, 26] (by decide +kernel) (by decide +kernel)
set_option maxRecDepth 20000 in
theorem gX4_key_X1_tell : GoodIn wsX4_key (wsV RX4 168 RX1 yX1_tell wsX1_tell) := goodIn_app (goodIn_of _ (by decide +kernel)) ggX4_key_X1_tell
theorem dX4_key_0 : decode cX4_key 0 = .ok (.iload_n 1, 1) := by decide +kernel
theorem dX4_key_1 : decode cX4_key 1 = .ok (.invokestatic 93, 3) := by decide +kernel
theorem dX4_key_4 : decode cX4_key 4 = .ok (.ifCond .eq 12, 3) := by decide +kernel
theorem dX4_key_7 : decode cX4_key 7 = .ok (.iload_n 2, 1) := by decide +kernel
theorem dX4_key_8 : decode cX4_key 8 = .ok (.ifCond .lt 8, 3) := by decide +kernel
theorem dX4_key_11 : decode cX4_key 11 = .ok (.iload_n 2, 1) := by decide +kernel
theorem dX4_key_12 : decode cX4_key 12 = .ok (.iconst 2, 1) := by decide +kernel
theorem dX4_key_13 : decode cX4_key 13 = .ok (.if_icmp .le 13, 3) := by decide +kernel
theorem dX4_key_16 : decode cX4_key 16 = .ok (.new 81, 3) := by decide +kernel
theorem dX4_key_19 : decode cX4_key 19 = .ok (.dup, 1) := by decide +kernel
theorem dX4_key_20 : decode cX4_key 20 = .ok (.ldc 166, 2) := by decide +kernel
theorem dX4_key_22 : decode cX4_key 22 = .ok (.invokespecial 85, 3) := by decide +kernel
theorem dX4_key_25 : decode cX4_key 25 = .ok (.athrow, 1) := by decide +kernel
theorem dX4_key_26 : decode cX4_key 26 = .ok (.aload_n 0, 1) := by decide +kernel
theorem dX4_key_27 : decode cX4_key 27 = .ok (.getfield 21, 3) := by decide +kernel
theorem dX4_key_30 : decode cX4_key 30 = .ok (.iload_n 1, 1) := by decide +kernel
theorem dX4_key_31 : decode cX4_key 31 = .ok (.iload_n 2, 1) := by decide +kernel
theorem dX4_key_32 : decode cX4_key 32 = .ok (.invokevirtual 168, 3) := by decide +kernel
theorem dX4_key_35 : decode cX4_key 35 = .ok (.ireturn, 1) := by decide +kernel
set_option maxRecDepth 20000 in
theorem ggX4_pair_X4_isKey : GoodIn wsX4_pair wsX4_isKey := goodIn_r _ [7] (by decide +kernel) (by decide +kernel)
set_option maxRecDepth 20000 in
theorem gX4_pair_X4_isKey : GoodIn wsX4_pair (va_wsS RX4 93 yX4_isKey wsX4_isKey) := goodIn_app (goodIn_of _ (by decide +kernel)) ggX4_pair_X4_isKey
set_option maxRecDepth 20000 in
theorem ggX4_pair_X4_pairOf : GoodIn wsX4_pair wsX4_pairOf := goodIn_r _ [10] (by decide +kernel) (by decide +kernel)
set_option maxRecDepth 20000 in
theorem gX4_pair_X4_pairOf : GoodIn wsX4_pair (va_wsS RX4 174 yX4_pairOf wsX4_pairOf) := goodIn_app (goodIn_of _ (by decide +kernel)) ggX4_pair_X4_pairOf
set_option maxRecDepth 20000 in
theorem ggX4_pair_X4_weaknessOf : GoodIn wsX4_pair wsX4_weaknessOf := goodIn_r _ [14, 3, 15, 16, 17, 18, 19, 20, 21, 6, 22, 23, 24, 25, 26, 27, 33, 34, 35, 36, 37, 38, 39, 40, 41] (by decide +kernel) (by decide +kernel)
set_option maxRecDepth 20000 in
theorem gX4_pair_X4_weaknessOf : GoodIn wsX4_pair (wsV RX4 177 RX4 yX4_weaknessOf wsX4_weaknessOf) := goodIn_app (goodIn_of _ (by decide +kernel)) ggX4_pair_X4_weaknessOf
set_option maxRecDepth 20000 in
theorem ggX4_pair_X1_tell : GoodIn wsX4_pair wsX1_tell := goodIn_r _ [31, 27, 32, 20, 21, 6, 22, 39, 40, 41] (by decide +kernel) (by decide +kernel)
set_option maxRecDepth 20000 in
theorem gX4_pair_X1_tell : GoodIn wsX4_pair (wsV RX4 168 RX1 yX1_tell wsX1_tell) := goodIn_app (goodIn_of _ (by decide +kernel)) ggX4_pair_X1_tell
theorem dX4_pair_0 : decode cX4_pair 0 = .ok (.iload_n 1, 1) := by decide +kernel
theorem dX4_pair_1 : decode cX4_pair 1 = .ok (.invokestatic 93, 3) := by decide +kernel
theorem dX4_pair_4 : decode cX4_pair 4 = .ok (.ifCond .eq 19, 3) := by decide +kernel
theorem dX4_pair_7 : decode cX4_pair 7 = .ok (.iload_n 2, 1) := by decide +kernel
theorem dX4_pair_8 : decode cX4_pair 8 = .ok (.invokestatic 93, 3) := by decide +kernel
theorem dX4_pair_11 : decode cX4_pair 11 = .ok (.ifCond .eq 12, 3) := by decide +kernel
theorem dX4_pair_14 : decode cX4_pair 14 = .ok (.iload_n 3, 1) := by decide +kernel
theorem dX4_pair_15 : decode cX4_pair 15 = .ok (.ifCond .lt 8, 3) := by decide +kernel
theorem dX4_pair_18 : decode cX4_pair 18 = .ok (.iload_n 3, 1) := by decide +kernel
theorem dX4_pair_19 : decode cX4_pair 19 = .ok (.iconst 3, 1) := by decide +kernel
theorem dX4_pair_20 : decode cX4_pair 20 = .ok (.if_icmp .le 13, 3) := by decide +kernel
theorem dX4_pair_23 : decode cX4_pair 23 = .ok (.new 81, 3) := by decide +kernel
theorem dX4_pair_26 : decode cX4_pair 26 = .ok (.dup, 1) := by decide +kernel
theorem dX4_pair_27 : decode cX4_pair 27 = .ok (.ldc 172, 2) := by decide +kernel
theorem dX4_pair_29 : decode cX4_pair 29 = .ok (.invokespecial 85, 3) := by decide +kernel
theorem dX4_pair_32 : decode cX4_pair 32 = .ok (.athrow, 1) := by decide +kernel
theorem dX4_pair_33 : decode cX4_pair 33 = .ok (.iload_n 1, 1) := by decide +kernel
theorem dX4_pair_34 : decode cX4_pair 34 = .ok (.iload_n 2, 1) := by decide +kernel
theorem dX4_pair_35 : decode cX4_pair 35 = .ok (.invokestatic 174, 3) := by decide +kernel
theorem dX4_pair_38 : decode cX4_pair 38 = .ok (.istore 4, 2) := by decide +kernel
theorem dX4_pair_40 : decode cX4_pair 40 = .ok (.iload_n 3, 1) := by decide +kernel
theorem dX4_pair_41 : decode cX4_pair 41 = .ok (.iconst 3, 1) := by decide +kernel
theorem dX4_pair_42 : decode cX4_pair 42 = .ok (.if_icmp .ne 12, 3) := by decide +kernel
theorem dX4_pair_45 : decode cX4_pair 45 = .ok (.aload_n 0, 1) := by decide +kernel
theorem dX4_pair_46 : decode cX4_pair 46 = .ok (.iload 4, 2) := by decide +kernel
theorem dX4_pair_48 : decode cX4_pair 48 = .ok (.invokevirtual 177, 3) := by decide +kernel
theorem dX4_pair_51 : decode cX4_pair 51 = .ok (.goto 13, 3) := by decide +kernel
theorem dX4_pair_54 : decode cX4_pair 54 = .ok (.aload_n 0, 1) := by decide +kernel
theorem dX4_pair_55 : decode cX4_pair 55 = .ok (.getfield 25, 3) := by decide +kernel
theorem dX4_pair_58 : decode cX4_pair 58 = .ok (.iload 4, 2) := by decide +kernel
theorem dX4_pair_60 : decode cX4_pair 60 = .ok (.iload_n 3, 1) := by decide +kernel
theorem dX4_pair_61 : decode cX4_pair 61 = .ok (.invokevirtual 168, 3) := by decide +kernel
theorem dX4_pair_64 : decode cX4_pair 64 = .ok (.ireturn, 1) := by decide +kernel
set_option maxRecDepth 20000 in
theorem ggX4_weakest_X1_triesOf : GoodIn wsX4_weakest wsX1_triesOf := goodIn_r _ [6, 7, 8, 9, 10, 26, 27, 28] (by decide +kernel) (by decide +kernel)
set_option maxRecDepth 20000 in
theorem gX4_weakest_X1_triesOf : GoodIn wsX4_weakest (wsV RX4 180 RX1 yX1_triesOf wsX1_triesOf) := goodIn_app (goodIn_of _ (by decide +kernel)) ggX4_weakest_X1_triesOf
set_option maxRecDepth 20000 in
theorem ggX4_weakest_X4_weaknessOf : GoodIn wsX4_weakest wsX4_weaknessOf := goodIn_r _ [14, 1, 15, 16, 17, 5, 18, 19, 8, 9, 10, 2, 3, 4, 6, 7, 20, 21, 22, 23, 24, 25, 26, 27, 28] (by decide +kernel) (by decide +kernel)
set_option maxRecDepth 20000 in
theorem gX4_weakest_X4_weaknessOf : GoodIn wsX4_weakest (wsV RX4 177 RX4 yX4_weaknessOf wsX4_weaknessOf) := goodIn_app (goodIn_of _ (by decide +kernel)) ggX4_weakest_X4_weaknessOf
theorem dX4_weakest_0 : decode cX4_weakest 0 = .ok (.iconst (-1), 1) := by decide +kernel
theorem dX4_weakest_1 : decode cX4_weakest 1 = .ok (.istore_n 1, 1) := by decide +kernel
theorem dX4_weakest_2 : decode cX4_weakest 2 = .ok (.iconst 0, 1) := by decide +kernel
theorem dX4_weakest_3 : decode cX4_weakest 3 = .ok (.istore_n 2, 1) := by decide +kernel
theorem dX4_weakest_4 : decode cX4_weakest 4 = .ok (.iload_n 2, 1) := by decide +kernel
theorem dX4_weakest_5 : decode cX4_weakest 5 = .ok (.sipush 676, 3) := by decide +kernel
theorem dX4_weakest_8 : decode cX4_weakest 8 = .ok (.if_icmp .ge 40, 3) := by decide +kernel
theorem dX4_weakest_11 : decode cX4_weakest 11 = .ok (.aload_n 0, 1) := by decide +kernel
theorem dX4_weakest_12 : decode cX4_weakest 12 = .ok (.getfield 25, 3) := by decide +kernel
theorem dX4_weakest_15 : decode cX4_weakest 15 = .ok (.iload_n 2, 1) := by decide +kernel
theorem dX4_weakest_16 : decode cX4_weakest 16 = .ok (.invokevirtual 180, 3) := by decide +kernel
theorem dX4_weakest_19 : decode cX4_weakest 19 = .ok (.ifCond .le 23, 3) := by decide +kernel
theorem dX4_weakest_22 : decode cX4_weakest 22 = .ok (.iload_n 1, 1) := by decide +kernel
theorem dX4_weakest_23 : decode cX4_weakest 23 = .ok (.iconst (-1), 1) := by decide +kernel
theorem dX4_weakest_24 : decode cX4_weakest 24 = .ok (.if_icmp .eq 16, 3) := by decide +kernel
theorem dX4_weakest_27 : decode cX4_weakest 27 = .ok (.aload_n 0, 1) := by decide +kernel
theorem dX4_weakest_28 : decode cX4_weakest 28 = .ok (.iload_n 2, 1) := by decide +kernel
theorem dX4_weakest_29 : decode cX4_weakest 29 = .ok (.invokevirtual 177, 3) := by decide +kernel
theorem dX4_weakest_32 : decode cX4_weakest 32 = .ok (.aload_n 0, 1) := by decide +kernel
theorem dX4_weakest_33 : decode cX4_weakest 33 = .ok (.iload_n 1, 1) := by decide +kernel
theorem dX4_weakest_34 : decode cX4_weakest 34 = .ok (.invokevirtual 177, 3) := by decide +kernel
theorem dX4_weakest_37 : decode cX4_weakest 37 = .ok (.if_icmp .le 5, 3) := by decide +kernel
theorem dX4_weakest_40 : decode cX4_weakest 40 = .ok (.iload_n 2, 1) := by decide +kernel
theorem dX4_weakest_41 : decode cX4_weakest 41 = .ok (.istore_n 1, 1) := by decide +kernel
theorem dX4_weakest_42 : decode cX4_weakest 42 = .ok (.iinc 2 1, 3) := by decide +kernel
theorem dX4_weakest_45 : decode cX4_weakest 45 = .ok (.goto (-41), 3) := by decide +kernel
theorem dX4_weakest_48 : decode cX4_weakest 48 = .ok (.iload_n 1, 1) := by decide +kernel
theorem dX4_weakest_49 : decode cX4_weakest 49 = .ok (.ireturn, 1) := by decide +kernel
set_option maxRecDepth 20000 in
theorem ggX4_mistakes_X4_read : GoodIn wsX4_mistakes wsX4_read := goodIn_r _ [7] (by decide +kernel) (by decide +kernel)
set_option maxRecDepth 20000 in
theorem gX4_mistakes_X4_read : GoodIn wsX4_mistakes (va_wsS RX4 152 yX4_read wsX4_read) := goodIn_app (goodIn_of _ (by decide +kernel)) ggX4_mistakes_X4_read
theorem dX4_mistakes_0 : decode cX4_mistakes 0 = .ok (.iload_n 1, 1) := by decide +kernel
theorem dX4_mistakes_1 : decode cX4_mistakes 1 = .ok (.iconst 1, 1) := by decide +kernel
theorem dX4_mistakes_2 : decode cX4_mistakes 2 = .ok (.if_icmp .lt 8, 3) := by decide +kernel
theorem dX4_mistakes_5 : decode cX4_mistakes 5 = .ok (.iload_n 1, 1) := by decide +kernel
theorem dX4_mistakes_6 : decode cX4_mistakes 6 = .ok (.iconst 4, 1) := by decide +kernel
theorem dX4_mistakes_7 : decode cX4_mistakes 7 = .ok (.if_icmp .le 13, 3) := by decide +kernel
theorem dX4_mistakes_10 : decode cX4_mistakes 10 = .ok (.new 81, 3) := by decide +kernel
theorem dX4_mistakes_13 : decode cX4_mistakes 13 = .ok (.dup, 1) := by decide +kernel
theorem dX4_mistakes_14 : decode cX4_mistakes 14 = .ok (.ldc 183, 2) := by decide +kernel
theorem dX4_mistakes_16 : decode cX4_mistakes 16 = .ok (.invokespecial 85, 3) := by decide +kernel
theorem dX4_mistakes_19 : decode cX4_mistakes 19 = .ok (.athrow, 1) := by decide +kernel
theorem dX4_mistakes_20 : decode cX4_mistakes 20 = .ok (.aload_n 0, 1) := by decide +kernel
theorem dX4_mistakes_21 : decode cX4_mistakes 21 = .ok (.getfield 42, 3) := by decide +kernel
theorem dX4_mistakes_24 : decode cX4_mistakes 24 = .ok (.iload_n 1, 1) := by decide +kernel
theorem dX4_mistakes_25 : decode cX4_mistakes 25 = .ok (.invokestatic 152, 3) := by decide +kernel
theorem dX4_mistakes_28 : decode cX4_mistakes 28 = .ok (.ireturn, 1) := by decide +kernel
set_option maxRecDepth 20000 in
theorem ggX4_lessons_X0_size : GoodIn wsX4_lessons wsX0_size := goodIn_r _ [6, 7, 14, 15, 16, 17, 18, 19, 20] (by decide +kernel) (by decide +kernel)
set_option maxRecDepth 20000 in
theorem gX4_lessons_X0_size : GoodIn wsX4_lessons (wsV RX4 185 RX0 yX0_size wsX0_size) := goodIn_app (goodIn_of _ (by decide +kernel)) ggX4_lessons_X0_size
theorem dX4_lessons_0 : decode cX4_lessons 0 = .ok (.aload_n 0, 1) := by decide +kernel
theorem dX4_lessons_1 : decode cX4_lessons 1 = .ok (.getfield 38, 3) := by decide +kernel
theorem dX4_lessons_4 : decode cX4_lessons 4 = .ok (.invokevirtual 185, 3) := by decide +kernel
theorem dX4_lessons_7 : decode cX4_lessons 7 = .ok (.ireturn, 1) := by decide +kernel
set_option maxRecDepth 20000 in
theorem ggX4_lesson_X0_size : GoodIn wsX4_lesson wsX0_size := goodIn_r _ [8, 9, 31, 32, 33, 34, 35, 36, 37] (by decide +kernel) (by decide +kernel)
set_option maxRecDepth 20000 in
theorem gX4_lesson_X0_size : GoodIn wsX4_lesson (wsV RX4 185 RX0 yX0_size wsX0_size) := goodIn_app (goodIn_of _ (by decide +kernel)) ggX4_lesson_X0_size
set_option maxRecDepth 20000 in
theorem ggX4_lesson_X0_tell : GoodIn wsX4_lesson wsX0_tell := goodIn_r _ [13, 14, 15, 16, 17, 18, 19, 20, 21, 22, 7, 23, 24, 31, 32, 33, 34, 35, 36, 37] (by decide +kernel) (by decide +kernel)
set_option maxRecDepth 20000 in
theorem gX4_lesson_X0_tell : GoodIn wsX4_lesson (wsV RX4 188 RX0 yX0_tell wsX0_tell) := goodIn_app (goodIn_of _ (by decide +kernel)) ggX4_lesson_X0_tell
theorem dX4_lesson_0 : decode cX4_lesson 0 = .ok (.iload_n 1, 1) := by decide +kernel
theorem dX4_lesson_1 : decode cX4_lesson 1 = .ok (.ifCond .lt 23, 3) := by decide +kernel
theorem dX4_lesson_4 : decode cX4_lesson 4 = .ok (.iload_n 1, 1) := by decide +kernel
theorem dX4_lesson_5 : decode cX4_lesson 5 = .ok (.aload_n 0, 1) := by decide +kernel
theorem dX4_lesson_6 : decode cX4_lesson 6 = .ok (.getfield 38, 3) := by decide +kernel
theorem dX4_lesson_9 : decode cX4_lesson 9 = .ok (.invokevirtual 185, 3) := by decide +kernel
theorem dX4_lesson_12 : decode cX4_lesson 12 = .ok (.if_icmp .ge 12, 3) := by decide +kernel
theorem dX4_lesson_15 : decode cX4_lesson 15 = .ok (.iload_n 2, 1) := by decide +kernel
theorem dX4_lesson_16 : decode cX4_lesson 16 = .ok (.ifCond .lt 8, 3) := by decide +kernel
theorem dX4_lesson_19 : decode cX4_lesson 19 = .ok (.iload_n 2, 1) := by decide +kernel
theorem dX4_lesson_20 : decode cX4_lesson 20 = .ok (.iconst 3, 1) := by decide +kernel
theorem dX4_lesson_21 : decode cX4_lesson 21 = .ok (.if_icmp .le 13, 3) := by decide +kernel
theorem dX4_lesson_24 : decode cX4_lesson 24 = .ok (.new 81, 3) := by decide +kernel
theorem dX4_lesson_27 : decode cX4_lesson 27 = .ok (.dup, 1) := by decide +kernel
theorem dX4_lesson_28 : decode cX4_lesson 28 = .ok (.ldc 186, 2) := by decide +kernel
theorem dX4_lesson_30 : decode cX4_lesson 30 = .ok (.invokespecial 85, 3) := by decide +kernel
theorem dX4_lesson_33 : decode cX4_lesson 33 = .ok (.athrow, 1) := by decide +kernel
theorem dX4_lesson_34 : decode cX4_lesson 34 = .ok (.aload_n 0, 1) := by decide +kernel
theorem dX4_lesson_35 : decode cX4_lesson 35 = .ok (.getfield 38, 3) := by decide +kernel
theorem dX4_lesson_38 : decode cX4_lesson 38 = .ok (.iload_n 1, 1) := by decide +kernel
theorem dX4_lesson_39 : decode cX4_lesson 39 = .ok (.iload_n 2, 1) := by decide +kernel
theorem dX4_lesson_40 : decode cX4_lesson 40 = .ok (.invokevirtual 188, 3) := by decide +kernel
theorem dX4_lesson_43 : decode cX4_lesson 43 = .ok (.ireturn, 1) := by decide +kernel
set_option maxRecDepth 20000 in
theorem ggX4_pace_X0_advisedPace : GoodIn wsX4_pace wsX0_advisedPace := goodIn_r _ [6, 7, 14, 15, 16, 17, 18, 19, 20] (by decide +kernel) (by decide +kernel)
set_option maxRecDepth 20000 in
theorem gX4_pace_X0_advisedPace : GoodIn wsX4_pace (wsV RX4 189 RX0 yX0_advisedPace wsX0_advisedPace) := goodIn_app (goodIn_of _ (by decide +kernel)) ggX4_pace_X0_advisedPace
theorem dX4_pace_0 : decode cX4_pace 0 = .ok (.aload_n 0, 1) := by decide +kernel
theorem dX4_pace_1 : decode cX4_pace 1 = .ok (.getfield 38, 3) := by decide +kernel
theorem dX4_pace_4 : decode cX4_pace 4 = .ok (.invokevirtual 189, 3) := by decide +kernel
theorem dX4_pace_7 : decode cX4_pace 7 = .ok (.ireturn, 1) := by decide +kernel
set_option maxRecDepth 20000 in
theorem ggX4_isPlateau_X0_size : GoodIn wsX4_isPlateau wsX0_size := goodIn_r _ [6, 7, 32, 33, 34, 35, 36, 37, 38] (by decide +kernel) (by decide +kernel)
set_option maxRecDepth 20000 in
theorem gX4_isPlateau_X0_size : GoodIn wsX4_isPlateau (wsV RX4 185 RX0 yX0_size wsX0_size) := goodIn_app (goodIn_of _ (by decide +kernel)) ggX4_isPlateau_X0_size
set_option maxRecDepth 20000 in
theorem ggX4_isPlateau_X0_greatestSpeed : GoodIn wsX4_isPlateau wsX0_greatestSpeed := goodIn_r _ [11, 12, 13, 14, 15, 16, 17, 18, 5, 19, 20, 21, 22, 23, 24, 25, 32, 33, 34, 35, 36, 37, 38] (by decide +kernel) (by decide +kernel)
set_option maxRecDepth 20000 in
theorem gX4_isPlateau_X0_greatestSpeed : GoodIn wsX4_isPlateau (wsV RX4 192 RX0 yX0_greatestSpeed wsX0_greatestSpeed) := goodIn_app (goodIn_of _ (by decide +kernel)) ggX4_isPlateau_X0_greatestSpeed
theorem dX4_isPlateau_0 : decode cX4_isPlateau 0 = .ok (.aload_n 0, 1) := by decide +kernel
theorem dX4_isPlateau_1 : decode cX4_isPlateau 1 = .ok (.getfield 38, 3) := by decide +kernel
theorem dX4_isPlateau_4 : decode cX4_isPlateau 4 = .ok (.invokevirtual 185, 3) := by decide +kernel
theorem dX4_isPlateau_7 : decode cX4_isPlateau 7 = .ok (.istore_n 1, 1) := by decide +kernel
theorem dX4_isPlateau_8 : decode cX4_isPlateau 8 = .ok (.iload_n 1, 1) := by decide +kernel
theorem dX4_isPlateau_9 : decode cX4_isPlateau 9 = .ok (.bipush 6, 2) := by decide +kernel
theorem dX4_isPlateau_11 : decode cX4_isPlateau 11 = .ok (.if_icmp .ge 5, 3) := by decide +kernel
theorem dX4_isPlateau_14 : decode cX4_isPlateau 14 = .ok (.iconst 0, 1) := by decide +kernel
theorem dX4_isPlateau_15 : decode cX4_isPlateau 15 = .ok (.ireturn, 1) := by decide +kernel
theorem dX4_isPlateau_16 : decode cX4_isPlateau 16 = .ok (.aload_n 0, 1) := by decide +kernel
theorem dX4_isPlateau_17 : decode cX4_isPlateau 17 = .ok (.getfield 38, 3) := by decide +kernel
theorem dX4_isPlateau_20 : decode cX4_isPlateau 20 = .ok (.iload_n 1, 1) := by decide +kernel
theorem dX4_isPlateau_21 : decode cX4_isPlateau 21 = .ok (.iconst 3, 1) := by decide +kernel
theorem dX4_isPlateau_22 : decode cX4_isPlateau 22 = .ok (.isub, 1) := by decide +kernel
theorem dX4_isPlateau_23 : decode cX4_isPlateau 23 = .ok (.iload_n 1, 1) := by decide +kernel
theorem dX4_isPlateau_24 : decode cX4_isPlateau 24 = .ok (.invokevirtual 192, 3) := by decide +kernel
theorem dX4_isPlateau_27 : decode cX4_isPlateau 27 = .ok (.istore_n 2, 1) := by decide +kernel
theorem dX4_isPlateau_28 : decode cX4_isPlateau 28 = .ok (.aload_n 0, 1) := by decide +kernel
theorem dX4_isPlateau_29 : decode cX4_isPlateau 29 = .ok (.getfield 38, 3) := by decide +kernel
theorem dX4_isPlateau_32 : decode cX4_isPlateau 32 = .ok (.iload_n 1, 1) := by decide +kernel
theorem dX4_isPlateau_33 : decode cX4_isPlateau 33 = .ok (.bipush 6, 2) := by decide +kernel
theorem dX4_isPlateau_35 : decode cX4_isPlateau 35 = .ok (.isub, 1) := by decide +kernel
theorem dX4_isPlateau_36 : decode cX4_isPlateau 36 = .ok (.iload_n 1, 1) := by decide +kernel
theorem dX4_isPlateau_37 : decode cX4_isPlateau 37 = .ok (.iconst 3, 1) := by decide +kernel
theorem dX4_isPlateau_38 : decode cX4_isPlateau 38 = .ok (.isub, 1) := by decide +kernel
theorem dX4_isPlateau_39 : decode cX4_isPlateau 39 = .ok (.invokevirtual 192, 3) := by decide +kernel
theorem dX4_isPlateau_42 : decode cX4_isPlateau 42 = .ok (.istore_n 3, 1) := by decide +kernel
theorem dX4_isPlateau_43 : decode cX4_isPlateau 43 = .ok (.iload_n 2, 1) := by decide +kernel
theorem dX4_isPlateau_44 : decode cX4_isPlateau 44 = .ok (.iload_n 3, 1) := by decide +kernel
theorem dX4_isPlateau_45 : decode cX4_isPlateau 45 = .ok (.if_icmp .gt 7, 3) := by decide +kernel
theorem dX4_isPlateau_48 : decode cX4_isPlateau 48 = .ok (.iconst 1, 1) := by decide +kernel
theorem dX4_isPlateau_49 : decode cX4_isPlateau 49 = .ok (.goto 4, 3) := by decide +kernel
theorem dX4_isPlateau_52 : decode cX4_isPlateau 52 = .ok (.iconst 0, 1) := by decide +kernel
theorem dX4_isPlateau_53 : decode cX4_isPlateau 53 = .ok (.ireturn, 1) := by decide +kernel
set_option maxRecDepth 20000 in
theorem ggX4_accuracy_X0_letterSum : GoodIn wsX4_accuracy wsX0_letterSum := goodIn_r _ [6, 7, 19, 20, 21, 22, 23, 24, 25] (by decide +kernel) (by decide +kernel)
set_option maxRecDepth 20000 in
theorem gX4_accuracy_X0_letterSum : GoodIn wsX4_accuracy (wsV RX4 195 RX0 yX0_letterSum wsX0_letterSum) := goodIn_app (goodIn_of _ (by decide +kernel)) ggX4_accuracy_X0_letterSum
set_option maxRecDepth 20000 in
theorem ggX4_accuracy_X0_cleanSum : GoodIn wsX4_accuracy wsX0_cleanSum := goodIn_r _ [11, 12, 19, 20, 21, 22, 23, 24, 25] (by decide +kernel) (by decide +kernel)
set_option maxRecDepth 20000 in
theorem gX4_accuracy_X0_cleanSum : GoodIn wsX4_accuracy (wsV RX4 198 RX0 yX0_cleanSum wsX0_cleanSum) := goodIn_app (goodIn_of _ (by decide +kernel)) ggX4_accuracy_X0_cleanSum
theorem dX4_accuracy_0 : decode cX4_accuracy 0 = .ok (.aload_n 0, 1) := by decide +kernel
theorem dX4_accuracy_1 : decode cX4_accuracy 1 = .ok (.getfield 38, 3) := by decide +kernel
theorem dX4_accuracy_4 : decode cX4_accuracy 4 = .ok (.invokevirtual 195, 3) := by decide +kernel
theorem dX4_accuracy_7 : decode cX4_accuracy 7 = .ok (.istore_n 1, 1) := by decide +kernel
theorem dX4_accuracy_8 : decode cX4_accuracy 8 = .ok (.iload_n 1, 1) := by decide +kernel
theorem dX4_accuracy_9 : decode cX4_accuracy 9 = .ok (.ifCond .le 17, 3) := by decide +kernel
theorem dX4_accuracy_12 : decode cX4_accuracy 12 = .ok (.aload_n 0, 1) := by decide +kernel
theorem dX4_accuracy_13 : decode cX4_accuracy 13 = .ok (.getfield 38, 3) := by decide +kernel
theorem dX4_accuracy_16 : decode cX4_accuracy 16 = .ok (.invokevirtual 198, 3) := by decide +kernel
theorem dX4_accuracy_19 : decode cX4_accuracy 19 = .ok (.i2d, 1) := by decide +kernel
theorem dX4_accuracy_20 : decode cX4_accuracy 20 = .ok (.iload_n 1, 1) := by decide +kernel
theorem dX4_accuracy_21 : decode cX4_accuracy 21 = .ok (.i2d, 1) := by decide +kernel
theorem dX4_accuracy_22 : decode cX4_accuracy 22 = .ok (.ddiv, 1) := by decide +kernel
theorem dX4_accuracy_23 : decode cX4_accuracy 23 = .ok (.goto 4, 3) := by decide +kernel
theorem dX4_accuracy_26 : decode cX4_accuracy 26 = .ok (.dconst 1, 1) := by decide +kernel
theorem dX4_accuracy_27 : decode cX4_accuracy 27 = .ok (.dreturn, 1) := by decide +kernel
set_option maxRecDepth 20000 in
theorem ggX4_digest_X4_digestOfWords : GoodIn wsX4_digest wsX4_digestOfWords := goodIn_r _ [6, 7, 8, 9, 10, 11, 12, 13, 14, 15, 5, 16, 17, 18, 19, 20, 21, 22, 102, 103, 104, 105, 106, 107, 108, 109] (by decide +kernel) (by decide +kernel)
set_option maxRecDepth 20000 in
theorem gX4_digest_X4_digestOfWords : GoodIn wsX4_digest (wsV RX4 203 RX4 yX4_digestOfWords wsX4_digestOfWords) := goodIn_app (goodIn_of _ (by decide +kernel)) ggX4_digest_X4_digestOfWords
set_option maxRecDepth 20000 in
theorem ggX4_digest_X4_digestOfKnowledge : GoodIn wsX4_digest wsX4_digestOfKnowledge := goodIn_r _ [26, 27, 28, 29, 30, 31, 5, 32, 33, 34, 35, 36, 37, 38, 39, 40, 41, 42, 14, 15, 16, 17, 43, 44, 45, 46, 47, 102, 103, 104, 105, 106, 107, 110, 111, 112] (by decide +kernel) (by decide +kernel)
set_option maxRecDepth 20000 in
theorem gX4_digest_X4_digestOfKnowledge : GoodIn wsX4_digest (wsV RX4 207 RX4 yX4_digestOfKnowledge wsX4_digestOfKnowledge) := goodIn_app (goodIn_of _ (by decide +kernel)) ggX4_digest_X4_digestOfKnowledge
set_option maxRecDepth 20000 in
theorem ggX4_digest_X4_digestOfLesson : GoodIn wsX4_digest wsX4_digestOfLesson := goodIn_r _ [51, 52, 53, 54, 55, 56, 57, 58, 14, 15, 5, 16, 17, 59, 60, 61, 62, 63, 64, 65, 66, 67, 68, 41, 42, 69, 70, 71, 72, 73, 102, 103, 104, 105, 106, 107, 113, 114, 115, 116, 117, 118, 119, 120, 121, 122, 123] (by decide +kernel) (by decide +kernel)
set_option maxRecDepth 20000 in
theorem gX4_digest_X4_digestOfLesson : GoodIn wsX4_digest (wsV RX4 210 RX4 yX4_digestOfLesson wsX4_digestOfLesson) := goodIn_app (goodIn_of _ (by decide +kernel)) ggX4_digest_X4_digestOfLesson
set_option maxRecDepth 20000 in
theorem ggX4_digest_X4_digestOfHistory : GoodIn wsX4_digest wsX4_digestOfHistory := goodIn_r _ [77, 78, 79, 80, 81, 82, 83, 84, 14, 15, 5, 16, 17, 85, 86, 87, 88, 89, 90, 91, 41, 42, 92, 93, 94, 95, 96, 97, 98, 99, 100, 101, 102, 103, 104, 105, 106, 107, 124, 125, 126, 127, 128, 129, 130] (by decide +kernel) (by decide +kernel)
set_option maxRecDepth 20000 in
theorem gX4_digest_X4_digestOfHistory : GoodIn wsX4_digest (wsV RX4 213 RX4 yX4_digestOfHistory wsX4_digestOfHistory) := goodIn_app (goodIn_of _ (by decide +kernel)) ggX4_digest_X4_digestOfHistory
theorem dX4_digest_0 : decode cX4_digest 0 = .ok (.aload_n 0, 1) := by decide +kernel
theorem dX4_digest_1 : decode cX4_digest 1 = .ok (.ldc2_w 201, 3) := by decide +kernel
theorem dX4_digest_4 : decode cX4_digest 4 = .ok (.invokevirtual 203, 3) := by decide +kernel
theorem dX4_digest_7 : decode cX4_digest 7 = .ok (.lstore_n 1, 1) := by decide +kernel
theorem dX4_digest_8 : decode cX4_digest 8 = .ok (.aload_n 0, 1) := by decide +kernel
theorem dX4_digest_9 : decode cX4_digest 9 = .ok (.lload_n 1, 1) := by decide +kernel
theorem dX4_digest_10 : decode cX4_digest 10 = .ok (.invokevirtual 207, 3) := by decide +kernel
theorem dX4_digest_13 : decode cX4_digest 13 = .ok (.lstore_n 1, 1) := by decide +kernel
theorem dX4_digest_14 : decode cX4_digest 14 = .ok (.aload_n 0, 1) := by decide +kernel
theorem dX4_digest_15 : decode cX4_digest 15 = .ok (.lload_n 1, 1) := by decide +kernel
theorem dX4_digest_16 : decode cX4_digest 16 = .ok (.invokevirtual 210, 3) := by decide +kernel
theorem dX4_digest_19 : decode cX4_digest 19 = .ok (.lstore_n 1, 1) := by decide +kernel
theorem dX4_digest_20 : decode cX4_digest 20 = .ok (.aload_n 0, 1) := by decide +kernel
theorem dX4_digest_21 : decode cX4_digest 21 = .ok (.lload_n 1, 1) := by decide +kernel
theorem dX4_digest_22 : decode cX4_digest 22 = .ok (.invokevirtual 213, 3) := by decide +kernel
theorem dX4_digest_25 : decode cX4_digest 25 = .ok (.lreturn, 1) := by decide +kernel
theorem dX4_read_0 : decode cX4_read 0 = .ok (.iload_n 1, 1) := by decide +kernel
theorem dX4_read_1 : decode cX4_read 1 = .ok (.ifCond .lt 15, 3) := by decide +kernel
theorem dX4_read_4 : decode cX4_read 4 = .ok (.iload_n 1, 1) := by decide +kernel
theorem dX4_read_5 : decode cX4_read 5 = .ok (.aload_n 0, 1) := by decide +kernel
theorem dX4_read_6 : decode cX4_read 6 = .ok (.arraylength, 1) := by decide +kernel
theorem dX4_read_7 : decode cX4_read 7 = .ok (.if_icmp .ge 9, 3) := by decide +kernel
theorem dX4_read_10 : decode cX4_read 10 = .ok (.aload_n 0, 1) := by decide +kernel
theorem dX4_read_11 : decode cX4_read 11 = .ok (.iload_n 1, 1) := by decide +kernel
theorem dX4_read_12 : decode cX4_read 12 = .ok (.iaload, 1) := by decide +kernel
theorem dX4_read_13 : decode cX4_read 13 = .ok (.goto 4, 3) := by decide +kernel
theorem dX4_read_16 : decode cX4_read 16 = .ok (.iconst 0, 1) := by decide +kernel
theorem dX4_read_17 : decode cX4_read 17 = .ok (.ireturn, 1) := by decide +kernel
theorem dX4_write_0 : decode cX4_write 0 = .ok (.iload_n 1, 1) := by decide +kernel
theorem dX4_write_1 : decode cX4_write 1 = .ok (.ifCond .lt 13, 3) := by decide +kernel
theorem dX4_write_4 : decode cX4_write 4 = .ok (.iload_n 1, 1) := by decide +kernel
theorem dX4_write_5 : decode cX4_write 5 = .ok (.aload_n 0, 1) := by decide +kernel
theorem dX4_write_6 : decode cX4_write 6 = .ok (.arraylength, 1) := by decide +kernel
theorem dX4_write_7 : decode cX4_write 7 = .ok (.if_icmp .ge 7, 3) := by decide +kernel
theorem dX4_write_10 : decode cX4_write 10 = .ok (.aload_n 0, 1) := by decide +kernel
theorem dX4_write_11 : decode cX4_write 11 = .ok (.iload_n 1, 1) := by decide +kernel
theorem dX4_write_12 : decode cX4_write 12 = .ok (.iload_n 2, 1) := by decide +kernel
theorem dX4_write_13 : decode cX4_write 13 = .ok (.iastore, 1) := by decide +kernel
theorem dX4_write_14 : decode cX4_write 14 = .ok (.return_, 1) := by decide +kernel
theorem dX4_isKey_0 : decode cX4_isKey 0 = .ok (.iload_n 0, 1) := by decide +kernel
theorem dX4_isKey_1 : decode cX4_isKey 1 = .ok (.ifCond .lt 13, 3) := by decide +kernel
theorem dX4_isKey_4 : decode cX4_isKey 4 = .ok (.iload_n 0, 1) := by decide +kernel
theorem dX4_isKey_5 : decode cX4_isKey 5 = .ok (.bipush 26, 2) := by decide +kernel
theorem dX4_isKey_7 : decode cX4_isKey 7 = .ok (.if_icmp .ge 7, 3) := by decide +kernel
theorem dX4_isKey_10 : decode cX4_isKey 10 = .ok (.iconst 1, 1) := by decide +kernel
theorem dX4_isKey_11 : decode cX4_isKey 11 = .ok (.goto 4, 3) := by decide +kernel
theorem dX4_isKey_14 : decode cX4_isKey 14 = .ok (.iconst 0, 1) := by decide +kernel
theorem dX4_isKey_15 : decode cX4_isKey 15 = .ok (.ireturn, 1) := by decide +kernel
theorem dX4_pairOf_0 : decode cX4_pairOf 0 = .ok (.bipush 26, 2) := by decide +kernel
theorem dX4_pairOf_2 : decode cX4_pairOf 2 = .ok (.iload_n 0, 1) := by decide +kernel
theorem dX4_pairOf_3 : decode cX4_pairOf 3 = .ok (.imul, 1) := by decide +kernel
theorem dX4_pairOf_4 : decode cX4_pairOf 4 = .ok (.iload_n 1, 1) := by decide +kernel
theorem dX4_pairOf_5 : decode cX4_pairOf 5 = .ok (.iadd, 1) := by decide +kernel
theorem dX4_pairOf_6 : decode cX4_pairOf 6 = .ok (.ireturn, 1) := by decide +kernel
set_option maxRecDepth 20000 in
theorem ggX4_standSideBySide_X4_read : GoodIn wsX4_standSideBySide wsX4_read := goodIn_r _ [10] (by decide +kernel) (by decide +kernel)
set_option maxRecDepth 20000 in
theorem gX4_standSideBySide_X4_read : GoodIn wsX4_standSideBySide (va_wsS RX4 152 yX4_read wsX4_read) := goodIn_app (goodIn_of _ (by decide +kernel)) ggX4_standSideBySide_X4_read
theorem dX4_standSideBySide_0 : decode cX4_standSideBySide 0 = .ok (.getstatic 216, 3) := by decide +kernel
theorem dX4_standSideBySide_3 : decode cX4_standSideBySide 3 = .ok (.iload_n 0, 1) := by decide +kernel
theorem dX4_standSideBySide_4 : decode cX4_standSideBySide 4 = .ok (.invokestatic 152, 3) := by decide +kernel
theorem dX4_standSideBySide_7 : decode cX4_standSideBySide 7 = .ok (.getstatic 216, 3) := by decide +kernel
theorem dX4_standSideBySide_10 : decode cX4_standSideBySide 10 = .ok (.iload_n 1, 1) := by decide +kernel
theorem dX4_standSideBySide_11 : decode cX4_standSideBySide 11 = .ok (.invokestatic 152, 3) := by decide +kernel
theorem dX4_standSideBySide_14 : decode cX4_standSideBySide 14 = .ok (.isub, 1) := by decide +kernel
theorem dX4_standSideBySide_15 : decode cX4_standSideBySide 15 = .ok (.invokestatic 219, 3) := by decide +kernel
theorem dX4_standSideBySide_18 : decode cX4_standSideBySide 18 = .ok (.istore_n 2, 1) := by decide +kernel
theorem dX4_standSideBySide_19 : decode cX4_standSideBySide 19 = .ok (.getstatic 224, 3) := by decide +kernel
theorem dX4_standSideBySide_22 : decode cX4_standSideBySide 22 = .ok (.iload_n 0, 1) := by decide +kernel
theorem dX4_standSideBySide_23 : decode cX4_standSideBySide 23 = .ok (.invokestatic 152, 3) := by decide +kernel
theorem dX4_standSideBySide_26 : decode cX4_standSideBySide 26 = .ok (.getstatic 224, 3) := by decide +kernel
theorem dX4_standSideBySide_29 : decode cX4_standSideBySide 29 = .ok (.iload_n 1, 1) := by decide +kernel
theorem dX4_standSideBySide_30 : decode cX4_standSideBySide 30 = .ok (.invokestatic 152, 3) := by decide +kernel
theorem dX4_standSideBySide_33 : decode cX4_standSideBySide 33 = .ok (.isub, 1) := by decide +kernel
theorem dX4_standSideBySide_34 : decode cX4_standSideBySide 34 = .ok (.invokestatic 219, 3) := by decide +kernel
theorem dX4_standSideBySide_37 : decode cX4_standSideBySide 37 = .ok (.istore_n 3, 1) := by decide +kernel
theorem dX4_standSideBySide_38 : decode cX4_standSideBySide 38 = .ok (.iload_n 2, 1) := by decide +kernel
theorem dX4_standSideBySide_39 : decode cX4_standSideBySide 39 = .ok (.ifCond .ne 16, 3) := by decide +kernel
theorem dX4_standSideBySide_42 : decode cX4_standSideBySide 42 = .ok (.iload_n 3, 1) := by decide +kernel
theorem dX4_standSideBySide_43 : decode cX4_standSideBySide 43 = .ok (.iconst 1, 1) := by decide +kernel
theorem dX4_standSideBySide_44 : decode cX4_standSideBySide 44 = .ok (.if_icmp .ne 7, 3) := by decide +kernel
theorem dX4_standSideBySide_47 : decode cX4_standSideBySide 47 = .ok (.iconst 1, 1) := by decide +kernel
theorem dX4_standSideBySide_48 : decode cX4_standSideBySide 48 = .ok (.goto 22, 3) := by decide +kernel
theorem dX4_standSideBySide_51 : decode cX4_standSideBySide 51 = .ok (.iconst 0, 1) := by decide +kernel
theorem dX4_standSideBySide_52 : decode cX4_standSideBySide 52 = .ok (.goto 18, 3) := by decide +kernel
theorem dX4_standSideBySide_55 : decode cX4_standSideBySide 55 = .ok (.iload_n 2, 1) := by decide +kernel
theorem dX4_standSideBySide_56 : decode cX4_standSideBySide 56 = .ok (.iconst 1, 1) := by decide +kernel
theorem dX4_standSideBySide_57 : decode cX4_standSideBySide 57 = .ok (.if_icmp .ne 12, 3) := by decide +kernel
theorem dX4_standSideBySide_60 : decode cX4_standSideBySide 60 = .ok (.iload_n 3, 1) := by decide +kernel
theorem dX4_standSideBySide_61 : decode cX4_standSideBySide 61 = .ok (.iconst 1, 1) := by decide +kernel
theorem dX4_standSideBySide_62 : decode cX4_standSideBySide 62 = .ok (.if_icmp .gt 7, 3) := by decide +kernel
theorem dX4_standSideBySide_65 : decode cX4_standSideBySide 65 = .ok (.iconst 1, 1) := by decide +kernel
theorem dX4_standSideBySide_66 : decode cX4_standSideBySide 66 = .ok (.goto 4, 3) := by decide +kernel
theorem dX4_standSideBySide_69 : decode cX4_standSideBySide 69 = .ok (.iconst 0, 1) := by decide +kernel
theorem dX4_standSideBySide_70 : decode cX4_standSideBySide 70 = .ok (.ireturn, 1) := by decide +kernel
theorem dX4_tellsWord_0 : decode cX4_tellsWord 0 = .ok (.lload_n 0, 1) := by decide +kernel
theorem dX4_tellsWord_1 : decode cX4_tellsWord 1 = .ok (.lstore_n 2, 1) := by decide +kernel
theorem dX4_tellsWord_2 : decode cX4_tellsWord 2 = .ok (.iconst 0, 1) := by decide +kernel
theorem dX4_tellsWord_3 : decode cX4_tellsWord 3 = .ok (.istore 4, 2) := by decide +kernel
theorem dX4_tellsWord_5 : decode cX4_tellsWord 5 = .ok (.iload 4, 2) := by decide +kernel
theorem dX4_tellsWord_7 : decode cX4_tellsWord 7 = .ok (.bipush 8, 2) := by decide +kernel
theorem dX4_tellsWord_9 : decode cX4_tellsWord 9 = .ok (.if_icmp .ge 47, 3) := by decide +kernel
theorem dX4_tellsWord_12 : decode cX4_tellsWord 12 = .ok (.lload_n 2, 1) := by decide +kernel
theorem dX4_tellsWord_13 : decode cX4_tellsWord 13 = .ok (.lconst 0, 1) := by decide +kernel
theorem dX4_tellsWord_14 : decode cX4_tellsWord 14 = .ok (.lcmp, 1) := by decide +kernel
theorem dX4_tellsWord_15 : decode cX4_tellsWord 15 = .ok (.ifCond .eq 41, 3) := by decide +kernel
theorem dX4_tellsWord_18 : decode cX4_tellsWord 18 = .ok (.lload_n 2, 1) := by decide +kernel
theorem dX4_tellsWord_19 : decode cX4_tellsWord 19 = .ok (.ldc2_w 227, 3) := by decide +kernel
theorem dX4_tellsWord_22 : decode cX4_tellsWord 22 = .ok (.land, 1) := by decide +kernel
theorem dX4_tellsWord_23 : decode cX4_tellsWord 23 = .ok (.lstore 5, 2) := by decide +kernel
theorem dX4_tellsWord_25 : decode cX4_tellsWord 25 = .ok (.lload 5, 2) := by decide +kernel
theorem dX4_tellsWord_27 : decode cX4_tellsWord 27 = .ok (.ldc2_w 229, 3) := by decide +kernel
theorem dX4_tellsWord_30 : decode cX4_tellsWord 30 = .ok (.lcmp, 1) := by decide +kernel
theorem dX4_tellsWord_31 : decode cX4_tellsWord 31 = .ok (.ifCond .lt 12, 3) := by decide +kernel
theorem dX4_tellsWord_34 : decode cX4_tellsWord 34 = .ok (.lload 5, 2) := by decide +kernel
theorem dX4_tellsWord_36 : decode cX4_tellsWord 36 = .ok (.ldc2_w 231, 3) := by decide +kernel
theorem dX4_tellsWord_39 : decode cX4_tellsWord 39 = .ok (.lcmp, 1) := by decide +kernel
theorem dX4_tellsWord_40 : decode cX4_tellsWord 40 = .ok (.ifCond .le 5, 3) := by decide +kernel
theorem dX4_tellsWord_43 : decode cX4_tellsWord 43 = .ok (.iconst 0, 1) := by decide +kernel
theorem dX4_tellsWord_44 : decode cX4_tellsWord 44 = .ok (.ireturn, 1) := by decide +kernel
theorem dX4_tellsWord_45 : decode cX4_tellsWord 45 = .ok (.lload_n 2, 1) := by decide +kernel
theorem dX4_tellsWord_46 : decode cX4_tellsWord 46 = .ok (.bipush 8, 2) := by decide +kernel
theorem dX4_tellsWord_48 : decode cX4_tellsWord 48 = .ok (.lushr, 1) := by decide +kernel
theorem dX4_tellsWord_49 : decode cX4_tellsWord 49 = .ok (.lstore_n 2, 1) := by decide +kernel
theorem dX4_tellsWord_50 : decode cX4_tellsWord 50 = .ok (.iinc 4 1, 3) := by decide +kernel
theorem dX4_tellsWord_53 : decode cX4_tellsWord 53 = .ok (.goto (-48), 3) := by decide +kernel
theorem dX4_tellsWord_56 : decode cX4_tellsWord 56 = .ok (.lload_n 0, 1) := by decide +kernel
theorem dX4_tellsWord_57 : decode cX4_tellsWord 57 = .ok (.lconst 0, 1) := by decide +kernel
theorem dX4_tellsWord_58 : decode cX4_tellsWord 58 = .ok (.lcmp, 1) := by decide +kernel
theorem dX4_tellsWord_59 : decode cX4_tellsWord 59 = .ok (.ifCond .eq 7, 3) := by decide +kernel
theorem dX4_tellsWord_62 : decode cX4_tellsWord 62 = .ok (.iconst 1, 1) := by decide +kernel
theorem dX4_tellsWord_63 : decode cX4_tellsWord 63 = .ok (.goto 4, 3) := by decide +kernel
theorem dX4_tellsWord_66 : decode cX4_tellsWord 66 = .ok (.iconst 0, 1) := by decide +kernel
theorem dX4_tellsWord_67 : decode cX4_tellsWord 67 = .ok (.ireturn, 1) := by decide +kernel
theorem dX4_lengthOf_0 : decode cX4_lengthOf 0 = .ok (.iconst 0, 1) := by decide +kernel
theorem dX4_lengthOf_1 : decode cX4_lengthOf 1 = .ok (.istore_n 2, 1) := by decide +kernel
theorem dX4_lengthOf_2 : decode cX4_lengthOf 2 = .ok (.iload_n 2, 1) := by decide +kernel
theorem dX4_lengthOf_3 : decode cX4_lengthOf 3 = .ok (.bipush 8, 2) := by decide +kernel
theorem dX4_lengthOf_5 : decode cX4_lengthOf 5 = .ok (.if_icmp .ge 20, 3) := by decide +kernel
theorem dX4_lengthOf_8 : decode cX4_lengthOf 8 = .ok (.lload_n 0, 1) := by decide +kernel
theorem dX4_lengthOf_9 : decode cX4_lengthOf 9 = .ok (.bipush 8, 2) := by decide +kernel
theorem dX4_lengthOf_11 : decode cX4_lengthOf 11 = .ok (.iload_n 2, 1) := by decide +kernel
theorem dX4_lengthOf_12 : decode cX4_lengthOf 12 = .ok (.imul, 1) := by decide +kernel
theorem dX4_lengthOf_13 : decode cX4_lengthOf 13 = .ok (.lushr, 1) := by decide +kernel
theorem dX4_lengthOf_14 : decode cX4_lengthOf 14 = .ok (.lconst 0, 1) := by decide +kernel
theorem dX4_lengthOf_15 : decode cX4_lengthOf 15 = .ok (.lcmp, 1) := by decide +kernel
theorem dX4_lengthOf_16 : decode cX4_lengthOf 16 = .ok (.ifCond .eq 9, 3) := by decide +kernel
theorem dX4_lengthOf_19 : decode cX4_lengthOf 19 = .ok (.iinc 2 1, 3) := by decide +kernel
theorem dX4_lengthOf_22 : decode cX4_lengthOf 22 = .ok (.goto (-20), 3) := by decide +kernel
theorem dX4_lengthOf_25 : decode cX4_lengthOf 25 = .ok (.iload_n 2, 1) := by decide +kernel
theorem dX4_lengthOf_26 : decode cX4_lengthOf 26 = .ok (.ireturn, 1) := by decide +kernel
theorem dX4_letterOf_0 : decode cX4_letterOf 0 = .ok (.lload_n 0, 1) := by decide +kernel
theorem dX4_letterOf_1 : decode cX4_letterOf 1 = .ok (.bipush 8, 2) := by decide +kernel
theorem dX4_letterOf_3 : decode cX4_letterOf 3 = .ok (.iload_n 2, 1) := by decide +kernel
theorem dX4_letterOf_4 : decode cX4_letterOf 4 = .ok (.iconst 1, 1) := by decide +kernel
theorem dX4_letterOf_5 : decode cX4_letterOf 5 = .ok (.isub, 1) := by decide +kernel
theorem dX4_letterOf_6 : decode cX4_letterOf 6 = .ok (.iload_n 3, 1) := by decide +kernel
theorem dX4_letterOf_7 : decode cX4_letterOf 7 = .ok (.isub, 1) := by decide +kernel
theorem dX4_letterOf_8 : decode cX4_letterOf 8 = .ok (.imul, 1) := by decide +kernel
theorem dX4_letterOf_9 : decode cX4_letterOf 9 = .ok (.lushr, 1) := by decide +kernel
theorem dX4_letterOf_10 : decode cX4_letterOf 10 = .ok (.ldc2_w 227, 3) := by decide +kernel
theorem dX4_letterOf_13 : decode cX4_letterOf 13 = .ok (.land, 1) := by decide +kernel
theorem dX4_letterOf_14 : decode cX4_letterOf 14 = .ok (.l2i, 1) := by decide +kernel
theorem dX4_letterOf_15 : decode cX4_letterOf 15 = .ok (.bipush 97, 2) := by decide +kernel
theorem dX4_letterOf_17 : decode cX4_letterOf 17 = .ok (.isub, 1) := by decide +kernel
theorem dX4_letterOf_18 : decode cX4_letterOf 18 = .ok (.ireturn, 1) := by decide +kernel
set_option maxRecDepth 20000 in
theorem ggX4_pairAt_X4_letterOf : GoodIn wsX4_pairAt wsX4_letterOf := goodIn_r _ [4, 5] (by decide +kernel) (by decide +kernel)
set_option maxRecDepth 20000 in
theorem gX4_pairAt_X4_letterOf : GoodIn wsX4_pairAt (va_wsS RX4 233 yX4_letterOf wsX4_letterOf) := goodIn_app (goodIn_of _ (by decide +kernel)) ggX4_pairAt_X4_letterOf
set_option maxRecDepth 20000 in
theorem ggX4_pairAt_X4_pairOf : GoodIn wsX4_pairAt wsX4_pairOf := goodIn_r _ [8] (by decide +kernel) (by decide +kernel)
set_option maxRecDepth 20000 in
theorem gX4_pairAt_X4_pairOf : GoodIn wsX4_pairAt (va_wsS RX4 174 yX4_pairOf wsX4_pairOf) := goodIn_app (goodIn_of _ (by decide +kernel)) ggX4_pairAt_X4_pairOf
theorem dX4_pairAt_0 : decode cX4_pairAt 0 = .ok (.lload_n 0, 1) := by decide +kernel
theorem dX4_pairAt_1 : decode cX4_pairAt 1 = .ok (.iload_n 2, 1) := by decide +kernel
theorem dX4_pairAt_2 : decode cX4_pairAt 2 = .ok (.iload_n 3, 1) := by decide +kernel
theorem dX4_pairAt_3 : decode cX4_pairAt 3 = .ok (.iconst 1, 1) := by decide +kernel
theorem dX4_pairAt_4 : decode cX4_pairAt 4 = .ok (.isub, 1) := by decide +kernel
theorem dX4_pairAt_5 : decode cX4_pairAt 5 = .ok (.invokestatic 233, 3) := by decide +kernel
theorem dX4_pairAt_8 : decode cX4_pairAt 8 = .ok (.lload_n 0, 1) := by decide +kernel
theorem dX4_pairAt_9 : decode cX4_pairAt 9 = .ok (.iload_n 2, 1) := by decide +kernel
theorem dX4_pairAt_10 : decode cX4_pairAt 10 = .ok (.iload_n 3, 1) := by decide +kernel
theorem dX4_pairAt_11 : decode cX4_pairAt 11 = .ok (.invokestatic 233, 3) := by decide +kernel
theorem dX4_pairAt_14 : decode cX4_pairAt 14 = .ok (.invokestatic 174, 3) := by decide +kernel
theorem dX4_pairAt_17 : decode cX4_pairAt 17 = .ok (.ireturn, 1) := by decide +kernel
set_option maxRecDepth 20000 in
theorem ggX4_weaknessOf_X1_levelOf : GoodIn wsX4_weaknessOf wsX1_levelOf := goodIn_r _ [6, 7, 8, 9, 10, 22, 23, 24] (by decide +kernel) (by decide +kernel)
set_option maxRecDepth 20000 in
theorem gX4_weaknessOf_X1_levelOf : GoodIn wsX4_weaknessOf (wsV RX4 237 RX1 yX1_levelOf wsX1_levelOf) := goodIn_app (goodIn_of _ (by decide +kernel)) ggX4_weaknessOf_X1_levelOf
set_option maxRecDepth 20000 in
theorem ggX4_weaknessOf_X1_triesOf : GoodIn wsX4_weaknessOf wsX1_triesOf := goodIn_r _ [14, 15, 8, 9, 10, 22, 23, 24] (by decide +kernel) (by decide +kernel)
set_option maxRecDepth 20000 in
theorem gX4_weaknessOf_X1_triesOf : GoodIn wsX4_weaknessOf (wsV RX4 180 RX1 yX1_triesOf wsX1_triesOf) := goodIn_app (goodIn_of _ (by decide +kernel)) ggX4_weaknessOf_X1_triesOf
theorem dX4_weaknessOf_0 : decode cX4_weaknessOf 0 = .ok (.sipush 1000, 3) := by decide +kernel
theorem dX4_weaknessOf_3 : decode cX4_weaknessOf 3 = .ok (.aload_n 0, 1) := by decide +kernel
theorem dX4_weaknessOf_4 : decode cX4_weaknessOf 4 = .ok (.getfield 25, 3) := by decide +kernel
theorem dX4_weaknessOf_7 : decode cX4_weaknessOf 7 = .ok (.iload_n 1, 1) := by decide +kernel
theorem dX4_weaknessOf_8 : decode cX4_weaknessOf 8 = .ok (.invokevirtual 237, 3) := by decide +kernel
theorem dX4_weaknessOf_11 : decode cX4_weaknessOf 11 = .ok (.isub, 1) := by decide +kernel
theorem dX4_weaknessOf_12 : decode cX4_weaknessOf 12 = .ok (.istore_n 2, 1) := by decide +kernel
theorem dX4_weaknessOf_13 : decode cX4_weaknessOf 13 = .ok (.aload_n 0, 1) := by decide +kernel
theorem dX4_weaknessOf_14 : decode cX4_weaknessOf 14 = .ok (.getfield 25, 3) := by decide +kernel
theorem dX4_weaknessOf_17 : decode cX4_weaknessOf 17 = .ok (.iload_n 1, 1) := by decide +kernel
theorem dX4_weaknessOf_18 : decode cX4_weaknessOf 18 = .ok (.invokevirtual 180, 3) := by decide +kernel
theorem dX4_weaknessOf_21 : decode cX4_weaknessOf 21 = .ok (.ifCond .ne 11, 3) := by decide +kernel
theorem dX4_weaknessOf_24 : decode cX4_weaknessOf 24 = .ok (.iload_n 2, 1) := by decide +kernel
theorem dX4_weaknessOf_25 : decode cX4_weaknessOf 25 = .ok (.sipush 200, 3) := by decide +kernel
theorem dX4_weaknessOf_28 : decode cX4_weaknessOf 28 = .ok (.iadd, 1) := by decide +kernel
theorem dX4_weaknessOf_29 : decode cX4_weaknessOf 29 = .ok (.goto 4, 3) := by decide +kernel
theorem dX4_weaknessOf_32 : decode cX4_weaknessOf 32 = .ok (.iload_n 2, 1) := by decide +kernel
theorem dX4_weaknessOf_33 : decode cX4_weaknessOf 33 = .ok (.ireturn, 1) := by decide +kernel
set_option maxRecDepth 20000 in
theorem ggX4_weightOf_X4_lengthOf : GoodIn wsX4_weightOf wsX4_lengthOf := goodIn_r _ [5] (by decide +kernel) (by decide +kernel)
set_option maxRecDepth 20000 in
theorem gX4_weightOf_X4_lengthOf : GoodIn wsX4_weightOf (va_wsS RX4 240 yX4_lengthOf wsX4_lengthOf) := goodIn_app (goodIn_of _ (by decide +kernel)) ggX4_weightOf_X4_lengthOf
set_option maxRecDepth 20000 in
theorem ggX4_weightOf_X4_letterOf : GoodIn wsX4_weightOf wsX4_letterOf := goodIn_r _ [8, 9] (by decide +kernel) (by decide +kernel)
set_option maxRecDepth 20000 in
theorem gX4_weightOf_X4_letterOf : GoodIn wsX4_weightOf (va_wsS RX4 233 yX4_letterOf wsX4_letterOf) := goodIn_app (goodIn_of _ (by decide +kernel)) ggX4_weightOf_X4_letterOf
set_option maxRecDepth 20000 in
theorem ggX4_weightOf_X1_levelOf : GoodIn wsX4_weightOf wsX1_levelOf := goodIn_r _ [14, 15, 16, 4, 17, 40, 41, 42] (by decide +kernel) (by decide +kernel)
set_option maxRecDepth 20000 in
theorem gX4_weightOf_X1_levelOf : GoodIn wsX4_weightOf (wsV RX4 237 RX1 yX1_levelOf wsX1_levelOf) := goodIn_app (goodIn_of _ (by decide +kernel)) ggX4_weightOf_X1_levelOf
set_option maxRecDepth 20000 in
theorem ggX4_weightOf_X4_pairAt : GoodIn wsX4_weightOf wsX4_pairAt := goodIn_r _ [20, 6, 7, 4, 8, 9, 21, 22, 23] (by decide +kernel) (by decide +kernel)
set_option maxRecDepth 20000 in
theorem gX4_weightOf_X4_pairAt : GoodIn wsX4_weightOf (va_wsS RX4 243 yX4_pairAt wsX4_pairAt) := goodIn_app (goodIn_of _ (by decide +kernel)) ggX4_weightOf_X4_pairAt
set_option maxRecDepth 20000 in
theorem ggX4_weightOf_X4_weaknessOf : GoodIn wsX4_weightOf wsX4_weaknessOf := goodIn_r _ [27, 28, 10, 11, 12, 13, 14, 15, 16, 4, 17, 29, 30, 31, 32, 33, 34, 35, 36, 37, 38, 39, 40, 41, 42] (by decide +kernel) (by decide +kernel)
set_option maxRecDepth 20000 in
theorem gX4_weightOf_X4_weaknessOf : GoodIn wsX4_weightOf (wsV RX4 177 RX4 yX4_weaknessOf wsX4_weaknessOf) := goodIn_app (goodIn_of _ (by decide +kernel)) ggX4_weightOf_X4_weaknessOf
theorem dX4_weightOf_0 : decode cX4_weightOf 0 = .ok (.lload_n 1, 1) := by decide +kernel
theorem dX4_weightOf_1 : decode cX4_weightOf 1 = .ok (.invokestatic 240, 3) := by decide +kernel
theorem dX4_weightOf_4 : decode cX4_weightOf 4 = .ok (.istore_n 3, 1) := by decide +kernel
theorem dX4_weightOf_5 : decode cX4_weightOf 5 = .ok (.iload_n 3, 1) := by decide +kernel
theorem dX4_weightOf_6 : decode cX4_weightOf 6 = .ok (.iconst 1, 1) := by decide +kernel
theorem dX4_weightOf_7 : decode cX4_weightOf 7 = .ok (.if_icmp .gt 21, 3) := by decide +kernel
theorem dX4_weightOf_10 : decode cX4_weightOf 10 = .ok (.sipush 1000, 3) := by decide +kernel
theorem dX4_weightOf_13 : decode cX4_weightOf 13 = .ok (.aload_n 0, 1) := by decide +kernel
theorem dX4_weightOf_14 : decode cX4_weightOf 14 = .ok (.getfield 21, 3) := by decide +kernel
theorem dX4_weightOf_17 : decode cX4_weightOf 17 = .ok (.lload_n 1, 1) := by decide +kernel
theorem dX4_weightOf_18 : decode cX4_weightOf 18 = .ok (.iload_n 3, 1) := by decide +kernel
theorem dX4_weightOf_19 : decode cX4_weightOf 19 = .ok (.iconst 0, 1) := by decide +kernel
theorem dX4_weightOf_20 : decode cX4_weightOf 20 = .ok (.invokestatic 233, 3) := by decide +kernel
theorem dX4_weightOf_23 : decode cX4_weightOf 23 = .ok (.invokevirtual 237, 3) := by decide +kernel
theorem dX4_weightOf_26 : decode cX4_weightOf 26 = .ok (.isub, 1) := by decide +kernel
theorem dX4_weightOf_27 : decode cX4_weightOf 27 = .ok (.ireturn, 1) := by decide +kernel
theorem dX4_weightOf_28 : decode cX4_weightOf 28 = .ok (.iconst 0, 1) := by decide +kernel
theorem dX4_weightOf_29 : decode cX4_weightOf 29 = .ok (.istore 4, 2) := by decide +kernel
theorem dX4_weightOf_31 : decode cX4_weightOf 31 = .ok (.iconst 1, 1) := by decide +kernel
theorem dX4_weightOf_32 : decode cX4_weightOf 32 = .ok (.istore 5, 2) := by decide +kernel
theorem dX4_weightOf_34 : decode cX4_weightOf 34 = .ok (.iload 5, 2) := by decide +kernel
theorem dX4_weightOf_36 : decode cX4_weightOf 36 = .ok (.iload_n 3, 1) := by decide +kernel
theorem dX4_weightOf_37 : decode cX4_weightOf 37 = .ok (.if_icmp .ge 25, 3) := by decide +kernel
theorem dX4_weightOf_40 : decode cX4_weightOf 40 = .ok (.iload 4, 2) := by decide +kernel
theorem dX4_weightOf_42 : decode cX4_weightOf 42 = .ok (.aload_n 0, 1) := by decide +kernel
theorem dX4_weightOf_43 : decode cX4_weightOf 43 = .ok (.lload_n 1, 1) := by decide +kernel
theorem dX4_weightOf_44 : decode cX4_weightOf 44 = .ok (.iload_n 3, 1) := by decide +kernel
theorem dX4_weightOf_45 : decode cX4_weightOf 45 = .ok (.iload 5, 2) := by decide +kernel
theorem dX4_weightOf_47 : decode cX4_weightOf 47 = .ok (.invokestatic 243, 3) := by decide +kernel
theorem dX4_weightOf_50 : decode cX4_weightOf 50 = .ok (.invokevirtual 177, 3) := by decide +kernel
theorem dX4_weightOf_53 : decode cX4_weightOf 53 = .ok (.iadd, 1) := by decide +kernel
theorem dX4_weightOf_54 : decode cX4_weightOf 54 = .ok (.istore 4, 2) := by decide +kernel
theorem dX4_weightOf_56 : decode cX4_weightOf 56 = .ok (.iinc 5 1, 3) := by decide +kernel
theorem dX4_weightOf_59 : decode cX4_weightOf 59 = .ok (.goto (-25), 3) := by decide +kernel
theorem dX4_weightOf_62 : decode cX4_weightOf 62 = .ok (.iload 4, 2) := by decide +kernel
theorem dX4_weightOf_64 : decode cX4_weightOf 64 = .ok (.iload_n 3, 1) := by decide +kernel
theorem dX4_weightOf_65 : decode cX4_weightOf 65 = .ok (.iconst 1, 1) := by decide +kernel
theorem dX4_weightOf_66 : decode cX4_weightOf 66 = .ok (.isub, 1) := by decide +kernel
theorem dX4_weightOf_67 : decode cX4_weightOf 67 = .ok (.idiv, 1) := by decide +kernel
theorem dX4_weightOf_68 : decode cX4_weightOf 68 = .ok (.ireturn, 1) := by decide +kernel
set_option maxRecDepth 20000 in
theorem ggX4_weakestWordLeft_X3_size : GoodIn wsX4_weakestWordLeft wsX3_size := goodIn_r _ [7, 8, 73, 74] (by decide +kernel) (by decide +kernel)
set_option maxRecDepth 20000 in
theorem gX4_weakestWordLeft_X3_size : GoodIn wsX4_weakestWordLeft (wsV RX4 73 RX3 yX3_size wsX3_size) := goodIn_app (goodIn_of _ (by decide +kernel)) ggX4_weakestWordLeft_X3_size
set_option maxRecDepth 20000 in
theorem ggX4_weakestWordLeft_X2_hasWord : GoodIn wsX4_weakestWordLeft wsX2_hasWord := goodIn_r _ [13, 14, 15, 16, 17, 18, 75, 76, 77, 78, 79, 80, 81, 82, 83, 84, 85] (by decide +kernel) (by decide +kernel)
set_option maxRecDepth 20000 in
theorem gX4_weakestWordLeft_X2_hasWord : GoodIn wsX4_weakestWordLeft (wsV RX4 246 RX2 yX2_hasWord wsX2_hasWord) := goodIn_app (goodIn_of _ (by decide +kernel)) ggX4_weakestWordLeft_X2_hasWord
set_option maxRecDepth 20000 in
theorem ggX4_weakestWordLeft_X3_wordAt : GoodIn wsX4_weakestWordLeft wsX3_wordAt := goodIn_r _ [22, 23, 73, 74] (by decide +kernel) (by decide +kernel)
set_option maxRecDepth 20000 in
theorem gX4_weakestWordLeft_X3_wordAt : GoodIn wsX4_weakestWordLeft (wsV RX4 86 RX3 yX3_wordAt wsX3_wordAt) := goodIn_app (goodIn_of _ (by decide +kernel)) ggX4_weakestWordLeft_X3_wordAt
set_option maxRecDepth 20000 in
theorem ggX4_weakestWordLeft_X4_weightInLesson : GoodIn wsX4_weakestWordLeft wsX4_weightInLesson := goodIn_r _ [27, 2, 28, 29, 17, 30, 31, 32, 33, 34, 35, 36, 37, 38, 39, 40, 41, 42, 43, 44, 45, 16, 18, 46, 47, 48, 49, 50, 51, 52, 53, 54, 55, 56, 57, 58, 59, 60, 61, 62, 63, 64, 12, 65, 66, 67, 68, 69, 70, 71, 72, 86, 87, 88, 75, 76, 77, 78, 79, 80, 81, 82, 83, 84, 85] (by decide +kernel) (by decide +kernel)
set_option maxRecDepth 20000 in
theorem gX4_weakestWordLeft_X4_weightInLesson : GoodIn wsX4_weakestWordLeft (wsV RX4 249 RX4 yX4_weightInLesson wsX4_weightInLesson) := goodIn_app (goodIn_of _ (by decide +kernel)) ggX4_weakestWordLeft_X4_weightInLesson
theorem dX4_weakestWordLeft_0 : decode cX4_weakestWordLeft 0 = .ok (.iconst (-1), 1) := by decide +kernel
theorem dX4_weakestWordLeft_1 : decode cX4_weakestWordLeft 1 = .ok (.istore_n 1, 1) := by decide +kernel
theorem dX4_weakestWordLeft_2 : decode cX4_weakestWordLeft 2 = .ok (.iconst 0, 1) := by decide +kernel
theorem dX4_weakestWordLeft_3 : decode cX4_weakestWordLeft 3 = .ok (.istore_n 2, 1) := by decide +kernel
theorem dX4_weakestWordLeft_4 : decode cX4_weakestWordLeft 4 = .ok (.iconst 0, 1) := by decide +kernel
theorem dX4_weakestWordLeft_5 : decode cX4_weakestWordLeft 5 = .ok (.istore_n 3, 1) := by decide +kernel
theorem dX4_weakestWordLeft_6 : decode cX4_weakestWordLeft 6 = .ok (.iload_n 3, 1) := by decide +kernel
theorem dX4_weakestWordLeft_7 : decode cX4_weakestWordLeft 7 = .ok (.aload_n 0, 1) := by decide +kernel
theorem dX4_weakestWordLeft_8 : decode cX4_weakestWordLeft 8 = .ok (.getfield 12, 3) := by decide +kernel
theorem dX4_weakestWordLeft_11 : decode cX4_weakestWordLeft 11 = .ok (.invokevirtual 73, 3) := by decide +kernel
theorem dX4_weakestWordLeft_14 : decode cX4_weakestWordLeft 14 = .ok (.if_icmp .ge 53, 3) := by decide +kernel
theorem dX4_weakestWordLeft_17 : decode cX4_weakestWordLeft 17 = .ok (.aload_n 0, 1) := by decide +kernel
theorem dX4_weakestWordLeft_18 : decode cX4_weakestWordLeft 18 = .ok (.getfield 31, 3) := by decide +kernel
theorem dX4_weakestWordLeft_21 : decode cX4_weakestWordLeft 21 = .ok (.iload_n 3, 1) := by decide +kernel
theorem dX4_weakestWordLeft_22 : decode cX4_weakestWordLeft 22 = .ok (.invokevirtual 246, 3) := by decide +kernel
theorem dX4_weakestWordLeft_25 : decode cX4_weakestWordLeft 25 = .ok (.ifCond .eq 6, 3) := by decide +kernel
theorem dX4_weakestWordLeft_28 : decode cX4_weakestWordLeft 28 = .ok (.goto 33, 3) := by decide +kernel
theorem dX4_weakestWordLeft_31 : decode cX4_weakestWordLeft 31 = .ok (.aload_n 0, 1) := by decide +kernel
theorem dX4_weakestWordLeft_32 : decode cX4_weakestWordLeft 32 = .ok (.aload_n 0, 1) := by decide +kernel
theorem dX4_weakestWordLeft_33 : decode cX4_weakestWordLeft 33 = .ok (.getfield 12, 3) := by decide +kernel
theorem dX4_weakestWordLeft_36 : decode cX4_weakestWordLeft 36 = .ok (.iload_n 3, 1) := by decide +kernel
theorem dX4_weakestWordLeft_37 : decode cX4_weakestWordLeft 37 = .ok (.invokevirtual 86, 3) := by decide +kernel
theorem dX4_weakestWordLeft_40 : decode cX4_weakestWordLeft 40 = .ok (.invokevirtual 249, 3) := by decide +kernel
theorem dX4_weakestWordLeft_43 : decode cX4_weakestWordLeft 43 = .ok (.istore 4, 2) := by decide +kernel
theorem dX4_weakestWordLeft_45 : decode cX4_weakestWordLeft 45 = .ok (.iload_n 1, 1) := by decide +kernel
theorem dX4_weakestWordLeft_46 : decode cX4_weakestWordLeft 46 = .ok (.iconst (-1), 1) := by decide +kernel
theorem dX4_weakestWordLeft_47 : decode cX4_weakestWordLeft 47 = .ok (.if_icmp .eq 9, 3) := by decide +kernel
theorem dX4_weakestWordLeft_50 : decode cX4_weakestWordLeft 50 = .ok (.iload 4, 2) := by decide +kernel
theorem dX4_weakestWordLeft_52 : decode cX4_weakestWordLeft 52 = .ok (.iload_n 2, 1) := by decide +kernel
theorem dX4_weakestWordLeft_53 : decode cX4_weakestWordLeft 53 = .ok (.if_icmp .le 8, 3) := by decide +kernel
theorem dX4_weakestWordLeft_56 : decode cX4_weakestWordLeft 56 = .ok (.iload_n 3, 1) := by decide +kernel
theorem dX4_weakestWordLeft_57 : decode cX4_weakestWordLeft 57 = .ok (.istore_n 1, 1) := by decide +kernel
theorem dX4_weakestWordLeft_58 : decode cX4_weakestWordLeft 58 = .ok (.iload 4, 2) := by decide +kernel
theorem dX4_weakestWordLeft_60 : decode cX4_weakestWordLeft 60 = .ok (.istore_n 2, 1) := by decide +kernel
theorem dX4_weakestWordLeft_61 : decode cX4_weakestWordLeft 61 = .ok (.iinc 3 1, 3) := by decide +kernel
theorem dX4_weakestWordLeft_64 : decode cX4_weakestWordLeft 64 = .ok (.goto (-58), 3) := by decide +kernel
theorem dX4_weakestWordLeft_67 : decode cX4_weakestWordLeft 67 = .ok (.iload_n 1, 1) := by decide +kernel
theorem dX4_weakestWordLeft_68 : decode cX4_weakestWordLeft 68 = .ok (.ireturn, 1) := by decide +kernel
set_option maxRecDepth 20000 in
theorem ggX4_weightInLesson_X4_lengthOf : GoodIn wsX4_weightInLesson wsX4_lengthOf := goodIn_r _ [5] (by decide +kernel) (by decide +kernel)
set_option maxRecDepth 20000 in
theorem gX4_weightInLesson_X4_lengthOf : GoodIn wsX4_weightInLesson (va_wsS RX4 240 yX4_lengthOf wsX4_lengthOf) := goodIn_app (goodIn_of _ (by decide +kernel)) ggX4_weightInLesson_X4_lengthOf
set_option maxRecDepth 20000 in
theorem ggX4_weightInLesson_X4_weightOf : GoodIn wsX4_weightInLesson wsX4_weightOf := goodIn_r _ [9, 10, 2, 3, 4, 5, 11, 12, 13, 14, 15, 16, 17, 18, 19, 20, 21, 22, 23, 24, 25, 26, 27, 28, 29, 30, 31, 32, 33, 34, 35, 36, 37, 38, 45, 46, 47, 48, 49, 50, 51, 52, 53] (by decide +kernel) (by decide +kernel)
set_option maxRecDepth 20000 in
theorem gX4_weightInLesson_X4_weightOf : GoodIn wsX4_weightInLesson (wsV RX4 90 RX4 yX4_weightOf wsX4_weightOf) := goodIn_app (goodIn_of _ (by decide +kernel)) ggX4_weightInLesson_X4_weightOf
set_option maxRecDepth 20000 in
theorem ggX4_weightInLesson_X4_letterOf : GoodIn wsX4_weightInLesson wsX4_letterOf := goodIn_r _ [13, 14] (by decide +kernel) (by decide +kernel)
set_option maxRecDepth 20000 in
theorem gX4_weightInLesson_X4_letterOf : GoodIn wsX4_weightInLesson (va_wsS RX4 233 yX4_letterOf wsX4_letterOf) := goodIn_app (goodIn_of _ (by decide +kernel)) ggX4_weightInLesson_X4_letterOf
set_option maxRecDepth 20000 in
theorem ggX4_weightInLesson_X2_hasPair : GoodIn wsX4_weightInLesson wsX2_hasPair := goodIn_r _ [43, 44, 21, 4, 22, 54, 55, 56, 57, 58, 59, 60, 61, 62, 63, 64] (by decide +kernel) (by decide +kernel)
set_option maxRecDepth 20000 in
theorem gX4_weightInLesson_X2_hasPair : GoodIn wsX4_weightInLesson (wsV RX4 252 RX2 yX2_hasPair wsX2_hasPair) := goodIn_app (goodIn_of _ (by decide +kernel)) ggX4_weightInLesson_X2_hasPair
theorem dX4_weightInLesson_0 : decode cX4_weightInLesson 0 = .ok (.lload_n 1, 1) := by decide +kernel
theorem dX4_weightInLesson_1 : decode cX4_weightInLesson 1 = .ok (.invokestatic 240, 3) := by decide +kernel
theorem dX4_weightInLesson_4 : decode cX4_weightInLesson 4 = .ok (.istore_n 3, 1) := by decide +kernel
theorem dX4_weightInLesson_5 : decode cX4_weightInLesson 5 = .ok (.aload_n 0, 1) := by decide +kernel
theorem dX4_weightInLesson_6 : decode cX4_weightInLesson 6 = .ok (.lload_n 1, 1) := by decide +kernel
theorem dX4_weightInLesson_7 : decode cX4_weightInLesson 7 = .ok (.invokevirtual 90, 3) := by decide +kernel
theorem dX4_weightInLesson_10 : decode cX4_weightInLesson 10 = .ok (.istore 4, 2) := by decide +kernel
theorem dX4_weightInLesson_12 : decode cX4_weightInLesson 12 = .ok (.iconst 1, 1) := by decide +kernel
theorem dX4_weightInLesson_13 : decode cX4_weightInLesson 13 = .ok (.istore 5, 2) := by decide +kernel
theorem dX4_weightInLesson_15 : decode cX4_weightInLesson 15 = .ok (.iload 5, 2) := by decide +kernel
theorem dX4_weightInLesson_17 : decode cX4_weightInLesson 17 = .ok (.iload_n 3, 1) := by decide +kernel
theorem dX4_weightInLesson_18 : decode cX4_weightInLesson 18 = .ok (.if_icmp .ge 49, 3) := by decide +kernel
theorem dX4_weightInLesson_21 : decode cX4_weightInLesson 21 = .ok (.lload_n 1, 1) := by decide +kernel
theorem dX4_weightInLesson_22 : decode cX4_weightInLesson 22 = .ok (.iload_n 3, 1) := by decide +kernel
theorem dX4_weightInLesson_23 : decode cX4_weightInLesson 23 = .ok (.iload 5, 2) := by decide +kernel
theorem dX4_weightInLesson_25 : decode cX4_weightInLesson 25 = .ok (.iconst 1, 1) := by decide +kernel
theorem dX4_weightInLesson_26 : decode cX4_weightInLesson 26 = .ok (.isub, 1) := by decide +kernel
theorem dX4_weightInLesson_27 : decode cX4_weightInLesson 27 = .ok (.invokestatic 233, 3) := by decide +kernel
theorem dX4_weightInLesson_30 : decode cX4_weightInLesson 30 = .ok (.istore 6, 2) := by decide +kernel
theorem dX4_weightInLesson_32 : decode cX4_weightInLesson 32 = .ok (.lload_n 1, 1) := by decide +kernel
theorem dX4_weightInLesson_33 : decode cX4_weightInLesson 33 = .ok (.iload_n 3, 1) := by decide +kernel
theorem dX4_weightInLesson_34 : decode cX4_weightInLesson 34 = .ok (.iload 5, 2) := by decide +kernel
theorem dX4_weightInLesson_36 : decode cX4_weightInLesson 36 = .ok (.invokestatic 233, 3) := by decide +kernel
theorem dX4_weightInLesson_39 : decode cX4_weightInLesson 39 = .ok (.istore 7, 2) := by decide +kernel
theorem dX4_weightInLesson_41 : decode cX4_weightInLesson 41 = .ok (.aload_n 0, 1) := by decide +kernel
theorem dX4_weightInLesson_42 : decode cX4_weightInLesson 42 = .ok (.getfield 31, 3) := by decide +kernel
theorem dX4_weightInLesson_45 : decode cX4_weightInLesson 45 = .ok (.iload 6, 2) := by decide +kernel
theorem dX4_weightInLesson_47 : decode cX4_weightInLesson 47 = .ok (.iload 7, 2) := by decide +kernel
theorem dX4_weightInLesson_49 : decode cX4_weightInLesson 49 = .ok (.invokevirtual 252, 3) := by decide +kernel
theorem dX4_weightInLesson_52 : decode cX4_weightInLesson 52 = .ok (.ifCond .eq 9, 3) := by decide +kernel
theorem dX4_weightInLesson_55 : decode cX4_weightInLesson 55 = .ok (.iinc 4 (-150), 6) := by decide +kernel
theorem dX4_weightInLesson_61 : decode cX4_weightInLesson 61 = .ok (.iinc 5 1, 3) := by decide +kernel
theorem dX4_weightInLesson_64 : decode cX4_weightInLesson 64 = .ok (.goto (-49), 3) := by decide +kernel
theorem dX4_weightInLesson_67 : decode cX4_weightInLesson 67 = .ok (.iload 4, 2) := by decide +kernel
theorem dX4_weightInLesson_69 : decode cX4_weightInLesson 69 = .ok (.ireturn, 1) := by decide +kernel
set_option maxRecDepth 20000 in
theorem ggX4_kindOfStroke_X2_letterHere : GoodIn wsX4_kindOfStroke wsX2_letterHere := goodIn_r _ [6, 7, 8, 9, 10, 11, 42, 43, 44, 45, 46, 47, 48, 49, 50, 51, 52] (by decide +kernel) (by decide +kernel)
set_option maxRecDepth 20000 in
theorem gX4_kindOfStroke_X2_letterHere : GoodIn wsX4_kindOfStroke (wsV RX4 140 RX2 yX2_letterHere wsX2_letterHere) := goodIn_app (goodIn_of _ (by decide +kernel)) ggX4_kindOfStroke_X2_letterHere
set_option maxRecDepth 20000 in
theorem ggX4_kindOfStroke_X2_letterAfter : GoodIn wsX4_kindOfStroke wsX2_letterAfter := goodIn_r _ [15, 8, 16, 17, 18, 5, 19, 20, 21, 7, 9, 10, 11, 42, 43, 44, 45, 46, 47, 48, 49, 50, 51, 52] (by decide +kernel) (by decide +kernel)
set_option maxRecDepth 20000 in
theorem gX4_kindOfStroke_X2_letterAfter : GoodIn wsX4_kindOfStroke (wsV RX4 255 RX2 yX2_letterAfter wsX2_letterAfter) := goodIn_app (goodIn_of _ (by decide +kernel)) ggX4_kindOfStroke_X2_letterAfter
set_option maxRecDepth 20000 in
theorem ggX4_kindOfStroke_X2_letterBefore : GoodIn wsX4_kindOfStroke wsX2_letterBefore := goodIn_r _ [25, 8, 16, 17, 18, 5, 19, 20, 21, 7, 9, 10, 11, 42, 43, 44, 45, 46, 47, 48, 49, 50, 51, 52] (by decide +kernel) (by decide +kernel)
set_option maxRecDepth 20000 in
theorem gX4_kindOfStroke_X2_letterBefore : GoodIn wsX4_kindOfStroke (wsV RX4 258 RX2 yX2_letterBefore wsX2_letterBefore) := goodIn_app (goodIn_of _ (by decide +kernel)) ggX4_kindOfStroke_X2_letterBefore
set_option maxRecDepth 20000 in
theorem ggX4_kindOfStroke_X4_standSideBySide : GoodIn wsX4_kindOfStroke wsX4_standSideBySide := goodIn_r _ [28, 29, 30, 31, 32, 33, 34, 35, 9, 10, 11] (by decide +kernel) (by decide +kernel)
set_option maxRecDepth 20000 in
theorem gX4_kindOfStroke_X4_standSideBySide : GoodIn wsX4_kindOfStroke (va_wsS RX4 98 yX4_standSideBySide wsX4_standSideBySide) := goodIn_app (goodIn_of _ (by decide +kernel)) ggX4_kindOfStroke_X4_standSideBySide
theorem dX4_kindOfStroke_0 : decode cX4_kindOfStroke 0 = .ok (.aload_n 0, 1) := by decide +kernel
theorem dX4_kindOfStroke_1 : decode cX4_kindOfStroke 1 = .ok (.getfield 31, 3) := by decide +kernel
theorem dX4_kindOfStroke_4 : decode cX4_kindOfStroke 4 = .ok (.invokevirtual 140, 3) := by decide +kernel
theorem dX4_kindOfStroke_7 : decode cX4_kindOfStroke 7 = .ok (.istore_n 2, 1) := by decide +kernel
theorem dX4_kindOfStroke_8 : decode cX4_kindOfStroke 8 = .ok (.iload_n 1, 1) := by decide +kernel
theorem dX4_kindOfStroke_9 : decode cX4_kindOfStroke 9 = .ok (.iload_n 2, 1) := by decide +kernel
theorem dX4_kindOfStroke_10 : decode cX4_kindOfStroke 10 = .ok (.if_icmp .ne 5, 3) := by decide +kernel
theorem dX4_kindOfStroke_13 : decode cX4_kindOfStroke 13 = .ok (.iconst 0, 1) := by decide +kernel
theorem dX4_kindOfStroke_14 : decode cX4_kindOfStroke 14 = .ok (.ireturn, 1) := by decide +kernel
theorem dX4_kindOfStroke_15 : decode cX4_kindOfStroke 15 = .ok (.iload_n 1, 1) := by decide +kernel
theorem dX4_kindOfStroke_16 : decode cX4_kindOfStroke 16 = .ok (.aload_n 0, 1) := by decide +kernel
theorem dX4_kindOfStroke_17 : decode cX4_kindOfStroke 17 = .ok (.getfield 31, 3) := by decide +kernel
theorem dX4_kindOfStroke_20 : decode cX4_kindOfStroke 20 = .ok (.invokevirtual 255, 3) := by decide +kernel
theorem dX4_kindOfStroke_23 : decode cX4_kindOfStroke 23 = .ok (.if_icmp .ne 5, 3) := by decide +kernel
theorem dX4_kindOfStroke_26 : decode cX4_kindOfStroke 26 = .ok (.iconst 1, 1) := by decide +kernel
theorem dX4_kindOfStroke_27 : decode cX4_kindOfStroke 27 = .ok (.ireturn, 1) := by decide +kernel
theorem dX4_kindOfStroke_28 : decode cX4_kindOfStroke 28 = .ok (.iload_n 1, 1) := by decide +kernel
theorem dX4_kindOfStroke_29 : decode cX4_kindOfStroke 29 = .ok (.aload_n 0, 1) := by decide +kernel
theorem dX4_kindOfStroke_30 : decode cX4_kindOfStroke 30 = .ok (.getfield 31, 3) := by decide +kernel
theorem dX4_kindOfStroke_33 : decode cX4_kindOfStroke 33 = .ok (.invokevirtual 258, 3) := by decide +kernel
theorem dX4_kindOfStroke_36 : decode cX4_kindOfStroke 36 = .ok (.if_icmp .ne 5, 3) := by decide +kernel
theorem dX4_kindOfStroke_39 : decode cX4_kindOfStroke 39 = .ok (.iconst 2, 1) := by decide +kernel
theorem dX4_kindOfStroke_40 : decode cX4_kindOfStroke 40 = .ok (.ireturn, 1) := by decide +kernel
theorem dX4_kindOfStroke_41 : decode cX4_kindOfStroke 41 = .ok (.iload_n 1, 1) := by decide +kernel
theorem dX4_kindOfStroke_42 : decode cX4_kindOfStroke 42 = .ok (.iload_n 2, 1) := by decide +kernel
theorem dX4_kindOfStroke_43 : decode cX4_kindOfStroke 43 = .ok (.invokestatic 98, 3) := by decide +kernel
theorem dX4_kindOfStroke_46 : decode cX4_kindOfStroke 46 = .ok (.ifCond .eq 7, 3) := by decide +kernel
theorem dX4_kindOfStroke_49 : decode cX4_kindOfStroke 49 = .ok (.iconst 3, 1) := by decide +kernel
theorem dX4_kindOfStroke_50 : decode cX4_kindOfStroke 50 = .ok (.goto 4, 3) := by decide +kernel
theorem dX4_kindOfStroke_53 : decode cX4_kindOfStroke 53 = .ok (.iconst 4, 1) := by decide +kernel
theorem dX4_kindOfStroke_54 : decode cX4_kindOfStroke 54 = .ok (.ireturn, 1) := by decide +kernel
set_option maxRecDepth 20000 in
theorem ggX4_tryLetter_X2_mistakesHere : GoodIn wsX4_tryLetter wsX2_mistakesHere := goodIn_r _ [9, 10, 100, 101, 102, 103, 104, 105, 106, 107, 108, 109, 110] (by decide +kernel) (by decide +kernel)
set_option maxRecDepth 20000 in
theorem gX4_tryLetter_X2_mistakesHere : GoodIn wsX4_tryLetter (wsV RX4 160 RX2 yX2_mistakesHere wsX2_mistakesHere) := goodIn_app (goodIn_of _ (by decide +kernel)) ggX4_tryLetter_X2_mistakesHere
set_option maxRecDepth 20000 in
theorem ggX4_tryLetter_X2_letterHere : GoodIn wsX4_tryLetter wsX2_letterHere := goodIn_r _ [14, 15, 16, 17, 18, 19, 100, 101, 102, 103, 104, 105, 106, 107, 108, 109, 110] (by decide +kernel) (by decide +kernel)
set_option maxRecDepth 20000 in
theorem gX4_tryLetter_X2_letterHere : GoodIn wsX4_tryLetter (wsV RX4 140 RX2 yX2_letterHere wsX2_letterHere) := goodIn_app (goodIn_of _ (by decide +kernel)) ggX4_tryLetter_X2_letterHere
set_option maxRecDepth 20000 in
theorem ggX4_tryLetter_X2_letterBefore : GoodIn wsX4_tryLetter wsX2_letterBefore := goodIn_r _ [23, 16, 24, 25, 26, 8, 27, 28, 29, 15, 17, 18, 19, 100, 101, 102, 103, 104, 105, 106, 107, 108, 109, 110] (by decide +kernel) (by decide +kernel)
set_option maxRecDepth 20000 in
theorem gX4_tryLetter_X2_letterBefore : GoodIn wsX4_tryLetter (wsV RX4 258 RX2 yX2_letterBefore wsX2_letterBefore) := goodIn_app (goodIn_of _ (by decide +kernel)) ggX4_tryLetter_X2_letterBefore
set_option maxRecDepth 20000 in
theorem ggX4_tryLetter_X1_learn : GoodIn wsX4_tryLetter wsX1_learn := goodIn_r _ [34, 35, 36, 37, 38, 39, 40, 41, 17, 18, 19, 42, 43, 111, 112, 113] (by decide +kernel) (by decide +kernel)
set_option maxRecDepth 20000 in
theorem gX4_tryLetter_X1_learn : GoodIn wsX4_tryLetter (wsV RX4 261 RX1 yX1_learn wsX1_learn) := goodIn_app (goodIn_of _ (by decide +kernel)) ggX4_tryLetter_X1_learn
set_option maxRecDepth 20000 in
theorem ggX4_tryLetter_X4_pairOf : GoodIn wsX4_tryLetter wsX4_pairOf := goodIn_r _ [46] (by decide +kernel) (by decide +kernel)
set_option maxRecDepth 20000 in
theorem gX4_tryLetter_X4_pairOf : GoodIn wsX4_tryLetter (va_wsS RX4 174 yX4_pairOf wsX4_pairOf) := goodIn_app (goodIn_of _ (by decide +kernel)) ggX4_tryLetter_X4_pairOf
set_option maxRecDepth 20000 in
theorem ggX4_tryLetter_X2_goOn : GoodIn wsX4_tryLetter wsX2_goOn := goodIn_r _ [50, 16, 10, 51, 100, 101, 102, 103, 104, 105, 106, 107, 108, 109, 110] (by decide +kernel) (by decide +kernel)
set_option maxRecDepth 20000 in
theorem gX4_tryLetter_X2_goOn : GoodIn wsX4_tryLetter (wsV RX4 265 RX2 yX2_goOn wsX2_goOn) := goodIn_app (goodIn_of _ (by decide +kernel)) ggX4_tryLetter_X2_goOn
set_option maxRecDepth 20000 in
theorem ggX4_tryLetter_X2_triedTotal : GoodIn wsX4_tryLetter wsX2_triedTotal := goodIn_r _ [55, 16, 100, 101, 102, 103, 104, 105, 106, 107, 108, 109, 110] (by decide +kernel) (by decide +kernel)
set_option maxRecDepth 20000 in
theorem gX4_tryLetter_X2_triedTotal : GoodIn wsX4_tryLetter (wsV RX4 131 RX2 yX2_triedTotal wsX2_triedTotal) := goodIn_app (goodIn_of _ (by decide +kernel)) ggX4_tryLetter_X2_triedTotal
set_option maxRecDepth 20000 in
theorem ggX4_tryLetter_X2_letterTotal : GoodIn wsX4_tryLetter wsX2_letterTotal := goodIn_r _ [59, 28, 100, 101, 102, 103, 104, 105, 106, 107, 108, 109, 110] (by decide +kernel) (by decide +kernel)
set_option maxRecDepth 20000 in
theorem gX4_tryLetter_X2_letterTotal : GoodIn wsX4_tryLetter (wsV RX4 123 RX2 yX2_letterTotal wsX2_letterTotal) := goodIn_app (goodIn_of _ (by decide +kernel)) ggX4_tryLetter_X2_letterTotal
set_option maxRecDepth 20000 in
theorem ggX4_tryLetter_X2_stop : GoodIn wsX4_tryLetter wsX2_stop := goodIn_r _ [63, 64, 100, 101, 102, 103, 104, 105, 106, 107, 108, 109, 110] (by decide +kernel) (by decide +kernel)
set_option maxRecDepth 20000 in
theorem gX4_tryLetter_X2_stop : GoodIn wsX4_tryLetter (wsV RX4 128 RX2 yX2_stop wsX2_stop) := goodIn_app (goodIn_of _ (by decide +kernel)) ggX4_tryLetter_X2_stop
set_option maxRecDepth 20000 in
theorem ggX4_tryLetter_X2_cleanTotal : GoodIn wsX4_tryLetter wsX2_cleanTotal := goodIn_r _ [68, 51, 100, 101, 102, 103, 104, 105, 106, 107, 108, 109, 110] (by decide +kernel) (by decide +kernel)
set_option maxRecDepth 20000 in
theorem gX4_tryLetter_X2_cleanTotal : GoodIn wsX4_tryLetter (wsV RX4 269 RX2 yX2_cleanTotal wsX2_cleanTotal) := goodIn_app (goodIn_of _ (by decide +kernel)) ggX4_tryLetter_X2_cleanTotal
set_option maxRecDepth 20000 in
theorem ggX4_tryLetter_X2_timeSum : GoodIn wsX4_tryLetter wsX2_timeSum := goodIn_r _ [72, 73, 100, 101, 102, 103, 104, 105, 106, 107, 108, 109, 110] (by decide +kernel) (by decide +kernel)
set_option maxRecDepth 20000 in
theorem gX4_tryLetter_X2_timeSum : GoodIn wsX4_tryLetter (wsV RX4 272 RX2 yX2_timeSum wsX2_timeSum) := goodIn_app (goodIn_of _ (by decide +kernel)) ggX4_tryLetter_X2_timeSum
set_option maxRecDepth 20000 in
theorem ggX4_tryLetter_X0_keep : GoodIn wsX4_tryLetter wsX0_keep := goodIn_r _ [78, 79, 80, 81, 82, 83, 84, 85, 42, 18, 43, 86, 87, 88, 77, 89, 90, 36, 37, 38, 91, 92, 93, 114, 115, 116, 117, 118, 119, 120] (by decide +kernel) (by decide +kernel)
set_option maxRecDepth 20000 in
theorem gX4_tryLetter_X0_keep : GoodIn wsX4_tryLetter (wsV RX4 275 RX0 yX0_keep wsX0_keep) := goodIn_app (goodIn_of _ (by decide +kernel)) ggX4_tryLetter_X0_keep
theorem dX4_tryLetter_0 : decode cX4_tryLetter 0 = .ok (.aload_n 0, 1) := by decide +kernel
theorem dX4_tryLetter_1 : decode cX4_tryLetter 1 = .ok (.getfield 31, 3) := by decide +kernel
theorem dX4_tryLetter_4 : decode cX4_tryLetter 4 = .ok (.invokevirtual 160, 3) := by decide +kernel
theorem dX4_tryLetter_7 : decode cX4_tryLetter 7 = .ok (.ifCond .ne 7, 3) := by decide +kernel
theorem dX4_tryLetter_10 : decode cX4_tryLetter 10 = .ok (.iconst 1, 1) := by decide +kernel
theorem dX4_tryLetter_11 : decode cX4_tryLetter 11 = .ok (.goto 4, 3) := by decide +kernel
theorem dX4_tryLetter_14 : decode cX4_tryLetter 14 = .ok (.iconst 0, 1) := by decide +kernel
theorem dX4_tryLetter_15 : decode cX4_tryLetter 15 = .ok (.istore_n 2, 1) := by decide +kernel
theorem dX4_tryLetter_16 : decode cX4_tryLetter 16 = .ok (.aload_n 0, 1) := by decide +kernel
theorem dX4_tryLetter_17 : decode cX4_tryLetter 17 = .ok (.getfield 31, 3) := by decide +kernel
theorem dX4_tryLetter_20 : decode cX4_tryLetter 20 = .ok (.invokevirtual 140, 3) := by decide +kernel
theorem dX4_tryLetter_23 : decode cX4_tryLetter 23 = .ok (.istore_n 3, 1) := by decide +kernel
theorem dX4_tryLetter_24 : decode cX4_tryLetter 24 = .ok (.aload_n 0, 1) := by decide +kernel
theorem dX4_tryLetter_25 : decode cX4_tryLetter 25 = .ok (.getfield 31, 3) := by decide +kernel
theorem dX4_tryLetter_28 : decode cX4_tryLetter 28 = .ok (.invokevirtual 258, 3) := by decide +kernel
theorem dX4_tryLetter_31 : decode cX4_tryLetter 31 = .ok (.istore 4, 2) := by decide +kernel
theorem dX4_tryLetter_33 : decode cX4_tryLetter 33 = .ok (.aload_n 0, 1) := by decide +kernel
theorem dX4_tryLetter_34 : decode cX4_tryLetter 34 = .ok (.getfield 21, 3) := by decide +kernel
theorem dX4_tryLetter_37 : decode cX4_tryLetter 37 = .ok (.iload_n 3, 1) := by decide +kernel
theorem dX4_tryLetter_38 : decode cX4_tryLetter 38 = .ok (.iload_n 2, 1) := by decide +kernel
theorem dX4_tryLetter_39 : decode cX4_tryLetter 39 = .ok (.iload_n 1, 1) := by decide +kernel
theorem dX4_tryLetter_40 : decode cX4_tryLetter 40 = .ok (.invokevirtual 261, 3) := by decide +kernel
theorem dX4_tryLetter_43 : decode cX4_tryLetter 43 = .ok (.iload 4, 2) := by decide +kernel
theorem dX4_tryLetter_45 : decode cX4_tryLetter 45 = .ok (.iconst (-1), 1) := by decide +kernel
theorem dX4_tryLetter_46 : decode cX4_tryLetter 46 = .ok (.if_icmp .eq 18, 3) := by decide +kernel
theorem dX4_tryLetter_49 : decode cX4_tryLetter 49 = .ok (.aload_n 0, 1) := by decide +kernel
theorem dX4_tryLetter_50 : decode cX4_tryLetter 50 = .ok (.getfield 25, 3) := by decide +kernel
theorem dX4_tryLetter_53 : decode cX4_tryLetter 53 = .ok (.iload 4, 2) := by decide +kernel
theorem dX4_tryLetter_55 : decode cX4_tryLetter 55 = .ok (.iload_n 3, 1) := by decide +kernel
theorem dX4_tryLetter_56 : decode cX4_tryLetter 56 = .ok (.invokestatic 174, 3) := by decide +kernel
theorem dX4_tryLetter_59 : decode cX4_tryLetter 59 = .ok (.iload_n 2, 1) := by decide +kernel
theorem dX4_tryLetter_60 : decode cX4_tryLetter 60 = .ok (.iload_n 1, 1) := by decide +kernel
theorem dX4_tryLetter_61 : decode cX4_tryLetter 61 = .ok (.invokevirtual 261, 3) := by decide +kernel
theorem dX4_tryLetter_64 : decode cX4_tryLetter 64 = .ok (.aload_n 0, 1) := by decide +kernel
theorem dX4_tryLetter_65 : decode cX4_tryLetter 65 = .ok (.getfield 31, 3) := by decide +kernel
theorem dX4_tryLetter_68 : decode cX4_tryLetter 68 = .ok (.iload_n 2, 1) := by decide +kernel
theorem dX4_tryLetter_69 : decode cX4_tryLetter 69 = .ok (.invokevirtual 265, 3) := by decide +kernel
theorem dX4_tryLetter_72 : decode cX4_tryLetter 72 = .ok (.aload_n 0, 1) := by decide +kernel
theorem dX4_tryLetter_73 : decode cX4_tryLetter 73 = .ok (.getfield 31, 3) := by decide +kernel
theorem dX4_tryLetter_76 : decode cX4_tryLetter 76 = .ok (.invokevirtual 131, 3) := by decide +kernel
theorem dX4_tryLetter_79 : decode cX4_tryLetter 79 = .ok (.aload_n 0, 1) := by decide +kernel
theorem dX4_tryLetter_80 : decode cX4_tryLetter 80 = .ok (.getfield 31, 3) := by decide +kernel
theorem dX4_tryLetter_83 : decode cX4_tryLetter 83 = .ok (.invokevirtual 123, 3) := by decide +kernel
theorem dX4_tryLetter_86 : decode cX4_tryLetter 86 = .ok (.if_icmp .lt 38, 3) := by decide +kernel
theorem dX4_tryLetter_89 : decode cX4_tryLetter 89 = .ok (.aload_n 0, 1) := by decide +kernel
theorem dX4_tryLetter_90 : decode cX4_tryLetter 90 = .ok (.getfield 31, 3) := by decide +kernel
theorem dX4_tryLetter_93 : decode cX4_tryLetter 93 = .ok (.invokevirtual 128, 3) := by decide +kernel
theorem dX4_tryLetter_96 : decode cX4_tryLetter 96 = .ok (.aload_n 0, 1) := by decide +kernel
theorem dX4_tryLetter_97 : decode cX4_tryLetter 97 = .ok (.getfield 38, 3) := by decide +kernel
theorem dX4_tryLetter_100 : decode cX4_tryLetter 100 = .ok (.aload_n 0, 1) := by decide +kernel
theorem dX4_tryLetter_101 : decode cX4_tryLetter 101 = .ok (.getfield 31, 3) := by decide +kernel
theorem dX4_tryLetter_104 : decode cX4_tryLetter 104 = .ok (.invokevirtual 123, 3) := by decide +kernel
theorem dX4_tryLetter_107 : decode cX4_tryLetter 107 = .ok (.aload_n 0, 1) := by decide +kernel
theorem dX4_tryLetter_108 : decode cX4_tryLetter 108 = .ok (.getfield 31, 3) := by decide +kernel
theorem dX4_tryLetter_111 : decode cX4_tryLetter 111 = .ok (.invokevirtual 269, 3) := by decide +kernel
theorem dX4_tryLetter_114 : decode cX4_tryLetter 114 = .ok (.aload_n 0, 1) := by decide +kernel
theorem dX4_tryLetter_115 : decode cX4_tryLetter 115 = .ok (.getfield 31, 3) := by decide +kernel
theorem dX4_tryLetter_118 : decode cX4_tryLetter 118 = .ok (.invokevirtual 272, 3) := by decide +kernel
theorem dX4_tryLetter_121 : decode cX4_tryLetter 121 = .ok (.invokevirtual 275, 3) := by decide +kernel
theorem dX4_tryLetter_124 : decode cX4_tryLetter 124 = .ok (.return_, 1) := by decide +kernel
theorem dX4_mixed_0 : decode cX4_mixed 0 = .ok (.lload_n 0, 1) := by decide +kernel
theorem dX4_mixed_1 : decode cX4_mixed 1 = .ok (.ldc2_w 279, 3) := by decide +kernel
theorem dX4_mixed_4 : decode cX4_mixed 4 = .ok (.lmul, 1) := by decide +kernel
theorem dX4_mixed_5 : decode cX4_mixed 5 = .ok (.lload_n 2, 1) := by decide +kernel
theorem dX4_mixed_6 : decode cX4_mixed 6 = .ok (.ladd, 1) := by decide +kernel
theorem dX4_mixed_7 : decode cX4_mixed 7 = .ok (.lreturn, 1) := by decide +kernel
set_option maxRecDepth 20000 in
theorem ggX4_digestOfWords_X3_size : GoodIn wsX4_digestOfWords wsX3_size := goodIn_r _ [6, 7, 24, 25] (by decide +kernel) (by decide +kernel)
set_option maxRecDepth 20000 in
theorem gX4_digestOfWords_X3_size : GoodIn wsX4_digestOfWords (wsV RX4 73 RX3 yX3_size wsX3_size) := goodIn_app (goodIn_of _ (by decide +kernel)) ggX4_digestOfWords_X3_size
set_option maxRecDepth 20000 in
theorem ggX4_digestOfWords_X4_mixed : GoodIn wsX4_digestOfWords wsX4_mixed := goodIn_r _ [11, 12] (by decide +kernel) (by decide +kernel)
set_option maxRecDepth 20000 in
theorem gX4_digestOfWords_X4_mixed : GoodIn wsX4_digestOfWords (va_wsS RX4 281 yX4_mixed wsX4_mixed) := goodIn_app (goodIn_of _ (by decide +kernel)) ggX4_digestOfWords_X4_mixed
set_option maxRecDepth 20000 in
theorem ggX4_digestOfWords_X3_wordAt : GoodIn wsX4_digestOfWords wsX3_wordAt := goodIn_r _ [16, 17, 24, 25] (by decide +kernel) (by decide +kernel)
set_option maxRecDepth 20000 in
theorem gX4_digestOfWords_X3_wordAt : GoodIn wsX4_digestOfWords (wsV RX4 86 RX3 yX3_wordAt wsX3_wordAt) := goodIn_app (goodIn_of _ (by decide +kernel)) ggX4_digestOfWords_X3_wordAt
theorem dX4_digestOfWords_0 : decode cX4_digestOfWords 0 = .ok (.lload_n 1, 1) := by decide +kernel
theorem dX4_digestOfWords_1 : decode cX4_digestOfWords 1 = .ok (.aload_n 0, 1) := by decide +kernel
theorem dX4_digestOfWords_2 : decode cX4_digestOfWords 2 = .ok (.getfield 12, 3) := by decide +kernel
theorem dX4_digestOfWords_5 : decode cX4_digestOfWords 5 = .ok (.invokevirtual 73, 3) := by decide +kernel
theorem dX4_digestOfWords_8 : decode cX4_digestOfWords 8 = .ok (.i2l, 1) := by decide +kernel
theorem dX4_digestOfWords_9 : decode cX4_digestOfWords 9 = .ok (.invokestatic 281, 3) := by decide +kernel
theorem dX4_digestOfWords_12 : decode cX4_digestOfWords 12 = .ok (.lstore_n 3, 1) := by decide +kernel
theorem dX4_digestOfWords_13 : decode cX4_digestOfWords 13 = .ok (.iconst 0, 1) := by decide +kernel
theorem dX4_digestOfWords_14 : decode cX4_digestOfWords 14 = .ok (.istore 5, 2) := by decide +kernel
theorem dX4_digestOfWords_16 : decode cX4_digestOfWords 16 = .ok (.iload 5, 2) := by decide +kernel
theorem dX4_digestOfWords_18 : decode cX4_digestOfWords 18 = .ok (.aload_n 0, 1) := by decide +kernel
theorem dX4_digestOfWords_19 : decode cX4_digestOfWords 19 = .ok (.getfield 12, 3) := by decide +kernel
theorem dX4_digestOfWords_22 : decode cX4_digestOfWords 22 = .ok (.invokevirtual 73, 3) := by decide +kernel
theorem dX4_digestOfWords_25 : decode cX4_digestOfWords 25 = .ok (.if_icmp .ge 23, 3) := by decide +kernel
theorem dX4_digestOfWords_28 : decode cX4_digestOfWords 28 = .ok (.lload_n 3, 1) := by decide +kernel
theorem dX4_digestOfWords_29 : decode cX4_digestOfWords 29 = .ok (.aload_n 0, 1) := by decide +kernel
theorem dX4_digestOfWords_30 : decode cX4_digestOfWords 30 = .ok (.getfield 12, 3) := by decide +kernel
theorem dX4_digestOfWords_33 : decode cX4_digestOfWords 33 = .ok (.iload 5, 2) := by decide +kernel
theorem dX4_digestOfWords_35 : decode cX4_digestOfWords 35 = .ok (.invokevirtual 86, 3) := by decide +kernel
theorem dX4_digestOfWords_38 : decode cX4_digestOfWords 38 = .ok (.invokestatic 281, 3) := by decide +kernel
theorem dX4_digestOfWords_41 : decode cX4_digestOfWords 41 = .ok (.lstore_n 3, 1) := by decide +kernel
theorem dX4_digestOfWords_42 : decode cX4_digestOfWords 42 = .ok (.iinc 5 1, 3) := by decide +kernel
theorem dX4_digestOfWords_45 : decode cX4_digestOfWords 45 = .ok (.goto (-29), 3) := by decide +kernel
theorem dX4_digestOfWords_48 : decode cX4_digestOfWords 48 = .ok (.lload_n 3, 1) := by decide +kernel
theorem dX4_digestOfWords_49 : decode cX4_digestOfWords 49 = .ok (.lreturn, 1) := by decide +kernel
set_option maxRecDepth 20000 in
theorem ggX4_digestOfKnowledge_X4_digestOfRecord : GoodIn wsX4_digestOfKnowledge wsX4_digestOfRecord := goodIn_r _ [7, 8, 9, 10, 11, 12, 13, 14, 15, 16, 6, 17, 18, 19, 20, 21, 33, 34, 35] (by decide +kernel) (by decide +kernel)
set_option maxRecDepth 20000 in
theorem gX4_digestOfKnowledge_X4_digestOfRecord : GoodIn wsX4_digestOfKnowledge (va_wsS RX4 285 yX4_digestOfRecord wsX4_digestOfRecord) := goodIn_app (goodIn_of _ (by decide +kernel)) ggX4_digestOfKnowledge_X4_digestOfRecord
set_option maxRecDepth 20000 in
theorem ggX4_digestOfKnowledge_X1_triesOf : GoodIn wsX4_digestOfKnowledge wsX1_triesOf := goodIn_r _ [25, 13, 16, 6, 17, 33, 34, 35] (by decide +kernel) (by decide +kernel)
set_option maxRecDepth 20000 in
theorem gX4_digestOfKnowledge_X1_triesOf : GoodIn wsX4_digestOfKnowledge (wsV RX4 180 RX1 yX1_triesOf wsX1_triesOf) := goodIn_app (goodIn_of _ (by decide +kernel)) ggX4_digestOfKnowledge_X1_triesOf
set_option maxRecDepth 20000 in
theorem ggX4_digestOfKnowledge_X4_mixed : GoodIn wsX4_digestOfKnowledge wsX4_mixed := goodIn_r _ [20, 21] (by decide +kernel) (by decide +kernel)
set_option maxRecDepth 20000 in
theorem gX4_digestOfKnowledge_X4_mixed : GoodIn wsX4_digestOfKnowledge (va_wsS RX4 281 yX4_mixed wsX4_mixed) := goodIn_app (goodIn_of _ (by decide +kernel)) ggX4_digestOfKnowledge_X4_mixed
set_option maxRecDepth 20000 in
theorem ggX4_digestOfKnowledge_X4_read : GoodIn wsX4_digestOfKnowledge wsX4_read := goodIn_r _ [17] (by decide +kernel) (by decide +kernel)
set_option maxRecDepth 20000 in
theorem gX4_digestOfKnowledge_X4_read : GoodIn wsX4_digestOfKnowledge (va_wsS RX4 152 yX4_read wsX4_read) := goodIn_app (goodIn_of _ (by decide +kernel)) ggX4_digestOfKnowledge_X4_read
theorem dX4_digestOfKnowledge_0 : decode cX4_digestOfKnowledge 0 = .ok (.lload_n 1, 1) := by decide +kernel
theorem dX4_digestOfKnowledge_1 : decode cX4_digestOfKnowledge 1 = .ok (.lstore_n 3, 1) := by decide +kernel
theorem dX4_digestOfKnowledge_2 : decode cX4_digestOfKnowledge 2 = .ok (.iconst 0, 1) := by decide +kernel
theorem dX4_digestOfKnowledge_3 : decode cX4_digestOfKnowledge 3 = .ok (.istore 5, 2) := by decide +kernel
theorem dX4_digestOfKnowledge_5 : decode cX4_digestOfKnowledge 5 = .ok (.iload 5, 2) := by decide +kernel
theorem dX4_digestOfKnowledge_7 : decode cX4_digestOfKnowledge 7 = .ok (.bipush 26, 2) := by decide +kernel
theorem dX4_digestOfKnowledge_9 : decode cX4_digestOfKnowledge 9 = .ok (.if_icmp .ge 20, 3) := by decide +kernel
theorem dX4_digestOfKnowledge_12 : decode cX4_digestOfKnowledge 12 = .ok (.lload_n 3, 1) := by decide +kernel
theorem dX4_digestOfKnowledge_13 : decode cX4_digestOfKnowledge 13 = .ok (.aload_n 0, 1) := by decide +kernel
theorem dX4_digestOfKnowledge_14 : decode cX4_digestOfKnowledge 14 = .ok (.getfield 21, 3) := by decide +kernel
theorem dX4_digestOfKnowledge_17 : decode cX4_digestOfKnowledge 17 = .ok (.iload 5, 2) := by decide +kernel
theorem dX4_digestOfKnowledge_19 : decode cX4_digestOfKnowledge 19 = .ok (.invokestatic 285, 3) := by decide +kernel
theorem dX4_digestOfKnowledge_22 : decode cX4_digestOfKnowledge 22 = .ok (.lstore_n 3, 1) := by decide +kernel
theorem dX4_digestOfKnowledge_23 : decode cX4_digestOfKnowledge 23 = .ok (.iinc 5 1, 3) := by decide +kernel
theorem dX4_digestOfKnowledge_26 : decode cX4_digestOfKnowledge 26 = .ok (.goto (-21), 3) := by decide +kernel
theorem dX4_digestOfKnowledge_29 : decode cX4_digestOfKnowledge 29 = .ok (.iconst 0, 1) := by decide +kernel
theorem dX4_digestOfKnowledge_30 : decode cX4_digestOfKnowledge 30 = .ok (.istore 5, 2) := by decide +kernel
theorem dX4_digestOfKnowledge_32 : decode cX4_digestOfKnowledge 32 = .ok (.iload 5, 2) := by decide +kernel
theorem dX4_digestOfKnowledge_34 : decode cX4_digestOfKnowledge 34 = .ok (.sipush 676, 3) := by decide +kernel
theorem dX4_digestOfKnowledge_37 : decode cX4_digestOfKnowledge 37 = .ok (.if_icmp .ge 38, 3) := by decide +kernel
theorem dX4_digestOfKnowledge_40 : decode cX4_digestOfKnowledge 40 = .ok (.aload_n 0, 1) := by decide +kernel
theorem dX4_digestOfKnowledge_41 : decode cX4_digestOfKnowledge 41 = .ok (.getfield 25, 3) := by decide +kernel
theorem dX4_digestOfKnowledge_44 : decode cX4_digestOfKnowledge 44 = .ok (.iload 5, 2) := by decide +kernel
theorem dX4_digestOfKnowledge_46 : decode cX4_digestOfKnowledge 46 = .ok (.invokevirtual 180, 3) := by decide +kernel
theorem dX4_digestOfKnowledge_49 : decode cX4_digestOfKnowledge 49 = .ok (.ifCond .le 20, 3) := by decide +kernel
theorem dX4_digestOfKnowledge_52 : decode cX4_digestOfKnowledge 52 = .ok (.lload_n 3, 1) := by decide +kernel
theorem dX4_digestOfKnowledge_53 : decode cX4_digestOfKnowledge 53 = .ok (.iload 5, 2) := by decide +kernel
theorem dX4_digestOfKnowledge_55 : decode cX4_digestOfKnowledge 55 = .ok (.i2l, 1) := by decide +kernel
theorem dX4_digestOfKnowledge_56 : decode cX4_digestOfKnowledge 56 = .ok (.invokestatic 281, 3) := by decide +kernel
theorem dX4_digestOfKnowledge_59 : decode cX4_digestOfKnowledge 59 = .ok (.aload_n 0, 1) := by decide +kernel
theorem dX4_digestOfKnowledge_60 : decode cX4_digestOfKnowledge 60 = .ok (.getfield 25, 3) := by decide +kernel
theorem dX4_digestOfKnowledge_63 : decode cX4_digestOfKnowledge 63 = .ok (.iload 5, 2) := by decide +kernel
theorem dX4_digestOfKnowledge_65 : decode cX4_digestOfKnowledge 65 = .ok (.invokestatic 285, 3) := by decide +kernel
theorem dX4_digestOfKnowledge_68 : decode cX4_digestOfKnowledge 68 = .ok (.lstore_n 3, 1) := by decide +kernel
theorem dX4_digestOfKnowledge_69 : decode cX4_digestOfKnowledge 69 = .ok (.iinc 5 1, 3) := by decide +kernel
theorem dX4_digestOfKnowledge_72 : decode cX4_digestOfKnowledge 72 = .ok (.goto (-40), 3) := by decide +kernel
theorem dX4_digestOfKnowledge_75 : decode cX4_digestOfKnowledge 75 = .ok (.iconst 1, 1) := by decide +kernel
theorem dX4_digestOfKnowledge_76 : decode cX4_digestOfKnowledge 76 = .ok (.istore 5, 2) := by decide +kernel
theorem dX4_digestOfKnowledge_78 : decode cX4_digestOfKnowledge 78 = .ok (.iload 5, 2) := by decide +kernel
theorem dX4_digestOfKnowledge_80 : decode cX4_digestOfKnowledge 80 = .ok (.iconst 4, 1) := by decide +kernel
theorem dX4_digestOfKnowledge_81 : decode cX4_digestOfKnowledge 81 = .ok (.if_icmp .gt 24, 3) := by decide +kernel
theorem dX4_digestOfKnowledge_84 : decode cX4_digestOfKnowledge 84 = .ok (.lload_n 3, 1) := by decide +kernel
theorem dX4_digestOfKnowledge_85 : decode cX4_digestOfKnowledge 85 = .ok (.aload_n 0, 1) := by decide +kernel
theorem dX4_digestOfKnowledge_86 : decode cX4_digestOfKnowledge 86 = .ok (.getfield 42, 3) := by decide +kernel
theorem dX4_digestOfKnowledge_89 : decode cX4_digestOfKnowledge 89 = .ok (.iload 5, 2) := by decide +kernel
theorem dX4_digestOfKnowledge_91 : decode cX4_digestOfKnowledge 91 = .ok (.invokestatic 152, 3) := by decide +kernel
theorem dX4_digestOfKnowledge_94 : decode cX4_digestOfKnowledge 94 = .ok (.i2l, 1) := by decide +kernel
theorem dX4_digestOfKnowledge_95 : decode cX4_digestOfKnowledge 95 = .ok (.invokestatic 281, 3) := by decide +kernel
theorem dX4_digestOfKnowledge_98 : decode cX4_digestOfKnowledge 98 = .ok (.lstore_n 3, 1) := by decide +kernel
theorem dX4_digestOfKnowledge_99 : decode cX4_digestOfKnowledge 99 = .ok (.iinc 5 1, 3) := by decide +kernel
theorem dX4_digestOfKnowledge_102 : decode cX4_digestOfKnowledge 102 = .ok (.goto (-24), 3) := by decide +kernel
theorem dX4_digestOfKnowledge_105 : decode cX4_digestOfKnowledge 105 = .ok (.lload_n 3, 1) := by decide +kernel
theorem dX4_digestOfKnowledge_106 : decode cX4_digestOfKnowledge 106 = .ok (.lreturn, 1) := by decide +kernel
set_option maxRecDepth 20000 in
theorem ggX4_digestOfRecord_X1_tell : GoodIn wsX4_digestOfRecord wsX1_tell := goodIn_r _ [5, 6, 7, 8, 9, 10, 11, 16, 17, 18] (by decide +kernel) (by decide +kernel)
set_option maxRecDepth 20000 in
theorem gX4_digestOfRecord_X1_tell : GoodIn wsX4_digestOfRecord (wsV RX4 168 RX1 yX1_tell wsX1_tell) := goodIn_app (goodIn_of _ (by decide +kernel)) ggX4_digestOfRecord_X1_tell
set_option maxRecDepth 20000 in
theorem ggX4_digestOfRecord_X4_mixed : GoodIn wsX4_digestOfRecord wsX4_mixed := goodIn_r _ [14, 15] (by decide +kernel) (by decide +kernel)
set_option maxRecDepth 20000 in
theorem gX4_digestOfRecord_X4_mixed : GoodIn wsX4_digestOfRecord (va_wsS RX4 281 yX4_mixed wsX4_mixed) := goodIn_app (goodIn_of _ (by decide +kernel)) ggX4_digestOfRecord_X4_mixed
theorem dX4_digestOfRecord_0 : decode cX4_digestOfRecord 0 = .ok (.lload_n 0, 1) := by decide +kernel
theorem dX4_digestOfRecord_1 : decode cX4_digestOfRecord 1 = .ok (.lstore 4, 2) := by decide +kernel
theorem dX4_digestOfRecord_3 : decode cX4_digestOfRecord 3 = .ok (.iconst 0, 1) := by decide +kernel
theorem dX4_digestOfRecord_4 : decode cX4_digestOfRecord 4 = .ok (.istore 6, 2) := by decide +kernel
theorem dX4_digestOfRecord_6 : decode cX4_digestOfRecord 6 = .ok (.iload 6, 2) := by decide +kernel
theorem dX4_digestOfRecord_8 : decode cX4_digestOfRecord 8 = .ok (.iconst 2, 1) := by decide +kernel
theorem dX4_digestOfRecord_9 : decode cX4_digestOfRecord 9 = .ok (.if_icmp .gt 24, 3) := by decide +kernel
theorem dX4_digestOfRecord_12 : decode cX4_digestOfRecord 12 = .ok (.lload 4, 2) := by decide +kernel
theorem dX4_digestOfRecord_14 : decode cX4_digestOfRecord 14 = .ok (.aload_n 2, 1) := by decide +kernel
theorem dX4_digestOfRecord_15 : decode cX4_digestOfRecord 15 = .ok (.iload_n 3, 1) := by decide +kernel
theorem dX4_digestOfRecord_16 : decode cX4_digestOfRecord 16 = .ok (.iload 6, 2) := by decide +kernel
theorem dX4_digestOfRecord_18 : decode cX4_digestOfRecord 18 = .ok (.invokevirtual 168, 3) := by decide +kernel
theorem dX4_digestOfRecord_21 : decode cX4_digestOfRecord 21 = .ok (.i2l, 1) := by decide +kernel
theorem dX4_digestOfRecord_22 : decode cX4_digestOfRecord 22 = .ok (.invokestatic 281, 3) := by decide +kernel
theorem dX4_digestOfRecord_25 : decode cX4_digestOfRecord 25 = .ok (.lstore 4, 2) := by decide +kernel
theorem dX4_digestOfRecord_27 : decode cX4_digestOfRecord 27 = .ok (.iinc 6 1, 3) := by decide +kernel
theorem dX4_digestOfRecord_30 : decode cX4_digestOfRecord 30 = .ok (.goto (-24), 3) := by decide +kernel
theorem dX4_digestOfRecord_33 : decode cX4_digestOfRecord 33 = .ok (.lload 4, 2) := by decide +kernel
theorem dX4_digestOfRecord_35 : decode cX4_digestOfRecord 35 = .ok (.lreturn, 1) := by decide +kernel
set_option maxRecDepth 20000 in
theorem ggX4_digestOfLesson_X2_isRunning : GoodIn wsX4_digestOfLesson wsX2_isRunning := goodIn_r _ [6, 7, 36, 37, 38, 39, 40, 41, 42, 43, 44, 45, 46] (by decide +kernel) (by decide +kernel)
set_option maxRecDepth 20000 in
theorem gX4_digestOfLesson_X2_isRunning : GoodIn wsX4_digestOfLesson (wsV RX4 104 RX2 yX2_isRunning wsX2_isRunning) := goodIn_app (goodIn_of _ (by decide +kernel)) ggX4_digestOfLesson_X2_isRunning
set_option maxRecDepth 20000 in
theorem ggX4_digestOfLesson_X4_mixed : GoodIn wsX4_digestOfLesson wsX4_mixed := goodIn_r _ [11, 12] (by decide +kernel) (by decide +kernel)
set_option maxRecDepth 20000 in
theorem gX4_digestOfLesson_X4_mixed : GoodIn wsX4_digestOfLesson (va_wsS RX4 281 yX4_mixed wsX4_mixed) := goodIn_app (goodIn_of _ (by decide +kernel)) ggX4_digestOfLesson_X4_mixed
set_option maxRecDepth 20000 in
theorem ggX4_digestOfLesson_X2_wordTotal : GoodIn wsX4_digestOfLesson wsX2_wordTotal := goodIn_r _ [16, 17, 36, 37, 38, 39, 40, 41, 42, 43, 44, 45, 46] (by decide +kernel) (by decide +kernel)
set_option maxRecDepth 20000 in
theorem gX4_digestOfLesson_X2_wordTotal : GoodIn wsX4_digestOfLesson (wsV RX4 118 RX2 yX2_wordTotal wsX2_wordTotal) := goodIn_app (goodIn_of _ (by decide +kernel)) ggX4_digestOfLesson_X2_wordTotal
set_option maxRecDepth 20000 in
theorem ggX4_digestOfLesson_X2_numberAt : GoodIn wsX4_digestOfLesson wsX2_numberAt := goodIn_r _ [21, 22, 23, 10, 24, 36, 37, 38, 39, 40, 41, 42, 43, 44, 45, 46] (by decide +kernel) (by decide +kernel)
set_option maxRecDepth 20000 in
theorem gX4_digestOfLesson_X2_numberAt : GoodIn wsX4_digestOfLesson (wsV RX4 136 RX2 yX2_numberAt wsX2_numberAt) := goodIn_app (goodIn_of _ (by decide +kernel)) ggX4_digestOfLesson_X2_numberAt
set_option maxRecDepth 20000 in
theorem ggX4_digestOfLesson_X2_triedTotal : GoodIn wsX4_digestOfLesson wsX2_triedTotal := goodIn_r _ [28, 29, 36, 37, 38, 39, 40, 41, 42, 43, 44, 45, 46] (by decide +kernel) (by decide +kernel)
set_option maxRecDepth 20000 in
theorem gX4_digestOfLesson_X2_triedTotal : GoodIn wsX4_digestOfLesson (wsV RX4 131 RX2 yX2_triedTotal wsX2_triedTotal) := goodIn_app (goodIn_of _ (by decide +kernel)) ggX4_digestOfLesson_X2_triedTotal
theorem dX4_digestOfLesson_0 : decode cX4_digestOfLesson 0 = .ok (.aload_n 0, 1) := by decide +kernel
theorem dX4_digestOfLesson_1 : decode cX4_digestOfLesson 1 = .ok (.getfield 31, 3) := by decide +kernel
theorem dX4_digestOfLesson_4 : decode cX4_digestOfLesson 4 = .ok (.invokevirtual 104, 3) := by decide +kernel
theorem dX4_digestOfLesson_7 : decode cX4_digestOfLesson 7 = .ok (.ifCond .ne 9, 3) := by decide +kernel
theorem dX4_digestOfLesson_10 : decode cX4_digestOfLesson 10 = .ok (.lload_n 1, 1) := by decide +kernel
theorem dX4_digestOfLesson_11 : decode cX4_digestOfLesson 11 = .ok (.lconst 0, 1) := by decide +kernel
theorem dX4_digestOfLesson_12 : decode cX4_digestOfLesson 12 = .ok (.invokestatic 281, 3) := by decide +kernel
theorem dX4_digestOfLesson_15 : decode cX4_digestOfLesson 15 = .ok (.lreturn, 1) := by decide +kernel
theorem dX4_digestOfLesson_16 : decode cX4_digestOfLesson 16 = .ok (.lload_n 1, 1) := by decide +kernel
theorem dX4_digestOfLesson_17 : decode cX4_digestOfLesson 17 = .ok (.lconst 1, 1) := by decide +kernel
theorem dX4_digestOfLesson_18 : decode cX4_digestOfLesson 18 = .ok (.invokestatic 281, 3) := by decide +kernel
theorem dX4_digestOfLesson_21 : decode cX4_digestOfLesson 21 = .ok (.aload_n 0, 1) := by decide +kernel
theorem dX4_digestOfLesson_22 : decode cX4_digestOfLesson 22 = .ok (.getfield 31, 3) := by decide +kernel
theorem dX4_digestOfLesson_25 : decode cX4_digestOfLesson 25 = .ok (.invokevirtual 118, 3) := by decide +kernel
theorem dX4_digestOfLesson_28 : decode cX4_digestOfLesson 28 = .ok (.i2l, 1) := by decide +kernel
theorem dX4_digestOfLesson_29 : decode cX4_digestOfLesson 29 = .ok (.invokestatic 281, 3) := by decide +kernel
theorem dX4_digestOfLesson_32 : decode cX4_digestOfLesson 32 = .ok (.lstore_n 3, 1) := by decide +kernel
theorem dX4_digestOfLesson_33 : decode cX4_digestOfLesson 33 = .ok (.iconst 0, 1) := by decide +kernel
theorem dX4_digestOfLesson_34 : decode cX4_digestOfLesson 34 = .ok (.istore 5, 2) := by decide +kernel
theorem dX4_digestOfLesson_36 : decode cX4_digestOfLesson 36 = .ok (.iload 5, 2) := by decide +kernel
theorem dX4_digestOfLesson_38 : decode cX4_digestOfLesson 38 = .ok (.aload_n 0, 1) := by decide +kernel
theorem dX4_digestOfLesson_39 : decode cX4_digestOfLesson 39 = .ok (.getfield 31, 3) := by decide +kernel
theorem dX4_digestOfLesson_42 : decode cX4_digestOfLesson 42 = .ok (.invokevirtual 118, 3) := by decide +kernel
theorem dX4_digestOfLesson_45 : decode cX4_digestOfLesson 45 = .ok (.if_icmp .ge 24, 3) := by decide +kernel
theorem dX4_digestOfLesson_48 : decode cX4_digestOfLesson 48 = .ok (.lload_n 3, 1) := by decide +kernel
theorem dX4_digestOfLesson_49 : decode cX4_digestOfLesson 49 = .ok (.aload_n 0, 1) := by decide +kernel
theorem dX4_digestOfLesson_50 : decode cX4_digestOfLesson 50 = .ok (.getfield 31, 3) := by decide +kernel
theorem dX4_digestOfLesson_53 : decode cX4_digestOfLesson 53 = .ok (.iload 5, 2) := by decide +kernel
theorem dX4_digestOfLesson_55 : decode cX4_digestOfLesson 55 = .ok (.invokevirtual 136, 3) := by decide +kernel
theorem dX4_digestOfLesson_58 : decode cX4_digestOfLesson 58 = .ok (.i2l, 1) := by decide +kernel
theorem dX4_digestOfLesson_59 : decode cX4_digestOfLesson 59 = .ok (.invokestatic 281, 3) := by decide +kernel
theorem dX4_digestOfLesson_62 : decode cX4_digestOfLesson 62 = .ok (.lstore_n 3, 1) := by decide +kernel
theorem dX4_digestOfLesson_63 : decode cX4_digestOfLesson 63 = .ok (.iinc 5 1, 3) := by decide +kernel
theorem dX4_digestOfLesson_66 : decode cX4_digestOfLesson 66 = .ok (.goto (-30), 3) := by decide +kernel
theorem dX4_digestOfLesson_69 : decode cX4_digestOfLesson 69 = .ok (.lload_n 3, 1) := by decide +kernel
theorem dX4_digestOfLesson_70 : decode cX4_digestOfLesson 70 = .ok (.aload_n 0, 1) := by decide +kernel
theorem dX4_digestOfLesson_71 : decode cX4_digestOfLesson 71 = .ok (.getfield 31, 3) := by decide +kernel
theorem dX4_digestOfLesson_74 : decode cX4_digestOfLesson 74 = .ok (.invokevirtual 131, 3) := by decide +kernel
theorem dX4_digestOfLesson_77 : decode cX4_digestOfLesson 77 = .ok (.i2l, 1) := by decide +kernel
theorem dX4_digestOfLesson_78 : decode cX4_digestOfLesson 78 = .ok (.invokestatic 281, 3) := by decide +kernel
theorem dX4_digestOfLesson_81 : decode cX4_digestOfLesson 81 = .ok (.lreturn, 1) := by decide +kernel
set_option maxRecDepth 20000 in
theorem ggX4_digestOfHistory_X0_size : GoodIn wsX4_digestOfHistory wsX0_size := goodIn_r _ [6, 7, 38, 39, 40, 41, 42, 43, 44] (by decide +kernel) (by decide +kernel)
set_option maxRecDepth 20000 in
theorem gX4_digestOfHistory_X0_size : GoodIn wsX4_digestOfHistory (wsV RX4 185 RX0 yX0_size wsX0_size) := goodIn_app (goodIn_of _ (by decide +kernel)) ggX4_digestOfHistory_X0_size
set_option maxRecDepth 20000 in
theorem ggX4_digestOfHistory_X4_mixed : GoodIn wsX4_digestOfHistory wsX4_mixed := goodIn_r _ [11, 12] (by decide +kernel) (by decide +kernel)
set_option maxRecDepth 20000 in
theorem gX4_digestOfHistory_X4_mixed : GoodIn wsX4_digestOfHistory (va_wsS RX4 281 yX4_mixed wsX4_mixed) := goodIn_app (goodIn_of _ (by decide +kernel)) ggX4_digestOfHistory_X4_mixed
set_option maxRecDepth 20000 in
theorem ggX4_digestOfHistory_X0_tell : GoodIn wsX4_digestOfHistory wsX0_tell := goodIn_r _ [16, 17, 18, 19, 20, 10, 21, 22, 23, 24, 5, 25, 26, 38, 39, 40, 41, 42, 43, 44] (by decide +kernel) (by decide +kernel)
set_option maxRecDepth 20000 in
theorem gX4_digestOfHistory_X0_tell : GoodIn wsX4_digestOfHistory (wsV RX4 188 RX0 yX0_tell wsX0_tell) := goodIn_app (goodIn_of _ (by decide +kernel)) ggX4_digestOfHistory_X0_tell
set_option maxRecDepth 20000 in
theorem ggX4_digestOfHistory_X0_advisedPace : GoodIn wsX4_digestOfHistory wsX0_advisedPace := goodIn_r _ [30, 31, 38, 39, 40, 41, 42, 43, 44] (by decide +kernel) (by decide +kernel)
set_option maxRecDepth 20000 in
theorem gX4_digestOfHistory_X0_advisedPace : GoodIn wsX4_digestOfHistory (wsV RX4 189 RX0 yX0_advisedPace wsX0_advisedPace) := goodIn_app (goodIn_of _ (by decide +kernel)) ggX4_digestOfHistory_X0_advisedPace
theorem dX4_digestOfHistory_0 : decode cX4_digestOfHistory 0 = .ok (.lload_n 1, 1) := by decide +kernel
theorem dX4_digestOfHistory_1 : decode cX4_digestOfHistory 1 = .ok (.aload_n 0, 1) := by decide +kernel
theorem dX4_digestOfHistory_2 : decode cX4_digestOfHistory 2 = .ok (.getfield 38, 3) := by decide +kernel
theorem dX4_digestOfHistory_5 : decode cX4_digestOfHistory 5 = .ok (.invokevirtual 185, 3) := by decide +kernel
theorem dX4_digestOfHistory_8 : decode cX4_digestOfHistory 8 = .ok (.i2l, 1) := by decide +kernel
theorem dX4_digestOfHistory_9 : decode cX4_digestOfHistory 9 = .ok (.invokestatic 281, 3) := by decide +kernel
theorem dX4_digestOfHistory_12 : decode cX4_digestOfHistory 12 = .ok (.lstore_n 3, 1) := by decide +kernel
theorem dX4_digestOfHistory_13 : decode cX4_digestOfHistory 13 = .ok (.iconst 0, 1) := by decide +kernel
theorem dX4_digestOfHistory_14 : decode cX4_digestOfHistory 14 = .ok (.istore 5, 2) := by decide +kernel
theorem dX4_digestOfHistory_16 : decode cX4_digestOfHistory 16 = .ok (.iload 5, 2) := by decide +kernel
theorem dX4_digestOfHistory_18 : decode cX4_digestOfHistory 18 = .ok (.aload_n 0, 1) := by decide +kernel
theorem dX4_digestOfHistory_19 : decode cX4_digestOfHistory 19 = .ok (.getfield 38, 3) := by decide +kernel
theorem dX4_digestOfHistory_22 : decode cX4_digestOfHistory 22 = .ok (.invokevirtual 185, 3) := by decide +kernel
theorem dX4_digestOfHistory_25 : decode cX4_digestOfHistory 25 = .ok (.if_icmp .ge 41, 3) := by decide +kernel
theorem dX4_digestOfHistory_28 : decode cX4_digestOfHistory 28 = .ok (.iconst 0, 1) := by decide +kernel
theorem dX4_digestOfHistory_29 : decode cX4_digestOfHistory 29 = .ok (.istore 6, 2) := by decide +kernel
theorem dX4_digestOfHistory_31 : decode cX4_digestOfHistory 31 = .ok (.iload 6, 2) := by decide +kernel
theorem dX4_digestOfHistory_33 : decode cX4_digestOfHistory 33 = .ok (.iconst 3, 1) := by decide +kernel
theorem dX4_digestOfHistory_34 : decode cX4_digestOfHistory 34 = .ok (.if_icmp .gt 26, 3) := by decide +kernel
theorem dX4_digestOfHistory_37 : decode cX4_digestOfHistory 37 = .ok (.lload_n 3, 1) := by decide +kernel
theorem dX4_digestOfHistory_38 : decode cX4_digestOfHistory 38 = .ok (.aload_n 0, 1) := by decide +kernel
theorem dX4_digestOfHistory_39 : decode cX4_digestOfHistory 39 = .ok (.getfield 38, 3) := by decide +kernel
theorem dX4_digestOfHistory_42 : decode cX4_digestOfHistory 42 = .ok (.iload 5, 2) := by decide +kernel
theorem dX4_digestOfHistory_44 : decode cX4_digestOfHistory 44 = .ok (.iload 6, 2) := by decide +kernel
theorem dX4_digestOfHistory_46 : decode cX4_digestOfHistory 46 = .ok (.invokevirtual 188, 3) := by decide +kernel
theorem dX4_digestOfHistory_49 : decode cX4_digestOfHistory 49 = .ok (.i2l, 1) := by decide +kernel
theorem dX4_digestOfHistory_50 : decode cX4_digestOfHistory 50 = .ok (.invokestatic 281, 3) := by decide +kernel
theorem dX4_digestOfHistory_53 : decode cX4_digestOfHistory 53 = .ok (.lstore_n 3, 1) := by decide +kernel
theorem dX4_digestOfHistory_54 : decode cX4_digestOfHistory 54 = .ok (.iinc 6 1, 3) := by decide +kernel
theorem dX4_digestOfHistory_57 : decode cX4_digestOfHistory 57 = .ok (.goto (-26), 3) := by decide +kernel
theorem dX4_digestOfHistory_60 : decode cX4_digestOfHistory 60 = .ok (.iinc 5 1, 3) := by decide +kernel
theorem dX4_digestOfHistory_63 : decode cX4_digestOfHistory 63 = .ok (.goto (-47), 3) := by decide +kernel
theorem dX4_digestOfHistory_66 : decode cX4_digestOfHistory 66 = .ok (.lload_n 3, 1) := by decide +kernel
theorem dX4_digestOfHistory_67 : decode cX4_digestOfHistory 67 = .ok (.aload_n 0, 1) := by decide +kernel
theorem dX4_digestOfHistory_68 : decode cX4_digestOfHistory 68 = .ok (.getfield 38, 3) := by decide +kernel
theorem dX4_digestOfHistory_71 : decode cX4_digestOfHistory 71 = .ok (.invokevirtual 189, 3) := by decide +kernel
theorem dX4_digestOfHistory_74 : decode cX4_digestOfHistory 74 = .ok (.i2l, 1) := by decide +kernel
theorem dX4_digestOfHistory_75 : decode cX4_digestOfHistory 75 = .ok (.invokestatic 281, 3) := by decide +kernel
theorem dX4_digestOfHistory_78 : decode cX4_digestOfHistory 78 = .ok (.lreturn, 1) := by decide +kernel
