set_option maxRecDepth 20000 in
theorem ggL_addWord_X4_addWord : GoodIn wsL_addWord wsX4_addWord := goodIn_ca (goodIn_ca (goodIn_r _ [7, 8, 9, 10, 11, 12, 13, 14, 6, 15, 16, 17, 18, 19, 20, 21, 22, 23, 24, 25, 26, 27, 28, 29, 30, 31, 32, 33, 34, 35, 36, 37, 38, 39, 40, 41, 42, 43, 44, 45] (by decide +kernel) (by decide +kernel)) (goodIn_sub (fun _ h => List.mem_cons_of_mem _ (List.mem_append_left _ (List.mem_append_right _ h))) (by decide +kernel))) (goodIn_sub (fun _ h => List.mem_cons_of_mem _ (List.mem_append_right _ h)) (by decide +kernel))
set_option maxRecDepth 20000 in
theorem gL_addWord_X4_addWord : GoodIn wsL_addWord (wsV RL 7 RX4 yX4_addWord wsX4_addWord) := goodIn_app (goodIn_of _ (by decide +kernel)) ggL_addWord_X4_addWord
theorem dL_addWord_0 : decode cL_addWord 0 = .ok (.aload_n 3, 1) := by decide +kernel
theorem dL_addWord_1 : decode cL_addWord 1 = .ok (.iconst 0, 1) := by decide +kernel
theorem dL_addWord_2 : decode cL_addWord 2 = .ok (.aload_n 0, 1) := by decide +kernel
theorem dL_addWord_3 : decode cL_addWord 3 = .ok (.lload_n 1, 1) := by decide +kernel
theorem dL_addWord_4 : decode cL_addWord 4 = .ok (.invokevirtual 7, 3) := by decide +kernel
theorem dL_addWord_7 : decode cL_addWord 7 = .ok (.i2l, 1) := by decide +kernel
theorem dL_addWord_8 : decode cL_addWord 8 = .ok (.lastore, 1) := by decide +kernel
theorem dL_addWord_9 : decode cL_addWord 9 = .ok (.goto 11, 3) := by decide +kernel
theorem dL_addWord_12 : decode cL_addWord 12 = .ok (.astore 4, 2) := by decide +kernel
theorem dL_addWord_14 : decode cL_addWord 14 = .ok (.iconst 1, 1) := by decide +kernel
theorem dL_addWord_15 : decode cL_addWord 15 = .ok (.ireturn, 1) := by decide +kernel
theorem dL_addWord_16 : decode cL_addWord 16 = .ok (.astore 4, 2) := by decide +kernel
theorem dL_addWord_18 : decode cL_addWord 18 = .ok (.iconst 2, 1) := by decide +kernel
theorem dL_addWord_19 : decode cL_addWord 19 = .ok (.ireturn, 1) := by decide +kernel
theorem dL_addWord_20 : decode cL_addWord 20 = .ok (.iconst 0, 1) := by decide +kernel
theorem dL_addWord_21 : decode cL_addWord 21 = .ok (.ireturn, 1) := by decide +kernel
set_option maxRecDepth 20000 in
theorem ggL_word_X4_word : GoodIn wsL_word wsX4_word := goodIn_ca (goodIn_r _ [6, 7, 8, 9, 10, 11, 12, 13, 14, 15, 16, 17, 18, 19, 20, 21, 22, 23, 24, 25, 26, 27, 28] (by decide +kernel) (by decide +kernel)) (goodIn_sub (fun _ h => List.mem_cons_of_mem _ (List.mem_append_right _ h)) (by decide +kernel))
set_option maxRecDepth 20000 in
theorem gL_word_X4_word : GoodIn wsL_word (wsV RL 17 RX4 yX4_word wsX4_word) := goodIn_app (goodIn_of _ (by decide +kernel)) ggL_word_X4_word
theorem dL_word_0 : decode cL_word 0 = .ok (.aload_n 2, 1) := by decide +kernel
theorem dL_word_1 : decode cL_word 1 = .ok (.iconst 0, 1) := by decide +kernel
theorem dL_word_2 : decode cL_word 2 = .ok (.aload_n 0, 1) := by decide +kernel
theorem dL_word_3 : decode cL_word 3 = .ok (.iload_n 1, 1) := by decide +kernel
theorem dL_word_4 : decode cL_word 4 = .ok (.invokevirtual 17, 3) := by decide +kernel
theorem dL_word_7 : decode cL_word 7 = .ok (.lastore, 1) := by decide +kernel
theorem dL_word_8 : decode cL_word 8 = .ok (.goto 6, 3) := by decide +kernel
theorem dL_word_11 : decode cL_word 11 = .ok (.astore_n 3, 1) := by decide +kernel
theorem dL_word_12 : decode cL_word 12 = .ok (.iconst 1, 1) := by decide +kernel
theorem dL_word_13 : decode cL_word 13 = .ok (.ireturn, 1) := by decide +kernel
theorem dL_word_14 : decode cL_word 14 = .ok (.iconst 0, 1) := by decide +kernel
theorem dL_word_15 : decode cL_word 15 = .ok (.ireturn, 1) := by decide +kernel
set_option maxRecDepth 20000 in
theorem ggL_weight_X4_weight : GoodIn wsL_weight wsX4_weight := goodIn_ca (goodIn_r _ [6, 7, 8, 9, 10, 11, 12, 13, 14, 15, 16, 17, 18, 19, 20, 21, 22, 23, 5, 24, 25, 26, 27, 28, 29, 30, 31, 32, 33, 34, 35, 36, 37, 38, 39, 40, 41, 42, 43, 44, 45, 46, 47, 48, 49, 50, 51, 52, 53, 54, 55, 56, 57, 58, 59, 60, 61, 62, 63, 64, 65, 66, 67] (by decide +kernel) (by decide +kernel)) (goodIn_sub (fun _ h => List.mem_cons_of_mem _ (List.mem_append_right _ h)) (by decide +kernel))
set_option maxRecDepth 20000 in
theorem gL_weight_X4_weight : GoodIn wsL_weight (wsV RL 23 RX4 yX4_weight wsX4_weight) := goodIn_app (goodIn_of _ (by decide +kernel)) ggL_weight_X4_weight
theorem dL_weight_0 : decode cL_weight 0 = .ok (.aload_n 2, 1) := by decide +kernel
theorem dL_weight_1 : decode cL_weight 1 = .ok (.iconst 0, 1) := by decide +kernel
theorem dL_weight_2 : decode cL_weight 2 = .ok (.aload_n 0, 1) := by decide +kernel
theorem dL_weight_3 : decode cL_weight 3 = .ok (.iload_n 1, 1) := by decide +kernel
theorem dL_weight_4 : decode cL_weight 4 = .ok (.invokevirtual 23, 3) := by decide +kernel
theorem dL_weight_7 : decode cL_weight 7 = .ok (.i2l, 1) := by decide +kernel
theorem dL_weight_8 : decode cL_weight 8 = .ok (.lastore, 1) := by decide +kernel
theorem dL_weight_9 : decode cL_weight 9 = .ok (.goto 6, 3) := by decide +kernel
theorem dL_weight_12 : decode cL_weight 12 = .ok (.astore_n 3, 1) := by decide +kernel
theorem dL_weight_13 : decode cL_weight 13 = .ok (.iconst 1, 1) := by decide +kernel
theorem dL_weight_14 : decode cL_weight 14 = .ok (.ireturn, 1) := by decide +kernel
theorem dL_weight_15 : decode cL_weight 15 = .ok (.iconst 0, 1) := by decide +kernel
theorem dL_weight_16 : decode cL_weight 16 = .ok (.ireturn, 1) := by decide +kernel
set_option maxRecDepth 20000 in
theorem ggL_areNeighbours_X4_areNeighbours : GoodIn wsL_areNeighbours wsX4_areNeighbours := goodIn_ca (goodIn_r _ [6, 7, 8, 9, 10, 5, 11, 12, 13, 14, 15, 16, 17, 18, 19, 20, 21, 22, 23] (by decide +kernel) (by decide +kernel)) (goodIn_sub (fun _ h => List.mem_cons_of_mem _ (List.mem_append_right _ h)) (by decide +kernel))
set_option maxRecDepth 20000 in
theorem gL_areNeighbours_X4_areNeighbours : GoodIn wsL_areNeighbours (wsV RL 27 RX4 yX4_areNeighbours wsX4_areNeighbours) := goodIn_app (goodIn_of _ (by decide +kernel)) ggL_areNeighbours_X4_areNeighbours
theorem dL_areNeighbours_0 : decode cL_areNeighbours 0 = .ok (.aload_n 3, 1) := by decide +kernel
theorem dL_areNeighbours_1 : decode cL_areNeighbours 1 = .ok (.iconst 0, 1) := by decide +kernel
theorem dL_areNeighbours_2 : decode cL_areNeighbours 2 = .ok (.aload_n 0, 1) := by decide +kernel
theorem dL_areNeighbours_3 : decode cL_areNeighbours 3 = .ok (.iload_n 1, 1) := by decide +kernel
theorem dL_areNeighbours_4 : decode cL_areNeighbours 4 = .ok (.iload_n 2, 1) := by decide +kernel
theorem dL_areNeighbours_5 : decode cL_areNeighbours 5 = .ok (.invokevirtual 27, 3) := by decide +kernel
theorem dL_areNeighbours_8 : decode cL_areNeighbours 8 = .ok (.ifCond .eq 7, 3) := by decide +kernel
theorem dL_areNeighbours_11 : decode cL_areNeighbours 11 = .ok (.lconst 1, 1) := by decide +kernel
theorem dL_areNeighbours_12 : decode cL_areNeighbours 12 = .ok (.goto 4, 3) := by decide +kernel
theorem dL_areNeighbours_15 : decode cL_areNeighbours 15 = .ok (.lconst 0, 1) := by decide +kernel
theorem dL_areNeighbours_16 : decode cL_areNeighbours 16 = .ok (.lastore, 1) := by decide +kernel
theorem dL_areNeighbours_17 : decode cL_areNeighbours 17 = .ok (.goto 7, 3) := by decide +kernel
theorem dL_areNeighbours_20 : decode cL_areNeighbours 20 = .ok (.astore 4, 2) := by decide +kernel
theorem dL_areNeighbours_22 : decode cL_areNeighbours 22 = .ok (.iconst 1, 1) := by decide +kernel
theorem dL_areNeighbours_23 : decode cL_areNeighbours 23 = .ok (.ireturn, 1) := by decide +kernel
theorem dL_areNeighbours_24 : decode cL_areNeighbours 24 = .ok (.iconst 0, 1) := by decide +kernel
theorem dL_areNeighbours_25 : decode cL_areNeighbours 25 = .ok (.ireturn, 1) := by decide +kernel
set_option maxRecDepth 20000 in
theorem ggL_open_X4_open : GoodIn wsL_open wsX4_open := goodIn_ca (goodIn_ca (goodIn_r _ [7, 8, 9, 10, 11, 12, 13, 14, 15, 16, 17, 18, 19, 20, 21, 22, 23, 24, 25, 26, 27, 28, 29, 30, 31, 32, 33, 34, 35, 36, 37, 38, 39, 40, 41, 42, 43, 6, 44, 45, 46, 47, 48, 49, 50, 51, 52, 53, 54, 55, 56, 57, 58, 59, 60, 61, 62, 63, 64, 65, 66, 67, 68, 69, 70, 71, 72, 73, 74, 75, 76, 77, 78, 79, 80, 81, 82, 83, 84, 85, 86, 87, 88, 89, 90, 91, 92, 93, 94, 95, 96, 97, 98, 99, 100, 101, 102, 103, 104, 105, 106, 107, 108, 109, 110, 111, 112, 113, 114, 115, 116, 117, 118, 119, 120, 121, 122, 123, 124, 125, 126, 127, 128, 129, 130, 131, 132] (by decide +kernel) (by decide +kernel)) (goodIn_sub (fun _ h => List.mem_cons_of_mem _ (List.mem_append_left _ (List.mem_append_right _ h))) (by decide +kernel))) (goodIn_sub (fun _ h => List.mem_cons_of_mem _ (List.mem_append_right _ h)) (by decide +kernel))
set_option maxRecDepth 20000 in
theorem gL_open_X4_open : GoodIn wsL_open (wsV RL 31 RX4 yX4_open wsX4_open) := goodIn_app (goodIn_of _ (by decide +kernel)) ggL_open_X4_open
theorem dL_open_0 : decode cL_open 0 = .ok (.aload_n 2, 1) := by decide +kernel
theorem dL_open_1 : decode cL_open 1 = .ok (.iconst 0, 1) := by decide +kernel
theorem dL_open_2 : decode cL_open 2 = .ok (.aload_n 0, 1) := by decide +kernel
theorem dL_open_3 : decode cL_open 3 = .ok (.iload_n 1, 1) := by decide +kernel
theorem dL_open_4 : decode cL_open 4 = .ok (.invokevirtual 31, 3) := by decide +kernel
theorem dL_open_7 : decode cL_open 7 = .ok (.i2l, 1) := by decide +kernel
theorem dL_open_8 : decode cL_open 8 = .ok (.lastore, 1) := by decide +kernel
theorem dL_open_9 : decode cL_open 9 = .ok (.goto 9, 3) := by decide +kernel
theorem dL_open_12 : decode cL_open 12 = .ok (.astore_n 3, 1) := by decide +kernel
theorem dL_open_13 : decode cL_open 13 = .ok (.iconst 1, 1) := by decide +kernel
theorem dL_open_14 : decode cL_open 14 = .ok (.ireturn, 1) := by decide +kernel
theorem dL_open_15 : decode cL_open 15 = .ok (.astore_n 3, 1) := by decide +kernel
theorem dL_open_16 : decode cL_open 16 = .ok (.iconst 2, 1) := by decide +kernel
theorem dL_open_17 : decode cL_open 17 = .ok (.ireturn, 1) := by decide +kernel
theorem dL_open_18 : decode cL_open 18 = .ok (.iconst 0, 1) := by decide +kernel
theorem dL_open_19 : decode cL_open 19 = .ok (.ireturn, 1) := by decide +kernel
set_option maxRecDepth 20000 in
theorem ggL_openWord_X4_openWord : GoodIn wsL_openWord wsX4_openWord := goodIn_ca (goodIn_ca (goodIn_r _ [7, 8, 9, 10, 11, 12, 13, 14, 15, 16, 17, 18, 19, 20, 21, 22, 23, 24, 25, 26, 27, 28, 29, 30, 31, 32, 33, 34, 35, 36, 37, 38, 39, 40, 41, 42, 43, 44, 45, 46, 47, 48, 49, 50, 51, 52, 53, 6, 54, 55, 56, 57, 58, 59, 60, 61, 62, 63, 64, 65, 66, 67, 68, 69, 70, 71, 72, 73, 74, 75, 76, 77, 78, 79, 80, 81, 82, 83, 84] (by decide +kernel) (by decide +kernel)) (goodIn_sub (fun _ h => List.mem_cons_of_mem _ (List.mem_append_left _ (List.mem_append_right _ h))) (by decide +kernel))) (goodIn_sub (fun _ h => List.mem_cons_of_mem _ (List.mem_append_right _ h)) (by decide +kernel))
set_option maxRecDepth 20000 in
theorem gL_openWord_X4_openWord : GoodIn wsL_openWord (wsV RL 34 RX4 yX4_openWord wsX4_openWord) := goodIn_app (goodIn_of _ (by decide +kernel)) ggL_openWord_X4_openWord
theorem dL_openWord_0 : decode cL_openWord 0 = .ok (.aload_n 2, 1) := by decide +kernel
theorem dL_openWord_1 : decode cL_openWord 1 = .ok (.iconst 0, 1) := by decide +kernel
theorem dL_openWord_2 : decode cL_openWord 2 = .ok (.aload_n 0, 1) := by decide +kernel
theorem dL_openWord_3 : decode cL_openWord 3 = .ok (.iload_n 1, 1) := by decide +kernel
theorem dL_openWord_4 : decode cL_openWord 4 = .ok (.invokevirtual 34, 3) := by decide +kernel
theorem dL_openWord_7 : decode cL_openWord 7 = .ok (.i2l, 1) := by decide +kernel
theorem dL_openWord_8 : decode cL_openWord 8 = .ok (.lastore, 1) := by decide +kernel
theorem dL_openWord_9 : decode cL_openWord 9 = .ok (.goto 9, 3) := by decide +kernel
theorem dL_openWord_12 : decode cL_openWord 12 = .ok (.astore_n 3, 1) := by decide +kernel
theorem dL_openWord_13 : decode cL_openWord 13 = .ok (.iconst 1, 1) := by decide +kernel
theorem dL_openWord_14 : decode cL_openWord 14 = .ok (.ireturn, 1) := by decide +kernel
theorem dL_openWord_15 : decode cL_openWord 15 = .ok (.astore_n 3, 1) := by decide +kernel
theorem dL_openWord_16 : decode cL_openWord 16 = .ok (.iconst 2, 1) := by decide +kernel
theorem dL_openWord_17 : decode cL_openWord 17 = .ok (.ireturn, 1) := by decide +kernel
theorem dL_openWord_18 : decode cL_openWord 18 = .ok (.iconst 0, 1) := by decide +kernel
theorem dL_openWord_19 : decode cL_openWord 19 = .ok (.ireturn, 1) := by decide +kernel
set_option maxRecDepth 20000 in
theorem ggL_giveUp_X4_giveUp : GoodIn wsL_giveUp wsX4_giveUp := goodIn_ca (goodIn_r _ [6, 7, 8, 9, 10, 11, 12, 13, 14, 15, 16, 17, 18, 19, 20, 21, 22, 23, 24, 25, 26, 27, 28, 29, 30, 31, 32, 33, 34, 35, 36, 37, 38, 39, 40, 41, 42, 43, 44, 45, 46] (by decide +kernel) (by decide +kernel)) (goodIn_sub (fun _ h => List.mem_cons_of_mem _ (List.mem_append_right _ h)) (by decide +kernel))
set_option maxRecDepth 20000 in
theorem gL_giveUp_X4_giveUp : GoodIn wsL_giveUp (wsV RL 37 RX4 yX4_giveUp wsX4_giveUp) := goodIn_app (goodIn_of _ (by decide +kernel)) ggL_giveUp_X4_giveUp
theorem dL_giveUp_0 : decode cL_giveUp 0 = .ok (.aload_n 1, 1) := by decide +kernel
theorem dL_giveUp_1 : decode cL_giveUp 1 = .ok (.iconst 0, 1) := by decide +kernel
theorem dL_giveUp_2 : decode cL_giveUp 2 = .ok (.aload_n 0, 1) := by decide +kernel
theorem dL_giveUp_3 : decode cL_giveUp 3 = .ok (.invokevirtual 37, 3) := by decide +kernel
theorem dL_giveUp_6 : decode cL_giveUp 6 = .ok (.i2l, 1) := by decide +kernel
theorem dL_giveUp_7 : decode cL_giveUp 7 = .ok (.lastore, 1) := by decide +kernel
theorem dL_giveUp_8 : decode cL_giveUp 8 = .ok (.goto 6, 3) := by decide +kernel
theorem dL_giveUp_11 : decode cL_giveUp 11 = .ok (.astore_n 2, 1) := by decide +kernel
theorem dL_giveUp_12 : decode cL_giveUp 12 = .ok (.iconst 1, 1) := by decide +kernel
theorem dL_giveUp_13 : decode cL_giveUp 13 = .ok (.ireturn, 1) := by decide +kernel
theorem dL_giveUp_14 : decode cL_giveUp 14 = .ok (.iconst 0, 1) := by decide +kernel
theorem dL_giveUp_15 : decode cL_giveUp 15 = .ok (.ireturn, 1) := by decide +kernel
set_option maxRecDepth 20000 in
theorem ggL_lessonWord_X4_lessonWord : GoodIn wsL_lessonWord wsX4_lessonWord := goodIn_ca (goodIn_ca (goodIn_r _ [7, 8, 9, 10, 11, 12, 13, 14, 15, 16, 17, 18, 19, 20, 21, 22, 23, 24, 25, 26, 27, 28, 29, 6, 30, 31, 32, 33, 34, 35, 36, 37, 38, 39, 40, 41, 42, 43, 44, 45, 46, 47] (by decide +kernel) (by decide +kernel)) (goodIn_sub (fun _ h => List.mem_cons_of_mem _ (List.mem_append_left _ (List.mem_append_right _ h))) (by decide +kernel))) (goodIn_sub (fun _ h => List.mem_cons_of_mem _ (List.mem_append_right _ h)) (by decide +kernel))
set_option maxRecDepth 20000 in
theorem gL_lessonWord_X4_lessonWord : GoodIn wsL_lessonWord (wsV RL 41 RX4 yX4_lessonWord wsX4_lessonWord) := goodIn_app (goodIn_of _ (by decide +kernel)) ggL_lessonWord_X4_lessonWord
theorem dL_lessonWord_0 : decode cL_lessonWord 0 = .ok (.aload_n 2, 1) := by decide +kernel
theorem dL_lessonWord_1 : decode cL_lessonWord 1 = .ok (.iconst 0, 1) := by decide +kernel
theorem dL_lessonWord_2 : decode cL_lessonWord 2 = .ok (.aload_n 0, 1) := by decide +kernel
theorem dL_lessonWord_3 : decode cL_lessonWord 3 = .ok (.iload_n 1, 1) := by decide +kernel
theorem dL_lessonWord_4 : decode cL_lessonWord 4 = .ok (.invokevirtual 41, 3) := by decide +kernel
theorem dL_lessonWord_7 : decode cL_lessonWord 7 = .ok (.i2l, 1) := by decide +kernel
theorem dL_lessonWord_8 : decode cL_lessonWord 8 = .ok (.lastore, 1) := by decide +kernel
theorem dL_lessonWord_9 : decode cL_lessonWord 9 = .ok (.goto 9, 3) := by decide +kernel
theorem dL_lessonWord_12 : decode cL_lessonWord 12 = .ok (.astore_n 3, 1) := by decide +kernel
theorem dL_lessonWord_13 : decode cL_lessonWord 13 = .ok (.iconst 1, 1) := by decide +kernel
theorem dL_lessonWord_14 : decode cL_lessonWord 14 = .ok (.ireturn, 1) := by decide +kernel
theorem dL_lessonWord_15 : decode cL_lessonWord 15 = .ok (.astore_n 3, 1) := by decide +kernel
theorem dL_lessonWord_16 : decode cL_lessonWord 16 = .ok (.iconst 2, 1) := by decide +kernel
theorem dL_lessonWord_17 : decode cL_lessonWord 17 = .ok (.ireturn, 1) := by decide +kernel
theorem dL_lessonWord_18 : decode cL_lessonWord 18 = .ok (.iconst 0, 1) := by decide +kernel
theorem dL_lessonWord_19 : decode cL_lessonWord 19 = .ok (.ireturn, 1) := by decide +kernel
set_option maxRecDepth 20000 in
theorem ggL_wanted_X4_wanted : GoodIn wsL_wanted wsX4_wanted := goodIn_ca (goodIn_r _ [6, 7, 8, 9, 10, 11, 12, 13, 14, 15, 16, 17, 18, 19, 20, 21, 22, 5, 23, 24, 25, 26, 27, 28, 29, 30, 31, 32, 33, 34, 35, 36, 37, 38, 39, 40] (by decide +kernel) (by decide +kernel)) (goodIn_sub (fun _ h => List.mem_cons_of_mem _ (List.mem_append_right _ h)) (by decide +kernel))
set_option maxRecDepth 20000 in
theorem gL_wanted_X4_wanted : GoodIn wsL_wanted (wsV RL 44 RX4 yX4_wanted wsX4_wanted) := goodIn_app (goodIn_of _ (by decide +kernel)) ggL_wanted_X4_wanted
theorem dL_wanted_0 : decode cL_wanted 0 = .ok (.aload_n 1, 1) := by decide +kernel
theorem dL_wanted_1 : decode cL_wanted 1 = .ok (.iconst 0, 1) := by decide +kernel
theorem dL_wanted_2 : decode cL_wanted 2 = .ok (.aload_n 0, 1) := by decide +kernel
theorem dL_wanted_3 : decode cL_wanted 3 = .ok (.invokevirtual 44, 3) := by decide +kernel
theorem dL_wanted_6 : decode cL_wanted 6 = .ok (.i2l, 1) := by decide +kernel
theorem dL_wanted_7 : decode cL_wanted 7 = .ok (.lastore, 1) := by decide +kernel
theorem dL_wanted_8 : decode cL_wanted 8 = .ok (.goto 6, 3) := by decide +kernel
theorem dL_wanted_11 : decode cL_wanted 11 = .ok (.astore_n 2, 1) := by decide +kernel
theorem dL_wanted_12 : decode cL_wanted 12 = .ok (.iconst 1, 1) := by decide +kernel
theorem dL_wanted_13 : decode cL_wanted 13 = .ok (.ireturn, 1) := by decide +kernel
theorem dL_wanted_14 : decode cL_wanted 14 = .ok (.iconst 0, 1) := by decide +kernel
theorem dL_wanted_15 : decode cL_wanted 15 = .ok (.ireturn, 1) := by decide +kernel
set_option maxRecDepth 20000 in
theorem ggL_done_X4_done : GoodIn wsL_done wsX4_done := goodIn_ca (goodIn_r _ [6, 7, 8, 9, 10, 11, 12, 13, 14, 15, 16, 17, 18, 19, 20, 21, 22, 23, 24, 25, 26, 27, 28, 29, 30, 31, 32, 33, 34, 35, 36, 37] (by decide +kernel) (by decide +kernel)) (goodIn_sub (fun _ h => List.mem_cons_of_mem _ (List.mem_append_right _ h)) (by decide +kernel))
set_option maxRecDepth 20000 in
theorem gL_done_X4_done : GoodIn wsL_done (wsV RL 47 RX4 yX4_done wsX4_done) := goodIn_app (goodIn_of _ (by decide +kernel)) ggL_done_X4_done
theorem dL_done_0 : decode cL_done 0 = .ok (.aload_n 1, 1) := by decide +kernel
theorem dL_done_1 : decode cL_done 1 = .ok (.iconst 0, 1) := by decide +kernel
theorem dL_done_2 : decode cL_done 2 = .ok (.aload_n 0, 1) := by decide +kernel
theorem dL_done_3 : decode cL_done 3 = .ok (.invokevirtual 47, 3) := by decide +kernel
theorem dL_done_6 : decode cL_done 6 = .ok (.i2l, 1) := by decide +kernel
theorem dL_done_7 : decode cL_done 7 = .ok (.lastore, 1) := by decide +kernel
theorem dL_done_8 : decode cL_done 8 = .ok (.goto 6, 3) := by decide +kernel
theorem dL_done_11 : decode cL_done 11 = .ok (.astore_n 2, 1) := by decide +kernel
theorem dL_done_12 : decode cL_done 12 = .ok (.iconst 1, 1) := by decide +kernel
theorem dL_done_13 : decode cL_done 13 = .ok (.ireturn, 1) := by decide +kernel
theorem dL_done_14 : decode cL_done 14 = .ok (.iconst 0, 1) := by decide +kernel
theorem dL_done_15 : decode cL_done 15 = .ok (.ireturn, 1) := by decide +kernel
set_option maxRecDepth 20000 in
theorem ggL_strike_X4_strike : GoodIn wsL_strike wsX4_strike := goodIn_ca (goodIn_ca (goodIn_ca (goodIn_r _ [8, 9, 10, 11, 12, 13, 14, 15, 16, 17, 18, 7, 19, 20, 21, 22, 23, 24, 25, 26, 27, 28, 29, 30, 31, 32, 33, 34, 35, 36, 37, 38, 39, 40, 41, 42, 43, 44, 45, 46, 47, 48, 49, 50, 51, 52, 53, 54, 55, 56, 57, 58, 59, 60, 61, 62, 63, 64, 65, 66, 67, 68, 69, 70, 71, 72, 73, 74, 75, 76, 77, 78, 79, 80, 81, 82, 83, 84, 85, 86, 87, 88, 89, 90, 91, 92, 93, 94, 95, 96, 97, 98, 99, 100, 101, 102, 103, 104, 105, 106, 107, 108, 109, 110, 111, 112, 113, 114, 115, 116, 117, 118, 119, 120, 121, 122, 123, 124, 125, 126, 127, 128, 129, 130, 131, 132, 133, 134, 135, 136, 137, 138, 139, 140, 141, 142, 143, 144, 145, 146, 147, 148, 149, 150, 151, 152, 153, 154, 155, 156, 157, 158, 159, 160, 161, 162, 163, 164, 165, 166, 167] (by decide +kernel) (by decide +kernel)) (goodIn_sub (fun _ h => List.mem_cons_of_mem _ (List.mem_append_left _ (List.mem_append_left _ (List.mem_append_right _ h)))) (by decide +kernel))) (goodIn_sub (fun _ h => List.mem_cons_of_mem _ (List.mem_append_left _ (List.mem_append_right _ h))) (by decide +kernel))) (goodIn_sub (fun _ h => List.mem_cons_of_mem _ (List.mem_append_right _ h)) (by decide +kernel))
set_option maxRecDepth 20000 in
theorem gL_strike_X4_strike : GoodIn wsL_strike (wsV RL 50 RX4 yX4_strike wsX4_strike) := goodIn_app (goodIn_of _ (by decide +kernel)) ggL_strike_X4_strike
theorem dL_strike_0 : decode cL_strike 0 = .ok (.aload_n 3, 1) := by decide +kernel
theorem dL_strike_1 : decode cL_strike 1 = .ok (.iconst 0, 1) := by decide +kernel
theorem dL_strike_2 : decode cL_strike 2 = .ok (.aload_n 0, 1) := by decide +kernel
theorem dL_strike_3 : decode cL_strike 3 = .ok (.iload_n 1, 1) := by decide +kernel
theorem dL_strike_4 : decode cL_strike 4 = .ok (.iload_n 2, 1) := by decide +kernel
theorem dL_strike_5 : decode cL_strike 5 = .ok (.invokevirtual 50, 3) := by decide +kernel
theorem dL_strike_8 : decode cL_strike 8 = .ok (.i2l, 1) := by decide +kernel
theorem dL_strike_9 : decode cL_strike 9 = .ok (.lastore, 1) := by decide +kernel
theorem dL_strike_10 : decode cL_strike 10 = .ok (.goto 15, 3) := by decide +kernel
theorem dL_strike_13 : decode cL_strike 13 = .ok (.astore 4, 2) := by decide +kernel
theorem dL_strike_15 : decode cL_strike 15 = .ok (.iconst 1, 1) := by decide +kernel
theorem dL_strike_16 : decode cL_strike 16 = .ok (.ireturn, 1) := by decide +kernel
theorem dL_strike_17 : decode cL_strike 17 = .ok (.astore 4, 2) := by decide +kernel
theorem dL_strike_19 : decode cL_strike 19 = .ok (.iconst 2, 1) := by decide +kernel
theorem dL_strike_20 : decode cL_strike 20 = .ok (.ireturn, 1) := by decide +kernel
theorem dL_strike_21 : decode cL_strike 21 = .ok (.astore 4, 2) := by decide +kernel
theorem dL_strike_23 : decode cL_strike 23 = .ok (.iconst 3, 1) := by decide +kernel
theorem dL_strike_24 : decode cL_strike 24 = .ok (.ireturn, 1) := by decide +kernel
theorem dL_strike_25 : decode cL_strike 25 = .ok (.iconst 0, 1) := by decide +kernel
theorem dL_strike_26 : decode cL_strike 26 = .ok (.ireturn, 1) := by decide +kernel
set_option maxRecDepth 20000 in
theorem ggL_key_X4_key : GoodIn wsL_key wsX4_key := goodIn_ca (goodIn_r _ [6, 7, 8, 9, 10, 11, 5, 12, 13, 14, 15, 16, 17, 18, 19, 20, 21, 22, 23, 24, 25, 26, 27, 28, 29, 30, 31] (by decide +kernel) (by decide +kernel)) (goodIn_sub (fun _ h => List.mem_cons_of_mem _ (List.mem_append_right _ h)) (by decide +kernel))
set_option maxRecDepth 20000 in
theorem gL_key_X4_key : GoodIn wsL_key (wsV RL 54 RX4 yX4_key wsX4_key) := goodIn_app (goodIn_of _ (by decide +kernel)) ggL_key_X4_key
theorem dL_key_0 : decode cL_key 0 = .ok (.aload_n 3, 1) := by decide +kernel
theorem dL_key_1 : decode cL_key 1 = .ok (.iconst 0, 1) := by decide +kernel
theorem dL_key_2 : decode cL_key 2 = .ok (.aload_n 0, 1) := by decide +kernel
theorem dL_key_3 : decode cL_key 3 = .ok (.iload_n 1, 1) := by decide +kernel
theorem dL_key_4 : decode cL_key 4 = .ok (.iload_n 2, 1) := by decide +kernel
theorem dL_key_5 : decode cL_key 5 = .ok (.invokevirtual 54, 3) := by decide +kernel
theorem dL_key_8 : decode cL_key 8 = .ok (.i2l, 1) := by decide +kernel
theorem dL_key_9 : decode cL_key 9 = .ok (.lastore, 1) := by decide +kernel
theorem dL_key_10 : decode cL_key 10 = .ok (.goto 7, 3) := by decide +kernel
theorem dL_key_13 : decode cL_key 13 = .ok (.astore 4, 2) := by decide +kernel
theorem dL_key_15 : decode cL_key 15 = .ok (.iconst 1, 1) := by decide +kernel
theorem dL_key_16 : decode cL_key 16 = .ok (.ireturn, 1) := by decide +kernel
theorem dL_key_17 : decode cL_key 17 = .ok (.iconst 0, 1) := by decide +kernel
theorem dL_key_18 : decode cL_key 18 = .ok (.ireturn, 1) := by decide +kernel
set_option maxRecDepth 20000 in
theorem ggL_pair_X4_pair : GoodIn wsL_pair wsX4_pair := goodIn_ca (goodIn_r _ [6, 7, 8, 9, 10, 11, 5, 12, 13, 14, 15, 16, 17, 18, 19, 20, 21, 22, 23, 24, 25, 26, 27, 28, 29, 30, 31, 32, 33, 34, 35, 36, 37, 38, 39, 40, 41, 42, 43, 44, 45, 46] (by decide +kernel) (by decide +kernel)) (goodIn_sub (fun _ h => List.mem_cons_of_mem _ (List.mem_append_right _ h)) (by decide +kernel))
set_option maxRecDepth 20000 in
theorem gL_pair_X4_pair : GoodIn wsL_pair (wsV RL 57 RX4 yX4_pair wsX4_pair) := goodIn_app (goodIn_of _ (by decide +kernel)) ggL_pair_X4_pair
theorem dL_pair_0 : decode cL_pair 0 = .ok (.aload 4, 2) := by decide +kernel
theorem dL_pair_2 : decode cL_pair 2 = .ok (.iconst 0, 1) := by decide +kernel
theorem dL_pair_3 : decode cL_pair 3 = .ok (.aload_n 0, 1) := by decide +kernel
theorem dL_pair_4 : decode cL_pair 4 = .ok (.iload_n 1, 1) := by decide +kernel
theorem dL_pair_5 : decode cL_pair 5 = .ok (.iload_n 2, 1) := by decide +kernel
theorem dL_pair_6 : decode cL_pair 6 = .ok (.iload_n 3, 1) := by decide +kernel
theorem dL_pair_7 : decode cL_pair 7 = .ok (.invokevirtual 57, 3) := by decide +kernel
theorem dL_pair_10 : decode cL_pair 10 = .ok (.i2l, 1) := by decide +kernel
theorem dL_pair_11 : decode cL_pair 11 = .ok (.lastore, 1) := by decide +kernel
theorem dL_pair_12 : decode cL_pair 12 = .ok (.goto 7, 3) := by decide +kernel
theorem dL_pair_15 : decode cL_pair 15 = .ok (.astore 5, 2) := by decide +kernel
theorem dL_pair_17 : decode cL_pair 17 = .ok (.iconst 1, 1) := by decide +kernel
theorem dL_pair_18 : decode cL_pair 18 = .ok (.ireturn, 1) := by decide +kernel
theorem dL_pair_19 : decode cL_pair 19 = .ok (.iconst 0, 1) := by decide +kernel
theorem dL_pair_20 : decode cL_pair 20 = .ok (.ireturn, 1) := by decide +kernel
set_option maxRecDepth 20000 in
theorem ggL_mistakes_X4_mistakes : GoodIn wsL_mistakes wsX4_mistakes := goodIn_ca (goodIn_r _ [6, 7, 8, 9, 10, 11, 5, 12, 13, 14, 15, 16, 17, 18] (by decide +kernel) (by decide +kernel)) (goodIn_sub (fun _ h => List.mem_cons_of_mem _ (List.mem_append_right _ h)) (by decide +kernel))
set_option maxRecDepth 20000 in
theorem gL_mistakes_X4_mistakes : GoodIn wsL_mistakes (wsV RL 61 RX4 yX4_mistakes wsX4_mistakes) := goodIn_app (goodIn_of _ (by decide +kernel)) ggL_mistakes_X4_mistakes
theorem dL_mistakes_0 : decode cL_mistakes 0 = .ok (.aload_n 2, 1) := by decide +kernel
theorem dL_mistakes_1 : decode cL_mistakes 1 = .ok (.iconst 0, 1) := by decide +kernel
theorem dL_mistakes_2 : decode cL_mistakes 2 = .ok (.aload_n 0, 1) := by decide +kernel
theorem dL_mistakes_3 : decode cL_mistakes 3 = .ok (.iload_n 1, 1) := by decide +kernel
theorem dL_mistakes_4 : decode cL_mistakes 4 = .ok (.invokevirtual 61, 3) := by decide +kernel
theorem dL_mistakes_7 : decode cL_mistakes 7 = .ok (.i2l, 1) := by decide +kernel
theorem dL_mistakes_8 : decode cL_mistakes 8 = .ok (.lastore, 1) := by decide +kernel
theorem dL_mistakes_9 : decode cL_mistakes 9 = .ok (.goto 6, 3) := by decide +kernel
theorem dL_mistakes_12 : decode cL_mistakes 12 = .ok (.astore_n 3, 1) := by decide +kernel
theorem dL_mistakes_13 : decode cL_mistakes 13 = .ok (.iconst 1, 1) := by decide +kernel
theorem dL_mistakes_14 : decode cL_mistakes 14 = .ok (.ireturn, 1) := by decide +kernel
theorem dL_mistakes_15 : decode cL_mistakes 15 = .ok (.iconst 0, 1) := by decide +kernel
theorem dL_mistakes_16 : decode cL_mistakes 16 = .ok (.ireturn, 1) := by decide +kernel
set_option maxRecDepth 20000 in
theorem ggL_lesson_X4_lesson : GoodIn wsL_lesson wsX4_lesson := goodIn_ca (goodIn_r _ [6, 7, 8, 9, 10, 11, 12, 13, 14, 15, 16, 17, 18, 19, 20, 21, 22, 23, 5, 24, 25, 26, 27, 28, 29, 30, 31, 32, 33, 34, 35, 36, 37, 38, 39, 40, 41, 42] (by decide +kernel) (by decide +kernel)) (goodIn_sub (fun _ h => List.mem_cons_of_mem _ (List.mem_append_right _ h)) (by decide +kernel))
set_option maxRecDepth 20000 in
theorem gL_lesson_X4_lesson : GoodIn wsL_lesson (wsV RL 64 RX4 yX4_lesson wsX4_lesson) := goodIn_app (goodIn_of _ (by decide +kernel)) ggL_lesson_X4_lesson
theorem dL_lesson_0 : decode cL_lesson 0 = .ok (.aload_n 3, 1) := by decide +kernel
theorem dL_lesson_1 : decode cL_lesson 1 = .ok (.iconst 0, 1) := by decide +kernel
theorem dL_lesson_2 : decode cL_lesson 2 = .ok (.aload_n 0, 1) := by decide +kernel
theorem dL_lesson_3 : decode cL_lesson 3 = .ok (.iload_n 1, 1) := by decide +kernel
theorem dL_lesson_4 : decode cL_lesson 4 = .ok (.iload_n 2, 1) := by decide +kernel
theorem dL_lesson_5 : decode cL_lesson 5 = .ok (.invokevirtual 64, 3) := by decide +kernel
theorem dL_lesson_8 : decode cL_lesson 8 = .ok (.i2l, 1) := by decide +kernel
theorem dL_lesson_9 : decode cL_lesson 9 = .ok (.lastore, 1) := by decide +kernel
theorem dL_lesson_10 : decode cL_lesson 10 = .ok (.goto 7, 3) := by decide +kernel
theorem dL_lesson_13 : decode cL_lesson 13 = .ok (.astore 4, 2) := by decide +kernel
theorem dL_lesson_15 : decode cL_lesson 15 = .ok (.iconst 1, 1) := by decide +kernel
theorem dL_lesson_16 : decode cL_lesson 16 = .ok (.ireturn, 1) := by decide +kernel
theorem dL_lesson_17 : decode cL_lesson 17 = .ok (.iconst 0, 1) := by decide +kernel
theorem dL_lesson_18 : decode cL_lesson 18 = .ok (.ireturn, 1) := by decide +kernel
