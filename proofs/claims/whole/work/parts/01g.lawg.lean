set_option maxRecDepth 20000 in
theorem ggL_law_X4_init : GoodIn wsL_law wsX4_init := goodIn_r _ [10, 11, 12, 13, 14, 15, 16, 17, 18, 19, 20, 21, 22, 23, 24, 25, 26, 27, 28, 29, 30, 31, 32, 33, 34, 35, 6, 36, 37, 38, 39, 40, 41, 42, 43, 44, 45, 46, 47, 48, 49, 50, 51, 52, 53, 54, 55, 56, 57, 58, 59, 60, 61, 62, 63, 64, 65, 66, 67, 68, 69, 70, 71, 72, 73, 74, 75, 76, 786, 787, 760, 761, 762, 763, 764, 765, 788, 789, 790, 791, 792, 793, 794, 795, 796, 797, 798, 799, 800, 801, 802, 803, 804, 805, 806, 807, 808] (by decide +kernel) (by decide +kernel)
set_option maxRecDepth 20000 in
theorem gL_law_X4_init : GoodIn wsL_law (wsX4_init) := ggL_law_X4_init
set_option maxRecDepth 20000 in
theorem ggL_law_X5_init : GoodIn wsL_law wsX5_init := goodIn_r _ [79, 80, 12, 13, 6, 81, 31, 82, 83, 84, 85, 86, 87, 88, 89, 90, 91, 766, 767, 768, 769, 770, 771, 772, 773, 774, 775, 776, 777, 778, 779, 780, 781, 782, 783, 784, 785] (by decide +kernel) (by decide +kernel)
set_option maxRecDepth 20000 in
theorem gL_law_X5_init : GoodIn wsL_law (wsX5_init) := ggL_law_X5_init
set_option maxRecDepth 20000 in
theorem ggL_law_L_addWord : GoodIn wsL_law wsL_addWord := goodIn_ca (goodIn_ca (goodIn_r _ [95, 96, 97, 98, 99, 100, 2, 101, 102, 103, 104, 105, 17, 106, 107, 108, 109, 110, 111, 112, 113, 114, 16, 115, 37, 36, 116, 117, 118, 119, 120, 121, 122, 123, 124, 125, 126, 127, 760, 761, 762, 763, 764, 765, 786, 787] (by decide +kernel) (by decide +kernel)) (goodIn_sub (fun _ h => List.mem_append_left _ (List.mem_append_left _ (List.mem_append_right _ h))) (by decide +kernel))) (goodIn_sub (fun _ h => List.mem_append_left _ (List.mem_append_right _ h)) (by decide +kernel))
set_option maxRecDepth 20000 in
theorem gL_law_L_addWord : GoodIn wsL_law (va_wsS RL 73 yL_addWord wsL_addWord) := goodIn_app (goodIn_of _ (by decide +kernel)) ggL_law_L_addWord
set_option maxRecDepth 20000 in
theorem ggL_law_X5_addWord : GoodIn wsL_law wsX5_addWord := goodIn_r _ [131, 132, 133, 81, 134, 135, 5, 136, 137, 138, 139, 140, 141, 142, 143, 144, 145, 146, 147, 148, 149, 150, 766, 767, 768, 769, 770, 771, 772, 773, 774, 775, 776, 777, 778, 779, 780, 781, 782, 783, 784, 785] (by decide +kernel) (by decide +kernel)
set_option maxRecDepth 20000 in
theorem gL_law_X5_addWord : GoodIn wsL_law (wsV RL 78 RX5 yX5_addWord wsX5_addWord) := goodIn_app (goodIn_of _ (by decide +kernel)) ggL_law_X5_addWord
set_option maxRecDepth 20000 in
theorem ggL_law_X5_thrown : GoodIn wsL_law wsX5_thrown := goodIn_r _ [154, 132, 766, 767, 768, 769, 770, 771, 772, 773, 774, 775, 776, 777, 778, 779, 780, 781, 782, 783, 784, 785] (by decide +kernel) (by decide +kernel)
set_option maxRecDepth 20000 in
theorem gL_law_X5_thrown : GoodIn wsL_law (wsV RL 79 RX5 yX5_thrown wsX5_thrown) := goodIn_app (goodIn_of _ (by decide +kernel)) ggL_law_X5_thrown
set_option maxRecDepth 20000 in
theorem ggL_law_X4_wordCount : GoodIn wsL_law wsX4_wordCount := goodIn_r _ [158, 17, 159, 160, 161, 16, 162, 37, 760, 761, 762, 763, 764, 765, 786, 787] (by decide +kernel) (by decide +kernel)
set_option maxRecDepth 20000 in
theorem gL_law_X4_wordCount : GoodIn wsL_law (wsV RL 82 RX4 yX4_wordCount wsX4_wordCount) := goodIn_app (goodIn_of _ (by decide +kernel)) ggL_law_X4_wordCount
set_option maxRecDepth 20000 in
theorem ggL_law_X5_wordCount : GoodIn wsL_law wsX5_wordCount := goodIn_r _ [166, 132, 133, 766, 767, 768, 769, 770, 771, 772, 773, 774, 775, 776, 777, 778, 779, 780, 781, 782, 783, 784, 785] (by decide +kernel) (by decide +kernel)
set_option maxRecDepth 20000 in
theorem gL_law_X5_wordCount : GoodIn wsL_law (wsV RL 85 RX5 yX5_wordCount wsX5_wordCount) := goodIn_app (goodIn_of _ (by decide +kernel)) ggL_law_X5_wordCount
set_option maxRecDepth 20000 in
theorem ggL_law_L_word : GoodIn wsL_law wsL_word := goodIn_ca (goodIn_r _ [169, 170, 171, 172, 173, 2, 174, 175, 176, 17, 177, 178, 179, 16, 180, 37, 181, 121, 122, 123, 36, 760, 761, 762, 763, 764, 765, 786, 787] (by decide +kernel) (by decide +kernel)) (goodIn_sub (fun _ h => List.mem_append_right _ h) (by decide +kernel))
set_option maxRecDepth 20000 in
theorem gL_law_L_word : GoodIn wsL_law (va_wsS RL 86 yL_word wsL_word) := goodIn_app (goodIn_of _ (by decide +kernel)) ggL_law_L_word
set_option maxRecDepth 20000 in
theorem ggL_law_X5_word : GoodIn wsL_law wsX5_word := goodIn_r _ [185, 132, 81, 186, 187, 188, 5, 189, 133, 766, 767, 768, 769, 770, 771, 772, 773, 774, 775, 776, 777, 778, 779, 780, 781, 782, 783, 784, 785] (by decide +kernel) (by decide +kernel)
set_option maxRecDepth 20000 in
theorem gL_law_X5_word : GoodIn wsL_law (wsV RL 89 RX5 yX5_word wsX5_word) := goodIn_app (goodIn_of _ (by decide +kernel)) ggL_law_X5_word
set_option maxRecDepth 20000 in
theorem ggL_law_L_weight : GoodIn wsL_law wsL_weight := goodIn_ca (goodIn_r _ [192, 170, 193, 194, 195, 2, 196, 175, 176, 17, 177, 178, 179, 16, 180, 37, 181, 121, 122, 123, 36, 197, 198, 199, 200, 21, 201, 202, 203, 204, 205, 206, 109, 207, 208, 209, 20, 210, 48, 211, 212, 213, 214, 215, 216, 217, 218, 219, 220, 221, 222, 22, 223, 224, 225, 226, 46, 760, 761, 762, 763, 764, 765, 786, 787, 788, 789, 790] (by decide +kernel) (by decide +kernel)) (goodIn_sub (fun _ h => List.mem_append_right _ h) (by decide +kernel))
set_option maxRecDepth 20000 in
theorem gL_law_L_weight : GoodIn wsL_law (va_wsS RL 90 yL_weight wsL_weight) := goodIn_app (goodIn_of _ (by decide +kernel)) ggL_law_L_weight
set_option maxRecDepth 20000 in
theorem ggL_law_X5_weight : GoodIn wsL_law wsX5_weight := goodIn_r _ [230, 132, 81, 186, 187, 188, 5, 189, 133, 231, 232, 233, 234, 84, 137, 138, 139, 140, 141, 142, 143, 235, 236, 237, 238, 82, 239, 240, 241, 147, 148, 149, 150, 766, 767, 768, 769, 770, 771, 772, 773, 774, 775, 776, 777, 778, 779, 780, 781, 782, 783, 784, 785] (by decide +kernel) (by decide +kernel)
set_option maxRecDepth 20000 in
theorem gL_law_X5_weight : GoodIn wsL_law (wsV RL 92 RX5 yX5_weight wsX5_weight) := goodIn_app (goodIn_of _ (by decide +kernel)) ggL_law_X5_weight
set_option maxRecDepth 20000 in
theorem ggL_law_L_areNeighbours : GoodIn wsL_law wsL_areNeighbours := goodIn_ca (goodIn_r _ [244, 170, 245, 246, 247, 2, 248, 175, 176, 249, 250, 251, 252, 253, 254, 255, 256, 257, 44, 258, 259, 260, 211, 212] (by decide +kernel) (by decide +kernel)) (goodIn_sub (fun _ h => List.mem_append_right _ h) (by decide +kernel))
set_option maxRecDepth 20000 in
theorem gL_law_L_areNeighbours : GoodIn wsL_law (va_wsS RL 93 yL_areNeighbours wsL_areNeighbours) := goodIn_app (goodIn_of _ (by decide +kernel)) ggL_law_L_areNeighbours
set_option maxRecDepth 20000 in
theorem ggL_law_X5_areNeighbours : GoodIn wsL_law wsX5_areNeighbours := goodIn_r _ [264, 132, 144, 145, 5, 146, 265, 266, 267, 268, 257, 44, 258, 269, 270, 271, 272, 273, 274, 275, 276, 277, 278, 279, 280, 281, 282, 283, 284, 285, 286, 287, 288, 289, 290, 291, 292, 293, 294, 295, 296, 297, 43, 45, 298, 299, 300, 301, 302, 303, 304, 305, 306, 307, 308, 309, 310, 311, 312, 313, 314, 315, 316, 317, 318, 319, 320, 321, 322, 323, 324, 325, 326, 327, 328, 329, 330, 331, 332, 333, 334, 335, 336, 337, 338, 339, 340, 341, 342, 343, 344, 345, 346, 347, 348, 349, 350, 351, 352, 353, 354, 766, 767, 768, 769, 770, 771, 772, 773, 774, 775, 776, 777, 778, 779, 780, 781, 782, 783, 784, 785] (by decide +kernel) (by decide +kernel)
set_option maxRecDepth 20000 in
theorem gL_law_X5_areNeighbours : GoodIn wsL_law (wsV RL 96 RX5 yX5_areNeighbours wsX5_areNeighbours) := goodIn_app (goodIn_of _ (by decide +kernel)) ggL_law_X5_areNeighbours
set_option maxRecDepth 20000 in
theorem ggL_law_L_open : GoodIn wsL_law wsL_open := goodIn_ca (goodIn_ca (goodIn_r _ [357, 96, 97, 358, 359, 360, 2, 361, 102, 103, 104, 105, 26, 17, 362, 363, 364, 25, 365, 60, 159, 160, 161, 16, 162, 37, 366, 367, 368, 369, 59, 61, 62, 63, 64, 65, 66, 370, 50, 51, 52, 371, 372, 373, 374, 375, 376, 377, 378, 56, 211, 212, 181, 121, 122, 123, 36, 379, 380, 381, 382, 201, 202, 203, 197, 198, 199, 200, 21, 204, 205, 206, 109, 207, 208, 209, 20, 210, 48, 213, 214, 215, 216, 217, 218, 219, 220, 221, 222, 22, 223, 224, 225, 226, 46, 383, 384, 385, 386, 387, 388, 389, 390, 57, 58, 391, 392, 393, 394, 395, 396, 760, 761, 762, 763, 764, 765, 791, 792, 793, 794, 795, 796, 797, 798, 799, 800, 801, 786, 787, 788, 789, 790] (by decide +kernel) (by decide +kernel)) (goodIn_sub (fun _ h => List.mem_append_left _ (List.mem_append_left _ (List.mem_append_right _ h))) (by decide +kernel))) (goodIn_sub (fun _ h => List.mem_append_left _ (List.mem_append_right _ h)) (by decide +kernel))
set_option maxRecDepth 20000 in
theorem gL_law_L_open : GoodIn wsL_law (va_wsS RL 97 yL_open wsL_open) := goodIn_app (goodIn_of _ (by decide +kernel)) ggL_law_L_open
set_option maxRecDepth 20000 in
theorem ggL_law_X5_open : GoodIn wsL_law wsX5_open := goodIn_r _ [400, 132, 401, 133, 402, 81, 147, 148, 149, 5, 150, 403, 404, 405, 406, 407, 408, 409, 410, 411, 412, 413, 414, 415, 86, 231, 232, 233, 234, 84, 137, 138, 139, 140, 141, 142, 143, 235, 236, 237, 238, 82, 239, 240, 241, 416, 417, 418, 419, 89, 87, 420, 421, 422, 423, 766, 767, 768, 769, 770, 771, 772, 773, 774, 775, 776, 777, 778, 779, 780, 781, 782, 783, 784, 785] (by decide +kernel) (by decide +kernel)
set_option maxRecDepth 20000 in
theorem gL_law_X5_open : GoodIn wsL_law (wsV RL 99 RX5 yX5_open wsX5_open) := goodIn_app (goodIn_of _ (by decide +kernel)) ggL_law_X5_open
set_option maxRecDepth 20000 in
theorem ggL_law_L_openWord : GoodIn wsL_law wsL_openWord := goodIn_ca (goodIn_ca (goodIn_r _ [426, 170, 97, 427, 428, 429, 2, 430, 175, 176, 104, 105, 17, 26, 177, 178, 179, 16, 180, 37, 362, 363, 364, 25, 365, 60, 366, 367, 368, 369, 59, 61, 62, 63, 64, 65, 66, 370, 50, 51, 52, 181, 121, 122, 123, 36, 387, 388, 389, 390, 57, 58, 56, 202, 203, 205, 206, 109, 211, 212, 391, 392, 431, 432, 433, 434, 760, 761, 762, 763, 764, 765, 786, 787, 791, 792, 793, 794, 795, 796, 797, 798, 799, 800, 801] (by decide +kernel) (by decide +kernel)) (goodIn_sub (fun _ h => List.mem_append_right _ h) (by decide +kernel))) (goodIn_sub (fun _ h => List.mem_append_left _ (List.mem_append_right _ h)) (by decide +kernel))
set_option maxRecDepth 20000 in
theorem gL_law_L_openWord : GoodIn wsL_law (va_wsS RL 100 yL_openWord wsL_openWord) := goodIn_app (goodIn_of _ (by decide +kernel)) ggL_law_L_openWord
set_option maxRecDepth 20000 in
theorem ggL_law_X5_openWord : GoodIn wsL_law wsX5_openWord := goodIn_r _ [438, 132, 401, 407, 186, 187, 188, 5, 189, 133, 147, 148, 149, 150, 403, 404, 405, 406, 402, 408, 409, 410, 411, 420, 421, 422, 423, 86, 81, 87, 89, 137, 138, 139, 140, 141, 142, 143, 766, 767, 768, 769, 770, 771, 772, 773, 774, 775, 776, 777, 778, 779, 780, 781, 782, 783, 784, 785] (by decide +kernel) (by decide +kernel)
set_option maxRecDepth 20000 in
theorem gL_law_X5_openWord : GoodIn wsL_law (wsV RL 102 RX5 yX5_openWord wsX5_openWord) := goodIn_app (goodIn_of _ (by decide +kernel)) ggL_law_X5_openWord
set_option maxRecDepth 20000 in
theorem ggL_law_L_giveUp : GoodIn wsL_law wsL_giveUp := goodIn_ca (goodIn_r _ [441, 97, 442, 443, 444, 2, 445, 104, 105, 26, 362, 363, 364, 25, 365, 60, 446, 447, 448, 449, 431, 432, 433, 434, 62, 450, 451, 452, 453, 63, 760, 761, 762, 763, 764, 765, 791, 792, 793, 794, 795, 796, 797, 798, 799, 800, 801] (by decide +kernel) (by decide +kernel)) (goodIn_sub (fun _ h => List.mem_append_left _ (List.mem_append_right _ h)) (by decide +kernel))
set_option maxRecDepth 20000 in
theorem gL_law_L_giveUp : GoodIn wsL_law (va_wsS RL 103 yL_giveUp wsL_giveUp) := goodIn_app (goodIn_of _ (by decide +kernel)) ggL_law_L_giveUp
set_option maxRecDepth 20000 in
theorem ggL_law_X5_giveUp : GoodIn wsL_law wsX5_giveUp := goodIn_r _ [457, 132, 401, 407, 408, 147, 148, 149, 5, 150, 766, 767, 768, 769, 770, 771, 772, 773, 774, 775, 776, 777, 778, 779, 780, 781, 782, 783, 784, 785] (by decide +kernel) (by decide +kernel)
set_option maxRecDepth 20000 in
theorem gL_law_X5_giveUp : GoodIn wsL_law (wsV RL 106 RX5 yX5_giveUp wsX5_giveUp) := goodIn_app (goodIn_of _ (by decide +kernel)) ggL_law_X5_giveUp
set_option maxRecDepth 20000 in
theorem ggL_law_X4_isOpen : GoodIn wsL_law wsX4_isOpen := goodIn_r _ [461, 26, 362, 363, 364, 25, 365, 60, 760, 761, 762, 763, 764, 765, 791, 792, 793, 794, 795, 796, 797, 798, 799, 800, 801] (by decide +kernel) (by decide +kernel)
set_option maxRecDepth 20000 in
theorem gL_law_X4_isOpen : GoodIn wsL_law (wsV RL 107 RX4 yX4_isOpen wsX4_isOpen) := goodIn_app (goodIn_of _ (by decide +kernel)) ggL_law_X4_isOpen
set_option maxRecDepth 20000 in
theorem ggL_law_X5_isOpen : GoodIn wsL_law wsX5_isOpen := goodIn_r _ [465, 132, 401, 766, 767, 768, 769, 770, 771, 772, 773, 774, 775, 776, 777, 778, 779, 780, 781, 782, 783, 784, 785] (by decide +kernel) (by decide +kernel)
set_option maxRecDepth 20000 in
theorem gL_law_X5_isOpen : GoodIn wsL_law (wsV RL 111 RX5 yX5_isOpen wsX5_isOpen) := goodIn_app (goodIn_of _ (by decide +kernel)) ggL_law_X5_isOpen
set_option maxRecDepth 20000 in
theorem ggL_law_L_lessonWord : GoodIn wsL_law wsL_lessonWord := goodIn_ca (goodIn_ca (goodIn_r _ [468, 97, 170, 469, 470, 471, 2, 472, 104, 105, 175, 176, 26, 362, 363, 364, 25, 365, 60, 393, 394, 395, 396, 61, 473, 474, 475, 476, 56, 211, 212, 760, 761, 762, 763, 764, 765, 791, 792, 793, 794, 795, 796, 797, 798, 799, 800, 801] (by decide +kernel) (by decide +kernel)) (goodIn_sub (fun _ h => List.mem_append_left _ (List.mem_append_right _ h)) (by decide +kernel))) (goodIn_sub (fun _ h => List.mem_append_right _ h) (by decide +kernel))
set_option maxRecDepth 20000 in
theorem gL_law_L_lessonWord : GoodIn wsL_law (va_wsS RL 112 yL_lessonWord wsL_lessonWord) := goodIn_app (goodIn_of _ (by decide +kernel)) ggL_law_L_lessonWord
set_option maxRecDepth 20000 in
theorem ggL_law_X5_lessonWord : GoodIn wsL_law wsX5_lessonWord := goodIn_r _ [480, 132, 401, 402, 86, 147, 148, 149, 5, 150, 766, 767, 768, 769, 770, 771, 772, 773, 774, 775, 776, 777, 778, 779, 780, 781, 782, 783, 784, 785] (by decide +kernel) (by decide +kernel)
set_option maxRecDepth 20000 in
theorem gL_law_X5_lessonWord : GoodIn wsL_law (wsV RL 114 RX5 yX5_lessonWord wsX5_lessonWord) := goodIn_app (goodIn_of _ (by decide +kernel)) ggL_law_X5_lessonWord
set_option maxRecDepth 20000 in
theorem ggL_law_L_wanted : GoodIn wsL_law wsL_wanted := goodIn_ca (goodIn_r _ [483, 97, 484, 485, 486, 2, 487, 104, 105, 26, 362, 363, 364, 25, 365, 60, 488, 489, 490, 491, 57, 63, 211, 212, 760, 761, 762, 763, 764, 765, 791, 792, 793, 794, 795, 796, 797, 798, 799, 800, 801] (by decide +kernel) (by decide +kernel)) (goodIn_sub (fun _ h => List.mem_append_left _ (List.mem_append_right _ h)) (by decide +kernel))
set_option maxRecDepth 20000 in
theorem gL_law_L_wanted : GoodIn wsL_law (va_wsS RL 115 yL_wanted wsL_wanted) := goodIn_app (goodIn_of _ (by decide +kernel)) ggL_law_L_wanted
set_option maxRecDepth 20000 in
theorem ggL_law_X5_wanted : GoodIn wsL_law wsX5_wanted := goodIn_r _ [495, 132, 401, 87, 408, 147, 148, 149, 5, 150, 766, 767, 768, 769, 770, 771, 772, 773, 774, 775, 776, 777, 778, 779, 780, 781, 782, 783, 784, 785] (by decide +kernel) (by decide +kernel)
set_option maxRecDepth 20000 in
theorem gL_law_X5_wanted : GoodIn wsL_law (wsV RL 117 RX5 yX5_wanted wsX5_wanted) := goodIn_app (goodIn_of _ (by decide +kernel)) ggL_law_X5_wanted
set_option maxRecDepth 20000 in
theorem ggL_law_L_done : GoodIn wsL_law wsL_done := goodIn_ca (goodIn_r _ [498, 97, 499, 500, 501, 2, 502, 104, 105, 26, 362, 363, 364, 25, 365, 60, 450, 451, 452, 453, 63, 760, 761, 762, 763, 764, 765, 791, 792, 793, 794, 795, 796, 797, 798, 799, 800, 801] (by decide +kernel) (by decide +kernel)) (goodIn_sub (fun _ h => List.mem_append_left _ (List.mem_append_right _ h)) (by decide +kernel))
set_option maxRecDepth 20000 in
theorem gL_law_L_done : GoodIn wsL_law (va_wsS RL 118 yL_done wsL_done) := goodIn_app (goodIn_of _ (by decide +kernel)) ggL_law_L_done
set_option maxRecDepth 20000 in
theorem ggL_law_X5_done : GoodIn wsL_law wsX5_done := goodIn_r _ [506, 132, 401, 408, 147, 148, 149, 5, 150, 766, 767, 768, 769, 770, 771, 772, 773, 774, 775, 776, 777, 778, 779, 780, 781, 782, 783, 784, 785] (by decide +kernel) (by decide +kernel)
set_option maxRecDepth 20000 in
theorem gL_law_X5_done : GoodIn wsL_law (wsV RL 120 RX5 yX5_done wsX5_done) := goodIn_app (goodIn_of _ (by decide +kernel)) ggL_law_X5_done
set_option maxRecDepth 20000 in
theorem ggL_law_L_strike : GoodIn wsL_law wsL_strike := goodIn_ca (goodIn_ca (goodIn_ca (goodIn_r _ [509, 170, 96, 97, 510, 511, 512, 2, 513, 175, 176, 102, 103, 104, 105, 26, 32, 249, 250, 251, 362, 363, 364, 25, 365, 60, 514, 515, 516, 517, 488, 489, 490, 491, 57, 63, 211, 212, 518, 519, 520, 521, 522, 523, 524, 525, 62, 58, 526, 527, 528, 529, 252, 253, 254, 255, 256, 257, 44, 258, 259, 260, 530, 531, 532, 533, 65, 66, 534, 391, 392, 535, 536, 537, 538, 539, 540, 541, 542, 21, 22, 30, 543, 544, 545, 20, 546, 42, 43, 45, 48, 46, 47, 216, 217, 218, 547, 548, 549, 550, 64, 450, 451, 452, 453, 431, 432, 433, 434, 446, 447, 448, 449, 551, 552, 553, 554, 555, 556, 557, 558, 559, 560, 561, 29, 562, 73, 70, 71, 72, 75, 76, 74, 563, 564, 565, 566, 567, 568, 299, 300, 760, 761, 762, 763, 764, 765, 791, 792, 793, 794, 795, 796, 797, 798, 799, 800, 801, 788, 789, 790, 802, 803, 804, 805, 806, 807, 808] (by decide +kernel) (by decide +kernel)) (goodIn_sub (fun _ h => List.mem_append_right _ h) (by decide +kernel))) (goodIn_sub (fun _ h => List.mem_append_left _ (List.mem_append_left _ (List.mem_append_right _ h))) (by decide +kernel))) (goodIn_sub (fun _ h => List.mem_append_left _ (List.mem_append_right _ h)) (by decide +kernel))
set_option maxRecDepth 20000 in
theorem gL_law_L_strike : GoodIn wsL_law (va_wsS RL 121 yL_strike wsL_strike) := goodIn_app (goodIn_of _ (by decide +kernel)) ggL_law_L_strike
set_option maxRecDepth 20000 in
theorem ggL_law_X5_strike : GoodIn wsL_law wsX5_strike := goodIn_r _ [572, 132, 401, 411, 85, 409, 144, 145, 5, 146, 147, 148, 149, 150, 573, 574, 575, 576, 87, 408, 407, 89, 265, 266, 267, 268, 257, 44, 258, 269, 270, 271, 272, 273, 274, 275, 276, 277, 278, 279, 280, 281, 282, 283, 284, 285, 286, 287, 288, 289, 290, 291, 292, 293, 294, 295, 296, 297, 43, 45, 298, 299, 300, 301, 302, 303, 304, 305, 306, 307, 308, 309, 310, 311, 312, 313, 314, 315, 316, 317, 318, 319, 320, 321, 322, 323, 324, 325, 326, 327, 328, 329, 330, 331, 332, 333, 334, 335, 336, 337, 338, 339, 340, 341, 342, 343, 344, 345, 346, 347, 348, 349, 350, 351, 352, 353, 354, 577, 578, 579, 580, 581, 410, 582, 583, 584, 585, 82, 83, 84, 239, 240, 241, 586, 587, 588, 589, 590, 90, 31, 591, 592, 593, 594, 91, 595, 766, 767, 768, 769, 770, 771, 772, 773, 774, 775, 776, 777, 778, 779, 780, 781, 782, 783, 784, 785] (by decide +kernel) (by decide +kernel)
set_option maxRecDepth 20000 in
theorem gL_law_X5_strike : GoodIn wsL_law (wsV RL 123 RX5 yX5_strike wsX5_strike) := goodIn_app (goodIn_of _ (by decide +kernel)) ggL_law_X5_strike
set_option maxRecDepth 20000 in
theorem ggL_law_L_key : GoodIn wsL_law wsL_key := goodIn_ca (goodIn_r _ [598, 170, 599, 600, 601, 2, 602, 175, 176, 21, 249, 250, 251, 603, 604, 605, 20, 606, 46, 47, 48, 211, 212, 760, 761, 762, 763, 764, 765, 788, 789, 790] (by decide +kernel) (by decide +kernel)) (goodIn_sub (fun _ h => List.mem_append_right _ h) (by decide +kernel))
set_option maxRecDepth 20000 in
theorem gL_law_L_key : GoodIn wsL_law (va_wsS RL 124 yL_key wsL_key) := goodIn_app (goodIn_of _ (by decide +kernel)) ggL_law_L_key
set_option maxRecDepth 20000 in
theorem ggL_law_X5_key : GoodIn wsL_law wsX5_key := goodIn_r _ [610, 132, 144, 145, 5, 146, 611, 612, 613, 614, 82, 83, 84, 147, 148, 149, 150, 766, 767, 768, 769, 770, 771, 772, 773, 774, 775, 776, 777, 778, 779, 780, 781, 782, 783, 784, 785] (by decide +kernel) (by decide +kernel)
set_option maxRecDepth 20000 in
theorem gL_law_X5_key : GoodIn wsL_law (wsV RL 126 RX5 yX5_key wsX5_key) := goodIn_app (goodIn_of _ (by decide +kernel)) ggL_law_X5_key
set_option maxRecDepth 20000 in
theorem ggL_law_L_pair : GoodIn wsL_law wsL_pair := goodIn_ca (goodIn_r _ [617, 170, 618, 619, 620, 2, 621, 175, 176, 22, 249, 250, 251, 216, 217, 218, 219, 220, 221, 222, 207, 208, 209, 20, 210, 48, 211, 212, 223, 224, 225, 226, 46, 603, 604, 605, 606, 47, 760, 761, 762, 763, 764, 765, 788, 789, 790] (by decide +kernel) (by decide +kernel)) (goodIn_sub (fun _ h => List.mem_append_right _ h) (by decide +kernel))
set_option maxRecDepth 20000 in
theorem gL_law_L_pair : GoodIn wsL_law (va_wsS RL 127 yL_pair wsL_pair) := goodIn_app (goodIn_of _ (by decide +kernel)) ggL_law_L_pair
set_option maxRecDepth 20000 in
theorem ggL_law_X5_pair : GoodIn wsL_law wsX5_pair := goodIn_r _ [625, 132, 144, 145, 5, 146, 147, 148, 149, 150, 235, 236, 237, 238, 84, 82, 239, 240, 241, 611, 612, 613, 614, 83, 766, 767, 768, 769, 770, 771, 772, 773, 774, 775, 776, 777, 778, 779, 780, 781, 782, 783, 784, 785] (by decide +kernel) (by decide +kernel)
set_option maxRecDepth 20000 in
theorem gL_law_X5_pair : GoodIn wsL_law (wsV RL 130 RX5 yX5_pair wsX5_pair) := goodIn_app (goodIn_of _ (by decide +kernel)) ggL_law_X5_pair
set_option maxRecDepth 20000 in
theorem ggL_law_X4_weakest : GoodIn wsL_law wsX4_weakest := goodIn_r _ [629, 22, 223, 224, 225, 20, 226, 46, 211, 2, 212, 219, 220, 221, 222, 207, 208, 209, 210, 48, 760, 761, 762, 763, 764, 765, 788, 789, 790] (by decide +kernel) (by decide +kernel)
set_option maxRecDepth 20000 in
theorem gL_law_X4_weakest : GoodIn wsL_law (wsV RL 131 RX4 yX4_weakest wsX4_weakest) := goodIn_app (goodIn_of _ (by decide +kernel)) ggL_law_X4_weakest
set_option maxRecDepth 20000 in
theorem ggL_law_X5_weakest : GoodIn wsL_law wsX5_weakest := goodIn_r _ [633, 132, 82, 235, 236, 237, 5, 238, 84, 239, 240, 241, 766, 767, 768, 769, 770, 771, 772, 773, 774, 775, 776, 777, 778, 779, 780, 781, 782, 783, 784, 785] (by decide +kernel) (by decide +kernel)
set_option maxRecDepth 20000 in
theorem gL_law_X5_weakest : GoodIn wsL_law (wsV RL 134 RX5 yX5_weakest wsX5_weakest) := goodIn_app (goodIn_of _ (by decide +kernel)) ggL_law_X5_weakest
set_option maxRecDepth 20000 in
theorem ggL_law_L_mistakes : GoodIn wsL_law wsL_mistakes := goodIn_ca (goodIn_r _ [636, 170, 637, 638, 639, 2, 640, 175, 176, 32, 260, 211, 212, 760, 761, 762, 763, 764, 765] (by decide +kernel) (by decide +kernel)) (goodIn_sub (fun _ h => List.mem_append_right _ h) (by decide +kernel))
set_option maxRecDepth 20000 in
theorem gL_law_L_mistakes : GoodIn wsL_law (va_wsS RL 135 yL_mistakes wsL_mistakes) := goodIn_app (goodIn_of _ (by decide +kernel)) ggL_law_L_mistakes
set_option maxRecDepth 20000 in
theorem ggL_law_X5_mistakes : GoodIn wsL_law wsX5_mistakes := goodIn_r _ [644, 132, 85, 147, 148, 149, 5, 150, 766, 767, 768, 769, 770, 771, 772, 773, 774, 775, 776, 777, 778, 779, 780, 781, 782, 783, 784, 785] (by decide +kernel) (by decide +kernel)
set_option maxRecDepth 20000 in
theorem gL_law_X5_mistakes : GoodIn wsL_law (wsV RL 137 RX5 yX5_mistakes wsX5_mistakes) := goodIn_app (goodIn_of _ (by decide +kernel)) ggL_law_X5_mistakes
set_option maxRecDepth 20000 in
theorem ggL_law_X4_lessons : GoodIn wsL_law wsX4_lessons := goodIn_r _ [648, 30, 649, 650, 651, 29, 652, 73, 760, 761, 762, 763, 764, 765, 802, 803, 804, 805, 806, 807, 808] (by decide +kernel) (by decide +kernel)
set_option maxRecDepth 20000 in
theorem gL_law_X4_lessons : GoodIn wsL_law (wsV RL 138 RX4 yX4_lessons wsX4_lessons) := goodIn_app (goodIn_of _ (by decide +kernel)) ggL_law_X4_lessons
set_option maxRecDepth 20000 in
theorem ggL_law_X5_lessons : GoodIn wsL_law wsX5_lessons := goodIn_r _ [656, 132, 590, 766, 767, 768, 769, 770, 771, 772, 773, 774, 775, 776, 777, 778, 779, 780, 781, 782, 783, 784, 785] (by decide +kernel) (by decide +kernel)
set_option maxRecDepth 20000 in
theorem gL_law_X5_lessons : GoodIn wsL_law (wsV RL 141 RX5 yX5_lessons wsX5_lessons) := goodIn_app (goodIn_of _ (by decide +kernel)) ggL_law_X5_lessons
set_option maxRecDepth 20000 in
theorem ggL_law_L_lesson : GoodIn wsL_law wsL_lesson := goodIn_ca (goodIn_r _ [659, 170, 660, 661, 662, 2, 663, 175, 176, 30, 649, 650, 651, 29, 652, 73, 664, 665, 666, 667, 70, 71, 72, 211, 212, 668, 669, 670, 671, 672, 760, 761, 762, 763, 764, 765, 802, 803, 804, 805, 806, 807, 808] (by decide +kernel) (by decide +kernel)) (goodIn_sub (fun _ h => List.mem_append_right _ h) (by decide +kernel))
set_option maxRecDepth 20000 in
theorem gL_law_L_lesson : GoodIn wsL_law (va_wsS RL 142 yL_lesson wsL_lesson) := goodIn_app (goodIn_of _ (by decide +kernel)) ggL_law_L_lesson
set_option maxRecDepth 20000 in
theorem ggL_law_X5_lesson : GoodIn wsL_law wsX5_lesson := goodIn_r _ [676, 132, 590, 677, 678, 679, 5, 680, 90, 681, 147, 148, 149, 150, 766, 767, 768, 769, 770, 771, 772, 773, 774, 775, 776, 777, 778, 779, 780, 781, 782, 783, 784, 785] (by decide +kernel) (by decide +kernel)
set_option maxRecDepth 20000 in
theorem gL_law_X5_lesson : GoodIn wsL_law (wsV RL 144 RX5 yX5_lesson wsX5_lesson) := goodIn_app (goodIn_of _ (by decide +kernel)) ggL_law_X5_lesson
set_option maxRecDepth 20000 in
theorem ggL_law_X4_pace : GoodIn wsL_law wsX4_pace := goodIn_r _ [685, 30, 686, 687, 688, 29, 689, 74, 760, 761, 762, 763, 764, 765, 802, 803, 804, 805, 806, 807, 808] (by decide +kernel) (by decide +kernel)
set_option maxRecDepth 20000 in
theorem gL_law_X4_pace : GoodIn wsL_law (wsV RL 145 RX4 yX4_pace wsX4_pace) := goodIn_app (goodIn_of _ (by decide +kernel)) ggL_law_X4_pace
set_option maxRecDepth 20000 in
theorem ggL_law_X5_pace : GoodIn wsL_law wsX5_pace := goodIn_r _ [693, 132, 91, 766, 767, 768, 769, 770, 771, 772, 773, 774, 775, 776, 777, 778, 779, 780, 781, 782, 783, 784, 785] (by decide +kernel) (by decide +kernel)
set_option maxRecDepth 20000 in
theorem gL_law_X5_pace : GoodIn wsL_law (wsV RL 148 RX5 yX5_pace wsX5_pace) := goodIn_app (goodIn_of _ (by decide +kernel)) ggL_law_X5_pace
set_option maxRecDepth 20000 in
theorem ggL_law_X4_isPlateau : GoodIn wsL_law wsX4_isPlateau := goodIn_r _ [697, 30, 649, 650, 651, 29, 652, 73, 698, 699, 700, 701, 567, 43, 44, 45, 668, 669, 670, 671, 72, 70, 672, 211, 2, 212, 760, 761, 762, 763, 764, 765, 802, 803, 804, 805, 806, 807, 808] (by decide +kernel) (by decide +kernel)
set_option maxRecDepth 20000 in
theorem gL_law_X4_isPlateau : GoodIn wsL_law (wsV RL 149 RX4 yX4_isPlateau wsX4_isPlateau) := goodIn_app (goodIn_of _ (by decide +kernel)) ggL_law_X4_isPlateau
set_option maxRecDepth 20000 in
theorem ggL_law_X5_isPlateau : GoodIn wsL_law wsX5_isPlateau := goodIn_r _ [705, 132, 590, 706, 707, 708, 5, 709, 581, 43, 44, 45, 677, 678, 679, 680, 90, 681, 766, 767, 768, 769, 770, 771, 772, 773, 774, 775, 776, 777, 778, 779, 780, 781, 782, 783, 784, 785] (by decide +kernel) (by decide +kernel)
set_option maxRecDepth 20000 in
theorem gL_law_X5_isPlateau : GoodIn wsL_law (wsV RL 152 RX5 yX5_isPlateau wsX5_isPlateau) := goodIn_app (goodIn_of _ (by decide +kernel)) ggL_law_X5_isPlateau
set_option maxRecDepth 20000 in
theorem ggL_law_X4_accuracy : GoodIn wsL_law wsX4_accuracy := goodIn_r _ [713, 30, 714, 715, 716, 29, 717, 75, 718, 719, 720, 721, 76, 760, 761, 762, 763, 764, 765, 802, 803, 804, 805, 806, 807, 808] (by decide +kernel) (by decide +kernel)
set_option maxRecDepth 20000 in
theorem gL_law_X4_accuracy : GoodIn wsL_law (wsV RL 153 RX4 yX4_accuracy wsX4_accuracy) := goodIn_app (goodIn_of _ (by decide +kernel)) ggL_law_X4_accuracy
set_option maxRecDepth 20000 in
theorem ggL_law_X5_accuracy : GoodIn wsL_law wsX5_accuracy := goodIn_r _ [725, 132, 590, 90, 766, 767, 768, 769, 770, 771, 772, 773, 774, 775, 776, 777, 778, 779, 780, 781, 782, 783, 784, 785] (by decide +kernel) (by decide +kernel)
set_option maxRecDepth 20000 in
theorem gL_law_X5_accuracy : GoodIn wsL_law (wsV RL 157 RX5 yX5_accuracy wsX5_accuracy) := goodIn_app (goodIn_of _ (by decide +kernel)) ggL_law_X5_accuracy
set_option maxRecDepth 20000 in
theorem ggL_law_X4_digest : GoodIn wsL_law wsX4_digest := goodIn_r _ [729, 730, 731, 732, 733, 2, 734, 17, 159, 160, 161, 16, 162, 37, 735, 736, 737, 738, 181, 121, 122, 123, 36, 739, 740, 741, 742, 21, 22, 32, 743, 744, 745, 603, 604, 605, 20, 606, 46, 47, 48, 211, 212, 223, 224, 225, 226, 260, 746, 747, 748, 749, 26, 362, 363, 364, 25, 365, 60, 393, 394, 395, 396, 61, 473, 474, 475, 476, 56, 450, 451, 452, 453, 63, 750, 751, 752, 753, 30, 649, 650, 651, 29, 652, 73, 664, 665, 666, 667, 70, 71, 72, 668, 669, 670, 671, 672, 686, 687, 688, 689, 74, 760, 761, 762, 763, 764, 765, 786, 787, 788, 789, 790, 791, 792, 793, 794, 795, 796, 797, 798, 799, 800, 801, 802, 803, 804, 805, 806, 807, 808] (by decide +kernel) (by decide +kernel)
set_option maxRecDepth 20000 in
theorem gL_law_X4_digest : GoodIn wsL_law (wsV RL 158 RX4 yX4_digest wsX4_digest) := goodIn_app (goodIn_of _ (by decide +kernel)) ggL_law_X4_digest
set_option maxRecDepth 20000 in
theorem ggL_law_X5_digest : GoodIn wsL_law wsX5_digest := goodIn_r _ [757, 132, 758, 133, 759, 81, 82, 85, 401, 402, 86, 408, 590, 91, 611, 612, 613, 5, 614, 83, 84, 677, 678, 679, 680, 90, 681, 766, 767, 768, 769, 770, 771, 772, 773, 774, 775, 776, 777, 778, 779, 780, 781, 782, 783, 784, 785] (by decide +kernel) (by decide +kernel)
set_option maxRecDepth 20000 in
theorem gL_law_X5_digest : GoodIn wsL_law (wsV RL 162 RX5 yX5_digest wsX5_digest) := goodIn_app (goodIn_of _ (by decide +kernel)) ggL_law_X5_digest
