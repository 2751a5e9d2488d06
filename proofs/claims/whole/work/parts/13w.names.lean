set_option maxRecDepth 20000 in
theorem g_wsL_law0_r1 : GoodIn lw_tbl wsL_law0_r1 := goodIn_p wsL_law0_r1 [54, 57] rfl (by decide +kernel)
set_option maxRecDepth 20000 in
theorem g_wsL_law0_r2 : GoodIn lw_tbl wsL_law0_r2 := goodIn_p wsL_law0_r2 [62, 76, 80] rfl (by decide +kernel)
set_option maxRecDepth 20000 in
theorem g_wsL_law0_r3 : GoodIn lw_tbl wsL_law0_r3 := goodIn_p wsL_law0_r3 [83, 99, 139] rfl (by decide +kernel)
set_option maxRecDepth 20000 in
theorem g_wsL_law0_r4 : GoodIn lw_tbl wsL_law0_r4 := goodIn_p wsL_law0_r4 [689] rfl (by decide +kernel)
set_option maxRecDepth 20000 in
theorem g_wsL_law0_r5 : GoodIn lw_tbl wsL_law0_r5 := goodIn_p wsL_law0_r5 [322, 325, 400, 404] rfl (by decide +kernel)
set_option maxRecDepth 20000 in
theorem g_wsL_law0_r6 : GoodIn lw_tbl wsL_law0_r6 := goodIn_p wsL_law0_r6 [276, 425, 760, 763, 766, 769] rfl (by decide +kernel)
set_option maxRecDepth 20000 in
theorem g_wsL_law0_r7 : GoodIn lw_tbl wsL_law0_r7 := goodIn_p wsL_law0_r7 [773, 777, 756, 185, 189, 781] rfl (by decide +kernel)
set_option maxRecDepth 20000 in
theorem g_wsL_law0_r8 : GoodIn lw_tbl wsL_law0_r8 := goodIn_p wsL_law0_r8 [433, 437, 785, 789] rfl (by decide +kernel)
set_option maxRecDepth 20000 in
theorem g_wsL_law0_r9 : GoodIn lw_tbl wsL_law0_r9 := goodIn_p wsL_law0_r9 [460, 464, 467, 470, 216, 208, 473] rfl (by decide +kernel)
set_option maxRecDepth 20000 in
theorem g_wsL_law0_r10 : GoodIn lw_tbl wsL_law0_r10 := goodIn_p wsL_law0_r10 [476, 212, 205, 793, 797, 801] rfl (by decide +kernel)
set_option maxRecDepth 20000 in
theorem g_wsL_law0_r11 : GoodIn lw_tbl wsL_law0_r11 := goodIn_p wsL_law0_r11 [804, 483, 486, 490, 495] rfl (by decide +kernel)
set_option maxRecDepth 20000 in
theorem g_wsL_law0_r12 : GoodIn lw_tbl wsL_law0_r12 := goodIn_p wsL_law0_r12 [808, 811, 816, 820, 824] rfl (by decide +kernel)
set_option maxRecDepth 20000 in
theorem g_wsL_law0_r13 : GoodIn lw_tbl wsL_law0_r13 := goodIn_p wsL_law0_r13 [830, 834, 837, 652, 840, 845, 848] rfl (by decide +kernel)
set_option maxRecDepth 20000 in
theorem g_wsL_law0_r14 : GoodIn lw_tbl wsL_law0_r14 := goodIn_p wsL_law0_r14 [854, 857, 860, 863, 868, 871] rfl (by decide +kernel)
set_option maxRecDepth 20000 in
theorem g_wsL_law0_r15 : GoodIn lw_tbl wsL_law0_r15 := goodIn_p wsL_law0_r15 [874, 883, 886, 889, 893] rfl (by decide +kernel)
set_option maxRecDepth 20000 in
theorem g_wsL_law0_r16 : GoodIn lw_tbl wsL_law0_r16 := goodIn_p wsL_law0_r16 [504, 197, 510, 515, 519, 523] rfl (by decide +kernel)
set_option maxRecDepth 20000 in
theorem g_wsL_law0_r17 : GoodIn lw_tbl wsL_law0_r17 := goodIn_p wsL_law0_r17 [527, 531, 536, 296, 899, 903] rfl (by decide +kernel)
set_option maxRecDepth 20000 in
theorem g_wsL_law0_r18 : GoodIn lw_tbl wsL_law0_r18 := goodIn_p wsL_law0_r18 [907, 911, 915, 543] rfl (by decide +kernel)
set_option maxRecDepth 20000 in
theorem g_wsL_law0_r19 : GoodIn lw_tbl wsL_law0_r19 := goodIn_p wsL_law0_r19 [548, 919, 555, 560, 305] rfl (by decide +kernel)
set_option maxRecDepth 20000 in
theorem g_wsL_law0_r20 : GoodIn lw_tbl wsL_law0_r20 := goodIn_p wsL_law0_r20 [923, 193, 927, 567, 300] rfl (by decide +kernel)
set_option maxRecDepth 20000 in
theorem g_wsL_law0_r21 : GoodIn lw_tbl wsL_law0_r21 := goodIn_p wsL_law0_r21 [931, 575, 579, 935, 586] rfl (by decide +kernel)
set_option maxRecDepth 20000 in
theorem g_wsL_law0_r22 : GoodIn lw_tbl wsL_law0_r22 := goodIn_p wsL_law0_r22 [939, 593, 598, 602, 606] rfl (by decide +kernel)
set_option maxRecDepth 20000 in
theorem g_wsL_law0_r23 : GoodIn lw_tbl wsL_law0_r23 := goodIn_p wsL_law0_r23 [610, 614, 619, 623, 627, 632] rfl (by decide +kernel)
set_option maxRecDepth 20000 in
theorem g_wsL_law0_r24 : GoodIn lw_tbl wsL_law0_r24 := goodIn_p wsL_law0_r24 [636, 640, 644, 649, 943] rfl (by decide +kernel)
set_option maxRecDepth 20000 in
theorem g_wsL_law0_r25 : GoodIn lw_tbl wsL_law0_r25 := goodIn_p wsL_law0_r25 [947, 951, 956, 960] rfl (by decide +kernel)
set_option maxRecDepth 20000 in
theorem g_wsL_law0_r26 : GoodIn lw_tbl wsL_law0_r26 := goodIn_p wsL_law0_r26 [659, 287, 968, 972, 667] rfl (by decide +kernel)
set_option maxRecDepth 20000 in
theorem g_wsL_law0_r27 : GoodIn lw_tbl wsL_law0_r27 := goodIn_p wsL_law0_r27 [976, 201, 980, 675, 984] rfl (by decide +kernel)
set_option maxRecDepth 20000 in
theorem g_wsL_law0_r28 : GoodIn lw_tbl wsL_law0_r28 := goodIn_p wsL_law0_r28 [220, 224, 988, 683, 313, 244] rfl (by decide +kernel)
set_option maxRecDepth 20000 in
theorem g_wsL_law0_r29 : GoodIn lw_tbl wsL_law0_r29 := goodIn_p wsL_law0_r29 [992, 996, 228, 232, 1001] rfl (by decide +kernel)
set_option maxRecDepth 20000 in
theorem g_wsL_law0_r30 : GoodIn lw_tbl wsL_law0_r30 := goodIn_p wsL_law0_r30 [236, 240, 1005, 1009, 251, 255] rfl (by decide +kernel)
set_option maxRecDepth 20000 in
theorem g_wsL_law0_r31 : GoodIn lw_tbl wsL_law0_r31 := goodIn_p wsL_law0_r31 [259, 1013, 263, 268, 271, 280] rfl (by decide +kernel)
set_option maxRecDepth 20000 in
theorem g_wsL_law0_r32 : GoodIn lw_tbl wsL_law0_r32 := goodIn_p wsL_law0_r32 [283, 292, 309, 1017] rfl (by decide +kernel)
set_option maxRecDepth 20000 in
theorem g_wsX40 : GoodIn lw_tbl wsX40 := goodIn_p wsX40 [] rfl (by decide +kernel)
set_option maxRecDepth 20000 in
theorem g_wsX50 : GoodIn lw_tbl wsX50 := goodIn_p wsX50 [] rfl (by decide +kernel)
set_option maxRecDepth 20000 in
theorem g_wsX30 : GoodIn lw_tbl wsX30 := goodIn_p wsX30 [] rfl (by decide +kernel)
set_option maxRecDepth 20000 in
theorem g_wsX10 : GoodIn lw_tbl wsX10 := goodIn_p wsX10 [] rfl (by decide +kernel)
set_option maxRecDepth 20000 in
theorem g_wsX20 : GoodIn lw_tbl wsX20 := goodIn_p wsX20 [] rfl (by decide +kernel)
set_option maxRecDepth 20000 in
theorem g_wsX00 : GoodIn lw_tbl wsX00 := goodIn_p wsX00 [] rfl (by decide +kernel)
