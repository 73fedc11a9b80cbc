set_option maxRecDepth 20000 in
theorem zi_wsL_law_r1 : GoodIn lw_tbl wsL_law_r1 := goodIn_p wsL_law_r1 [95, 98] (by decide +kernel) (by decide +kernel)
set_option maxRecDepth 20000 in
theorem zi_wsL_law_r2 : GoodIn lw_tbl wsL_law_r2 := goodIn_p wsL_law_r2 [103] (by decide +kernel) (by decide +kernel)
set_option maxRecDepth 20000 in
theorem zi_wsL_law_r3 : GoodIn lw_tbl wsL_law_r3 := goodIn_p wsL_law_r3 [114, 156, 172, 249] (by decide +kernel) (by decide +kernel)
set_option maxRecDepth 20000 in
theorem zi_wsL_law_r4 : GoodIn lw_tbl wsL_law_r4 := goodIn_p wsL_law_r4 [277, 305, 340, 829] (by decide +kernel) (by decide +kernel)
set_option maxRecDepth 20000 in
theorem zi_wsL_law_r5 : GoodIn lw_tbl wsL_law_r5 := goodIn_p wsL_law_r5 [389, 392, 395, 398] (by decide +kernel) (by decide +kernel)
set_option maxRecDepth 20000 in
theorem zi_wsL_law_r6 : GoodIn lw_tbl wsL_law_r6 := goodIn_p wsL_law_r6 [402, 407, 895, 898] (by decide +kernel) (by decide +kernel)
set_option maxRecDepth 20000 in
theorem zi_wsL_law_r7 : GoodIn lw_tbl wsL_law_r7 := goodIn_p wsL_law_r7 [901, 906, 912, 411] (by decide +kernel) (by decide +kernel)
set_option maxRecDepth 20000 in
theorem zi_wsL_law_r8 : GoodIn lw_tbl wsL_law_r8 := goodIn_p wsL_law_r8 [415, 419, 423, 427] (by decide +kernel) (by decide +kernel)
set_option maxRecDepth 20000 in
theorem zi_wsL_law_r9 : GoodIn lw_tbl wsL_law_r9 := goodIn_p wsL_law_r9 [431, 435, 439, 443, 448, 452] (by decide +kernel) (by decide +kernel)
set_option maxRecDepth 20000 in
theorem zi_wsL_law_r10 : GoodIn lw_tbl wsL_law_r10 := goodIn_p wsL_law_r10 [455, 458, 461, 464, 467, 916, 920] (by decide +kernel) (by decide +kernel)
set_option maxRecDepth 20000 in
theorem zi_wsL_law_r11 : GoodIn lw_tbl wsL_law_r11 := goodIn_p wsL_law_r11 [924, 928, 932, 936, 940, 943] (by decide +kernel) (by decide +kernel)
set_option maxRecDepth 20000 in
theorem zi_wsL_law_r12 : GoodIn lw_tbl wsL_law_r12 := goodIn_p wsL_law_r12 [946, 950, 471, 954, 958, 475] (by decide +kernel) (by decide +kernel)
set_option maxRecDepth 20000 in
theorem zi_wsL_law_r13 : GoodIn lw_tbl wsL_law_r13 := goodIn_p wsL_law_r13 [479, 482, 962, 488, 967, 492] (by decide +kernel) (by decide +kernel)
set_option maxRecDepth 20000 in
theorem zi_wsL_law_r14 : GoodIn lw_tbl wsL_law_r14 := goodIn_p wsL_law_r14 [496, 971, 500, 504] (by decide +kernel) (by decide +kernel)
set_option maxRecDepth 20000 in
theorem zi_wsL_law_r15 : GoodIn lw_tbl wsL_law_r15 := goodIn_p wsL_law_r15 [508, 511, 518, 522] (by decide +kernel) (by decide +kernel)
set_option maxRecDepth 20000 in
theorem zi_wsL_law_r16 : GoodIn lw_tbl wsL_law_r16 := goodIn_p wsL_law_r16 [525, 532, 975, 979] (by decide +kernel) (by decide +kernel)
set_option maxRecDepth 20000 in
theorem zi_wsL_law_r17 : GoodIn lw_tbl wsL_law_r17 := goodIn_p wsL_law_r17 [983, 987, 991, 995, 999, 1002, 1006] (by decide +kernel) (by decide +kernel)
set_option maxRecDepth 20000 in
theorem zi_wsL_law_r18 : GoodIn lw_tbl wsL_law_r18 := goodIn_p wsL_law_r18 [537, 1010, 541, 1014, 545] (by decide +kernel) (by decide +kernel)
set_option maxRecDepth 20000 in
theorem zi_wsL_law_r19 : GoodIn lw_tbl wsL_law_r19 := goodIn_p wsL_law_r19 [1018, 549, 552, 556] (by decide +kernel) (by decide +kernel)
set_option maxRecDepth 20000 in
theorem zi_wsL_law_r20 : GoodIn lw_tbl wsL_law_r20 := goodIn_p wsL_law_r20 [565, 573, 602, 584, 595, 599] (by decide +kernel) (by decide +kernel)
set_option maxRecDepth 20000 in
theorem zi_wsL_law_r21 : GoodIn lw_tbl wsL_law_r21 := goodIn_p wsL_law_r21 [569, 576, 580, 588, 606] (by decide +kernel) (by decide +kernel)
set_option maxRecDepth 20000 in
theorem zi_wsL_law_r22 : GoodIn lw_tbl wsL_law_r22 := goodIn_p wsL_law_r22 [1023, 1027, 1051] (by decide +kernel) (by decide +kernel)
set_option maxRecDepth 20000 in
theorem zi_wsL_law_r23 : GoodIn lw_tbl wsL_law_r23 := goodIn_p wsL_law_r23 [1059, 1031, 1035, 1047, 1055, 1067, 1063] (by decide +kernel) (by decide +kernel)
set_option maxRecDepth 20000 in
theorem zi_wsL_law_r24 : GoodIn lw_tbl wsL_law_r24 := goodIn_p wsL_law_r24 [1039, 1043, 613, 1071, 617] (by decide +kernel) (by decide +kernel)
set_option maxRecDepth 20000 in
theorem zi_wsL_law_r25 : GoodIn lw_tbl wsL_law_r25 := goodIn_p wsL_law_r25 [1075, 622, 626, 1079, 1084] (by decide +kernel) (by decide +kernel)
set_option maxRecDepth 20000 in
theorem zi_wsL_law_r26 : GoodIn lw_tbl wsL_law_r26 := goodIn_p wsL_law_r26 [632, 636, 640, 1088, 1092, 1096] (by decide +kernel) (by decide +kernel)
set_option maxRecDepth 20000 in
theorem zi_wsL_law_r27 : GoodIn lw_tbl wsL_law_r27 := goodIn_p wsL_law_r27 [646, 1101, 650, 655, 1105] (by decide +kernel) (by decide +kernel)
set_option maxRecDepth 20000 in
theorem zi_wsL_law_r28 : GoodIn lw_tbl wsL_law_r28 := goodIn_p wsL_law_r28 [1108, 659, 1112, 1116, 1120] (by decide +kernel) (by decide +kernel)
set_option maxRecDepth 20000 in
theorem zi_wsL_law_r29 : GoodIn lw_tbl wsL_law_r29 := goodIn_p wsL_law_r29 [664, 1124, 669, 1128, 673, 1133] (by decide +kernel) (by decide +kernel)
set_option maxRecDepth 20000 in
theorem zi_wsL_law_r30 : GoodIn lw_tbl wsL_law_r30 := goodIn_p wsL_law_r30 [677, 681, 1137, 1141, 685, 689] (by decide +kernel) (by decide +kernel)
set_option maxRecDepth 20000 in
theorem zi_wsL_law_r31 : GoodIn lw_tbl wsL_law_r31 := goodIn_p wsL_law_r31 [693, 697, 701, 1145, 1149, 1153] (by decide +kernel) (by decide +kernel)
set_option maxRecDepth 20000 in
theorem zi_wsL_law_r32 : GoodIn lw_tbl wsL_law_r32 := goodIn_p wsL_law_r32 [1157, 705, 708, 1161, 712, 715] (by decide +kernel) (by decide +kernel)
set_option maxRecDepth 20000 in
theorem zi_wsL_law_r33 : GoodIn lw_tbl wsL_law_r33 := goodIn_p wsL_law_r33 [719, 1165, 1169, 1172, 1176, 723] (by decide +kernel) (by decide +kernel)
set_option maxRecDepth 20000 in
theorem zi_wsL_law_r34 : GoodIn lw_tbl wsL_law_r34 := goodIn_p wsL_law_r34 [727, 731, 734, 741] (by decide +kernel) (by decide +kernel)
set_option maxRecDepth 20000 in
theorem zi_wsL_law_r35 : GoodIn lw_tbl wsL_law_r35 := goodIn_p wsL_law_r35 [745, 749, 1180, 1184, 1188] (by decide +kernel) (by decide +kernel)
set_option maxRecDepth 20000 in
theorem zi_wsL_law_r36 : GoodIn lw_tbl wsL_law_r36 := goodIn_p wsL_law_r36 [1192, 1196, 1200, 1204, 1208, 1212] (by decide +kernel) (by decide +kernel)
set_option maxRecDepth 20000 in
theorem zi_wsL_law_r37 : GoodIn lw_tbl wsL_law_r37 := goodIn_p wsL_law_r37 [1216, 1220, 1224, 753, 1229, 757] (by decide +kernel) (by decide +kernel)
set_option maxRecDepth 20000 in
theorem zi_wsL_law_r38 : GoodIn lw_tbl wsL_law_r38 := goodIn_p wsL_law_r38 [761, 1233, 765, 769, 1237] (by decide +kernel) (by decide +kernel)
set_option maxRecDepth 20000 in
theorem zi_wsL_law_r39 : GoodIn lw_tbl wsL_law_r39 := goodIn_p wsL_law_r39 [773, 777, 1241, 1245, 782, 1249] (by decide +kernel) (by decide +kernel)
set_option maxRecDepth 20000 in
theorem zi_wsL_law_r40 : GoodIn lw_tbl wsL_law_r40 := goodIn_p wsL_law_r40 [786, 1253, 790, 794] (by decide +kernel) (by decide +kernel)
set_option maxRecDepth 20000 in
theorem zi_wsL_law_r41 : GoodIn lw_tbl wsL_law_r41 := goodIn_p wsL_law_r41 [798, 802, 1257, 1260, 808] (by decide +kernel) (by decide +kernel)
set_option maxRecDepth 20000 in
theorem zi_wsL_law_r42 : GoodIn lw_tbl wsL_law_r42 := goodIn_p wsL_law_r42 [1264, 812, 1268, 816, 1272, 820] (by decide +kernel) (by decide +kernel)
set_option maxRecDepth 20000 in
theorem zi_wsL_law_r43 : GoodIn lw_tbl wsL_law_r43 := goodIn_p wsL_law_r43 [1276, 824, 1280] (by decide +kernel) (by decide +kernel)
set_option maxRecDepth 20000 in
theorem zi_wsX80 : GoodIn lw_tbl wsX80 := goodIn_p wsX80 [] (by decide +kernel) (by decide +kernel)
set_option maxRecDepth 20000 in
theorem zi_wsX90 : GoodIn lw_tbl wsX90 := goodIn_p wsX90 [] (by decide +kernel) (by decide +kernel)
set_option maxRecDepth 20000 in
theorem zi_wsX20 : GoodIn lw_tbl wsX20 := goodIn_p wsX20 [] (by decide +kernel) (by decide +kernel)
set_option maxRecDepth 20000 in
theorem zi_wsX50 : GoodIn lw_tbl wsX50 := goodIn_p wsX50 [] (by decide +kernel) (by decide +kernel)
set_option maxRecDepth 20000 in
theorem zi_wsX70 : GoodIn lw_tbl wsX70 := goodIn_p wsX70 [] (by decide +kernel) (by decide +kernel)
set_option maxRecDepth 20000 in
theorem zi_wsX40 : GoodIn lw_tbl wsX40 := goodIn_p wsX40 [] (by decide +kernel) (by decide +kernel)
set_option maxRecDepth 20000 in
theorem zi_wsX30 : GoodIn lw_tbl wsX30 := goodIn_p wsX30 [] (by decide +kernel) (by decide +kernel)
set_option maxRecDepth 20000 in
theorem zi_wsX00 : GoodIn lw_tbl wsX00 := goodIn_p wsX00 [] (by decide +kernel) (by decide +kernel)
set_option maxRecDepth 20000 in
theorem zi_wsX10 : GoodIn lw_tbl wsX10 := goodIn_p wsX10 [] (by decide +kernel) (by decide +kernel)
set_option maxRecDepth 20000 in
theorem zi_wsX60 : GoodIn lw_tbl wsX60 := goodIn_p wsX60 [] (by decide +kernel) (by decide +kernel)
theorem zi_NIL : GoodIn lw_tbl ([] : List Cond) := fun w h => absurd h List.not_mem_nil
theorem zi_law : GoodIn lw_tbl wsL_law := (goodIn_app (goodIn_app (goodIn_app (goodIn_app (goodIn_app (goodIn_app (goodIn_app (goodIn_app (goodIn_app (goodIn_app (goodIn_app (goodIn_app zi_wsL_law_r1 (goodIn_app zi_wsL_law_r2 (goodIn_app zi_wsL_law_r3 (goodIn_app zi_wsL_law_r4 (goodIn_app zi_wsL_law_r5 (goodIn_app zi_wsL_law_r6 (goodIn_app zi_wsL_law_r7 (goodIn_app zi_wsL_law_r8 (goodIn_app zi_wsL_law_r9 (goodIn_app zi_wsL_law_r10 (goodIn_app zi_wsL_law_r11 (goodIn_app zi_wsL_law_r12 (goodIn_app zi_wsL_law_r13 (goodIn_app zi_wsL_law_r14 (goodIn_app zi_wsL_law_r15 (goodIn_app zi_wsL_law_r16 (goodIn_app zi_wsL_law_r17 (goodIn_app zi_wsL_law_r18 (goodIn_app zi_wsL_law_r19 (goodIn_app zi_wsL_law_r20 (goodIn_app zi_wsL_law_r21 (goodIn_app zi_wsL_law_r22 (goodIn_app zi_wsL_law_r23 (goodIn_app zi_wsL_law_r24 (goodIn_app zi_wsL_law_r25 (goodIn_app zi_wsL_law_r26 (goodIn_app zi_wsL_law_r27 (goodIn_app zi_wsL_law_r28 (goodIn_app zi_wsL_law_r29 (goodIn_app zi_wsL_law_r30 (goodIn_app zi_wsL_law_r31 (goodIn_app zi_wsL_law_r32 (goodIn_app zi_wsL_law_r33 (goodIn_app zi_wsL_law_r34 (goodIn_app zi_wsL_law_r35 (goodIn_app zi_wsL_law_r36 (goodIn_app zi_wsL_law_r37 (goodIn_app zi_wsL_law_r38 (goodIn_app zi_wsL_law_r39 (goodIn_app zi_wsL_law_r40 (goodIn_app zi_wsL_law_r41 (goodIn_app zi_wsL_law_r42 zi_wsL_law_r43)))))))))))))))))))))))))))))))))))))))))) zi_wsX80) zi_wsX90) zi_wsX20) zi_wsX50) zi_wsX70) zi_wsX40) zi_wsX30) zi_wsX00) zi_wsX10) zi_wsX60) zi_NIL)
theorem wsL_law_in : ∀ w ∈ wsL_law, w ∈ lw_tbl := fun w h => (zi_law w h).1
