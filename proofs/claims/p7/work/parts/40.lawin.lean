set_option maxRecDepth 20000 in
theorem zi_wsL_law_r1 : GoodIn lw_tbl wsL_law_r1 := goodIn_r wsL_law_r1 [91, 92, 78, 825, 826, 87, 1281, 93, 94, 95, 96, 97, 98, 99, 100, 79, 355, 356, 243, 358, 245, 246, 83, 359] (by decide +kernel) (by decide +kernel)
set_option maxRecDepth 20000 in
theorem zi_wsL_law_r2 : GoodIn lw_tbl wsL_law_r2 := goodIn_r wsL_law_r2 [273, 274, 84, 360, 301, 302, 85, 361, 152, 362, 363, 364, 337, 86, 101, 102, 103, 104, 193, 196, 105, 198, 107, 204] (by decide +kernel) (by decide +kernel)
set_option maxRecDepth 20000 in
theorem zi_wsL_law_r3 : GoodIn lw_tbl wsL_law_r3 := goodIn_r wsL_law_r3 [109, 208, 151, 210, 214, 111, 80, 153, 81, 169, 82, 113, 114, 115, 155, 156, 157, 171, 172, 173, 179, 181, 248, 249] (by decide +kernel) (by decide +kernel)
set_option maxRecDepth 20000 in
theorem zi_wsL_law_r4 : GoodIn lw_tbl wsL_law_r4 := goodIn_r wsL_law_r4 [250, 251, 276, 277, 278, 283, 285, 304, 305, 306, 317, 318, 319, 339, 340, 341, 346, 827, 828, 829, 830, 831, 832, 834] (by decide +kernel) (by decide +kernel)
set_option maxRecDepth 20000 in
theorem zi_wsL_law_r5 : GoodIn lw_tbl wsL_law_r5 := goodIn_r wsL_law_r5 [835, 836, 837, 838, 839, 840, 841, 847, 848, 386, 387, 388, 389, 390, 391, 392, 393, 394, 395, 396, 397, 398, 399, 401] (by decide +kernel) (by decide +kernel)
set_option maxRecDepth 20000 in
theorem zi_wsL_law_r6 : GoodIn lw_tbl wsL_law_r6 := goodIn_r wsL_law_r6 [0, 402, 403, 404, 405, 406, 407, 202, 118, 122, 126, 130, 133, 136, 892, 893, 894, 895, 902, 908, 896, 897, 898, 899] (by decide +kernel) (by decide +kernel)
set_option maxRecDepth 20000 in
theorem zi_wsL_law_r7 : GoodIn lw_tbl wsL_law_r7 := goodIn_r wsL_law_r7 [900, 901, 903, 905, 26, 906, 907, 909, 911, 27, 912, 408, 409, 410, 411, 200, 119, 123, 127, 131, 134, 137, 192, 195] (by decide +kernel) (by decide +kernel)
set_option maxRecDepth 20000 in
theorem zi_wsL_law_r8 : GoodIn lw_tbl wsL_law_r8 := goodIn_r wsL_law_r8 [412, 414, 1, 415, 203, 416, 417, 418, 419, 135, 117, 121, 420, 421, 422, 423, 132, 424, 426, 2, 427, 428, 430, 3] (by decide +kernel) (by decide +kernel)
set_option maxRecDepth 20000 in
theorem zi_wsL_law_r9 : GoodIn lw_tbl wsL_law_r9 := goodIn_r wsL_law_r9 [431, 432, 434, 4, 435, 436, 438, 5, 439, 440, 441, 442, 443, 444, 445, 446, 447, 448, 175, 449, 450, 451, 452, 177] (by decide +kernel) (by decide +kernel)
set_option maxRecDepth 20000 in
theorem zi_wsL_law_r10 : GoodIn lw_tbl wsL_law_r10 := goodIn_r wsL_law_r10 [453, 454, 455, 456, 457, 458, 459, 460, 461, 462, 463, 88, 464, 465, 466, 467, 913, 914, 915, 916, 917, 919, 28, 920] (by decide +kernel) (by decide +kernel)
set_option maxRecDepth 20000 in
theorem zi_wsL_law_r11 : GoodIn lw_tbl wsL_law_r11 := goodIn_r wsL_law_r11 [921, 923, 29, 924, 925, 927, 30, 928, 929, 931, 31, 932, 933, 935, 32, 936, 937, 939, 33, 940, 941, 942, 943, 944] (by decide +kernel) (by decide +kernel)
set_option maxRecDepth 20000 in
theorem zi_wsL_law_r12 : GoodIn lw_tbl wsL_law_r12 := goodIn_r wsL_law_r12 [945, 946, 947, 949, 34, 950, 468, 469, 470, 471, 951, 952, 953, 954, 955, 957, 35, 958, 472, 473, 474, 475, 476, 477] (by decide +kernel) (by decide +kernel)
set_option maxRecDepth 20000 in
theorem zi_wsL_law_r13 : GoodIn lw_tbl wsL_law_r13 := goodIn_r wsL_law_r13 [478, 479, 481, 482, 483, 959, 960, 961, 962, 963, 485, 486, 487, 488, 964, 965, 966, 967, 489, 490, 491, 492, 493, 494] (by decide +kernel) (by decide +kernel)
set_option maxRecDepth 20000 in
theorem zi_wsL_law_r14 : GoodIn lw_tbl wsL_law_r14 := goodIn_r wsL_law_r14 [495, 496, 206, 159, 162, 968, 969, 970, 971, 497, 498, 499, 500, 205, 160, 163, 501, 503, 6, 504, 207, 505, 506, 507] (by decide +kernel) (by decide +kernel)
set_option maxRecDepth 20000 in
theorem zi_wsL_law_r15 : GoodIn lw_tbl wsL_law_r15 := goodIn_r wsL_law_r15 [508, 315, 307, 201, 199, 125, 194, 129, 514, 510, 511, 512, 513, 515, 517, 7, 518, 309, 311, 313, 519, 520, 521, 522] (by decide +kernel) (by decide +kernel)
set_option maxRecDepth 20000 in
theorem zi_wsL_law_r16 : GoodIn lw_tbl wsL_law_r16 := goodIn_r wsL_law_r16 [523, 524, 89, 525, 526, 527, 528, 529, 530, 531, 532, 316, 533, 972, 973, 974, 975, 976, 978, 36, 979, 980, 982, 37] (by decide +kernel) (by decide +kernel)
set_option maxRecDepth 20000 in
theorem zi_wsL_law_r17 : GoodIn lw_tbl wsL_law_r17 := goodIn_r wsL_law_r17 [983, 984, 986, 38, 987, 988, 990, 39, 991, 992, 994, 40, 995, 996, 998, 41, 999, 1000, 1001, 1002, 1003, 1005, 42, 1006] (by decide +kernel) (by decide +kernel)
set_option maxRecDepth 20000 in
theorem zi_wsL_law_r18 : GoodIn lw_tbl wsL_law_r18 := goodIn_r wsL_law_r18 [534, 535, 536, 537, 1007, 1008, 1009, 1010, 538, 539, 540, 541, 1011, 1012, 1013, 1014, 542, 543, 544, 545, 213, 211, 1015, 1016] (by decide +kernel) (by decide +kernel)
set_option maxRecDepth 20000 in
theorem zi_wsL_law_r19 : GoodIn lw_tbl wsL_law_r19 := goodIn_r wsL_law_r19 [1017, 1018, 1019, 546, 547, 548, 549, 280, 209, 284, 282, 550, 551, 552, 553, 554, 555, 556, 557, 558, 286, 559, 561, 560] (by decide +kernel) (by decide +kernel)
set_option maxRecDepth 20000 in
theorem zi_wsL_law_r20 : GoodIn lw_tbl wsL_law_r20 := goodIn_r wsL_law_r20 [90, 287, 279, 281, 562, 564, 8, 565, 566, 568, 9, 570, 572, 10, 573, 600, 601, 602, 581, 583, 12, 584, 595, 599] (by decide +kernel) (by decide +kernel)
set_option maxRecDepth 20000 in
theorem zi_wsL_law_r21 : GoodIn lw_tbl wsL_law_r21 := goodIn_r wsL_law_r21 [569, 574, 575, 576, 577, 579, 11, 580, 585, 587, 13, 588, 592, 594, 14, 596, 598, 15, 603, 604, 605, 606, 607, 608] (by decide +kernel) (by decide +kernel)
set_option maxRecDepth 20000 in
theorem zi_wsL_law_r22 : GoodIn lw_tbl wsL_law_r22 := goodIn_r wsL_law_r22 [609, 174, 1020, 1021, 1022, 1023, 846, 842, 843, 844, 845, 1024, 1026, 43, 1027, 1028, 1030, 44, 1048, 1050, 49, 1051, 1056, 1058] (by decide +kernel) (by decide +kernel)
set_option maxRecDepth 20000 in
theorem zi_wsL_law_r23 : GoodIn lw_tbl wsL_law_r23 := goodIn_r wsL_law_r23 [51, 1059, 1031, 1032, 1034, 45, 1035, 1036, 1038, 46, 1047, 1052, 1054, 50, 1055, 1060, 1062, 52, 1064, 1066, 53, 1067, 1063, 1044] (by decide +kernel) (by decide +kernel)
set_option maxRecDepth 20000 in
theorem zi_wsL_law_r24 : GoodIn lw_tbl wsL_law_r24 := goodIn_r wsL_law_r24 [1046, 48, 1039, 1040, 1042, 47, 1043, 610, 611, 612, 613, 176, 1068, 1069, 1070, 1071, 614, 615, 616, 617, 618, 1072, 1073, 1074] (by decide +kernel) (by decide +kernel)
set_option maxRecDepth 20000 in
theorem zi_wsL_law_r25 : GoodIn lw_tbl wsL_law_r25 := goodIn_r wsL_law_r25 [1075, 619, 620, 621, 622, 623, 624, 625, 626, 191, 627, 628, 1076, 1077, 1078, 1079, 1080, 1081, 1083, 54, 1084, 629, 630, 631] (by decide +kernel) (by decide +kernel)
set_option maxRecDepth 20000 in
theorem zi_wsL_law_r26 : GoodIn lw_tbl wsL_law_r26 := goodIn_r wsL_law_r26 [632, 633, 634, 635, 636, 637, 639, 16, 640, 641, 642, 1085, 1086, 1087, 1088, 1089, 1091, 55, 1092, 1093, 1095, 56, 1096, 1097] (by decide +kernel) (by decide +kernel)
set_option maxRecDepth 20000 in
theorem zi_wsL_law_r27 : GoodIn lw_tbl wsL_law_r27 := goodIn_r wsL_law_r27 [643, 644, 645, 646, 197, 1098, 1099, 1100, 1101, 647, 648, 649, 650, 651, 652, 653, 654, 655, 1102, 1103, 1104, 1105, 1106, 1107] (by decide +kernel) (by decide +kernel)
set_option maxRecDepth 20000 in
theorem zi_wsL_law_r28 : GoodIn lw_tbl wsL_law_r28 := goodIn_r wsL_law_r28 [1108, 656, 657, 658, 659, 308, 310, 312, 314, 660, 1109, 1110, 1111, 1112, 1113, 1115, 57, 1116, 1117, 1119, 58, 1120, 661, 662] (by decide +kernel) (by decide +kernel)
set_option maxRecDepth 20000 in
theorem zi_wsL_law_r29 : GoodIn lw_tbl wsL_law_r29 := goodIn_r wsL_law_r29 [663, 664, 665, 1121, 1122, 1123, 1124, 666, 667, 668, 669, 1125, 1126, 1127, 1128, 1129, 670, 671, 672, 673, 1130, 1131, 1132, 1133] (by decide +kernel) (by decide +kernel)
set_option maxRecDepth 20000 in
theorem zi_wsL_law_r30 : GoodIn lw_tbl wsL_law_r30 := goodIn_r wsL_law_r30 [674, 675, 676, 677, 678, 680, 17, 681, 1134, 1135, 1136, 1137, 1138, 1140, 59, 1141, 682, 683, 684, 685, 686, 688, 18, 689] (by decide +kernel) (by decide +kernel)
set_option maxRecDepth 20000 in
theorem zi_wsL_law_r31 : GoodIn lw_tbl wsL_law_r31 := goodIn_r wsL_law_r31 [690, 691, 692, 693, 694, 696, 19, 697, 698, 700, 20, 701, 1142, 1143, 1144, 1145, 1146, 1148, 60, 1149, 1150, 1152, 61, 1153] (by decide +kernel) (by decide +kernel)
set_option maxRecDepth 20000 in
theorem zi_wsL_law_r32 : GoodIn lw_tbl wsL_law_r32 := goodIn_r wsL_law_r32 [1154, 1156, 62, 1157, 702, 703, 704, 705, 706, 707, 708, 1158, 1159, 1160, 1161, 709, 710, 711, 712, 343, 345, 713, 714, 715] (by decide +kernel) (by decide +kernel)
set_option maxRecDepth 20000 in
theorem zi_wsL_law_r33 : GoodIn lw_tbl wsL_law_r33 := goodIn_r wsL_law_r33 [716, 718, 21, 719, 347, 1162, 1163, 1164, 1165, 1166, 1168, 63, 1169, 1170, 1171, 1172, 1173, 1175, 64, 1176, 720, 721, 722, 723] (by decide +kernel) (by decide +kernel)
set_option maxRecDepth 20000 in
theorem zi_wsL_law_r34 : GoodIn lw_tbl wsL_law_r34 := goodIn_r wsL_law_r34 [256, 724, 725, 726, 727, 116, 257, 120, 258, 259, 253, 255, 728, 730, 22, 731, 732, 733, 734, 738, 740, 23, 741, 742] (by decide +kernel) (by decide +kernel)
set_option maxRecDepth 20000 in
theorem zi_wsL_law_r35 : GoodIn lw_tbl wsL_law_r35 := goodIn_r wsL_law_r35 [744, 24, 746, 748, 25, 745, 749, 1177, 1178, 1179, 1180, 849, 850, 1225, 1181, 1183, 65, 1184, 1185, 1187, 66, 1188, 1189, 1191] (by decide +kernel) (by decide +kernel)
set_option maxRecDepth 20000 in
theorem zi_wsL_law_r36 : GoodIn lw_tbl wsL_law_r36 := goodIn_r wsL_law_r36 [67, 1192, 1193, 1195, 68, 1196, 1197, 1199, 69, 1200, 1201, 1203, 70, 1204, 1205, 1207, 71, 1208, 1209, 1211, 72, 1212, 1213, 1215] (by decide +kernel) (by decide +kernel)
set_option maxRecDepth 20000 in
theorem zi_wsL_law_r37 : GoodIn lw_tbl wsL_law_r37 := goodIn_r wsL_law_r37 [73, 1216, 1217, 1219, 74, 1220, 1221, 1223, 75, 1224, 750, 751, 752, 753, 254, 252, 1226, 1227, 1228, 1229, 754, 755, 756, 757] (by decide +kernel) (by decide +kernel)
set_option maxRecDepth 20000 in
theorem zi_wsL_law_r38 : GoodIn lw_tbl wsL_law_r38 := goodIn_r wsL_law_r38 [758, 759, 760, 761, 342, 344, 1230, 1231, 1232, 1233, 762, 763, 764, 765, 766, 767, 768, 769, 1234, 1235, 1236, 1237, 770, 771] (by decide +kernel) (by decide +kernel)
set_option maxRecDepth 20000 in
theorem zi_wsL_law_r39 : GoodIn lw_tbl wsL_law_r39 := goodIn_r wsL_law_r39 [772, 773, 778, 774, 775, 776, 777, 1238, 1239, 1240, 1241, 1242, 1244, 76, 1245, 779, 780, 781, 782, 1246, 1247, 1248, 1249, 783] (by decide +kernel) (by decide +kernel)
set_option maxRecDepth 20000 in
theorem zi_wsL_law_r40 : GoodIn lw_tbl wsL_law_r40 := goodIn_r wsL_law_r40 [784, 785, 786, 1250, 1251, 1252, 1253, 787, 788, 789, 790, 357, 791, 792, 793, 794, 180, 178, 804, 212, 216, 795, 796, 797] (by decide +kernel) (by decide +kernel)
set_option maxRecDepth 20000 in
theorem zi_wsL_law_r41 : GoodIn lw_tbl wsL_law_r41 := goodIn_r wsL_law_r41 [798, 124, 128, 799, 800, 801, 802, 158, 161, 803, 1254, 1255, 1256, 1257, 833, 1258, 1259, 1260, 805, 806, 807, 808, 1261, 1262] (by decide +kernel) (by decide +kernel)
set_option maxRecDepth 20000 in
theorem zi_wsL_law_r42 : GoodIn lw_tbl wsL_law_r42 := goodIn_r wsL_law_r42 [1263, 1264, 809, 810, 811, 812, 217, 215, 1265, 1266, 1267, 1268, 813, 814, 815, 816, 1269, 1270, 1271, 1272, 817, 818, 819, 820] (by decide +kernel) (by decide +kernel)
set_option maxRecDepth 20000 in
theorem zi_wsL_law_r43 : GoodIn lw_tbl wsL_law_r43 := goodIn_r wsL_law_r43 [1273, 1274, 1275, 1276, 821, 822, 823, 824, 1277, 1278, 1279, 1280] (by decide +kernel) (by decide +kernel)
set_option maxRecDepth 20000 in
theorem zi_wsX80 : GoodIn lw_tbl wsX80 := goodIn_p wsX80 [] (by decide +kernel) (by decide +kernel)
set_option maxRecDepth 20000 in
theorem zi_wsX90 : GoodIn lw_tbl wsX90 := goodIn_p wsX90 [] (by decide +kernel) (by decide +kernel)
set_option maxRecDepth 20000 in
theorem zi_wsX20 : GoodIn lw_tbl wsX20 := goodIn_p wsX20 [] (by decide +kernel) (by decide +kernel)
set_option maxRecDepth 20000 in
theorem zi_wsX50 : GoodIn lw_tbl wsX50 := goodIn_p wsX50 [] (by decide +kernel) (by decide +kernel)
set_option maxRecDepth 20000 in
theorem zi_wsX70 : GoodIn lw_tbl wsX70 := goodIn_p wsX70 [] (by decide +kernel) (by decide +kernel)
set_option maxRecDepth 20000 in
theorem zi_wsX40 : GoodIn lw_tbl wsX40 := goodIn_p wsX40 [] (by decide +kernel) (by decide +kernel)
set_option maxRecDepth 20000 in
theorem zi_wsX30 : GoodIn lw_tbl wsX30 := goodIn_p wsX30 [] (by decide +kernel) (by decide +kernel)
set_option maxRecDepth 20000 in
theorem zi_wsX00 : GoodIn lw_tbl wsX00 := goodIn_p wsX00 [] (by decide +kernel) (by decide +kernel)
set_option maxRecDepth 20000 in
theorem zi_wsX10 : GoodIn lw_tbl wsX10 := goodIn_p wsX10 [] (by decide +kernel) (by decide +kernel)
set_option maxRecDepth 20000 in
theorem zi_wsX60 : GoodIn lw_tbl wsX60 := goodIn_p wsX60 [] (by decide +kernel) (by decide +kernel)
theorem zi_NIL : GoodIn lw_tbl ([] : List Cond) := fun w h => absurd h List.not_mem_nil
theorem zi_law : GoodIn lw_tbl wsL_law := (goodIn_app (goodIn_app (goodIn_app (goodIn_app (goodIn_app (goodIn_app (goodIn_app (goodIn_app (goodIn_app (goodIn_app (goodIn_app (goodIn_app zi_wsL_law_r1 (goodIn_app zi_wsL_law_r2 (goodIn_app zi_wsL_law_r3 (goodIn_app zi_wsL_law_r4 (goodIn_app zi_wsL_law_r5 (goodIn_app zi_wsL_law_r6 (goodIn_app zi_wsL_law_r7 (goodIn_app zi_wsL_law_r8 (goodIn_app zi_wsL_law_r9 (goodIn_app zi_wsL_law_r10 (goodIn_app zi_wsL_law_r11 (goodIn_app zi_wsL_law_r12 (goodIn_app zi_wsL_law_r13 (goodIn_app zi_wsL_law_r14 (goodIn_app zi_wsL_law_r15 (goodIn_app zi_wsL_law_r16 (goodIn_app zi_wsL_law_r17 (goodIn_app zi_wsL_law_r18 (goodIn_app zi_wsL_law_r19 (goodIn_app zi_wsL_law_r20 (goodIn_app zi_wsL_law_r21 (goodIn_app zi_wsL_law_r22 (goodIn_app zi_wsL_law_r23 (goodIn_app zi_wsL_law_r24 (goodIn_app zi_wsL_law_r25 (goodIn_app zi_wsL_law_r26 (goodIn_app zi_wsL_law_r27 (goodIn_app zi_wsL_law_r28 (goodIn_app zi_wsL_law_r29 (goodIn_app zi_wsL_law_r30 (goodIn_app zi_wsL_law_r31 (goodIn_app zi_wsL_law_r32 (goodIn_app zi_wsL_law_r33 (goodIn_app zi_wsL_law_r34 (goodIn_app zi_wsL_law_r35 (goodIn_app zi_wsL_law_r36 (goodIn_app zi_wsL_law_r37 (goodIn_app zi_wsL_law_r38 (goodIn_app zi_wsL_law_r39 (goodIn_app zi_wsL_law_r40 (goodIn_app zi_wsL_law_r41 (goodIn_app zi_wsL_law_r42 zi_wsL_law_r43)))))))))))))))))))))))))))))))))))))))))) zi_wsX80) zi_wsX90) zi_wsX20) zi_wsX50) zi_wsX70) zi_wsX40) zi_wsX30) zi_wsX00) zi_wsX10) zi_wsX60) zi_NIL)
theorem wsL_law_in : ∀ w ∈ wsL_law, w ∈ lw_tbl := fun w h => (zi_law w h).1
