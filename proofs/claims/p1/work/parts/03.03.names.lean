theorem mem_r {big : List Cond} (ws : List Cond) (ps : List Nat) (hp : ws = ps.filterMap (fun i => big[i]?)) : ∀ w ∈ ws, w ∈ big := by
  intro w hw
  rw [hp] at hw
  obtain ⟨i, -, hi⟩ := List.mem_filterMap.mp hw
  exact List.mem_of_getElem? hi
theorem mem_app {big a b : List Cond} (ha : ∀ w ∈ a, w ∈ big) (hb : ∀ w ∈ b, w ∈ big) : ∀ w ∈ a ++ b, w ∈ big := fun w h => (List.mem_append.mp h).elim (ha w) (hb w)
set_option maxRecDepth 20000 in
theorem lwsL_law0_r1 : ∀ w ∈ wsL_law0_r1, w ∈ lw_tbl := mem_r _ [95, 96, 71, 1034, 1035, 80, 1207, 97, 98, 99, 100, 101, 102, 103, 105, 72, 283, 170, 171, 76, 284, 234, 285, 235] (by decide +kernel)
set_option maxRecDepth 20000 in
theorem lwsL_law0_r2 : ∀ w ∈ wsL_law0_r2, w ∈ lw_tbl := mem_r _ [236, 78, 286, 279, 287, 281, 136, 75, 288, 289, 290, 291, 292, 293, 294, 295, 296, 297, 298, 299, 300, 107, 108, 109] (by decide +kernel)
set_option maxRecDepth 20000 in
theorem lwsL_law0_r3 : ∀ w ∈ wsL_law0_r3, w ∈ lw_tbl := mem_r _ [110, 112, 73, 157, 135, 159, 161, 113, 114, 115, 116, 123, 127, 117, 118, 74, 119, 120, 122, 137, 138, 139, 140, 144] (by decide +kernel)
set_option maxRecDepth 20000 in
theorem lwsL_law0_r4 : ∀ w ∈ wsL_law0_r4, w ∈ lw_tbl := mem_r _ [146, 141, 156, 142, 143, 173, 174, 175, 176, 222, 178, 179, 77, 225, 177, 181, 182, 183, 184, 185, 186, 187, 188, 191] (by decide +kernel)
set_option maxRecDepth 20000 in
theorem lwsL_law0_r5 : ∀ w ∈ wsL_law0_r5, w ∈ lw_tbl := mem_r _ [193, 194, 196, 198, 238, 239, 240, 241, 242, 79, 257, 259, 261, 263, 264, 265, 244, 245, 246, 247, 249, 282, 1036, 1037] (by decide +kernel)
set_option maxRecDepth 20000 in
theorem lwsL_law0_r6 : ∀ w ∈ wsL_law0_r6, w ∈ lw_tbl := mem_r _ [1038, 1039, 1041, 1042, 1043, 1044, 1206, 1051, 1053, 1054, 1055, 1056, 1057, 1058, 1059, 1060, 1061, 1062, 1064, 1065, 1066, 1068, 1069, 1070] (by decide +kernel)
set_option maxRecDepth 20000 in
theorem lwsL_law0_r7 : ∀ w ∈ wsL_law0_r7, w ∈ lw_tbl := mem_r _ [1071, 634, 1072, 1080, 1081, 1082, 1083, 1084, 1085, 1086, 1090, 1091, 1092, 1093, 1094, 338, 339, 340, 341, 228, 189, 197, 200, 342] (by decide +kernel)
set_option maxRecDepth 20000 in
theorem lwsL_law0_r8 : ∀ w ∈ wsL_law0_r8, w ∈ lw_tbl := mem_r _ [343, 344, 1208, 1209, 1210, 1211, 1040, 1212, 1213, 1214, 1215, 1217, 38, 1218, 345, 346, 347, 348, 360, 81, 366, 349, 351, 0] (by decide +kernel)
set_option maxRecDepth 20000 in
theorem lwsL_law0_r9 : ∀ w ∈ wsL_law0_r9, w ∈ lw_tbl := mem_r _ [352, 158, 353, 354, 355, 356, 357, 358, 359, 361, 362, 363, 364, 379, 380, 381, 383, 385, 386, 387, 365, 367, 369, 373] (by decide +kernel)
set_option maxRecDepth 20000 in
theorem lwsL_law0_r10 : ∀ w ∈ wsL_law0_r10, w ∈ lw_tbl := mem_r _ [377, 414, 415, 416, 417, 371, 418, 419, 420, 421, 1219, 1220, 1221, 1222, 1052, 1223, 1224, 1225, 1226, 1227, 1228, 1229, 1231, 39] (by decide +kernel)
set_option maxRecDepth 20000 in
theorem lwsL_law0_r11 : ∀ w ∈ wsL_law0_r11, w ∈ lw_tbl := mem_r _ [1232, 1233, 1235, 40, 1236, 422, 423, 424, 425, 160, 145, 426, 428, 1, 429, 430, 431, 432, 433, 1237, 1238, 1239, 1240, 1046] (by decide +kernel)
set_option maxRecDepth 20000 in
theorem lwsL_law0_r12 : ∀ w ∈ wsL_law0_r12, w ∈ lw_tbl := mem_r _ [1063, 434, 435, 436, 437, 1241, 1242, 1243, 1244, 1045, 438, 439, 440, 441, 162, 1245, 1246, 1247, 1248, 442, 443, 444, 445, 446] (by decide +kernel)
set_option maxRecDepth 20000 in
theorem lwsL_law0_r13 : ∀ w ∈ wsL_law0_r13, w ∈ lw_tbl := mem_r _ [448, 2, 449, 388, 368, 450, 452, 3, 453, 454, 456, 4, 457, 192, 458, 459, 460, 461, 462, 463, 464, 465, 466, 467] (by decide +kernel)
set_option maxRecDepth 20000 in
theorem lwsL_law0_r14 : ∀ w ∈ wsL_law0_r14, w ∈ lw_tbl := mem_r _ [469, 5, 470, 471, 472, 473, 474, 511, 506, 475, 476, 477, 82, 478, 508, 505, 1264, 1265, 1266, 1267, 1268, 1270, 43, 1271] (by decide +kernel)
set_option maxRecDepth 20000 in
theorem lwsL_law0_r15 : ∀ w ∈ wsL_law0_r15, w ∈ lw_tbl := mem_r _ [1047, 1049, 1048, 1272, 1274, 44, 1275, 1067, 1253, 1255, 41, 1256, 1257, 1259, 42, 1260, 1261, 1262, 1263, 1276, 1278, 45, 1279, 1280] (by decide +kernel)
set_option maxRecDepth 20000 in
theorem lwsL_law0_r16 : ∀ w ∈ wsL_law0_r16, w ∈ lw_tbl := mem_r _ [1282, 46, 1283, 479, 480, 481, 482, 258, 250, 483, 484, 485, 486, 1284, 1285, 1286, 1287, 1073, 487, 488, 489, 490, 1288, 1289] (by decide +kernel)
set_option maxRecDepth 20000 in
theorem lwsL_law0_r17 : ∀ w ∈ wsL_law0_r17, w ∈ lw_tbl := mem_r _ [1290, 1291, 491, 492, 493, 494, 260, 495, 496, 497, 498, 499, 500, 502, 503, 504, 510, 520, 522, 6, 523, 251, 524, 526] (by decide +kernel)
set_option maxRecDepth 20000 in
theorem lwsL_law0_r18 : ∀ w ∈ wsL_law0_r18, w ∈ lw_tbl := mem_r _ [7, 527, 248, 528, 529, 530, 531, 532, 533, 534, 536, 8, 537, 538, 539, 540, 541, 543, 9, 544, 545, 547, 10, 548] (by decide +kernel)
set_option maxRecDepth 20000 in
theorem lwsL_law0_r19 : ∀ w ∈ wsL_law0_r19, w ∈ lw_tbl := mem_r _ [550, 552, 11, 553, 554, 555, 556, 83, 557, 1482, 558, 559, 560, 561, 562, 1483, 564, 565, 566, 567, 568, 569, 570, 571] (by decide +kernel)
set_option maxRecDepth 20000 in
theorem lwsL_law0_r20 : ∀ w ∈ wsL_law0_r20, w ∈ lw_tbl := mem_r _ [572, 573, 84, 574, 575, 576, 577, 578, 580, 581, 85, 582, 583, 584, 86, 585, 586, 587, 588, 589, 590, 591, 592, 593] (by decide +kernel)
set_option maxRecDepth 20000 in
theorem lwsL_law0_r21 : ∀ w ∈ wsL_law0_r21, w ∈ lw_tbl := mem_r _ [594, 595, 596, 598, 600, 603, 605, 12, 606, 607, 609, 13, 610, 512, 611, 613, 14, 614, 615, 617, 15, 618, 507, 509] (by decide +kernel)
set_option maxRecDepth 20000 in
theorem lwsL_law0_r22 : ∀ w ∈ wsL_law0_r22, w ∈ lw_tbl := mem_r _ [619, 621, 16, 622, 627, 629, 17, 630, 1292, 1293, 1294, 1295, 1078, 1074, 1076, 1079, 1296, 1298, 47, 1299, 1075, 1077, 1300, 1301] (by decide +kernel)
set_option maxRecDepth 20000 in
theorem lwsL_law0_r23 : ∀ w ∈ wsL_law0_r23, w ∈ lw_tbl := mem_r _ [1302, 1303, 1305, 48, 1306, 1307, 1308, 1309, 1310, 1312, 49, 1313, 1315, 1317, 50, 1318, 1319, 1320, 1322, 1324, 51, 1325, 1326, 1328] (by decide +kernel)
set_option maxRecDepth 20000 in
theorem lwsL_law0_r24 : ∀ w ∈ wsL_law0_r24, w ∈ lw_tbl := mem_r _ [52, 1329, 1330, 1332, 53, 1333, 1334, 1336, 54, 1337, 1342, 1344, 55, 1345, 635, 636, 637, 638, 262, 1349, 1350, 1351, 1352, 639] (by decide +kernel)
set_option maxRecDepth 20000 in
theorem lwsL_law0_r25 : ∀ w ∈ wsL_law0_r25, w ∈ lw_tbl := mem_r _ [640, 641, 642, 643, 644, 645, 646, 647, 648, 649, 651, 652, 653, 654, 370, 378, 655, 656, 657, 658, 659, 660, 661, 662] (by decide +kernel)
set_option maxRecDepth 20000 in
theorem lwsL_law0_r26 : ∀ w ∈ wsL_law0_r26, w ∈ lw_tbl := mem_r _ [663, 664, 665, 666, 374, 669, 670, 671, 672, 673, 674, 675, 676, 677, 678, 679, 680, 681, 682, 683, 684, 685, 686, 688] (by decide +kernel)
set_option maxRecDepth 20000 in
theorem lwsL_law0_r27 : ∀ w ∈ wsL_law0_r27, w ∈ lw_tbl := mem_r _ [18, 689, 195, 1353, 1354, 1355, 1356, 1357, 1359, 56, 1360, 1361, 1363, 57, 1364, 1365, 1367, 58, 1368, 1369, 1371, 59, 1372, 1373] (by decide +kernel)
set_option maxRecDepth 20000 in
theorem lwsL_law0_r28 : ∀ w ∈ wsL_law0_r28, w ∈ lw_tbl := mem_r _ [1374, 1375, 1376, 1378, 60, 1379, 690, 691, 692, 693, 372, 376, 700, 701, 694, 695, 696, 697, 125, 699, 702, 703, 704, 705] (by decide +kernel)
set_option maxRecDepth 20000 in
theorem lwsL_law0_r29 : ∀ w ∈ wsL_law0_r29, w ∈ lw_tbl := mem_r _ [706, 707, 708, 709, 710, 1380, 1381, 1382, 1383, 711, 712, 713, 714, 715, 716, 717, 718, 1384, 1385, 1386, 1387, 1050, 1388, 1390] (by decide +kernel)
set_option maxRecDepth 20000 in
theorem lwsL_law0_r30 : ∀ w ∈ wsL_law0_r30, w ∈ lw_tbl := mem_r _ [61, 1391, 719, 720, 721, 722, 730, 731, 87, 723, 725, 19, 726, 126, 727, 728, 729, 733, 734, 735, 739, 741, 743, 736] (by decide +kernel)
set_option maxRecDepth 20000 in
theorem lwsL_law0_r31 : ∀ w ∈ wsL_law0_r31, w ∈ lw_tbl := mem_r _ [745, 738, 746, 747, 748, 749, 750, 751, 773, 774, 775, 776, 227, 777, 778, 779, 780, 781, 783, 782, 88, 784, 785, 89] (by decide +kernel)
set_option maxRecDepth 20000 in
theorem lwsL_law0_r32 : ∀ w ∈ wsL_law0_r32, w ∈ lw_tbl := mem_r _ [786, 787, 788, 789, 790, 791, 792, 793, 794, 807, 825, 795, 797, 20, 798, 799, 801, 21, 802, 803, 805, 22, 806, 808] (by decide +kernel)
set_option maxRecDepth 20000 in
theorem lwsL_law0_r33 : ∀ w ∈ wsL_law0_r33, w ∈ lw_tbl := mem_r _ [810, 23, 811, 824, 812, 814, 24, 815, 816, 817, 818, 819, 821, 25, 822, 823, 826, 828, 26, 829, 830, 832, 27, 833] (by decide +kernel)
set_option maxRecDepth 20000 in
theorem lwsL_law0_r34 : ∀ w ∈ wsL_law0_r34, w ∈ lw_tbl := mem_r _ [1392, 1393, 1394, 1395, 1087, 1089, 1088, 1396, 1398, 62, 1399, 1400, 834, 835, 836, 837, 740, 742, 744, 1401, 1402, 1403, 1404, 838] (by decide +kernel)
set_option maxRecDepth 20000 in
theorem lwsL_law0_r35 : ∀ w ∈ wsL_law0_r35, w ∈ lw_tbl := mem_r _ [839, 840, 841, 853, 842, 844, 28, 845, 846, 847, 90, 849, 850, 851, 852, 854, 856, 858, 859, 860, 861, 877, 878, 879] (by decide +kernel)
set_option maxRecDepth 20000 in
theorem lwsL_law0_r36 : ∀ w ∈ wsL_law0_r36, w ∈ lw_tbl := mem_r _ [880, 226, 199, 223, 124, 905, 190, 881, 883, 29, 884, 375, 885, 887, 889, 30, 890, 891, 893, 31, 894, 895, 897, 899] (by decide +kernel)
set_option maxRecDepth 20000 in
theorem lwsL_law0_r37 : ∀ w ∈ wsL_law0_r37, w ∈ lw_tbl := mem_r _ [32, 900, 912, 901, 903, 33, 904, 906, 908, 34, 909, 910, 911, 913, 915, 35, 916, 1405, 1406, 1407, 1408, 1409, 1411, 63] (by decide +kernel)
set_option maxRecDepth 20000 in
theorem lwsL_law0_r38 : ∀ w ∈ wsL_law0_r38, w ∈ lw_tbl := mem_r _ [1412, 1413, 1415, 64, 1416, 1417, 1418, 1419, 1420, 1422, 65, 1423, 1424, 1426, 66, 1427, 1428, 1430, 67, 1431, 917, 918, 919, 920] (by decide +kernel)
set_option maxRecDepth 20000 in
theorem lwsL_law0_r39 : ∀ w ∈ wsL_law0_r39, w ∈ lw_tbl := mem_r _ [855, 857, 1432, 1433, 1434, 1435, 949, 950, 70, 951, 952, 953, 954, 955, 956, 957, 94, 1249, 1250, 1251, 1252, 1030, 1031, 1032] (by decide +kernel)
set_option maxRecDepth 20000 in
theorem lwsL_law0_r40 : ∀ w ∈ wsL_law0_r40, w ∈ lw_tbl := mem_r _ [1033, 1022, 1023, 1024, 1025, 1026, 1027, 1028, 1436, 1437, 1438, 1439, 921, 922, 923, 924, 224, 925, 926, 927, 1440, 1441, 1442, 1443] (by decide +kernel)
set_option maxRecDepth 20000 in
theorem lwsL_law0_r41 : ∀ w ∈ wsL_law0_r41, w ∈ lw_tbl := mem_r _ [928, 929, 930, 931, 1444, 1445, 1446, 1447, 932, 933, 934, 935, 936, 937, 938, 939, 1448, 1449, 1450, 1451, 1452, 1454, 68, 1455] (by decide +kernel)
set_option maxRecDepth 20000 in
theorem lwsL_law0_r42 : ∀ w ∈ wsL_law0_r42, w ∈ lw_tbl := mem_r _ [940, 941, 942, 943, 948, 944, 946, 36, 947, 382, 384, 1456, 1457, 1458, 1459, 1464, 1460, 1462, 69, 1463] (by decide +kernel)
set_option maxRecDepth 20000 in
theorem lwsX110 : ∀ w ∈ wsX110, w ∈ lw_tbl := mem_r _ [301, 303, 305, 307, 309, 311, 313, 315, 317, 319, 321, 323, 325, 327, 329, 331, 333, 335] (by decide +kernel)
set_option maxRecDepth 20000 in
theorem lwsX120 : ∀ w ∈ wsX120, w ∈ lw_tbl := mem_r _ [1095, 1097, 1099, 1101, 1103, 1105, 1107, 1109, 1111, 1113, 1115, 1117, 1119, 1121, 1123, 1125, 1127, 1129, 1131, 1133, 1135, 1137, 1139, 1141, 1143, 1145, 1147, 1149, 1151, 1153, 1155, 1157, 1159, 1161, 1163, 1165, 1167, 1169, 1171, 1173, 1175, 1177, 1179, 1181, 1183, 1185, 1187, 1189, 1191, 1193, 1195, 1197, 1199, 1201, 1203] (by decide +kernel)
set_option maxRecDepth 20000 in
theorem lwsX70 : ∀ w ∈ wsX70, w ∈ lw_tbl := mem_r _ [163, 165, 167] (by decide +kernel)
set_option maxRecDepth 20000 in
theorem lwsX20 : ∀ w ∈ wsX20, w ∈ lw_tbl := mem_r _ [229, 231] (by decide +kernel)
set_option maxRecDepth 20000 in
theorem lwsX10 : ∀ w ∈ wsX10, w ∈ lw_tbl := mem_r _ [266, 268, 270, 272, 274, 276] (by decide +kernel)
set_option maxRecDepth 20000 in
theorem lwsX60 : ∀ w ∈ wsX60, w ∈ lw_tbl := mem_r _ [147, 149, 151, 153] (by decide +kernel)
set_option maxRecDepth 20000 in
theorem lwsX50 : ∀ w ∈ wsX50, w ∈ lw_tbl := mem_r _ [128, 130, 132] (by decide +kernel)
set_option maxRecDepth 20000 in
theorem lwsX80 : ∀ w ∈ wsX80, w ∈ lw_tbl := mem_r _ [201, 203, 205, 207, 209, 211, 213, 215, 217, 219] (by decide +kernel)
set_option maxRecDepth 20000 in
theorem lwsX90 : ∀ w ∈ wsX90, w ∈ lw_tbl := mem_r _ [252, 254] (by decide +kernel)
set_option maxRecDepth 20000 in
theorem lwsX100 : ∀ w ∈ wsX100, w ∈ lw_tbl := mem_r _ [389, 391, 393, 395, 397, 399, 401, 403, 405, 407, 409, 411] (by decide +kernel)
set_option maxRecDepth 20000 in
theorem lwsX00 : ∀ w ∈ wsX00, w ∈ lw_tbl := mem_r _ [513, 515, 517] (by decide +kernel)
set_option maxRecDepth 20000 in
theorem lwsX40 : ∀ w ∈ wsX40, w ∈ lw_tbl := mem_r _ [752, 754, 756, 758, 760, 762, 764, 766, 768, 770] (by decide +kernel)
set_option maxRecDepth 20000 in
theorem lwsX30 : ∀ w ∈ wsX30, w ∈ lw_tbl := mem_r _ [862, 864, 866, 868, 870, 872, 874] (by decide +kernel)
theorem wsL_law_in0 : ∀ w ∈ wsL_law0, w ∈ lw_tbl := by
  unfold wsL_law0
  repeat' apply mem_app
  · exact lwsL_law0_r1
  · exact lwsL_law0_r2
  · exact lwsL_law0_r3
  · exact lwsL_law0_r4
  · exact lwsL_law0_r5
  · exact lwsL_law0_r6
  · exact lwsL_law0_r7
  · exact lwsL_law0_r8
  · exact lwsL_law0_r9
  · exact lwsL_law0_r10
  · exact lwsL_law0_r11
  · exact lwsL_law0_r12
  · exact lwsL_law0_r13
  · exact lwsL_law0_r14
  · exact lwsL_law0_r15
  · exact lwsL_law0_r16
  · exact lwsL_law0_r17
  · exact lwsL_law0_r18
  · exact lwsL_law0_r19
  · exact lwsL_law0_r20
  · exact lwsL_law0_r21
  · exact lwsL_law0_r22
  · exact lwsL_law0_r23
  · exact lwsL_law0_r24
  · exact lwsL_law0_r25
  · exact lwsL_law0_r26
  · exact lwsL_law0_r27
  · exact lwsL_law0_r28
  · exact lwsL_law0_r29
  · exact lwsL_law0_r30
  · exact lwsL_law0_r31
  · exact lwsL_law0_r32
  · exact lwsL_law0_r33
  · exact lwsL_law0_r34
  · exact lwsL_law0_r35
  · exact lwsL_law0_r36
  · exact lwsL_law0_r37
  · exact lwsL_law0_r38
  · exact lwsL_law0_r39
  · exact lwsL_law0_r40
  · exact lwsL_law0_r41
  · exact lwsL_law0_r42
  · exact lwsX110
  · exact lwsX120
  · exact lwsX70
  · exact lwsX20
  · exact lwsX10
  · exact lwsX60
  · exact lwsX50
  · exact lwsX80
  · exact lwsX90
  · exact lwsX100
  · exact lwsX00
  · exact lwsX40
  · exact lwsX30
  · exact fun w h => absurd h List.not_mem_nil

