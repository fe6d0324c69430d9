theorem in_r {big : List Cond} (ws : List Cond) (ps : List Nat) (hp : ws = ps.filterMap (fun i => big[i]?)) : ∀ w ∈ ws, w ∈ big := by
  intro w hw
  rw [hp] at hw
  obtain ⟨i, -, hi⟩ := List.mem_filterMap.mp hw
  exact List.mem_of_getElem? hi
set_option maxRecDepth 20000 in
theorem zin_wsL_law_r1 : ∀ w ∈ wsL_law_r1, w ∈ lw_tbl := in_r _ [107, 108, 87, 997, 998, 98, 1420, 109, 110, 111, 112, 113, 114, 115, 116, 88, 321, 322, 323, 192, 193, 89, 324, 222] (by decide +kernel)
set_option maxRecDepth 20000 in
theorem zin_wsL_law_r2 : ∀ w ∈ wsL_law_r2, w ∈ lw_tbl := in_r _ [223, 90, 325, 299, 300, 97, 326, 117, 118, 119, 120, 190, 146, 147, 148, 149, 151, 153, 155, 121, 123, 124, 195, 196] (by decide +kernel)
set_option maxRecDepth 20000 in
theorem zin_wsL_law_r3 : ∀ w ∈ wsL_law_r3, w ∈ lw_tbl := in_r _ [197, 221, 198, 224, 225, 226, 227, 228, 229, 91, 272, 273, 274, 275, 276, 277, 271, 236, 237, 92, 243, 244, 93, 250] (by decide +kernel)
set_option maxRecDepth 20000 in
theorem zin_wsL_law_r4 : ∀ w ∈ wsL_law_r4, w ∈ lw_tbl := in_r _ [251, 94, 257, 258, 95, 264, 265, 96, 231, 232, 233, 239, 240, 246, 247, 253, 254, 260, 261, 267, 268, 301, 302, 303] (by decide +kernel)
set_option maxRecDepth 20000 in
theorem zin_wsL_law_r5 : ∀ w ∈ wsL_law_r5, w ∈ lw_tbl := in_r _ [304, 307, 308, 309, 305, 306, 999, 1000, 1001, 1002, 1006, 1007, 1064, 1008, 1009, 1012, 1013, 1014, 1016, 1017, 1023, 1003, 1004, 1005] (by decide +kernel)
set_option maxRecDepth 20000 in
theorem zin_wsL_law_r6 : ∀ w ∈ wsL_law_r6, w ∈ lw_tbl := in_r _ [349, 350, 351, 352, 353, 354, 355, 356, 358, 0, 359, 327, 360, 361, 362, 363, 127, 131, 133, 135, 139, 143, 364, 365] (by decide +kernel)
set_option maxRecDepth 20000 in
theorem zin_wsL_law_r7 : ∀ w ∈ wsL_law_r7, w ∈ lw_tbl := in_r _ [366, 367, 1065, 1066, 1067, 1068, 1069, 1070, 1071, 1072, 1073, 1074, 1076, 37, 1077, 368, 369, 370, 371, 372, 373, 374, 375, 376] (by decide +kernel)
set_option maxRecDepth 20000 in
theorem zin_wsL_law_r8 : ∀ w ∈ wsL_law_r8, w ∈ lw_tbl := in_r _ [377, 378, 379, 380, 382, 383, 384, 386, 1, 387, 328, 388, 389, 390, 391, 392, 393, 394, 395, 1078, 1079, 1080, 1081, 1082] (by decide +kernel)
set_option maxRecDepth 20000 in
theorem zin_wsL_law_r9 : ∀ w ∈ wsL_law_r9, w ∈ lw_tbl := in_r _ [1084, 38, 1085, 1086, 1088, 39, 1089, 1090, 1091, 1092, 1093, 1095, 40, 1096, 396, 397, 398, 399, 125, 128, 1097, 1098, 1099, 1100] (by decide +kernel)
set_option maxRecDepth 20000 in
theorem zin_wsL_law_r10 : ∀ w ∈ wsL_law_r10, w ∈ lw_tbl := in_r _ [1101, 1102, 400, 401, 402, 403, 404, 405, 406, 407, 408, 409, 410, 411, 412, 413, 414, 416, 2, 417, 329, 1103, 1104, 1105] (by decide +kernel)
set_option maxRecDepth 20000 in
theorem zin_wsL_law_r11 : ∀ w ∈ wsL_law_r11, w ∈ lw_tbl := in_r _ [1106, 1107, 1108, 1109, 1111, 41, 1112, 1113, 1115, 42, 1116, 1117, 1119, 43, 1120, 1121, 1122, 1123, 418, 419, 420, 421, 422, 423] (by decide +kernel)
set_option maxRecDepth 20000 in
theorem zin_wsL_law_r12 : ∀ w ∈ wsL_law_r12, w ∈ lw_tbl := in_r _ [424, 425, 426, 427, 428, 429, 430, 431, 432, 433, 434, 1124, 1125, 1126, 1127, 1128, 1130, 44, 1131, 1132, 1134, 45, 1135, 1136] (by decide +kernel)
set_option maxRecDepth 20000 in
theorem zin_wsL_law_r13 : ∀ w ∈ wsL_law_r13, w ∈ lw_tbl := in_r _ [1138, 46, 1139, 435, 436, 437, 438, 439, 441, 3, 442, 443, 444, 445, 446, 1140, 1141, 1142, 1143, 447, 448, 449, 450, 451] (by decide +kernel)
set_option maxRecDepth 20000 in
theorem zin_wsL_law_r14 : ∀ w ∈ wsL_law_r14, w ∈ lw_tbl := in_r _ [452, 453, 454, 1144, 1145, 1146, 1147, 1148, 455, 456, 457, 458, 140, 144, 1149, 1150, 1151, 1152, 459, 460, 461, 462, 200, 463] (by decide +kernel)
set_option maxRecDepth 20000 in
theorem zin_wsL_law_r15 : ∀ w ∈ wsL_law_r15, w ∈ lw_tbl := in_r _ [464, 465, 466, 199, 1310, 1311, 1312, 1313, 1314, 1018, 1315, 467, 468, 469, 470, 1316, 1317, 1318, 1319, 471, 472, 473, 474, 138] (by decide +kernel)
set_option maxRecDepth 20000 in
theorem zin_wsL_law_r16 : ∀ w ∈ wsL_law_r16, w ∈ lw_tbl := in_r _ [475, 476, 477, 478, 201, 205, 202, 203, 479, 481, 4, 482, 204, 483, 485, 5, 486, 487, 488, 489, 490, 492, 6, 493] (by decide +kernel)
set_option maxRecDepth 20000 in
theorem zin_wsL_law_r17 : ∀ w ∈ wsL_law_r17, w ∈ lw_tbl := in_r _ [494, 495, 496, 497, 499, 7, 500, 501, 503, 8, 504, 505, 506, 507, 516, 518, 9, 519, 520, 521, 522, 99, 523, 1426] (by decide +kernel)
set_option maxRecDepth 20000 in
theorem zin_wsL_law_r18 : ∀ w ∈ wsL_law_r18, w ∈ lw_tbl := in_r _ [524, 525, 526, 527, 528, 1427, 530, 531, 532, 533, 534, 535, 536, 537, 538, 539, 100, 540, 541, 542, 543, 544, 546, 547] (by decide +kernel)
set_option maxRecDepth 20000 in
theorem zin_wsL_law_r19 : ∀ w ∈ wsL_law_r19, w ∈ lw_tbl := in_r _ [101, 548, 549, 550, 102, 551, 552, 553, 554, 555, 556, 557, 558, 559, 560, 561, 562, 564, 566, 568, 570, 10, 571, 572] (by decide +kernel)
set_option maxRecDepth 20000 in
theorem zin_wsL_law_r20 : ∀ w ∈ wsL_law_r20, w ∈ lw_tbl := in_r _ [574, 11, 575, 576, 578, 12, 579, 580, 582, 13, 583, 584, 585, 587, 14, 588, 589, 591, 15, 592, 593, 594, 595, 596] (by decide +kernel)
set_option maxRecDepth 20000 in
theorem zin_wsL_law_r21 : ∀ w ∈ wsL_law_r21, w ∈ lw_tbl := in_r _ [598, 16, 599, 600, 601, 603, 17, 604, 126, 605, 607, 18, 608, 129, 609, 611, 19, 612, 137, 613, 614, 616, 20, 617] (by decide +kernel)
set_option maxRecDepth 20000 in
theorem zin_wsL_law_r22 : ∀ w ∈ wsL_law_r22, w ∈ lw_tbl := in_r _ [141, 618, 619, 620, 621, 622, 623, 625, 624, 103, 1320, 1321, 1322, 1323, 1024, 1019, 1021, 1324, 1326, 70, 1327, 1020, 1022, 1328] (by decide +kernel)
set_option maxRecDepth 20000 in
theorem zin_wsL_law_r23 : ∀ w ∈ wsL_law_r23, w ∈ lw_tbl := in_r _ [1329, 1330, 1331, 1332, 1333, 1334, 1335, 1336, 1337, 1338, 1340, 71, 1341, 1342, 1344, 72, 1345, 1346, 1348, 73, 1349, 1350, 1352, 74] (by decide +kernel)
set_option maxRecDepth 20000 in
theorem zin_wsL_law_r24 : ∀ w ∈ wsL_law_r24, w ∈ lw_tbl := in_r _ [1353, 1354, 1356, 75, 1357, 1358, 1360, 76, 1361, 1362, 1364, 77, 1365, 1366, 1368, 78, 1369, 1370, 1372, 79, 1373, 1374, 1376, 80] (by decide +kernel)
set_option maxRecDepth 20000 in
theorem zin_wsL_law_r25 : ∀ w ∈ wsL_law_r25, w ∈ lw_tbl := in_r _ [1377, 1378, 1380, 81, 1381, 1382, 1384, 82, 1385, 626, 627, 628, 629, 630, 631, 632, 633, 638, 639, 104, 640, 645, 646, 647] (by decide +kernel)
set_option maxRecDepth 20000 in
theorem zin_wsL_law_r26 : ∀ w ∈ wsL_law_r26, w ∈ lw_tbl := in_r _ [634, 635, 636, 637, 641, 642, 643, 644, 648, 650, 21, 651, 652, 653, 654, 1153, 1154, 1155, 1156, 1157, 1159, 47, 1160, 1161] (by decide +kernel)
set_option maxRecDepth 20000 in
theorem zin_wsL_law_r27 : ∀ w ∈ wsL_law_r27, w ∈ lw_tbl := in_r _ [1163, 48, 1164, 1180, 1010, 1181, 1011, 1165, 1167, 49, 1168, 1169, 1171, 50, 1172, 1173, 1175, 51, 1176, 1177, 1178, 1179, 1182, 1184] (by decide +kernel)
set_option maxRecDepth 20000 in
theorem zin_wsL_law_r28 : ∀ w ∈ wsL_law_r28, w ∈ lw_tbl := in_r _ [52, 1185, 655, 656, 657, 658, 659, 660, 661, 662, 279, 278, 136, 663, 664, 665, 666, 667, 668, 669, 670, 671, 673, 22] (by decide +kernel)
set_option maxRecDepth 20000 in
theorem zin_wsL_law_r29 : ∀ w ∈ wsL_law_r29, w ∈ lw_tbl := in_r _ [674, 675, 676, 677, 678, 679, 682, 680, 683, 684, 685, 690, 686, 680, 687, 688, 679, 681, 689, 691, 693, 23, 694, 695] (by decide +kernel)
set_option maxRecDepth 20000 in
theorem zin_wsL_law_r30 : ∀ w ∈ wsL_law_r30, w ∈ lw_tbl := in_r _ [696, 697, 698, 699, 702, 700, 703, 704, 705, 712, 706, 707, 708, 709, 700, 713, 716, 714, 717, 718, 719, 726, 720, 714] (by decide +kernel)
set_option maxRecDepth 20000 in
theorem zin_wsL_law_r31 : ∀ w ∈ wsL_law_r31, w ∈ lw_tbl := in_r _ [721, 722, 713, 715, 723, 724, 725, 710, 699, 701, 711, 727, 728, 729, 730, 731, 732, 733, 734, 735, 736, 737, 738, 739] (by decide +kernel)
set_option maxRecDepth 20000 in
theorem zin_wsL_law_r32 : ∀ w ∈ wsL_law_r32, w ∈ lw_tbl := in_r _ [740, 105, 741, 742, 745, 743, 746, 747, 748, 769, 749, 743, 770, 759, 757, 760, 761, 762, 767, 763, 757, 764, 765, 770] (by decide +kernel)
set_option maxRecDepth 20000 in
theorem zin_wsL_law_r33 : ∀ w ∈ wsL_law_r33, w ∈ lw_tbl := in_r _ [758, 766, 750, 751, 752, 753, 754, 755, 756, 756, 742, 744, 768, 771, 772, 773, 774, 775, 776, 777, 778, 779, 780, 781] (by decide +kernel)
set_option maxRecDepth 20000 in
theorem zin_wsL_law_r34 : ∀ w ∈ wsL_law_r34, w ∈ lw_tbl := in_r _ [1186, 1187, 1188, 1189, 1190, 1192, 53, 1193, 1194, 1196, 54, 1197, 1198, 1200, 55, 1201, 1202, 1204, 56, 1205, 1206, 1208, 57, 1209] (by decide +kernel)
set_option maxRecDepth 20000 in
theorem zin_wsL_law_r35 : ∀ w ∈ wsL_law_r35, w ∈ lw_tbl := in_r _ [782, 783, 784, 785, 1210, 1211, 1212, 1213, 786, 787, 788, 789, 790, 791, 792, 793, 794, 796, 24, 797, 798, 799, 1214, 1215] (by decide +kernel)
set_option maxRecDepth 20000 in
theorem zin_wsL_law_r36 : ∀ w ∈ wsL_law_r36, w ∈ lw_tbl := in_r _ [1216, 1217, 1218, 1220, 58, 1221, 1222, 1224, 59, 1225, 800, 801, 802, 803, 804, 806, 25, 807, 808, 809, 810, 811, 812, 813] (by decide +kernel)
set_option maxRecDepth 20000 in
theorem zin_wsL_law_r37 : ∀ w ∈ wsL_law_r37, w ∈ lw_tbl := in_r _ [814, 815, 1226, 1227, 1228, 1229, 1230, 1232, 60, 1233, 1234, 1236, 61, 1237, 817, 818, 819, 820, 821, 822, 823, 824, 142, 150] (by decide +kernel)
set_option maxRecDepth 20000 in
theorem zin_wsL_law_r38 : ∀ w ∈ wsL_law_r38, w ∈ lw_tbl := in_r _ [152, 1238, 1239, 1240, 1241, 1242, 1244, 62, 1245, 825, 826, 827, 828, 829, 830, 831, 832, 833, 834, 835, 836, 837, 839, 26] (by decide +kernel)
set_option maxRecDepth 20000 in
theorem zin_wsL_law_r39 : ∀ w ∈ wsL_law_r39, w ∈ lw_tbl := in_r _ [840, 841, 843, 27, 844, 845, 846, 848, 28, 849, 145, 154, 156, 850, 851, 852, 853, 854, 1246, 1247, 1248, 1249, 855, 856] (by decide +kernel)
set_option maxRecDepth 20000 in
theorem zin_wsL_law_r40 : ∀ w ∈ wsL_law_r40, w ∈ lw_tbl := in_r _ [857, 858, 859, 860, 861, 862, 130, 1250, 1251, 1252, 1253, 863, 864, 865, 866, 867, 868, 869, 870, 871, 873, 29, 874, 876] (by decide +kernel)
set_option maxRecDepth 20000 in
theorem zin_wsL_law_r41 : ∀ w ∈ wsL_law_r41, w ∈ lw_tbl := in_r _ [878, 30, 879, 122, 880, 881, 882, 884, 31, 885, 886, 888, 32, 889, 890, 892, 33, 893, 1254, 1255, 1256, 1257, 1258, 1260] (by decide +kernel)
set_option maxRecDepth 20000 in
theorem zin_wsL_law_r42 : ∀ w ∈ wsL_law_r42, w ∈ lw_tbl := in_r _ [63, 1261, 1262, 1264, 64, 1265, 1015, 1266, 1268, 65, 1269, 894, 895, 896, 897, 898, 899, 900, 901, 902, 903, 904, 906, 34] (by decide +kernel)
set_option maxRecDepth 20000 in
theorem zin_wsL_law_r43 : ∀ w ∈ wsL_law_r43, w ∈ lw_tbl := in_r _ [907, 908, 909, 910, 911, 1270, 1271, 1272, 1273, 1274, 1276, 66, 1277, 912, 913, 914, 915, 916, 917, 918, 919, 920, 921, 923] (by decide +kernel)
set_option maxRecDepth 20000 in
theorem zin_wsL_law_r44 : ∀ w ∈ wsL_law_r44, w ∈ lw_tbl := in_r _ [35, 924, 1278, 1279, 1280, 1281, 1282, 1284, 67, 1285, 925, 926, 927, 928, 929, 930, 931, 932, 1286, 1287, 1288, 1289, 1290, 1292] (by decide +kernel)
set_option maxRecDepth 20000 in
theorem zin_wsL_law_r45 : ∀ w ∈ wsL_law_r45, w ∈ lw_tbl := in_r _ [68, 1293, 933, 934, 935, 936, 937, 938, 939, 940, 941, 942, 943, 1294, 1295, 1296, 1297, 944, 945, 946, 947, 948, 949, 950] (by decide +kernel)
set_option maxRecDepth 20000 in
theorem zin_wsL_law_r46 : ∀ w ∈ wsL_law_r46, w ∈ lw_tbl := in_r _ [951, 952, 953, 954, 955, 1298, 1299, 1300, 1301, 956, 957, 958, 959, 960, 961, 106, 962, 963, 964, 965, 1302, 1303, 1304, 1305] (by decide +kernel)
set_option maxRecDepth 20000 in
theorem zin_wsL_law_r47 : ∀ w ∈ wsL_law_r47, w ∈ lw_tbl := in_r _ [1306, 1308, 69, 1309, 966, 967, 968, 969, 1386, 1387, 1388, 1389, 970, 971, 972, 973, 1390, 1391, 1392, 1393, 974, 975, 976, 977] (by decide +kernel)
set_option maxRecDepth 20000 in
theorem zin_wsL_law_r48 : ∀ w ∈ wsL_law_r48, w ∈ lw_tbl := in_r _ [1394, 1395, 1396, 1397, 978, 979, 980, 981, 982, 984, 36, 985, 132, 134, 1398, 1399, 1400, 1401, 1402, 1404, 83, 1405, 1406, 1408] (by decide +kernel)
set_option maxRecDepth 20000 in
theorem zin_wsL_law_r49 : ∀ w ∈ wsL_law_r49, w ∈ lw_tbl := in_r _ [84, 1409, 986, 987, 988, 989, 990, 991, 992, 993, 994, 995, 996, 1410, 1411, 1412, 1413, 1414, 1415, 1416, 1418, 85, 1419] (by decide +kernel)
set_option maxRecDepth 20000 in
theorem zin_wsX100 : ∀ w ∈ wsX100, w ∈ lw_tbl := in_r _ [330, 332, 334, 336, 338, 340, 342, 344, 346] (by decide +kernel)
set_option maxRecDepth 20000 in
theorem zin_wsX110 : ∀ w ∈ wsX110, w ∈ lw_tbl := in_r _ [1025, 1027, 1029, 1031, 1033, 1035, 1037, 1039, 1041, 1043, 1045, 1047, 1049, 1051, 1053, 1055, 1057, 1059, 1061] (by decide +kernel)
set_option maxRecDepth 20000 in
theorem zin_wsX30 : ∀ w ∈ wsX30, w ∈ lw_tbl := in_r _ [157, 159, 161, 163, 165, 167, 169, 171, 173, 175, 177, 179, 181, 183, 185, 187] (by decide +kernel)
set_option maxRecDepth 20000 in
theorem zin_wsX80 : ∀ w ∈ wsX80, w ∈ lw_tbl := in_r _ [206, 208, 210, 212, 214, 216, 218] (by decide +kernel)
set_option maxRecDepth 20000 in
theorem zin_wsX40 : ∀ w ∈ wsX40, w ∈ lw_tbl := in_r _ [280, 282, 284, 286, 288, 290, 292, 294, 296] (by decide +kernel)
set_option maxRecDepth 20000 in
theorem zin_wsX60 : ∀ w ∈ wsX60, w ∈ lw_tbl := in_r _ [310, 312, 314, 316, 318] (by decide +kernel)
set_option maxRecDepth 20000 in
theorem zin_wsX70 : ∀ w ∈ wsX70, w ∈ lw_tbl := in_r _ [] (by decide +kernel)
set_option maxRecDepth 20000 in
theorem zin_wsX20 : ∀ w ∈ wsX20, w ∈ lw_tbl := in_r _ [] (by decide +kernel)
set_option maxRecDepth 20000 in
theorem zin_wsX10 : ∀ w ∈ wsX10, w ∈ lw_tbl := in_r _ [] (by decide +kernel)
set_option maxRecDepth 20000 in
theorem zin_wsX90 : ∀ w ∈ wsX90, w ∈ lw_tbl := in_r _ [] (by decide +kernel)
set_option maxRecDepth 20000 in
theorem zin_wsX50 : ∀ w ∈ wsX50, w ∈ lw_tbl := in_r _ [] (by decide +kernel)
set_option maxRecDepth 20000 in
theorem zin_wsX00 : ∀ w ∈ wsX00, w ∈ lw_tbl := in_r _ [] (by decide +kernel)
theorem wsL_law_in : ∀ w ∈ wsL_law, w ∈ lw_tbl := by
  unfold wsL_law
  exact List.forall_mem_append.mpr ⟨List.forall_mem_append.mpr ⟨List.forall_mem_append.mpr ⟨List.forall_mem_append.mpr ⟨List.forall_mem_append.mpr ⟨List.forall_mem_append.mpr ⟨List.forall_mem_append.mpr ⟨List.forall_mem_append.mpr ⟨List.forall_mem_append.mpr ⟨List.forall_mem_append.mpr ⟨List.forall_mem_append.mpr ⟨List.forall_mem_append.mpr ⟨List.forall_mem_append.mpr ⟨List.forall_mem_append.mpr ⟨zin_wsL_law_r1, List.forall_mem_append.mpr ⟨zin_wsL_law_r2, List.forall_mem_append.mpr ⟨zin_wsL_law_r3, List.forall_mem_append.mpr ⟨zin_wsL_law_r4, List.forall_mem_append.mpr ⟨zin_wsL_law_r5, List.forall_mem_append.mpr ⟨zin_wsL_law_r6, List.forall_mem_append.mpr ⟨zin_wsL_law_r7, List.forall_mem_append.mpr ⟨zin_wsL_law_r8, List.forall_mem_append.mpr ⟨zin_wsL_law_r9, List.forall_mem_append.mpr ⟨zin_wsL_law_r10, List.forall_mem_append.mpr ⟨zin_wsL_law_r11, List.forall_mem_append.mpr ⟨zin_wsL_law_r12, List.forall_mem_append.mpr ⟨zin_wsL_law_r13, List.forall_mem_append.mpr ⟨zin_wsL_law_r14, List.forall_mem_append.mpr ⟨zin_wsL_law_r15, List.forall_mem_append.mpr ⟨zin_wsL_law_r16, List.forall_mem_append.mpr ⟨zin_wsL_law_r17, List.forall_mem_append.mpr ⟨zin_wsL_law_r18, List.forall_mem_append.mpr ⟨zin_wsL_law_r19, List.forall_mem_append.mpr ⟨zin_wsL_law_r20, List.forall_mem_append.mpr ⟨zin_wsL_law_r21, List.forall_mem_append.mpr ⟨zin_wsL_law_r22, List.forall_mem_append.mpr ⟨zin_wsL_law_r23, List.forall_mem_append.mpr ⟨zin_wsL_law_r24, List.forall_mem_append.mpr ⟨zin_wsL_law_r25, List.forall_mem_append.mpr ⟨zin_wsL_law_r26, List.forall_mem_append.mpr ⟨zin_wsL_law_r27, List.forall_mem_append.mpr ⟨zin_wsL_law_r28, List.forall_mem_append.mpr ⟨zin_wsL_law_r29, List.forall_mem_append.mpr ⟨zin_wsL_law_r30, List.forall_mem_append.mpr ⟨zin_wsL_law_r31, List.forall_mem_append.mpr ⟨zin_wsL_law_r32, List.forall_mem_append.mpr ⟨zin_wsL_law_r33, List.forall_mem_append.mpr ⟨zin_wsL_law_r34, List.forall_mem_append.mpr ⟨zin_wsL_law_r35, List.forall_mem_append.mpr ⟨zin_wsL_law_r36, List.forall_mem_append.mpr ⟨zin_wsL_law_r37, List.forall_mem_append.mpr ⟨zin_wsL_law_r38, List.forall_mem_append.mpr ⟨zin_wsL_law_r39, List.forall_mem_append.mpr ⟨zin_wsL_law_r40, List.forall_mem_append.mpr ⟨zin_wsL_law_r41, List.forall_mem_append.mpr ⟨zin_wsL_law_r42, List.forall_mem_append.mpr ⟨zin_wsL_law_r43, List.forall_mem_append.mpr ⟨zin_wsL_law_r44, List.forall_mem_append.mpr ⟨zin_wsL_law_r45, List.forall_mem_append.mpr ⟨zin_wsL_law_r46, List.forall_mem_append.mpr ⟨zin_wsL_law_r47, List.forall_mem_append.mpr ⟨zin_wsL_law_r48, zin_wsL_law_r49⟩⟩⟩⟩⟩⟩⟩⟩⟩⟩⟩⟩⟩⟩⟩⟩⟩⟩⟩⟩⟩⟩⟩⟩⟩⟩⟩⟩⟩⟩⟩⟩⟩⟩⟩⟩⟩⟩⟩⟩⟩⟩⟩⟩⟩⟩⟩⟩, zin_wsX100⟩, zin_wsX110⟩, zin_wsX30⟩, zin_wsX80⟩, zin_wsX40⟩, zin_wsX60⟩, zin_wsX70⟩, zin_wsX20⟩, zin_wsX10⟩, zin_wsX90⟩, zin_wsX50⟩, zin_wsX00⟩, fun _ h => absurd h List.not_mem_nil⟩

-- wsL_law_in