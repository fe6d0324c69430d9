set_option maxRecDepth 20000 in
theorem ggL_law_X10_spots : GoodIn wsL_law wsX10_spots := goodIn_r _ [1092, 16, 26, 262, 263, 264, 15, 265, 139, 127, 128, 129, 2, 130, 131, 901, 902, 903, 25, 904, 64, 62, 63, 695, 267, 268, 269, 37, 270, 905, 655, 656, 657, 658, 659, 660, 60, 61, 661, 662, 663, 664, 45, 167, 143, 144, 145, 43, 44, 226, 169, 170, 171, 137, 138, 172, 173, 665, 666, 667, 668, 612, 613, 595, 614, 600, 601, 602, 603, 604, 605, 606, 607, 669, 670, 671, 672, 59, 58, 673, 674, 675, 676, 36, 677, 678, 679, 680, 681, 79, 682, 683, 684, 685, 57, 686, 687, 688, 689, 690, 691, 692, 693, 694, 696, 590, 591, 592, 593, 594, 596, 597, 598, 599, 608, 609, 610, 611, 697, 698, 699, 700, 701, 702, 703, 704, 705, 706, 707, 70, 708, 709, 710, 711, 712, 713, 714, 715, 716, 717, 718, 719, 720, 721, 722, 723, 724, 725, 73, 726, 727, 728, 729, 730, 731, 732, 733, 734, 735, 736, 737, 136, 738, 739, 740, 741, 742, 38, 743, 744, 745, 746, 747, 748, 749, 750, 751, 752, 753, 754, 755, 756, 757, 758, 759, 760, 761, 762, 763, 764, 765, 766, 767, 768, 769, 770, 771, 67, 772, 773, 774, 76, 775, 776, 777, 778, 779, 780, 906, 907, 223, 224, 225, 227, 180, 181, 182, 908, 272, 273, 274, 909, 910, 911, 912, 836, 782, 783, 784, 837, 786, 787, 788, 913, 914, 915, 916, 917, 883, 884, 885, 886, 887, 888, 832, 833, 834, 835, 790, 791, 918, 919, 920, 921, 922, 923, 924, 925, 863, 864, 865, 1093, 1094, 1095, 1096, 1097, 1098, 1099, 926, 927, 928, 929, 1175, 1176, 1177, 1178, 1179, 1180, 1181, 1182, 1183, 1203, 1204, 1205, 1206, 1207, 1208, 1209, 1210, 1211, 1212, 1213, 1214, 1215, 1216, 1217, 1218, 1226, 1227, 1228, 1229, 1230, 1231, 1232, 1233, 1234] (by decide +kernel) (by decide +kernel)
set_option maxRecDepth 20000 in
theorem gL_law_X10_spots : GoodIn wsL_law (wsV RL 122 RX10 yX10_spots wsX10_spots) := goodIn_app (goodIn_of _ (by decide +kernel)) ggL_law_X10_spots
set_option maxRecDepth 20000 in
theorem ggL_law_X11_spots : GoodIn wsL_law wsX11_spots := goodIn_r _ [1103, 279, 280, 281, 5, 282, 247, 248, 249, 250, 106, 152, 153, 154, 155, 156, 157, 158, 110, 283, 284, 285, 286, 195, 196, 197, 198, 243, 244, 245, 246, 199, 200, 201, 287, 288, 289, 290, 1104, 1105, 1106, 1107, 796, 797, 798, 799, 639, 640, 641, 642, 635, 636, 637, 638, 619, 620, 621, 622, 623, 624, 625, 626, 627, 628, 629, 630, 631, 632, 633, 634, 643, 644, 645, 646, 647, 648, 649, 800, 801, 802, 803, 804, 805, 806, 807, 808, 809, 810, 811, 812, 813, 814, 815, 1184, 1185, 1186, 1187, 1188, 1189, 1190, 1191, 1192, 1193, 1194, 1195, 1196, 1197, 1198, 1199, 1200, 1201, 1202] (by decide +kernel) (by decide +kernel)
set_option maxRecDepth 20000 in
theorem gL_law_X11_spots : GoodIn wsL_law (wsV RL 125 RX11 yX11_spots wsX11_spots) := goodIn_app (goodIn_of _ (by decide +kernel)) ggL_law_X11_spots
set_option maxRecDepth 20000 in
theorem ggL_law_X10_image : GoodIn wsL_law wsX10_image := goodIn_r _ [1111, 18, 13, 14, 15, 16, 124, 125, 2, 126, 127, 128, 129, 130, 131, 31, 32, 33, 34, 11, 12, 35, 36, 37, 38, 39, 40, 41, 42, 43, 44, 45, 506, 507, 508, 509, 136, 137, 138, 139, 140, 141, 510, 511, 512, 513, 1175, 1176, 1177, 1178, 1179, 1180, 1181, 1182, 1183, 1203, 1204, 1205, 1206, 1207, 1208, 1209, 1210, 1211, 1212, 1213, 1214, 1215, 1216, 1217, 1218] (by decide +kernel) (by decide +kernel)
set_option maxRecDepth 20000 in
theorem gL_law_X10_image : GoodIn wsL_law (wsV RL 126 RX10 yX10_image wsX10_image) := goodIn_app (goodIn_of _ (by decide +kernel)) ggL_law_X10_image
set_option maxRecDepth 20000 in
theorem ggL_law_X11_image : GoodIn wsL_law wsX11_image := goodIn_r _ [1115, 107, 106, 109, 152, 153, 5, 154, 155, 156, 157, 158, 110, 1184, 1185, 1186, 1187, 1188, 1189, 1190, 1191, 1192, 1193, 1194, 1195, 1196, 1197, 1198, 1199, 1200, 1201, 1202] (by decide +kernel) (by decide +kernel)
set_option maxRecDepth 20000 in
theorem gL_law_X11_image : GoodIn wsL_law (wsV RL 129 RX11 yX11_image wsX11_image) := goodIn_app (goodIn_of _ (by decide +kernel)) ggL_law_X11_image
set_option maxRecDepth 20000 in
theorem ggL_law_X10_from : GoodIn wsL_law wsX10_from := goodIn_r _ [1119, 18, 16, 124, 125, 2, 126, 127, 128, 129, 130, 131, 174, 175, 176, 177, 178, 506, 507, 508, 15, 509, 43, 44, 45, 136, 137, 138, 139, 140, 141, 36, 510, 511, 512, 513, 37, 38, 39, 40, 41, 42, 1175, 1176, 1177, 1178, 1179, 1180, 1181, 1182, 1183, 1203, 1204, 1205, 1206, 1207, 1208, 1209, 1210, 1211, 1212, 1213, 1214, 1215, 1216, 1217, 1218] (by decide +kernel) (by decide +kernel)
set_option maxRecDepth 20000 in
theorem gL_law_X10_from : GoodIn wsL_law (wsV RL 130 RX10 yX10_from wsX10_from) := goodIn_app (goodIn_of _ (by decide +kernel)) ggL_law_X10_from
set_option maxRecDepth 20000 in
theorem ggL_law_X11_from : GoodIn wsL_law wsX11_from := goodIn_r _ [1123, 109, 106, 107, 152, 153, 5, 154, 155, 156, 157, 158, 110, 202, 203, 204, 205, 1184, 1185, 1186, 1187, 1188, 1189, 1190, 1191, 1192, 1193, 1194, 1195, 1196, 1197, 1198, 1199, 1200, 1201, 1202] (by decide +kernel) (by decide +kernel)
set_option maxRecDepth 20000 in
theorem gL_law_X11_from : GoodIn wsL_law (wsV RL 133 RX11 yX11_from wsX11_from) := goodIn_app (goodIn_of _ (by decide +kernel)) ggL_law_X11_from
set_option maxRecDepth 20000 in
theorem ggL_law_X10_status : GoodIn wsL_law wsX10_status := goodIn_r _ [1127, 131, 178, 236, 127, 128, 129, 2, 130, 1175, 1176, 1177, 1178, 1179, 1180, 1181, 1182, 1183] (by decide +kernel) (by decide +kernel)
set_option maxRecDepth 20000 in
theorem gL_law_X10_status : GoodIn wsL_law (wsV RL 134 RX10 yX10_status wsX10_status) := goodIn_app (goodIn_of _ (by decide +kernel)) ggL_law_X10_status
set_option maxRecDepth 20000 in
theorem ggL_law_X11_status : GoodIn wsL_law wsX11_status := goodIn_r _ [1131, 150, 110, 152, 153, 5, 154, 155, 156, 157, 158, 1184, 1185, 1186, 1187, 1188, 1189, 1190, 1191, 1192, 1193, 1194, 1195, 1196, 1197, 1198, 1199, 1200, 1201, 1202] (by decide +kernel) (by decide +kernel)
set_option maxRecDepth 20000 in
theorem gL_law_X11_status : GoodIn wsL_law (wsV RL 137 RX11 yX11_status wsX11_status) := goodIn_app (goodIn_of _ (by decide +kernel)) ggL_law_X11_status
set_option maxRecDepth 20000 in
theorem ggL_law_X10_count : GoodIn wsL_law wsX10_count := goodIn_r _ [1135, 1136, 1137, 1138, 2, 1139, 16, 359, 1140, 1141, 324, 325, 22, 334, 1093, 1094, 1095, 1096, 1097, 1098, 1099, 142, 143, 144, 15, 145, 43, 44, 127, 128, 129, 130, 131, 1175, 1176, 1177, 1178, 1179, 1180, 1181, 1182, 1183, 1203, 1204, 1205, 1206, 1207, 1208, 1209, 1210, 1211, 1212, 1213, 1214, 1215, 1216, 1217, 1218, 1219, 1220, 1221, 1222, 1223, 1224, 1225] (by decide +kernel) (by decide +kernel)
set_option maxRecDepth 20000 in
theorem gL_law_X10_count : GoodIn wsL_law (wsV RL 138 RX10 yX10_count wsX10_count) := goodIn_app (goodIn_of _ (by decide +kernel)) ggL_law_X10_count
set_option maxRecDepth 20000 in
theorem ggL_law_X11_count : GoodIn wsL_law wsX11_count := goodIn_r _ [1145, 151, 152, 153, 5, 154, 1146, 1147, 1148, 1149, 106, 345, 247, 248, 249, 250, 1150, 1151, 1152, 1153, 195, 196, 197, 198, 155, 156, 157, 158, 110, 1184, 1185, 1186, 1187, 1188, 1189, 1190, 1191, 1192, 1193, 1194, 1195, 1196, 1197, 1198, 1199, 1200, 1201, 1202] (by decide +kernel) (by decide +kernel)
set_option maxRecDepth 20000 in
theorem gL_law_X11_count : GoodIn wsL_law (wsV RL 141 RX11 yX11_count wsX11_count) := goodIn_app (goodIn_of _ (by decide +kernel)) ggL_law_X11_count
set_option maxRecDepth 20000 in
theorem ggL_law_X10_digest : GoodIn wsL_law wsX10_digest := goodIn_r _ [1157, 1158, 1159, 16, 1136, 1137, 1138, 2, 1139, 359, 1140, 1141, 324, 325, 22, 334, 1093, 1094, 1095, 1096, 1097, 1098, 1099, 142, 143, 144, 15, 145, 43, 44, 1160, 1161, 1162, 1163, 1164, 45, 136, 139, 36, 37, 38, 140, 39, 40, 141, 41, 42, 167, 226, 169, 170, 171, 137, 138, 172, 173, 1175, 1176, 1177, 1178, 1179, 1180, 1181, 1182, 1183, 1203, 1204, 1205, 1206, 1207, 1208, 1209, 1210, 1211, 1212, 1213, 1214, 1215, 1216, 1217, 1218, 1219, 1220, 1221, 1222, 1223, 1224, 1225] (by decide +kernel) (by decide +kernel)
set_option maxRecDepth 20000 in
theorem gL_law_X10_digest : GoodIn wsL_law (wsV RL 142 RX10 yX10_digest wsX10_digest) := goodIn_app (goodIn_of _ (by decide +kernel)) ggL_law_X10_digest
set_option maxRecDepth 20000 in
theorem ggL_law_X11_digest : GoodIn wsL_law wsX11_digest := goodIn_r _ [1168, 1169, 1170, 106, 1146, 1147, 1148, 5, 1149, 345, 247, 248, 249, 250, 1150, 1151, 1152, 1153, 195, 196, 197, 198, 1171, 1172, 1173, 1174, 1184, 1185, 1186, 1187, 1188, 1189, 1190, 1191, 1192, 1193, 1194, 1195, 1196, 1197, 1198, 1199, 1200, 1201, 1202] (by decide +kernel) (by decide +kernel)
set_option maxRecDepth 20000 in
theorem gL_law_X11_digest : GoodIn wsL_law (wsV RL 146 RX11 yX11_digest wsX11_digest) := goodIn_app (goodIn_of _ (by decide +kernel)) ggL_law_X11_digest
-- uses gL_law_X10_spots
-- uses gL_law_X11_spots
-- uses gL_law_X10_image
-- uses gL_law_X11_image
-- uses gL_law_X10_from
-- uses gL_law_X11_from
-- uses gL_law_X10_status
-- uses gL_law_X11_status
-- uses gL_law_X10_count
-- uses gL_law_X11_count
-- uses gL_law_X10_digest
-- uses gL_law_X11_digest