set_option maxRecDepth 20000 in
theorem ggL_law_X10_init : GoodIn wsL_law wsX10_init := goodIn_r _ [9, 10, 11, 12, 13, 14, 15, 16, 17, 18, 19, 20, 21, 22, 23, 24, 25, 26, 27, 28, 29, 30, 31, 32, 33, 34, 35, 36, 37, 38, 39, 40, 41, 42, 43, 44, 45, 46, 47, 48, 49, 50, 51, 52, 53, 54, 55, 56, 57, 58, 59, 60, 61, 62, 63, 64, 65, 66, 67, 68, 69, 70, 71, 72, 73, 74, 75, 76, 77, 78, 79, 80, 81, 82, 83, 84, 85, 86, 87, 88, 89, 90, 91, 92, 93, 94, 95, 96, 97, 98, 99, 100, 101, 1203, 1204, 1205, 1206, 1207, 1208, 1209, 1210, 1211, 1212, 1213, 1214, 1215, 1216, 1217, 1218, 1175, 1176, 1177, 1178, 1179, 1180, 1181, 1182, 1183, 1219, 1220, 1221, 1222, 1223, 1224, 1225, 1226, 1227, 1228, 1229, 1230, 1231, 1232, 1233, 1234, 1235, 1236, 1237, 1238, 1239] (by decide +kernel) (by decide +kernel)
set_option maxRecDepth 20000 in
theorem gL_law_X10_init : GoodIn wsL_law (wsX10_init) := ggL_law_X10_init
set_option maxRecDepth 20000 in
theorem ggL_law_X11_init : GoodIn wsL_law wsX11_init := goodIn_r _ [104, 105, 11, 12, 35, 106, 107, 108, 109, 110, 111, 112, 113, 114, 115, 116, 117, 118, 5, 119, 1184, 1185, 1186, 1187, 1188, 1189, 1190, 1191, 1192, 1193, 1194, 1195, 1196, 1197, 1198, 1199, 1200, 1201, 1202] (by decide +kernel) (by decide +kernel)
set_option maxRecDepth 20000 in
theorem gL_law_X11_init : GoodIn wsL_law (wsX11_init) := ggL_law_X11_init
set_option maxRecDepth 20000 in
theorem ggL_law_X10_garden : GoodIn wsL_law wsX10_garden := goodIn_r _ [123, 16, 124, 125, 2, 126, 127, 128, 129, 130, 131, 132, 133, 134, 15, 135, 43, 44, 45, 136, 137, 138, 139, 140, 141, 142, 143, 144, 145, 1175, 1176, 1177, 1178, 1179, 1180, 1181, 1182, 1183, 1203, 1204, 1205, 1206, 1207, 1208, 1209, 1210, 1211, 1212, 1213, 1214, 1215, 1216, 1217, 1218] (by decide +kernel) (by decide +kernel)
set_option maxRecDepth 20000 in
theorem gL_law_X10_garden : GoodIn wsL_law (wsV RL 13 RX10 yX10_garden wsX10_garden) := goodIn_app (goodIn_of _ (by decide +kernel)) ggL_law_X10_garden
set_option maxRecDepth 20000 in
theorem ggL_law_X11_garden : GoodIn wsL_law wsX11_garden := goodIn_r _ [149, 150, 151, 106, 152, 153, 5, 154, 155, 156, 157, 158, 110, 117, 118, 119, 1184, 1185, 1186, 1187, 1188, 1189, 1190, 1191, 1192, 1193, 1194, 1195, 1196, 1197, 1198, 1199, 1200, 1201, 1202] (by decide +kernel) (by decide +kernel)
set_option maxRecDepth 20000 in
theorem gL_law_X11_garden : GoodIn wsL_law (wsV RL 17 RX11 yX11_garden wsX11_garden) := goodIn_app (goodIn_of _ (by decide +kernel)) ggL_law_X11_garden
set_option maxRecDepth 20000 in
theorem ggL_law_X10_set : GoodIn wsL_law wsX10_set := goodIn_r _ [162, 16, 124, 125, 2, 126, 163, 164, 165, 15, 166, 167, 143, 144, 145, 43, 44, 127, 128, 129, 130, 131, 168, 169, 170, 171, 137, 138, 172, 173, 174, 175, 176, 177, 178, 179, 180, 181, 182, 139, 37, 183, 184, 185, 186, 1175, 1176, 1177, 1178, 1179, 1180, 1181, 1182, 1183, 1203, 1204, 1205, 1206, 1207, 1208, 1209, 1210, 1211, 1212, 1213, 1214, 1215, 1216, 1217, 1218] (by decide +kernel) (by decide +kernel)
set_option maxRecDepth 20000 in
theorem gL_law_X10_set : GoodIn wsL_law (wsV RL 18 RX10 yX10_set wsX10_set) := goodIn_app (goodIn_of _ (by decide +kernel)) ggL_law_X10_set
set_option maxRecDepth 20000 in
theorem ggL_law_X11_set : GoodIn wsL_law wsX11_set := goodIn_r _ [190, 106, 152, 153, 5, 154, 191, 192, 193, 194, 195, 196, 197, 198, 155, 156, 157, 158, 110, 199, 200, 201, 202, 203, 204, 205, 1184, 1185, 1186, 1187, 1188, 1189, 1190, 1191, 1192, 1193, 1194, 1195, 1196, 1197, 1198, 1199, 1200, 1201, 1202] (by decide +kernel) (by decide +kernel)
set_option maxRecDepth 20000 in
theorem gL_law_X11_set : GoodIn wsL_law (wsV RL 22 RX11 yX11_set wsX11_set) := goodIn_app (goodIn_of _ (by decide +kernel)) ggL_law_X11_set
set_option maxRecDepth 20000 in
theorem ggL_law_X10_put : GoodIn wsL_law wsX10_put := goodIn_r _ [209, 16, 210, 211, 124, 125, 2, 126, 127, 128, 129, 130, 131, 1175, 1176, 1177, 1178, 1179, 1180, 1181, 1182, 1183, 1203, 1204, 1205, 1206, 1207, 1208, 1209, 1210, 1211, 1212, 1213, 1214, 1215, 1216, 1217, 1218] (by decide +kernel) (by decide +kernel)
set_option maxRecDepth 20000 in
theorem gL_law_X10_put : GoodIn wsL_law (wsV RL 23 RX10 yX10_put wsX10_put) := goodIn_app (goodIn_of _ (by decide +kernel)) ggL_law_X10_put
set_option maxRecDepth 20000 in
theorem ggL_law_X11_put : GoodIn wsL_law wsX11_put := goodIn_r _ [215, 216, 217, 106, 152, 153, 5, 154, 155, 156, 157, 158, 110, 1184, 1185, 1186, 1187, 1188, 1189, 1190, 1191, 1192, 1193, 1194, 1195, 1196, 1197, 1198, 1199, 1200, 1201, 1202] (by decide +kernel) (by decide +kernel)
set_option maxRecDepth 20000 in
theorem gL_law_X11_put : GoodIn wsL_law (wsV RL 26 RX11 yX11_put wsX11_put) := goodIn_app (goodIn_of _ (by decide +kernel)) ggL_law_X11_put
set_option maxRecDepth 20000 in
theorem ggL_law_X10_person : GoodIn wsL_law wsX10_person := goodIn_r _ [221, 16, 124, 125, 2, 126, 163, 164, 165, 15, 166, 167, 143, 144, 145, 43, 44, 127, 128, 129, 130, 131, 222, 223, 224, 225, 226, 169, 170, 171, 137, 138, 172, 173, 227, 180, 181, 182, 139, 37, 174, 175, 176, 177, 178, 228, 229, 230, 231, 36, 38, 232, 233, 234, 235, 236, 1175, 1176, 1177, 1178, 1179, 1180, 1181, 1182, 1183, 1203, 1204, 1205, 1206, 1207, 1208, 1209, 1210, 1211, 1212, 1213, 1214, 1215, 1216, 1217, 1218] (by decide +kernel) (by decide +kernel)
set_option maxRecDepth 20000 in
theorem gL_law_X10_person : GoodIn wsL_law (wsV RL 27 RX10 yX10_person wsX10_person) := goodIn_app (goodIn_of _ (by decide +kernel)) ggL_law_X10_person
set_option maxRecDepth 20000 in
theorem ggL_law_X11_person : GoodIn wsL_law wsX11_person := goodIn_r _ [240, 241, 242, 106, 152, 153, 5, 154, 191, 192, 193, 194, 195, 196, 197, 198, 155, 156, 157, 158, 110, 243, 244, 245, 246, 199, 200, 201, 202, 203, 204, 205, 247, 248, 249, 250, 251, 252, 253, 254, 255, 256, 257, 1184, 1185, 1186, 1187, 1188, 1189, 1190, 1191, 1192, 1193, 1194, 1195, 1196, 1197, 1198, 1199, 1200, 1201, 1202] (by decide +kernel) (by decide +kernel)
set_option maxRecDepth 20000 in
theorem gL_law_X11_person : GoodIn wsL_law (wsV RL 31 RX11 yX11_person wsX11_person) := goodIn_app (goodIn_of _ (by decide +kernel)) ggL_law_X11_person
set_option maxRecDepth 20000 in
theorem ggL_law_X10_move : GoodIn wsL_law wsX10_move := goodIn_r _ [261, 16, 262, 263, 264, 15, 265, 139, 163, 164, 165, 166, 167, 143, 144, 145, 43, 44, 127, 128, 129, 2, 130, 131, 266, 267, 268, 269, 37, 270, 222, 223, 224, 225, 226, 169, 170, 171, 137, 138, 172, 173, 227, 180, 181, 182, 174, 175, 176, 177, 178, 271, 272, 273, 274, 1175, 1176, 1177, 1178, 1179, 1180, 1181, 1182, 1183, 1203, 1204, 1205, 1206, 1207, 1208, 1209, 1210, 1211, 1212, 1213, 1214, 1215, 1216, 1217, 1218] (by decide +kernel) (by decide +kernel)
set_option maxRecDepth 20000 in
theorem gL_law_X10_move : GoodIn wsL_law (wsV RL 32 RX10 yX10_move wsX10_move) := goodIn_app (goodIn_of _ (by decide +kernel)) ggL_law_X10_move
set_option maxRecDepth 20000 in
theorem ggL_law_X11_move : GoodIn wsL_law wsX11_move := goodIn_r _ [278, 279, 280, 281, 5, 282, 247, 248, 249, 250, 106, 152, 153, 154, 191, 192, 193, 194, 195, 196, 197, 198, 155, 156, 157, 158, 110, 243, 244, 245, 246, 199, 200, 201, 202, 203, 204, 205, 283, 284, 285, 286, 287, 288, 289, 290, 1184, 1185, 1186, 1187, 1188, 1189, 1190, 1191, 1192, 1193, 1194, 1195, 1196, 1197, 1198, 1199, 1200, 1201, 1202] (by decide +kernel) (by decide +kernel)
set_option maxRecDepth 20000 in
theorem gL_law_X11_move : GoodIn wsL_law (wsV RL 35 RX11 yX11_move wsX11_move) := goodIn_app (goodIn_of _ (by decide +kernel)) ggL_law_X11_move
set_option maxRecDepth 20000 in
theorem ggL_law_X10_tell : GoodIn wsL_law wsX10_tell := goodIn_r _ [294, 16, 295, 296, 297, 2, 298, 262, 263, 264, 15, 265, 139, 127, 128, 129, 130, 131, 299, 300, 301, 302, 140, 39, 40, 232, 233, 234, 235, 236, 1175, 1176, 1177, 1178, 1179, 1180, 1181, 1182, 1183, 1203, 1204, 1205, 1206, 1207, 1208, 1209, 1210, 1211, 1212, 1213, 1214, 1215, 1216, 1217, 1218] (by decide +kernel) (by decide +kernel)
set_option maxRecDepth 20000 in
theorem gL_law_X10_tell : GoodIn wsL_law (wsV RL 36 RX10 yX10_tell wsX10_tell) := goodIn_app (goodIn_of _ (by decide +kernel)) ggL_law_X10_tell
-- uses gL_law_X10_init
-- uses gL_law_X11_init
-- uses gL_law_X10_garden
-- uses gL_law_X11_garden
-- uses gL_law_X10_set
-- uses gL_law_X11_set
-- uses gL_law_X10_put
-- uses gL_law_X11_put
-- uses gL_law_X10_person
-- uses gL_law_X11_person
-- uses gL_law_X10_move
-- uses gL_law_X11_move
-- uses gL_law_X10_tell