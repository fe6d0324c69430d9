set_option maxRecDepth 20000 in
theorem ggL_law_X11_tell : GoodIn wsL_law wsX11_tell := goodIn_r _ [306, 106, 279, 280, 281, 5, 282, 247, 248, 249, 250, 152, 153, 154, 155, 156, 157, 158, 110, 251, 252, 253, 254, 1184, 1185, 1186, 1187, 1188, 1189, 1190, 1191, 1192, 1193, 1194, 1195, 1196, 1197, 1198, 1199, 1200, 1201, 1202] (by decide +kernel) (by decide +kernel)
set_option maxRecDepth 20000 in
theorem gL_law_X11_tell : GoodIn wsL_law (wsV RL 39 RX11 yX11_tell wsX11_tell) := goodIn_app (goodIn_of _ (by decide +kernel)) ggL_law_X11_tell
set_option maxRecDepth 20000 in
theorem ggL_law_X10_report : GoodIn wsL_law wsX10_report := goodIn_r _ [310, 16, 262, 263, 264, 15, 265, 139, 124, 125, 2, 126, 127, 128, 129, 130, 131, 311, 312, 313, 314, 141, 41, 42, 232, 233, 234, 235, 236, 1175, 1176, 1177, 1178, 1179, 1180, 1181, 1182, 1183, 1203, 1204, 1205, 1206, 1207, 1208, 1209, 1210, 1211, 1212, 1213, 1214, 1215, 1216, 1217, 1218] (by decide +kernel) (by decide +kernel)
set_option maxRecDepth 20000 in
theorem gL_law_X10_report : GoodIn wsL_law (wsV RL 40 RX10 yX10_report wsX10_report) := goodIn_app (goodIn_of _ (by decide +kernel)) ggL_law_X10_report
set_option maxRecDepth 20000 in
theorem ggL_law_X11_report : GoodIn wsL_law wsX11_report := goodIn_r _ [318, 319, 106, 279, 280, 281, 5, 282, 247, 248, 249, 250, 152, 153, 154, 155, 156, 157, 158, 110, 251, 252, 253, 254, 1184, 1185, 1186, 1187, 1188, 1189, 1190, 1191, 1192, 1193, 1194, 1195, 1196, 1197, 1198, 1199, 1200, 1201, 1202] (by decide +kernel) (by decide +kernel)
set_option maxRecDepth 20000 in
theorem gL_law_X11_report : GoodIn wsL_law (wsV RL 43 RX11 yX11_report wsX11_report) := goodIn_app (goodIn_of _ (by decide +kernel)) ggL_law_X11_report
set_option maxRecDepth 20000 in
theorem ggL_law_X10_clears : GoodIn wsL_law wsX10_clears := goodIn_r _ [323, 16, 324, 325, 127, 128, 129, 2, 130, 131, 1175, 1176, 1177, 1178, 1179, 1180, 1181, 1182, 1183, 1203, 1204, 1205, 1206, 1207, 1208, 1209, 1210, 1211, 1212, 1213, 1214, 1215, 1216, 1217, 1218] (by decide +kernel) (by decide +kernel)
set_option maxRecDepth 20000 in
theorem gL_law_X10_clears : GoodIn wsL_law (wsV RL 44 RX10 yX10_clears wsX10_clears) := goodIn_app (goodIn_of _ (by decide +kernel)) ggL_law_X10_clears
set_option maxRecDepth 20000 in
theorem ggL_law_X11_clears : GoodIn wsL_law wsX11_clears := goodIn_r _ [329, 106, 152, 153, 5, 154, 155, 156, 157, 158, 110, 1184, 1185, 1186, 1187, 1188, 1189, 1190, 1191, 1192, 1193, 1194, 1195, 1196, 1197, 1198, 1199, 1200, 1201, 1202] (by decide +kernel) (by decide +kernel)
set_option maxRecDepth 20000 in
theorem gL_law_X11_clears : GoodIn wsL_law (wsV RL 48 RX11 yX11_clears wsX11_clears) := goodIn_app (goodIn_of _ (by decide +kernel)) ggL_law_X11_clears
set_option maxRecDepth 20000 in
theorem ggL_law_X10_type : GoodIn wsL_law wsX10_type := goodIn_r _ [333, 22, 334, 124, 125, 2, 126, 127, 128, 129, 130, 131, 335, 336, 337, 21, 338, 339, 50, 232, 233, 234, 235, 236, 1175, 1176, 1177, 1178, 1179, 1180, 1181, 1182, 1183, 1219, 1220, 1221, 1222, 1223, 1224, 1225] (by decide +kernel) (by decide +kernel)
set_option maxRecDepth 20000 in
theorem gL_law_X10_type : GoodIn wsL_law (wsV RL 51 RX10 yX10_type wsX10_type) := goodIn_app (goodIn_of _ (by decide +kernel)) ggL_law_X10_type
set_option maxRecDepth 20000 in
theorem ggL_law_X11_type : GoodIn wsL_law wsX11_type := goodIn_r _ [343, 344, 345, 115, 346, 152, 153, 5, 154, 155, 156, 157, 158, 110, 251, 252, 253, 254, 1184, 1185, 1186, 1187, 1188, 1189, 1190, 1191, 1192, 1193, 1194, 1195, 1196, 1197, 1198, 1199, 1200, 1201, 1202] (by decide +kernel) (by decide +kernel)
set_option maxRecDepth 20000 in
theorem gL_law_X11_type : GoodIn wsL_law (wsV RL 55 RX11 yX11_type wsX11_type) := goodIn_app (goodIn_of _ (by decide +kernel)) ggL_law_X11_type
set_option maxRecDepth 20000 in
theorem ggL_law_X10_wipe : GoodIn wsL_law wsX10_wipe := goodIn_r _ [350, 22, 334, 1175, 1176, 1177, 1178, 1179, 1180, 1181, 1182, 1183, 1219, 1220, 1221, 1222, 1223, 1224, 1225] (by decide +kernel) (by decide +kernel)
set_option maxRecDepth 20000 in
theorem gL_law_X10_wipe : GoodIn wsL_law (wsV RL 56 RX10 yX10_wipe wsX10_wipe) := goodIn_app (goodIn_of _ (by decide +kernel)) ggL_law_X10_wipe
set_option maxRecDepth 20000 in
theorem ggL_law_X11_wipe : GoodIn wsL_law wsX11_wipe := goodIn_r _ [354, 345, 1184, 1185, 1186, 1187, 1188, 1189, 1190, 1191, 1192, 1193, 1194, 1195, 1196, 1197, 1198, 1199, 1200, 1201, 1202] (by decide +kernel) (by decide +kernel)
set_option maxRecDepth 20000 in
theorem gL_law_X11_wipe : GoodIn wsL_law (wsV RL 60 RX11 yX11_wipe wsX11_wipe) := goodIn_app (goodIn_of _ (by decide +kernel)) ggL_law_X11_wipe
set_option maxRecDepth 20000 in
theorem ggL_law_X10_read : GoodIn wsL_law wsX10_read := goodIn_r _ [358, 22, 17, 16, 359, 360, 361, 362, 21, 363, 364, 365, 366, 367, 368, 369, 370, 371, 339, 372, 373, 374, 375, 376, 50, 377, 378, 379, 380, 381, 382, 383, 384, 385, 386, 387, 388, 389, 390, 391, 392, 393, 394, 395, 396, 397, 398, 399, 400, 401, 402, 403, 404, 405, 406, 407, 408, 409, 410, 411, 412, 413, 414, 415, 416, 417, 418, 419, 420, 421, 422, 423, 424, 425, 426, 427, 428, 429, 430, 431, 432, 433, 434, 435, 436, 437, 438, 439, 440, 441, 442, 443, 444, 445, 446, 447, 448, 449, 450, 451, 452, 453, 454, 455, 456, 457, 458, 459, 460, 461, 462, 463, 464, 465, 466, 467, 133, 134, 15, 135, 43, 44, 45, 136, 137, 138, 139, 140, 141, 468, 469, 470, 471, 472, 473, 474, 475, 476, 143, 144, 145, 477, 223, 224, 225, 226, 169, 170, 171, 172, 2, 173, 227, 180, 181, 182, 37, 478, 184, 185, 186, 479, 480, 481, 482, 483, 484, 485, 486, 487, 488, 489, 490, 491, 492, 493, 494, 495, 496, 497, 498, 499, 229, 230, 231, 36, 38, 500, 501, 502, 503, 504, 505, 300, 301, 302, 39, 40, 506, 507, 508, 509, 510, 511, 512, 513, 41, 42, 1175, 1176, 1177, 1178, 1179, 1180, 1181, 1182, 1183, 1203, 1204, 1205, 1206, 1207, 1208, 1209, 1210, 1211, 1212, 1213, 1214, 1215, 1216, 1217, 1218, 1219, 1220, 1221, 1222, 1223, 1224, 1225] (by decide +kernel) (by decide +kernel)
set_option maxRecDepth 20000 in
theorem gL_law_X10_read : GoodIn wsL_law (wsV RL 61 RX10 yX10_read wsX10_read) := goodIn_app (goodIn_of _ (by decide +kernel)) ggL_law_X10_read
set_option maxRecDepth 20000 in
theorem ggL_law_X11_read : GoodIn wsL_law wsX11_read := goodIn_r _ [517, 518, 519, 520, 106, 116, 521, 522, 523, 5, 524, 345, 115, 525, 526, 527, 528, 529, 530, 531, 152, 153, 154, 532, 533, 534, 535, 536, 537, 538, 539, 540, 541, 542, 543, 544, 545, 546, 547, 548, 549, 550, 551, 552, 553, 554, 555, 556, 117, 118, 119, 557, 558, 559, 560, 561, 562, 563, 564, 565, 566, 567, 568, 569, 570, 571, 572, 199, 200, 201, 573, 574, 575, 576, 577, 578, 579, 580, 255, 256, 257, 581, 582, 583, 584, 247, 248, 249, 250, 1184, 1185, 1186, 1187, 1188, 1189, 1190, 1191, 1192, 1193, 1194, 1195, 1196, 1197, 1198, 1199, 1200, 1201, 1202] (by decide +kernel) (by decide +kernel)
set_option maxRecDepth 20000 in
theorem gL_law_X11_read : GoodIn wsL_law (wsV RL 64 RX11 yX11_read wsX11_read) := goodIn_app (goodIn_of _ (by decide +kernel)) ggL_law_X11_read
set_option maxRecDepth 20000 in
theorem ggL_law_X10_clear : GoodIn wsL_law wsX10_clear := goodIn_r _ [588, 16, 163, 164, 165, 15, 166, 167, 143, 144, 145, 43, 44, 127, 128, 129, 2, 130, 131, 589, 590, 591, 592, 593, 594, 595, 596, 597, 598, 599, 600, 601, 602, 603, 604, 605, 606, 607, 226, 169, 170, 171, 137, 138, 172, 173, 608, 609, 610, 611, 612, 613, 614, 1175, 1176, 1177, 1178, 1179, 1180, 1181, 1182, 1183, 1203, 1204, 1205, 1206, 1207, 1208, 1209, 1210, 1211, 1212, 1213, 1214, 1215, 1216, 1217, 1218] (by decide +kernel) (by decide +kernel)
set_option maxRecDepth 20000 in
theorem gL_law_X10_clear : GoodIn wsL_law (wsV RL 65 RX10 yX10_clear wsX10_clear) := goodIn_app (goodIn_of _ (by decide +kernel)) ggL_law_X10_clear
set_option maxRecDepth 20000 in
theorem ggL_law_X11_clear : GoodIn wsL_law wsX11_clear := goodIn_r _ [618, 191, 192, 193, 5, 194, 195, 196, 197, 198, 106, 152, 153, 154, 155, 156, 157, 158, 110, 619, 620, 621, 622, 623, 624, 625, 626, 627, 628, 629, 630, 631, 632, 633, 634, 635, 636, 637, 638, 639, 640, 641, 642, 643, 644, 645, 646, 647, 648, 649, 1184, 1185, 1186, 1187, 1188, 1189, 1190, 1191, 1192, 1193, 1194, 1195, 1196, 1197, 1198, 1199, 1200, 1201, 1202] (by decide +kernel) (by decide +kernel)
set_option maxRecDepth 20000 in
theorem gL_law_X11_clear : GoodIn wsL_law (wsV RL 68 RX11 yX11_clear wsX11_clear) := goodIn_app (goodIn_of _ (by decide +kernel)) ggL_law_X11_clear
-- uses gL_law_X11_tell
-- uses gL_law_X10_report
-- uses gL_law_X11_report
-- uses gL_law_X10_clears
-- uses gL_law_X11_clears
-- uses gL_law_X10_type
-- uses gL_law_X11_type
-- uses gL_law_X10_wipe
-- uses gL_law_X11_wipe
-- uses gL_law_X10_read
-- uses gL_law_X11_read
-- uses gL_law_X10_clear
-- uses gL_law_X11_clear