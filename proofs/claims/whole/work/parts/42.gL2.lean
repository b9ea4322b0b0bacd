set_option maxRecDepth 20000 in
theorem ggL_law_X10_go : GoodIn wsL_law wsX10_go := goodIn_r _ [504, 128, 129, 130, 2, 131, 16, 15, 132, 133, 134, 14, 135, 36, 40, 44, 48, 50, 136, 137, 138, 139, 140, 141, 142, 143, 35, 144, 145, 54, 146, 55, 56, 57, 147, 148, 149, 39, 150, 151, 61, 152, 62, 63, 64, 65, 66, 153, 154, 155, 43, 156, 157, 70, 158, 71, 72, 73, 74, 75, 76, 77, 78, 159, 160, 161, 47, 162, 163, 82, 164, 83, 84, 505, 506, 507, 508, 449, 460, 451, 452, 453, 454, 205, 206, 207, 208, 456, 457, 458, 459, 509, 510, 511, 512, 513, 514, 304, 515, 516, 173, 174, 175, 176, 21, 177, 178, 179, 20, 180, 181, 182, 89, 183, 1045, 1046, 1047, 1048, 1049, 1050, 1051, 1066, 1067, 1068, 1069, 1070, 1071, 1090, 1091, 1092, 1093, 1094, 1095, 1096, 1097, 1098, 1099, 1100, 1101, 1102, 1103, 1104, 1105, 1106, 1107, 1108, 1109, 1110, 1111, 1112, 1113, 1114, 1115, 1072, 1073, 1074] (by decide +kernel) (by decide +kernel)
set_option maxRecDepth 20000 in
theorem gL_law_X10_go : GoodIn wsL_law (wsV RL 60 RX10 yX10_go wsX10_go) := goodIn_app (goodIn_of _ (by decide +kernel)) ggL_law_X10_go
set_option maxRecDepth 20000 in
theorem ggL_law_X11_go : GoodIn wsL_law wsX11_go := goodIn_r _ [520, 118, 465, 466, 467, 5, 468, 230, 231, 232, 233, 469, 470, 471, 472, 473, 474, 475, 476, 191, 192, 193, 194, 195, 196, 119, 521, 522, 523, 524, 253, 254, 255, 256, 1052, 1053, 1054, 1055, 1056, 1057, 1058, 1059, 1060, 1061, 1062, 1063, 1064, 1065] (by decide +kernel) (by decide +kernel)
set_option maxRecDepth 20000 in
theorem gL_law_X11_go : GoodIn wsL_law (wsV RL 63 RX11 yX11_go wsX11_go) := goodIn_app (goodIn_of _ (by decide +kernel)) ggL_law_X11_go
set_option maxRecDepth 20000 in
theorem ggL_law_X10_mend : GoodIn wsL_law wsX10_mend := goodIn_r _ [528, 128, 129, 130, 2, 131, 16, 15, 132, 133, 134, 14, 135, 36, 40, 44, 48, 50, 136, 137, 138, 139, 140, 141, 142, 143, 35, 144, 145, 54, 146, 55, 56, 57, 147, 148, 149, 39, 150, 151, 61, 152, 62, 63, 64, 65, 66, 153, 154, 155, 43, 156, 157, 70, 158, 71, 72, 73, 74, 75, 76, 77, 78, 159, 160, 161, 47, 162, 163, 82, 164, 83, 84, 529, 530, 531, 532, 449, 533, 451, 452, 453, 454, 359, 351, 352, 353, 493, 494, 495, 496, 456, 457, 458, 459, 460, 455, 347, 348, 349, 350, 360, 361, 362, 363, 173, 174, 175, 176, 21, 177, 178, 179, 20, 180, 181, 182, 89, 183, 1045, 1046, 1047, 1048, 1049, 1050, 1051, 1066, 1067, 1068, 1069, 1070, 1071, 1090, 1091, 1092, 1093, 1094, 1095, 1096, 1097, 1098, 1099, 1100, 1101, 1102, 1103, 1104, 1105, 1106, 1107, 1108, 1109, 1110, 1111, 1112, 1113, 1114, 1115, 1072, 1073, 1074] (by decide +kernel) (by decide +kernel)
set_option maxRecDepth 20000 in
theorem gL_law_X10_mend : GoodIn wsL_law (wsV RL 64 RX10 yX10_mend wsX10_mend) := goodIn_app (goodIn_of _ (by decide +kernel)) ggL_law_X10_mend
set_option maxRecDepth 20000 in
theorem ggL_law_X11_mend : GoodIn wsL_law wsX11_mend := goodIn_r _ [537, 118, 465, 466, 467, 5, 468, 433, 434, 435, 436, 469, 470, 471, 472, 473, 474, 475, 476, 481, 482, 483, 484, 246, 247, 248, 249, 191, 192, 193, 194, 195, 196, 119, 257, 258, 259, 260, 1052, 1053, 1054, 1055, 1056, 1057, 1058, 1059, 1060, 1061, 1062, 1063, 1064, 1065] (by decide +kernel) (by decide +kernel)
set_option maxRecDepth 20000 in
theorem gL_law_X11_mend : GoodIn wsL_law (wsV RL 67 RX11 yX11_mend wsX11_mend) := goodIn_app (goodIn_of _ (by decide +kernel)) ggL_law_X11_mend
set_option maxRecDepth 20000 in
theorem ggL_law_X10_pause : GoodIn wsL_law wsX10_pause := goodIn_r _ [541, 128, 129, 130, 2, 131, 16, 15, 132, 133, 134, 14, 135, 36, 40, 44, 48, 50, 136, 137, 138, 139, 140, 141, 142, 143, 35, 144, 145, 54, 146, 55, 56, 57, 147, 148, 149, 39, 150, 151, 61, 152, 62, 63, 64, 65, 66, 153, 154, 155, 43, 156, 157, 70, 158, 71, 72, 73, 74, 75, 76, 77, 78, 159, 160, 161, 47, 162, 163, 82, 164, 83, 84, 542, 543, 544, 545, 546, 547, 548, 549, 550, 551, 552, 553, 554, 350, 351, 352, 353, 555, 556, 557, 558, 559, 560, 561, 562, 563, 213, 218, 219, 220, 221, 360, 361, 362, 363, 173, 174, 175, 176, 21, 177, 178, 179, 20, 180, 181, 182, 89, 183, 1045, 1046, 1047, 1048, 1049, 1050, 1051, 1066, 1067, 1068, 1069, 1070, 1071, 1090, 1091, 1092, 1093, 1094, 1095, 1096, 1097, 1098, 1099, 1100, 1101, 1102, 1103, 1104, 1105, 1106, 1107, 1108, 1109, 1110, 1111, 1112, 1113, 1114, 1115, 1072, 1073, 1074] (by decide +kernel) (by decide +kernel)
set_option maxRecDepth 20000 in
theorem gL_law_X10_pause : GoodIn wsL_law (wsV RL 68 RX10 yX10_pause wsX10_pause) := goodIn_app (goodIn_of _ (by decide +kernel)) ggL_law_X10_pause
set_option maxRecDepth 20000 in
theorem ggL_law_X11_pause : GoodIn wsL_law wsX11_pause := goodIn_r _ [567, 118, 188, 189, 5, 190, 191, 192, 193, 194, 195, 196, 119, 568, 569, 570, 571, 246, 247, 248, 249, 572, 573, 574, 575, 234, 235, 236, 237, 238, 239, 240, 241, 242, 243, 244, 245, 250, 251, 252, 253, 254, 255, 256, 257, 258, 259, 260, 1052, 1053, 1054, 1055, 1056, 1057, 1058, 1059, 1060, 1061, 1062, 1063, 1064, 1065] (by decide +kernel) (by decide +kernel)
set_option maxRecDepth 20000 in
theorem gL_law_X11_pause : GoodIn wsL_law (wsV RL 71 RX11 yX11_pause wsX11_pause) := goodIn_app (goodIn_of _ (by decide +kernel)) ggL_law_X11_pause
set_option maxRecDepth 20000 in
theorem ggL_law_X10_set : GoodIn wsL_law wsX10_set := goodIn_r _ [579, 128, 129, 130, 2, 131, 16, 15, 132, 133, 134, 14, 135, 36, 40, 44, 48, 50, 136, 137, 138, 139, 140, 141, 142, 143, 35, 144, 145, 54, 146, 55, 56, 57, 147, 148, 149, 39, 150, 151, 61, 152, 62, 63, 64, 65, 66, 153, 154, 155, 43, 156, 157, 70, 158, 71, 72, 73, 74, 75, 76, 77, 78, 159, 160, 161, 47, 162, 163, 82, 164, 83, 84, 580, 581, 582, 583, 584, 585, 586, 587, 173, 174, 175, 176, 21, 177, 178, 179, 20, 180, 181, 182, 89, 183, 1045, 1046, 1047, 1048, 1049, 1050, 1051, 1066, 1067, 1068, 1069, 1070, 1071, 1090, 1091, 1092, 1093, 1094, 1095, 1096, 1097, 1098, 1099, 1100, 1101, 1102, 1103, 1104, 1105, 1106, 1107, 1108, 1109, 1110, 1111, 1112, 1113, 1114, 1115, 1072, 1073, 1074] (by decide +kernel) (by decide +kernel)
set_option maxRecDepth 20000 in
theorem gL_law_X10_set : GoodIn wsL_law (wsV RL 72 RX10 yX10_set wsX10_set) := goodIn_app (goodIn_of _ (by decide +kernel)) ggL_law_X10_set
set_option maxRecDepth 20000 in
theorem ggL_law_X11_set : GoodIn wsL_law wsX11_set := goodIn_r _ [591, 118, 188, 189, 5, 190, 191, 192, 193, 194, 195, 196, 119, 1052, 1053, 1054, 1055, 1056, 1057, 1058, 1059, 1060, 1061, 1062, 1063, 1064, 1065] (by decide +kernel) (by decide +kernel)
set_option maxRecDepth 20000 in
theorem gL_law_X11_set : GoodIn wsL_law (wsV RL 75 RX11 yX11_set wsX11_set) := goodIn_app (goodIn_of _ (by decide +kernel)) ggL_law_X11_set
set_option maxRecDepth 20000 in
theorem ggL_law_X10_stationOf : GoodIn wsL_law wsX10_stationOf := goodIn_r _ [595, 15, 596, 597, 598, 599, 25, 600, 601, 602, 206, 207, 35, 208, 145, 603, 604, 605, 39, 606, 151, 61, 62, 607, 608, 609, 14, 610, 36, 213, 611, 514, 304, 515, 205, 214, 215, 216, 217, 40, 218, 219, 220, 221, 612, 613, 614, 24, 615, 616, 93, 617, 618, 619, 620, 621, 622, 623, 624, 625, 626, 627, 55, 628, 629, 630, 631, 632, 1045, 1046, 1047, 1048, 1049, 1050, 1051, 1066, 1067, 1068, 1069, 1070, 1071, 1090, 1091, 1092, 1093, 1094, 1095, 1096, 1097, 1098, 1099, 1100, 1101, 1075, 1076, 1077, 1078, 1079, 1080] (by decide +kernel) (by decide +kernel)
set_option maxRecDepth 20000 in
theorem gL_law_X10_stationOf : GoodIn wsL_law (wsV RL 76 RX10 yX10_stationOf wsX10_stationOf) := goodIn_app (goodIn_of _ (by decide +kernel)) ggL_law_X10_stationOf
set_option maxRecDepth 20000 in
theorem ggL_law_X11_stationOf : GoodIn wsL_law wsX11_stationOf := goodIn_r _ [636, 230, 231, 232, 5, 233, 118, 188, 189, 190, 253, 254, 255, 256, 242, 243, 244, 245, 246, 247, 248, 249, 637, 638, 639, 640, 238, 239, 240, 241, 250, 251, 252, 641, 642, 643, 644, 645, 646, 647, 648, 649, 650, 651, 652, 653, 654, 655, 1052, 1053, 1054, 1055, 1056, 1057, 1058, 1059, 1060, 1061, 1062, 1063, 1064, 1065] (by decide +kernel) (by decide +kernel)
set_option maxRecDepth 20000 in
theorem gL_law_X11_stationOf : GoodIn wsL_law (wsV RL 79 RX11 yX11_stationOf wsX11_stationOf) := goodIn_app (goodIn_of _ (by decide +kernel)) ggL_law_X11_stationOf
set_option maxRecDepth 20000 in
theorem ggL_law_X10_bicycleOf : GoodIn wsL_law wsX10_bicycleOf := goodIn_r _ [659, 15, 599, 660, 661, 662, 663, 664, 351, 352, 39, 353, 151, 665, 666, 667, 668, 61, 62, 350, 1045, 1046, 1047, 1048, 1049, 1050, 1051, 1066, 1067, 1068, 1069, 1070, 1071, 1095, 1096, 1097, 1098, 1099, 1100, 1101] (by decide +kernel) (by decide +kernel)
set_option maxRecDepth 20000 in
theorem gL_law_X10_bicycleOf : GoodIn wsL_law (wsV RL 80 RX10 yX10_bicycleOf wsX10_bicycleOf) := goodIn_app (goodIn_of _ (by decide +kernel)) ggL_law_X10_bicycleOf
set_option maxRecDepth 20000 in
theorem ggL_law_X11_bicycleOf : GoodIn wsL_law wsX11_bicycleOf := goodIn_r _ [672, 433, 434, 435, 5, 436, 118, 188, 189, 190, 246, 247, 248, 249, 1052, 1053, 1054, 1055, 1056, 1057, 1058, 1059, 1060, 1061, 1062, 1063, 1064, 1065] (by decide +kernel) (by decide +kernel)
set_option maxRecDepth 20000 in
theorem gL_law_X11_bicycleOf : GoodIn wsL_law (wsV RL 83 RX11 yX11_bicycleOf wsX11_bicycleOf) := goodIn_app (goodIn_of _ (by decide +kernel)) ggL_law_X11_bicycleOf
