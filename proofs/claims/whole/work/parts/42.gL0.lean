set_option maxRecDepth 20000 in
theorem ggL_law_X10_init : GoodIn wsL_law wsX10_init := goodIn_r _ [8, 9, 10, 11, 12, 13, 14, 15, 16, 17, 18, 19, 20, 21, 22, 23, 24, 25, 26, 27, 28, 29, 30, 31, 32, 33, 34, 35, 36, 37, 38, 39, 40, 41, 42, 43, 44, 45, 46, 47, 48, 49, 50, 51, 52, 53, 54, 55, 56, 57, 58, 59, 60, 61, 62, 63, 64, 65, 66, 67, 68, 69, 70, 71, 72, 73, 74, 75, 76, 77, 78, 79, 80, 81, 82, 83, 84, 85, 86, 87, 88, 89, 90, 91, 92, 93, 94, 95, 96, 97, 98, 99, 100, 101, 102, 103, 104, 105, 106, 107, 108, 109, 110, 111, 112, 113, 1066, 1067, 1068, 1069, 1070, 1071, 1045, 1046, 1047, 1048, 1049, 1050, 1051, 1072, 1073, 1074, 1075, 1076, 1077, 1078, 1079, 1080, 1081, 1082, 1083, 1084, 1085, 1086, 1087, 1088, 1089, 1090, 1091, 1092, 1093, 1094, 1095, 1096, 1097, 1098, 1099, 1100, 1101, 1102, 1103, 1104, 1105, 1106, 1107, 1108, 1109, 1110, 1111, 1112, 1113, 1114, 1115] (by decide +kernel) (by decide +kernel)
set_option maxRecDepth 20000 in
theorem gL_law_X10_init : GoodIn wsL_law (wsX10_init) := ggL_law_X10_init
set_option maxRecDepth 20000 in
theorem ggL_law_X11_init : GoodIn wsL_law wsX11_init := goodIn_r _ [116, 117, 10, 11, 49, 118, 119, 120, 121, 122, 123, 1052, 1053, 1054, 1055, 1056, 1057, 1058, 1059, 1060, 1061, 1062, 1063, 1064, 1065] (by decide +kernel) (by decide +kernel)
set_option maxRecDepth 20000 in
theorem gL_law_X11_init : GoodIn wsL_law (wsX11_init) := ggL_law_X11_init
set_option maxRecDepth 20000 in
theorem ggL_law_X10_station : GoodIn wsL_law wsX10_station := goodIn_r _ [127, 128, 129, 130, 2, 131, 16, 15, 132, 133, 134, 14, 135, 36, 40, 44, 48, 50, 136, 137, 138, 139, 140, 141, 142, 143, 35, 144, 145, 54, 146, 55, 56, 57, 147, 148, 149, 39, 150, 151, 61, 152, 62, 63, 64, 65, 66, 153, 154, 155, 43, 156, 157, 70, 158, 71, 72, 73, 74, 75, 76, 77, 78, 159, 160, 161, 47, 162, 163, 82, 164, 83, 84, 165, 166, 167, 168, 169, 170, 171, 172, 173, 174, 175, 176, 21, 177, 178, 179, 20, 180, 181, 182, 89, 183, 1045, 1046, 1047, 1048, 1049, 1050, 1051, 1066, 1067, 1068, 1069, 1070, 1071, 1090, 1091, 1092, 1093, 1094, 1095, 1096, 1097, 1098, 1099, 1100, 1101, 1102, 1103, 1104, 1105, 1106, 1107, 1108, 1109, 1110, 1111, 1112, 1113, 1114, 1115, 1072, 1073, 1074] (by decide +kernel) (by decide +kernel)
set_option maxRecDepth 20000 in
theorem gL_law_X10_station : GoodIn wsL_law (wsV RL 13 RX10 yX10_station wsX10_station) := goodIn_app (goodIn_of _ (by decide +kernel)) ggL_law_X10_station
set_option maxRecDepth 20000 in
theorem ggL_law_X11_station : GoodIn wsL_law wsX11_station := goodIn_r _ [187, 118, 188, 189, 5, 190, 191, 192, 193, 194, 195, 196, 119, 1052, 1053, 1054, 1055, 1056, 1057, 1058, 1059, 1060, 1061, 1062, 1063, 1064, 1065] (by decide +kernel) (by decide +kernel)
set_option maxRecDepth 20000 in
theorem gL_law_X11_station : GoodIn wsL_law (wsV RL 17 RX11 yX11_station wsX11_station) := goodIn_app (goodIn_of _ (by decide +kernel)) ggL_law_X11_station
set_option maxRecDepth 20000 in
theorem ggL_law_X10_bicycle : GoodIn wsL_law wsX10_bicycle := goodIn_r _ [200, 128, 129, 130, 2, 131, 16, 15, 132, 133, 134, 14, 135, 36, 40, 44, 48, 50, 136, 137, 138, 139, 140, 141, 142, 143, 35, 144, 145, 54, 146, 55, 56, 57, 147, 148, 149, 39, 150, 151, 61, 152, 62, 63, 64, 65, 66, 153, 154, 155, 43, 156, 157, 70, 158, 71, 72, 73, 74, 75, 76, 77, 78, 159, 160, 161, 47, 162, 163, 82, 164, 83, 84, 201, 202, 203, 204, 205, 206, 207, 208, 209, 210, 211, 212, 213, 214, 215, 216, 217, 218, 219, 220, 221, 222, 223, 224, 225, 173, 174, 175, 176, 21, 177, 178, 179, 20, 180, 181, 182, 89, 183, 1045, 1046, 1047, 1048, 1049, 1050, 1051, 1066, 1067, 1068, 1069, 1070, 1071, 1090, 1091, 1092, 1093, 1094, 1095, 1096, 1097, 1098, 1099, 1100, 1101, 1102, 1103, 1104, 1105, 1106, 1107, 1108, 1109, 1110, 1111, 1112, 1113, 1114, 1115, 1072, 1073, 1074] (by decide +kernel) (by decide +kernel)
set_option maxRecDepth 20000 in
theorem gL_law_X10_bicycle : GoodIn wsL_law (wsV RL 18 RX10 yX10_bicycle wsX10_bicycle) := goodIn_app (goodIn_of _ (by decide +kernel)) ggL_law_X10_bicycle
set_option maxRecDepth 20000 in
theorem ggL_law_X11_bicycle : GoodIn wsL_law wsX11_bicycle := goodIn_r _ [229, 118, 230, 231, 232, 5, 233, 234, 235, 236, 237, 238, 239, 240, 241, 242, 243, 244, 245, 246, 247, 248, 249, 250, 251, 252, 253, 254, 255, 256, 191, 192, 193, 194, 195, 196, 119, 257, 258, 259, 260, 1052, 1053, 1054, 1055, 1056, 1057, 1058, 1059, 1060, 1061, 1062, 1063, 1064, 1065] (by decide +kernel) (by decide +kernel)
set_option maxRecDepth 20000 in
theorem gL_law_X11_bicycle : GoodIn wsL_law (wsV RL 22 RX11 yX11_bicycle wsX11_bicycle) := goodIn_app (goodIn_of _ (by decide +kernel)) ggL_law_X11_bicycle
set_option maxRecDepth 20000 in
theorem ggL_law_X10_rider : GoodIn wsL_law wsX10_rider := goodIn_r _ [264, 128, 129, 130, 2, 131, 16, 15, 132, 133, 134, 14, 135, 36, 40, 44, 48, 50, 136, 137, 138, 139, 140, 141, 142, 143, 35, 144, 145, 54, 146, 55, 56, 57, 147, 148, 149, 39, 150, 151, 61, 152, 62, 63, 64, 65, 66, 153, 154, 155, 43, 156, 157, 70, 158, 71, 72, 73, 74, 75, 76, 77, 78, 159, 160, 161, 47, 162, 163, 82, 164, 83, 84, 265, 266, 267, 268, 269, 270, 271, 272, 173, 174, 175, 176, 21, 177, 178, 179, 20, 180, 181, 182, 89, 183, 1045, 1046, 1047, 1048, 1049, 1050, 1051, 1066, 1067, 1068, 1069, 1070, 1071, 1090, 1091, 1092, 1093, 1094, 1095, 1096, 1097, 1098, 1099, 1100, 1101, 1102, 1103, 1104, 1105, 1106, 1107, 1108, 1109, 1110, 1111, 1112, 1113, 1114, 1115, 1072, 1073, 1074] (by decide +kernel) (by decide +kernel)
set_option maxRecDepth 20000 in
theorem gL_law_X10_rider : GoodIn wsL_law (wsV RL 23 RX10 yX10_rider wsX10_rider) := goodIn_app (goodIn_of _ (by decide +kernel)) ggL_law_X10_rider
set_option maxRecDepth 20000 in
theorem ggL_law_X11_rider : GoodIn wsL_law wsX11_rider := goodIn_r _ [276, 118, 191, 192, 193, 5, 194, 195, 196, 119, 1052, 1053, 1054, 1055, 1056, 1057, 1058, 1059, 1060, 1061, 1062, 1063, 1064, 1065] (by decide +kernel) (by decide +kernel)
set_option maxRecDepth 20000 in
theorem gL_law_X11_rider : GoodIn wsL_law (wsV RL 27 RX11 yX11_rider wsX11_rider) := goodIn_app (goodIn_of _ (by decide +kernel)) ggL_law_X11_rider
set_option maxRecDepth 20000 in
theorem ggL_law_X10_van : GoodIn wsL_law wsX10_van := goodIn_r _ [280, 128, 129, 130, 2, 131, 16, 15, 132, 133, 134, 14, 135, 36, 40, 44, 48, 50, 136, 137, 138, 139, 140, 141, 142, 143, 35, 144, 145, 54, 146, 55, 56, 57, 147, 148, 149, 39, 150, 151, 61, 152, 62, 63, 64, 65, 66, 153, 154, 155, 43, 156, 157, 70, 158, 71, 72, 73, 74, 75, 76, 77, 78, 159, 160, 161, 47, 162, 163, 82, 164, 83, 84, 281, 282, 283, 284, 205, 206, 207, 208, 285, 286, 287, 288, 173, 174, 175, 176, 21, 177, 178, 179, 20, 180, 181, 182, 89, 183, 1045, 1046, 1047, 1048, 1049, 1050, 1051, 1066, 1067, 1068, 1069, 1070, 1071, 1090, 1091, 1092, 1093, 1094, 1095, 1096, 1097, 1098, 1099, 1100, 1101, 1102, 1103, 1104, 1105, 1106, 1107, 1108, 1109, 1110, 1111, 1112, 1113, 1114, 1115, 1072, 1073, 1074] (by decide +kernel) (by decide +kernel)
set_option maxRecDepth 20000 in
theorem gL_law_X10_van : GoodIn wsL_law (wsV RL 28 RX10 yX10_van wsX10_van) := goodIn_app (goodIn_of _ (by decide +kernel)) ggL_law_X10_van
set_option maxRecDepth 20000 in
theorem ggL_law_X11_van : GoodIn wsL_law wsX11_van := goodIn_r _ [292, 118, 230, 231, 232, 5, 233, 188, 189, 190, 191, 192, 193, 194, 195, 196, 119, 1052, 1053, 1054, 1055, 1056, 1057, 1058, 1059, 1060, 1061, 1062, 1063, 1064, 1065] (by decide +kernel) (by decide +kernel)
set_option maxRecDepth 20000 in
theorem gL_law_X11_van : GoodIn wsL_law (wsV RL 31 RX11 yX11_van wsX11_van) := goodIn_app (goodIn_of _ (by decide +kernel)) ggL_law_X11_van
set_option maxRecDepth 20000 in
theorem ggL_law_X10_pass : GoodIn wsL_law wsX10_pass := goodIn_r _ [296, 128, 129, 130, 2, 131, 16, 15, 132, 133, 134, 14, 135, 36, 40, 44, 48, 50, 136, 137, 138, 139, 140, 141, 142, 143, 35, 144, 145, 54, 146, 55, 56, 57, 147, 148, 149, 39, 150, 151, 61, 152, 62, 63, 64, 65, 66, 153, 154, 155, 43, 156, 157, 70, 158, 71, 72, 73, 74, 75, 76, 77, 78, 159, 160, 161, 47, 162, 163, 82, 164, 83, 84, 297, 298, 299, 300, 301, 302, 303, 304, 305, 306, 307, 308, 309, 310, 311, 173, 174, 175, 176, 21, 177, 178, 179, 20, 180, 181, 182, 89, 183, 1045, 1046, 1047, 1048, 1049, 1050, 1051, 1066, 1067, 1068, 1069, 1070, 1071, 1090, 1091, 1092, 1093, 1094, 1095, 1096, 1097, 1098, 1099, 1100, 1101, 1102, 1103, 1104, 1105, 1106, 1107, 1108, 1109, 1110, 1111, 1112, 1113, 1114, 1115, 1072, 1073, 1074] (by decide +kernel) (by decide +kernel)
set_option maxRecDepth 20000 in
theorem gL_law_X10_pass : GoodIn wsL_law (wsV RL 32 RX10 yX10_pass wsX10_pass) := goodIn_app (goodIn_of _ (by decide +kernel)) ggL_law_X10_pass
set_option maxRecDepth 20000 in
theorem ggL_law_X11_pass : GoodIn wsL_law wsX11_pass := goodIn_r _ [315, 118, 316, 317, 318, 5, 319, 320, 321, 322, 323, 324, 325, 326, 327, 191, 192, 193, 194, 195, 196, 119, 1052, 1053, 1054, 1055, 1056, 1057, 1058, 1059, 1060, 1061, 1062, 1063, 1064, 1065] (by decide +kernel) (by decide +kernel)
set_option maxRecDepth 20000 in
theorem gL_law_X11_pass : GoodIn wsL_law (wsV RL 35 RX11 yX11_pass wsX11_pass) := goodIn_app (goodIn_of _ (by decide +kernel)) ggL_law_X11_pass
