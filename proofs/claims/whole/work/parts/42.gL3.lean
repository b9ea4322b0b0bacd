set_option maxRecDepth 20000 in
theorem ggL_law_X10_riderOf : GoodIn wsL_law wsX10_riderOf := goodIn_r _ [676, 15, 677, 678, 679, 680, 681, 303, 304, 305, 682, 683, 684, 309, 310, 43, 311, 157, 685, 355, 356, 357, 74, 358, 686, 687, 688, 2, 689, 690, 691, 692, 391, 392, 393, 75, 693, 385, 386, 387, 76, 388, 77, 389, 390, 1045, 1046, 1047, 1048, 1049, 1050, 1051, 1066, 1067, 1068, 1069, 1070, 1071, 1102, 1103, 1104, 1105, 1106, 1107, 1108, 1109, 1110, 1111] (by decide +kernel) (by decide +kernel)
set_option maxRecDepth 20000 in
theorem gL_law_X10_riderOf : GoodIn wsL_law (wsV RL 84 RX10 yX10_riderOf wsX10_riderOf) := goodIn_app (goodIn_of _ (by decide +kernel)) ggL_law_X10_riderOf
set_option maxRecDepth 20000 in
theorem ggL_law_X11_riderOf : GoodIn wsL_law wsX11_riderOf := goodIn_r _ [697, 118, 316, 317, 318, 5, 319, 188, 189, 190, 324, 325, 326, 327, 320, 321, 322, 323, 368, 369, 370, 371, 399, 400, 401, 402, 1052, 1053, 1054, 1055, 1056, 1057, 1058, 1059, 1060, 1061, 1062, 1063, 1064, 1065] (by decide +kernel) (by decide +kernel)
set_option maxRecDepth 20000 in
theorem gL_law_X11_riderOf : GoodIn wsL_law (wsV RL 87 RX11 yX11_riderOf wsX11_riderOf) := goodIn_app (goodIn_of _ (by decide +kernel)) ggL_law_X11_riderOf
set_option maxRecDepth 20000 in
theorem ggL_law_X10_vanOf : GoodIn wsL_law wsX10_vanOf := goodIn_r _ [701, 15, 702, 703, 704, 599, 680, 705, 452, 453, 47, 454, 163, 603, 604, 605, 39, 606, 151, 61, 62, 706, 707, 708, 709, 84, 710, 303, 304, 305, 711, 1045, 1046, 1047, 1048, 1049, 1050, 1051, 1066, 1067, 1068, 1069, 1070, 1071, 1112, 1113, 1114, 1115, 1095, 1096, 1097, 1098, 1099, 1100, 1101] (by decide +kernel) (by decide +kernel)
set_option maxRecDepth 20000 in
theorem gL_law_X10_vanOf : GoodIn wsL_law (wsV RL 88 RX10 yX10_vanOf wsX10_vanOf) := goodIn_app (goodIn_of _ (by decide +kernel)) ggL_law_X10_vanOf
set_option maxRecDepth 20000 in
theorem ggL_law_X11_vanOf : GoodIn wsL_law wsX11_vanOf := goodIn_r _ [715, 118, 465, 466, 467, 5, 468, 188, 189, 190, 473, 474, 475, 476, 242, 243, 244, 245, 246, 247, 248, 249, 469, 470, 471, 472, 1052, 1053, 1054, 1055, 1056, 1057, 1058, 1059, 1060, 1061, 1062, 1063, 1064, 1065] (by decide +kernel) (by decide +kernel)
set_option maxRecDepth 20000 in
theorem gL_law_X11_vanOf : GoodIn wsL_law (wsV RL 91 RX11 yX11_vanOf wsX11_vanOf) := goodIn_app (goodIn_of _ (by decide +kernel)) ggL_law_X11_vanOf
set_option maxRecDepth 20000 in
theorem ggL_law_X10_count : GoodIn wsL_law wsX10_count := goodIn_r _ [719, 15, 720, 596, 721, 599, 722, 677, 723, 702, 724, 680, 21, 725, 29, 726, 727, 728, 585, 586, 14, 587, 729, 629, 630, 39, 631, 151, 61, 730, 426, 427, 428, 64, 731, 625, 626, 35, 627, 145, 55, 732, 733, 734, 43, 735, 157, 70, 736, 737, 738, 739, 36, 563, 740, 608, 609, 610, 213, 611, 514, 304, 515, 205, 206, 207, 208, 214, 215, 216, 217, 40, 218, 219, 220, 221, 62, 1045, 1046, 1047, 1048, 1049, 1050, 1051, 1066, 1067, 1068, 1069, 1070, 1071, 1090, 1091, 1092, 1093, 1094, 1095, 1096, 1097, 1098, 1099, 1100, 1101, 1102, 1103, 1104, 1105, 1106, 1107, 1108, 1109, 1110, 1111, 1112, 1113, 1114, 1115, 1072, 1073, 1074, 1081, 1082, 1083, 1084, 1085, 1086, 1087, 1088, 1089] (by decide +kernel) (by decide +kernel)
set_option maxRecDepth 20000 in
theorem gL_law_X10_count : GoodIn wsL_law (wsV RL 92 RX10 yX10_count wsX10_count) := goodIn_app (goodIn_of _ (by decide +kernel)) ggL_law_X10_count
set_option maxRecDepth 20000 in
theorem ggL_law_X11_count : GoodIn wsL_law wsX11_count := goodIn_r _ [744, 118, 196, 745, 746, 648, 649, 650, 5, 651, 246, 247, 248, 249, 437, 438, 439, 440, 652, 653, 654, 655, 253, 254, 255, 256, 747, 748, 749, 750, 324, 325, 326, 327, 751, 752, 753, 754, 637, 638, 639, 640, 238, 239, 240, 241, 242, 243, 244, 245, 250, 251, 252, 641, 642, 643, 188, 189, 190, 1052, 1053, 1054, 1055, 1056, 1057, 1058, 1059, 1060, 1061, 1062, 1063, 1064, 1065] (by decide +kernel) (by decide +kernel)
set_option maxRecDepth 20000 in
theorem gL_law_X11_count : GoodIn wsL_law (wsV RL 95 RX11 yX11_count wsX11_count) := goodIn_app (goodIn_of _ (by decide +kernel)) ggL_law_X11_count
set_option maxRecDepth 20000 in
theorem ggL_law_X10_move : GoodIn wsL_law wsX10_move := goodIn_r _ [758, 25, 15, 759, 760, 761, 762, 763, 764, 24, 765, 766, 767, 768, 769, 616, 622, 770, 215, 216, 14, 217, 40, 218, 219, 220, 39, 221, 151, 61, 62, 771, 210, 211, 212, 36, 213, 205, 206, 207, 35, 208, 145, 214, 772, 773, 774, 775, 776, 777, 778, 779, 623, 780, 514, 304, 515, 632, 781, 608, 609, 610, 611, 782, 510, 511, 512, 54, 513, 516, 1045, 1046, 1047, 1048, 1049, 1050, 1051, 1075, 1076, 1077, 1078, 1079, 1080, 1066, 1067, 1068, 1069, 1070, 1071, 1090, 1091, 1092, 1093, 1094, 1095, 1096, 1097, 1098, 1099, 1100, 1101] (by decide +kernel) (by decide +kernel)
set_option maxRecDepth 20000 in
theorem gL_law_X10_move : GoodIn wsL_law (wsV RL 96 RX10 yX10_move wsX10_move) := goodIn_app (goodIn_of _ (by decide +kernel)) ggL_law_X10_move
set_option maxRecDepth 20000 in
theorem ggL_law_X11_move : GoodIn wsL_law wsX11_move := goodIn_r _ [786, 118, 188, 189, 5, 190, 787, 788, 789, 790, 238, 239, 240, 241, 242, 243, 244, 245, 246, 247, 248, 249, 250, 251, 252, 253, 254, 255, 256, 641, 642, 643, 521, 522, 523, 524, 1052, 1053, 1054, 1055, 1056, 1057, 1058, 1059, 1060, 1061, 1062, 1063, 1064, 1065] (by decide +kernel) (by decide +kernel)
set_option maxRecDepth 20000 in
theorem gL_law_X11_move : GoodIn wsL_law (wsV RL 99 RX11 yX11_move wsX11_move) := goodIn_app (goodIn_of _ (by decide +kernel)) ggL_law_X11_move
set_option maxRecDepth 20000 in
theorem ggL_law_X10_evening : GoodIn wsL_law wsX10_evening := goodIn_r _ [794, 15, 596, 721, 25, 795, 796, 797, 24, 798, 616, 622, 94, 93, 780, 514, 304, 515, 617, 618, 619, 620, 621, 623, 624, 625, 626, 35, 627, 145, 55, 628, 629, 630, 39, 631, 151, 61, 770, 215, 216, 14, 217, 40, 218, 219, 220, 221, 62, 799, 800, 801, 802, 803, 1045, 1046, 1047, 1048, 1049, 1050, 1051, 1066, 1067, 1068, 1069, 1070, 1071, 1090, 1091, 1092, 1093, 1094, 1075, 1076, 1077, 1078, 1079, 1080, 1095, 1096, 1097, 1098, 1099, 1100, 1101] (by decide +kernel) (by decide +kernel)
set_option maxRecDepth 20000 in
theorem gL_law_X10_evening : GoodIn wsL_law (wsV RL 100 RX10 yX10_evening wsX10_evening) := goodIn_app (goodIn_of _ (by decide +kernel)) ggL_law_X10_evening
set_option maxRecDepth 20000 in
theorem ggL_law_X11_evening : GoodIn wsL_law wsX11_evening := goodIn_r _ [807, 118, 253, 254, 255, 5, 256, 238, 239, 240, 241, 242, 243, 244, 245, 246, 247, 248, 249, 250, 251, 252, 644, 645, 646, 647, 648, 649, 650, 651, 652, 653, 654, 655, 1052, 1053, 1054, 1055, 1056, 1057, 1058, 1059, 1060, 1061, 1062, 1063, 1064, 1065] (by decide +kernel) (by decide +kernel)
set_option maxRecDepth 20000 in
theorem gL_law_X11_evening : GoodIn wsL_law (wsV RL 103 RX11 yX11_evening wsX11_evening) := goodIn_app (goodIn_of _ (by decide +kernel)) ggL_law_X11_evening
set_option maxRecDepth 20000 in
theorem ggL_law_X10_keep : GoodIn wsL_law wsX10_keep := goodIn_r _ [811, 17, 15, 727, 680, 132, 133, 134, 14, 135, 36, 40, 44, 48, 50, 136, 137, 138, 139, 140, 141, 142, 143, 35, 144, 145, 54, 146, 55, 56, 57, 147, 148, 149, 39, 150, 151, 61, 152, 62, 63, 64, 65, 66, 153, 154, 155, 43, 156, 157, 70, 158, 71, 72, 73, 74, 75, 76, 77, 78, 159, 160, 161, 47, 162, 163, 82, 164, 83, 84, 1045, 1046, 1047, 1048, 1049, 1050, 1051, 1066, 1067, 1068, 1069, 1070, 1071, 1090, 1091, 1092, 1093, 1094, 1095, 1096, 1097, 1098, 1099, 1100, 1101, 1102, 1103, 1104, 1105, 1106, 1107, 1108, 1109, 1110, 1111, 1112, 1113, 1114, 1115] (by decide +kernel) (by decide +kernel)
set_option maxRecDepth 20000 in
theorem gL_law_X10_keep : GoodIn wsL_law (wsV RL 104 RX10 yX10_keep wsX10_keep) := goodIn_app (goodIn_of _ (by decide +kernel)) ggL_law_X10_keep
set_option maxRecDepth 20000 in
theorem ggL_law_X11_keep : GoodIn wsL_law wsX11_keep := goodIn_r _ [815, 118, 121, 746, 816, 817, 5, 818, 1052, 1053, 1054, 1055, 1056, 1057, 1058, 1059, 1060, 1061, 1062, 1063, 1064, 1065] (by decide +kernel) (by decide +kernel)
set_option maxRecDepth 20000 in
theorem gL_law_X11_keep : GoodIn wsL_law (wsV RL 107 RX11 yX11_keep wsX11_keep) := goodIn_app (goodIn_of _ (by decide +kernel)) ggL_law_X11_keep
