set_option maxRecDepth 20000 in
theorem gc_X10_play_wsX10_play_r7 : GoodIn wsL_law wsX10_play_r7 := goodIn_r wsX10_play_r7 [932, 933, 934, 935, 936, 937, 938, 939, 940, 941, 942, 943, 944, 945, 946, 947, 948, 949, 950, 951, 952, 953, 954, 955] (by decide +kernel) (by decide +kernel)
set_option maxRecDepth 20000 in
theorem gc_X10_play_wsX10_play_r8 : GoodIn wsL_law wsX10_play_r8 := goodIn_r wsX10_play_r8 [956, 957, 958, 959, 960, 961, 105, 962, 963, 964, 965, 966, 967, 968, 969, 970, 971, 333, 334, 335, 301, 336, 337, 338] (by decide +kernel) (by decide +kernel)
set_option maxRecDepth 20000 in
theorem gc_X10_play_wsX10_play_r9 : GoodIn wsL_law wsX10_play_r9 := goodIn_r wsX10_play_r9 [339, 340, 341, 308, 309, 310, 311, 205, 206, 207, 208, 342, 343, 344, 345, 346, 347, 348, 349, 350, 351, 352, 353, 354] (by decide +kernel) (by decide +kernel)
set_option maxRecDepth 20000 in
theorem gc_X10_play_wsX10_play_r10 : GoodIn wsL_law wsX10_play_r10 := goodIn_r wsX10_play_r10 [355, 356, 357, 358, 359, 360, 361, 362, 363, 972, 377, 378, 379, 380, 381, 307, 382, 383, 209, 210, 211, 212, 213, 214] (by decide +kernel) (by decide +kernel)
set_option maxRecDepth 20000 in
theorem gc_X10_play_wsX10_play_r11 : GoodIn wsL_law wsX10_play_r11 := goodIn_r wsX10_play_r11 [215, 216, 217, 218, 219, 220, 221, 384, 385, 386, 387, 388, 303, 304, 305, 389, 390, 391, 392, 393, 394, 973, 408, 409] (by decide +kernel) (by decide +kernel)
set_option maxRecDepth 20000 in
theorem gc_X10_play_wsX10_play_r12 : GoodIn wsL_law wsX10_play_r12 := goodIn_r wsX10_play_r12 [410, 974, 420, 421, 422, 423, 424, 425, 426, 427, 428, 975, 446, 447, 448, 449, 450, 451, 452, 453, 454, 455, 456, 457] (by decide +kernel) (by decide +kernel)
set_option maxRecDepth 20000 in
theorem gc_X10_play_wsX10_play_r13 : GoodIn wsL_law wsX10_play_r13 := goodIn_r wsX10_play_r13 [458, 459, 460, 976, 490, 491, 492, 493, 494, 495, 496, 977, 506, 507, 508, 509, 510, 511, 512, 513, 514, 515, 516, 978] (by decide +kernel) (by decide +kernel)
set_option maxRecDepth 20000 in
theorem gc_X10_play_wsX10_play_r14 : GoodIn wsL_law wsX10_play_r14 := goodIn_r wsX10_play_r14 [530, 531, 532, 533, 979, 298, 299, 300, 302, 306, 980, 543, 544, 545, 546, 547, 548, 549, 550, 551, 552, 553, 554, 555] (by decide +kernel) (by decide +kernel)
set_option maxRecDepth 20000 in
theorem gc_X10_play_wsX10_play_r15 : GoodIn wsL_law wsX10_play_r15 := goodIn_r wsX10_play_r15 [556, 557, 558, 559, 560, 561, 562, 563, 1040, 173, 174, 175, 176, 21, 177, 178, 179, 20, 180, 181, 182, 89, 183] (by decide +kernel) (by decide +kernel)
set_option maxRecDepth 20000 in
theorem gc_X10_play_wsX100 : GoodIn wsL_law wsX100 := goodIn_r wsX100 [1045, 1046, 1047, 1048, 1049, 1050, 1051] (by decide +kernel) (by decide +kernel)
set_option maxRecDepth 20000 in
theorem gc_X10_play_wsX70 : GoodIn wsL_law wsX70 := goodIn_r wsX70 [1081, 1082, 1083, 1084, 1085, 1086, 1087, 1088, 1089] (by decide +kernel) (by decide +kernel)
set_option maxRecDepth 20000 in
theorem gc_X10_play_wsX50 : GoodIn wsL_law wsX50 := goodIn_r wsX50 [1066, 1067, 1068, 1069, 1070, 1071] (by decide +kernel) (by decide +kernel)
set_option maxRecDepth 20000 in
theorem gc_X10_play_wsX60 : GoodIn wsL_law wsX60 := goodIn_r wsX60 [1090, 1091, 1092, 1093, 1094] (by decide +kernel) (by decide +kernel)
set_option maxRecDepth 20000 in
theorem gc_X10_play_wsX10 : GoodIn wsL_law wsX10 := goodIn_r wsX10 [1095, 1096, 1097, 1098, 1099, 1100, 1101] (by decide +kernel) (by decide +kernel)
set_option maxRecDepth 20000 in
theorem gc_X10_play_wsX40 : GoodIn wsL_law wsX40 := goodIn_r wsX40 [1102, 1103, 1104, 1105, 1106, 1107, 1108, 1109, 1110, 1111] (by decide +kernel) (by decide +kernel)
set_option maxRecDepth 20000 in
theorem gc_X10_play_wsX80 : GoodIn wsL_law wsX80 := goodIn_r wsX80 [1112, 1113, 1114, 1115] (by decide +kernel) (by decide +kernel)
set_option maxRecDepth 20000 in
theorem gc_X10_play_wsX30 : GoodIn wsL_law wsX30 := goodIn_r wsX30 [1072, 1073, 1074] (by decide +kernel) (by decide +kernel)
set_option maxRecDepth 20000 in
theorem gc_X11_play_0 : GoodIn wsL_law [.code yX11_play cX11_play 2 (some .int)] := goodIn_r _ [1044] (by decide +kernel) (by decide +kernel)
set_option maxRecDepth 20000 in
theorem gc_X11_play_wsX11_play_r1 : GoodIn wsL_law wsX11_play_r1 := goodIn_r wsX11_play_r1 [118, 120, 995, 816, 817, 5, 818, 990, 991, 992, 993, 195, 994, 745, 989, 996, 997, 998, 999, 1000, 122, 1001, 1002, 1003] (by decide +kernel) (by decide +kernel)
set_option maxRecDepth 20000 in
theorem gc_X11_play_wsX11_play_r2 : GoodIn wsL_law wsX11_play_r2 := goodIn_r wsX11_play_r2 [1004, 1005, 1006, 1007, 1008, 1009, 1010, 1011, 1012, 188, 189, 190, 1013, 1014, 1015, 1016, 123, 1017, 1018, 1019, 1020, 1021, 1022, 1023] (by decide +kernel) (by decide +kernel)
