set_option maxRecDepth 20000 in
theorem gc_X10_fault_wsX40 : GoodIn wsL_law wsX40 := goodIn_r wsX40 [1102, 1103, 1104, 1105, 1106, 1107, 1108, 1109, 1110, 1111] (by decide +kernel) (by decide +kernel)
set_option maxRecDepth 20000 in
theorem gc_X10_fault_wsX80 : GoodIn wsL_law wsX80 := goodIn_r wsX80 [1112, 1113, 1114, 1115] (by decide +kernel) (by decide +kernel)
set_option maxRecDepth 20000 in
theorem gc_X10_fault_wsX70 : GoodIn wsL_law wsX70 := goodIn_r wsX70 [1081, 1082, 1083, 1084, 1085, 1086, 1087, 1088, 1089] (by decide +kernel) (by decide +kernel)
set_option maxRecDepth 20000 in
theorem gc_X11_fault_0 : GoodIn wsL_law [.code yX11_fault cX11_fault 3 (some .int)] := goodIn_r _ [988] (by decide +kernel) (by decide +kernel)
set_option maxRecDepth 20000 in
theorem gc_X11_fault_wsX11_fault_r1 : GoodIn wsL_law wsX11_fault_r1 := goodIn_r wsX11_fault_r1 [118, 120, 989, 188, 189, 5, 190, 816, 817, 818, 990, 991, 992, 993, 195, 994, 995, 745, 996, 997, 998, 999, 1000, 122] (by decide +kernel) (by decide +kernel)
set_option maxRecDepth 20000 in
theorem gc_X11_fault_wsX11_fault_r2 : GoodIn wsL_law wsX11_fault_r2 := goodIn_r wsX11_fault_r2 [1001, 1002, 1003, 1004, 1005, 1006, 1007, 1008, 1009, 1010, 1011, 1012, 1013, 1014, 1015, 1016, 123, 1017, 1018, 1019, 1020, 1021, 1022, 1023] (by decide +kernel) (by decide +kernel)
set_option maxRecDepth 20000 in
theorem gc_X11_fault_wsX11_fault_r3 : GoodIn wsL_law wsX11_fault_r3 := goodIn_r wsX11_fault_r3 [1024, 1025, 365, 366, 367, 316, 317, 318, 319, 230, 231, 232, 233, 246, 247, 248, 249, 368, 369, 370, 371, 324, 325, 326] (by decide +kernel) (by decide +kernel)
set_option maxRecDepth 20000 in
theorem gc_X11_fault_wsX11_fault_r4 : GoodIn wsL_law wsX11_fault_r4 := goodIn_r wsX11_fault_r4 [327, 191, 192, 193, 194, 196, 119, 257, 258, 259, 260, 320, 321, 322, 323, 1026, 396, 397, 398, 234, 235, 236, 237, 238] (by decide +kernel) (by decide +kernel)
set_option maxRecDepth 20000 in
theorem gc_X11_fault_wsX11_fault_r5 : GoodIn wsL_law wsX11_fault_r5 := goodIn_r wsX11_fault_r5 [239, 240, 241, 242, 243, 244, 245, 250, 251, 252, 253, 254, 255, 256, 399, 400, 401, 402, 1027, 412, 413, 414, 1028, 430] (by decide +kernel) (by decide +kernel)
set_option maxRecDepth 20000 in
theorem gc_X11_fault_wsX11_fault_r6 : GoodIn wsL_law wsX11_fault_r6 := goodIn_r wsX11_fault_r6 [431, 432, 433, 434, 435, 436, 437, 438, 439, 440, 1029, 462, 463, 464, 465, 466, 467, 468, 469, 470, 471, 472, 473, 474] (by decide +kernel) (by decide +kernel)
set_option maxRecDepth 20000 in
theorem gc_X11_fault_wsX11_fault_r7 : GoodIn wsL_law wsX11_fault_r7 := goodIn_r wsX11_fault_r7 [475, 476, 477, 478, 479, 480, 481, 482, 483, 484, 1030, 498, 499, 500, 1031, 518, 519, 520, 521, 522, 523, 524, 1032, 535] (by decide +kernel) (by decide +kernel)
set_option maxRecDepth 20000 in
theorem gc_X11_fault_wsX11_fault_r8 : GoodIn wsL_law wsX11_fault_r8 := goodIn_r wsX11_fault_r8 [536, 537, 1033, 313, 314, 315, 1034, 565, 566, 567, 568, 569, 570, 571, 572, 573, 574, 575] (by decide +kernel) (by decide +kernel)
set_option maxRecDepth 20000 in
theorem gc_X11_fault_wsX110 : GoodIn wsL_law wsX110 := goodIn_r wsX110 [1052, 1053, 1054, 1055, 1056, 1057, 1058, 1059, 1060, 1061, 1062, 1063, 1064, 1065] (by decide +kernel) (by decide +kernel)
set_option maxRecDepth 20000 in
theorem gc_X10_play_0 : GoodIn wsL_law [.code yX10_play cX10_play 1 (some .int)] := goodIn_r _ [1038] (by decide +kernel) (by decide +kernel)
set_option maxRecDepth 20000 in
theorem gc_X10_play_wsX10_play_r1 : GoodIn wsL_law wsX10_play_r1 := goodIn_r wsX10_play_r1 [29, 1039, 128, 129, 130, 2, 131, 16, 15, 132, 133, 134, 14, 135, 36, 40, 44, 48, 50, 136, 137, 138, 139, 140] (by decide +kernel) (by decide +kernel)
set_option maxRecDepth 20000 in
theorem gc_X10_play_wsX10_play_r2 : GoodIn wsL_law wsX10_play_r2 := goodIn_r wsX10_play_r2 [141, 142, 143, 35, 144, 145, 54, 146, 55, 56, 57, 147, 148, 149, 39, 150, 151, 61, 152, 62, 63, 64, 65, 66] (by decide +kernel) (by decide +kernel)
set_option maxRecDepth 20000 in
theorem gc_X10_play_wsX10_play_r3 : GoodIn wsL_law wsX10_play_r3 := goodIn_r wsX10_play_r3 [153, 154, 155, 43, 156, 157, 70, 158, 71, 72, 73, 74, 75, 76, 77, 78, 159, 160, 161, 47, 162, 163, 82, 164] (by decide +kernel) (by decide +kernel)
set_option maxRecDepth 20000 in
theorem gc_X10_play_wsX10_play_r4 : GoodIn wsL_law wsX10_play_r4 := goodIn_r wsX10_play_r4 [83, 84, 868, 869, 870, 28, 871, 98, 872, 873, 847, 102, 874, 875, 876, 877, 878, 879, 880, 881, 882, 883, 884, 885] (by decide +kernel) (by decide +kernel)
set_option maxRecDepth 20000 in
theorem gc_X10_play_wsX10_play_r5 : GoodIn wsL_law wsX10_play_r5 := goodIn_r wsX10_play_r5 [886, 887, 888, 101, 889, 890, 891, 892, 893, 100, 894, 895, 896, 897, 898, 899, 900, 901, 902, 903, 904, 905, 906, 907] (by decide +kernel) (by decide +kernel)
set_option maxRecDepth 20000 in
theorem gc_X10_play_wsX10_play_r6 : GoodIn wsL_law wsX10_play_r6 := goodIn_r wsX10_play_r6 [908, 909, 910, 911, 912, 913, 914, 915, 916, 917, 918, 919, 920, 921, 922, 923, 924, 925, 926, 927, 928, 929, 930, 931] (by decide +kernel) (by decide +kernel)
