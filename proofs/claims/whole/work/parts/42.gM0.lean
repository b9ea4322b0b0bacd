set_option maxRecDepth 20000 in
theorem gc_X10_fault_0 : GoodIn wsL_law [.code yX10_fault cX10_fault 2 (some .int)] := goodIn_r _ [867] (by decide +kernel) (by decide +kernel)
set_option maxRecDepth 20000 in
theorem gc_X10_fault_wsX10_fault_r1 : GoodIn wsL_law wsX10_fault_r1 := goodIn_r wsX10_fault_r1 [29, 128, 129, 130, 2, 131, 16, 15, 132, 133, 134, 14, 135, 36, 40, 44, 48, 50, 136, 137, 138, 139, 140, 141] (by decide +kernel) (by decide +kernel)
set_option maxRecDepth 20000 in
theorem gc_X10_fault_wsX10_fault_r2 : GoodIn wsL_law wsX10_fault_r2 := goodIn_r wsX10_fault_r2 [142, 143, 35, 144, 145, 54, 146, 55, 56, 57, 147, 148, 149, 39, 150, 151, 61, 152, 62, 63, 64, 65, 66, 153] (by decide +kernel) (by decide +kernel)
set_option maxRecDepth 20000 in
theorem gc_X10_fault_wsX10_fault_r3 : GoodIn wsL_law wsX10_fault_r3 := goodIn_r wsX10_fault_r3 [154, 155, 43, 156, 157, 70, 158, 71, 72, 73, 74, 75, 76, 77, 78, 159, 160, 161, 47, 162, 163, 82, 164, 83] (by decide +kernel) (by decide +kernel)
set_option maxRecDepth 20000 in
theorem gc_X10_fault_wsX10_fault_r4 : GoodIn wsL_law wsX10_fault_r4 := goodIn_r wsX10_fault_r4 [84, 868, 869, 870, 28, 871, 98, 872, 873, 847, 102, 874, 875, 876, 877, 878, 879, 880, 881, 882, 883, 884, 885, 886] (by decide +kernel) (by decide +kernel)
set_option maxRecDepth 20000 in
theorem gc_X10_fault_wsX10_fault_r5 : GoodIn wsL_law wsX10_fault_r5 := goodIn_r wsX10_fault_r5 [887, 888, 101, 889, 890, 891, 892, 893, 100, 894, 895, 896, 897, 898, 899, 900, 901, 902, 903, 904, 905, 906, 907, 908] (by decide +kernel) (by decide +kernel)
set_option maxRecDepth 20000 in
theorem gc_X10_fault_wsX10_fault_r6 : GoodIn wsL_law wsX10_fault_r6 := goodIn_r wsX10_fault_r6 [909, 910, 911, 912, 913, 914, 915, 916, 917, 918, 919, 920, 921, 922, 923, 924, 925, 926, 927, 928, 929, 930, 931, 932] (by decide +kernel) (by decide +kernel)
set_option maxRecDepth 20000 in
theorem gc_X10_fault_wsX10_fault_r7 : GoodIn wsL_law wsX10_fault_r7 := goodIn_r wsX10_fault_r7 [933, 934, 935, 936, 937, 938, 939, 940, 941, 942, 943, 944, 945, 946, 947, 948, 949, 950, 951, 952, 953, 954, 955, 956] (by decide +kernel) (by decide +kernel)
set_option maxRecDepth 20000 in
theorem gc_X10_fault_wsX10_fault_r8 : GoodIn wsL_law wsX10_fault_r8 := goodIn_r wsX10_fault_r8 [957, 958, 959, 960, 961, 105, 962, 963, 964, 965, 966, 967, 968, 969, 970, 971, 333, 334, 335, 301, 336, 337, 338, 339] (by decide +kernel) (by decide +kernel)
set_option maxRecDepth 20000 in
theorem gc_X10_fault_wsX10_fault_r9 : GoodIn wsL_law wsX10_fault_r9 := goodIn_r wsX10_fault_r9 [340, 341, 308, 309, 310, 311, 205, 206, 207, 208, 342, 343, 344, 345, 346, 347, 348, 349, 350, 351, 352, 353, 354, 355] (by decide +kernel) (by decide +kernel)
set_option maxRecDepth 20000 in
theorem gc_X10_fault_wsX10_fault_r10 : GoodIn wsL_law wsX10_fault_r10 := goodIn_r wsX10_fault_r10 [356, 357, 358, 359, 360, 361, 362, 363, 972, 377, 378, 379, 380, 381, 307, 382, 383, 209, 210, 211, 212, 213, 214, 215] (by decide +kernel) (by decide +kernel)
set_option maxRecDepth 20000 in
theorem gc_X10_fault_wsX10_fault_r11 : GoodIn wsL_law wsX10_fault_r11 := goodIn_r wsX10_fault_r11 [216, 217, 218, 219, 220, 221, 384, 385, 386, 387, 388, 303, 304, 305, 389, 390, 391, 392, 393, 394, 973, 408, 409, 410] (by decide +kernel) (by decide +kernel)
set_option maxRecDepth 20000 in
theorem gc_X10_fault_wsX10_fault_r12 : GoodIn wsL_law wsX10_fault_r12 := goodIn_r wsX10_fault_r12 [974, 420, 421, 422, 423, 424, 425, 426, 427, 428, 975, 446, 447, 448, 449, 450, 451, 452, 453, 454, 455, 456, 457, 458] (by decide +kernel) (by decide +kernel)
set_option maxRecDepth 20000 in
theorem gc_X10_fault_wsX10_fault_r13 : GoodIn wsL_law wsX10_fault_r13 := goodIn_r wsX10_fault_r13 [459, 460, 976, 490, 491, 492, 493, 494, 495, 496, 977, 506, 507, 508, 509, 510, 511, 512, 513, 514, 515, 516, 978, 530] (by decide +kernel) (by decide +kernel)
set_option maxRecDepth 20000 in
theorem gc_X10_fault_wsX10_fault_r14 : GoodIn wsL_law wsX10_fault_r14 := goodIn_r wsX10_fault_r14 [531, 532, 533, 979, 298, 299, 300, 302, 306, 980, 543, 544, 545, 546, 547, 548, 549, 550, 551, 552, 553, 554, 555, 556] (by decide +kernel) (by decide +kernel)
set_option maxRecDepth 20000 in
theorem gc_X10_fault_wsX10_fault_r15 : GoodIn wsL_law wsX10_fault_r15 := goodIn_r wsX10_fault_r15 [557, 558, 559, 560, 561, 562, 563, 981, 982, 983, 984] (by decide +kernel) (by decide +kernel)
set_option maxRecDepth 20000 in
theorem gc_X10_fault_wsX100 : GoodIn wsL_law wsX100 := goodIn_r wsX100 [1045, 1046, 1047, 1048, 1049, 1050, 1051] (by decide +kernel) (by decide +kernel)
set_option maxRecDepth 20000 in
theorem gc_X10_fault_wsX50 : GoodIn wsL_law wsX50 := goodIn_r wsX50 [1066, 1067, 1068, 1069, 1070, 1071] (by decide +kernel) (by decide +kernel)
set_option maxRecDepth 20000 in
theorem gc_X10_fault_wsX60 : GoodIn wsL_law wsX60 := goodIn_r wsX60 [1090, 1091, 1092, 1093, 1094] (by decide +kernel) (by decide +kernel)
set_option maxRecDepth 20000 in
theorem gc_X10_fault_wsX10 : GoodIn wsL_law wsX10 := goodIn_r wsX10 [1095, 1096, 1097, 1098, 1099, 1100, 1101] (by decide +kernel) (by decide +kernel)
