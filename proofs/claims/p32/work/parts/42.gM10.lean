set_option maxRecDepth 20000 in
theorem gc_isSo_L_areRiders_wsL_areRiders_r3 : GoodIn wsL_isSo wsL_areRiders_r3 := goodIn_r wsL_areRiders_r3 [148, 149, 3, 150, 151, 152, 153, 154, 35, 155, 156, 12, 157, 158, 159, 160, 92, 93, 65, 94, 67, 161, 162, 163] (by decide +kernel) (by decide +kernel)
set_option maxRecDepth 20000 in
theorem gc_isSo_L_areRiders_wsL_areRiders_r4 : GoodIn wsL_isSo wsL_areRiders_r4 := goodIn_r wsL_areRiders_r4 [20, 164, 22, 27, 28, 165, 83, 84, 51, 85, 80, 86, 87, 88, 90, 91, 95, 96, 97, 98, 99, 100, 101, 102] (by decide +kernel) (by decide +kernel)
set_option maxRecDepth 20000 in
theorem gc_isSo_L_areRiders_wsL_areRiders_r5 : GoodIn wsL_isSo wsL_areRiders_r5 := goodIn_r wsL_areRiders_r5 [103, 166, 167, 168, 169, 170, 171, 172, 173, 174, 175, 176, 177, 178, 179, 180, 63, 64, 66, 68, 181, 54, 55, 56] (by decide +kernel) (by decide +kernel)
set_option maxRecDepth 20000 in
theorem gc_isSo_L_areRiders_wsL_areRiders_r6 : GoodIn wsL_isSo wsL_areRiders_r6 := goodIn_r wsL_areRiders_r6 [182, 30, 31, 32, 33, 34, 36, 37, 39, 40, 41, 43, 44, 45, 46, 47, 48, 49, 50, 52, 53, 57, 58, 59] (by decide +kernel) (by decide +kernel)
set_option maxRecDepth 20000 in
theorem gc_isSo_L_areRiders_wsL_areRiders_r7 : GoodIn wsL_isSo wsL_areRiders_r7 := goodIn_r wsL_areRiders_r7 [60, 61, 62, 69, 70, 71, 73, 75, 76, 77, 78, 79, 81, 82] (by decide +kernel) (by decide +kernel)
set_option maxRecDepth 20000 in
theorem gc_isSo_L_areRiders_wsX100 : GoodIn wsL_isSo wsX100 := goodIn_r wsX100 [202, 203, 204, 205, 206, 207, 208] (by decide +kernel) (by decide +kernel)
set_option maxRecDepth 20000 in
theorem gc_isSo_L_areRiders_wsX50 : GoodIn wsL_isSo wsX50 := goodIn_r wsX50 [209, 210, 211, 212, 213, 214] (by decide +kernel) (by decide +kernel)
set_option maxRecDepth 20000 in
theorem gc_isSo_L_areRiders_wsX40 : GoodIn wsL_isSo wsX40 := goodIn_r wsX40 [227, 228, 229, 230, 231, 232, 233, 234, 235, 236] (by decide +kernel) (by decide +kernel)
set_option maxRecDepth 20000 in
theorem gc_isSo_L_areRiders_wsX60 : GoodIn wsL_isSo wsX60 := goodIn_r wsX60 [222, 223, 224, 225, 226] (by decide +kernel) (by decide +kernel)
set_option maxRecDepth 20000 in
theorem gc_isSo_L_areRiders_wsX10 : GoodIn wsL_isSo wsX10 := goodIn_r wsX10 [215, 216, 217, 218, 219, 220, 221] (by decide +kernel) (by decide +kernel)
set_option maxRecDepth 20000 in
theorem gc_isSo_L_areRiders_wsX20 : GoodIn wsL_isSo wsX20 := goodIn_r wsX20 [253, 254, 255, 256, 257, 258] (by decide +kernel) (by decide +kernel)
set_option maxRecDepth 20000 in
theorem gc_isSo_L_areRiders_wsX80 : GoodIn wsL_isSo wsX80 := goodIn_r wsX80 [237, 238, 239, 240] (by decide +kernel) (by decide +kernel)
set_option maxRecDepth 20000 in
theorem gc_isSo_L_areRiders_wsX30 : GoodIn wsL_isSo wsX30 := goodIn_r wsX30 [241, 242, 243] (by decide +kernel) (by decide +kernel)
set_option maxRecDepth 20000 in
theorem gc_isSo_L_areRiders_wsX70 : GoodIn wsL_isSo wsX70 := goodIn_r wsX70 [244, 245, 246, 247, 248, 249, 250, 251, 252] (by decide +kernel) (by decide +kernel)
set_option maxRecDepth 20000 in
theorem gc_law_X10_init_0 : GoodIn wsL_law [.code yX10_init cX10_init 1 none] := goodIn_r _ [7] (by decide +kernel) (by decide +kernel)
set_option maxRecDepth 20000 in
theorem gc_law_X10_init_wsX10_init_r1 : GoodIn wsL_law wsX10_init_r1 := goodIn_r wsX10_init_r1 [8, 9, 10, 11, 12, 13, 14, 15, 16, 17, 18, 19, 20, 21, 22, 23, 24, 25, 26, 27, 28, 29, 30, 31] (by decide +kernel) (by decide +kernel)
set_option maxRecDepth 20000 in
theorem gc_law_X10_init_wsX10_init_r2 : GoodIn wsL_law wsX10_init_r2 := goodIn_r wsX10_init_r2 [32, 33, 34, 35, 36, 37, 38, 39, 40, 41, 42, 43, 44, 45, 46, 47, 3, 48, 49, 50, 51, 52, 53, 54] (by decide +kernel) (by decide +kernel)
set_option maxRecDepth 20000 in
theorem gc_law_X10_init_wsX10_init_r3 : GoodIn wsL_law wsX10_init_r3 := goodIn_r wsX10_init_r3 [55, 56, 57, 58, 59, 60, 61, 62, 63, 64, 65, 66, 67, 68, 69, 70, 71, 72, 73, 74, 75, 76, 77, 78] (by decide +kernel) (by decide +kernel)
set_option maxRecDepth 20000 in
theorem gc_law_X10_init_wsX10_init_r4 : GoodIn wsL_law wsX10_init_r4 := goodIn_r wsX10_init_r4 [79, 80, 81, 82, 83, 84, 85, 86, 87, 88, 89, 90, 91, 92, 93, 94, 95, 96, 97, 98, 99, 100, 101, 102] (by decide +kernel) (by decide +kernel)
set_option maxRecDepth 20000 in
theorem gc_law_X10_init_wsX10_init_r5 : GoodIn wsL_law wsX10_init_r5 := goodIn_r wsX10_init_r5 [103, 104, 105, 106, 107, 108, 109, 110, 111] (by decide +kernel) (by decide +kernel)
