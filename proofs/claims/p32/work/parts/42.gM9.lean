set_option maxRecDepth 20000 in
theorem gc_acts_L_pauses_wsX40 : GoodIn wsL_acts wsX40 := goodIn_r wsX40 [405, 406, 407, 408, 409, 410, 411, 412, 413, 414] (by decide +kernel) (by decide +kernel)
set_option maxRecDepth 20000 in
theorem gc_acts_L_pauses_wsX80 : GoodIn wsL_acts wsX80 := goodIn_r wsX80 [415, 416, 417, 418] (by decide +kernel) (by decide +kernel)
set_option maxRecDepth 20000 in
theorem gc_acts_L_pauses_wsX30 : GoodIn wsL_acts wsX30 := goodIn_r wsX30 [419, 420, 421] (by decide +kernel) (by decide +kernel)
set_option maxRecDepth 20000 in
theorem gc_isSo_L_areBicycles_0 : GoodIn wsL_isSo [.code yL_areBicycles cL_areBicycles 8 (some .boolean)] := goodIn_r _ [4] (by decide +kernel) (by decide +kernel)
set_option maxRecDepth 20000 in
theorem gc_isSo_L_areBicycles_wsL_areBicycles_r1 : GoodIn wsL_isSo wsL_areBicycles_r1 := goodIn_r wsL_areBicycles_r1 [5, 6, 7, 8, 9, 10, 11, 12, 13, 14, 15, 16, 17, 18, 19, 20, 21, 22, 23, 24, 25, 26, 27, 28] (by decide +kernel) (by decide +kernel)
set_option maxRecDepth 20000 in
theorem gc_isSo_L_areBicycles_wsL_areBicycles_r2 : GoodIn wsL_isSo wsL_areBicycles_r2 := goodIn_r wsL_areBicycles_r2 [29, 30, 31, 32, 33, 34, 35, 36, 37, 38, 39, 40, 41, 42, 43, 44, 45, 46, 47, 48, 49, 50, 51, 52] (by decide +kernel) (by decide +kernel)
set_option maxRecDepth 20000 in
theorem gc_isSo_L_areBicycles_wsL_areBicycles_r3 : GoodIn wsL_isSo wsL_areBicycles_r3 := goodIn_r wsL_areBicycles_r3 [53, 54, 55, 56, 57, 58, 59, 60, 61, 62, 63, 64, 65, 66, 67, 68, 69, 70, 71, 72, 73, 74, 75, 76] (by decide +kernel) (by decide +kernel)
set_option maxRecDepth 20000 in
theorem gc_isSo_L_areBicycles_wsL_areBicycles_r4 : GoodIn wsL_isSo wsL_areBicycles_r4 := goodIn_r wsL_areBicycles_r4 [77, 78, 79, 80, 81, 82, 83, 84, 85, 86, 87, 88, 89, 90, 91, 92, 93, 94, 95, 96, 97, 98, 99, 100] (by decide +kernel) (by decide +kernel)
set_option maxRecDepth 20000 in
theorem gc_isSo_L_areBicycles_wsL_areBicycles_r5 : GoodIn wsL_isSo wsL_areBicycles_r5 := goodIn_r wsL_areBicycles_r5 [101, 102, 103] (by decide +kernel) (by decide +kernel)
set_option maxRecDepth 20000 in
theorem gc_isSo_L_areBicycles_wsX100 : GoodIn wsL_isSo wsX100 := goodIn_r wsX100 [202, 203, 204, 205, 206, 207, 208] (by decide +kernel) (by decide +kernel)
set_option maxRecDepth 20000 in
theorem gc_isSo_L_areBicycles_wsX50 : GoodIn wsL_isSo wsX50 := goodIn_r wsX50 [209, 210, 211, 212, 213, 214] (by decide +kernel) (by decide +kernel)
set_option maxRecDepth 20000 in
theorem gc_isSo_L_areBicycles_wsX10 : GoodIn wsL_isSo wsX10 := goodIn_r wsX10 [215, 216, 217, 218, 219, 220, 221] (by decide +kernel) (by decide +kernel)
set_option maxRecDepth 20000 in
theorem gc_isSo_L_areBicycles_wsX60 : GoodIn wsL_isSo wsX60 := goodIn_r wsX60 [222, 223, 224, 225, 226] (by decide +kernel) (by decide +kernel)
set_option maxRecDepth 20000 in
theorem gc_isSo_L_areBicycles_wsX40 : GoodIn wsL_isSo wsX40 := goodIn_r wsX40 [227, 228, 229, 230, 231, 232, 233, 234, 235, 236] (by decide +kernel) (by decide +kernel)
set_option maxRecDepth 20000 in
theorem gc_isSo_L_areBicycles_wsX80 : GoodIn wsL_isSo wsX80 := goodIn_r wsX80 [237, 238, 239, 240] (by decide +kernel) (by decide +kernel)
set_option maxRecDepth 20000 in
theorem gc_isSo_L_areBicycles_wsX30 : GoodIn wsL_isSo wsX30 := goodIn_r wsX30 [241, 242, 243] (by decide +kernel) (by decide +kernel)
set_option maxRecDepth 20000 in
theorem gc_isSo_L_areBicycles_wsX70 : GoodIn wsL_isSo wsX70 := goodIn_r wsX70 [244, 245, 246, 247, 248, 249, 250, 251, 252] (by decide +kernel) (by decide +kernel)
set_option maxRecDepth 20000 in
theorem gc_isSo_L_areRiders_0 : GoodIn wsL_isSo [.code yL_areRiders cL_areRiders 9 (some .boolean)] := goodIn_r _ [106] (by decide +kernel) (by decide +kernel)
set_option maxRecDepth 20000 in
theorem gc_isSo_L_areRiders_wsL_areRiders_r1 : GoodIn wsL_isSo wsL_areRiders_r1 := goodIn_r wsL_areRiders_r1 [107, 108, 109, 9, 110, 11, 38, 111, 112, 42, 113, 114, 89, 115, 116, 117, 118, 119, 120, 72, 121, 74, 122, 123] (by decide +kernel) (by decide +kernel)
set_option maxRecDepth 20000 in
theorem gc_isSo_L_areRiders_wsL_areRiders_r2 : GoodIn wsL_isSo wsL_areRiders_r2 := goodIn_r wsL_areRiders_r2 [124, 125, 126, 127, 128, 129, 130, 131, 132, 133, 134, 135, 136, 137, 138, 139, 140, 141, 142, 143, 144, 145, 146, 147] (by decide +kernel) (by decide +kernel)
