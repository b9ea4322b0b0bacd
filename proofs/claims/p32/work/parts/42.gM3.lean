set_option maxRecDepth 20000 in
theorem gc_acts_L_pauses_wsX40 : GoodIn wsL_acts wsX40 := goodIn_r wsX40 [405, 406, 407, 408, 409, 410, 411, 412, 413, 414] (by rfl) (by decide +kernel)
set_option maxRecDepth 20000 in
theorem gc_acts_L_pauses_wsX80 : GoodIn wsL_acts wsX80 := goodIn_r wsX80 [415, 416, 417, 418] (by rfl) (by decide +kernel)
set_option maxRecDepth 20000 in
theorem gc_acts_L_pauses_wsX30 : GoodIn wsL_acts wsX30 := goodIn_r wsX30 [419, 420, 421] (by rfl) (by decide +kernel)
set_option maxRecDepth 20000 in
theorem gc_isSo_L_areBicycles_0 : GoodIn wsL_isSo [.code yL_areBicycles cL_areBicycles 8 (some .boolean)] := goodIn_r _ [4] (by rfl) (by decide +kernel)
set_option maxRecDepth 20000 in
theorem gc_isSo_L_areBicycles_wsL_areBicycles_r1 : GoodIn wsL_isSo wsL_areBicycles_r1 := goodIn_r wsL_areBicycles_r1 [5, 6, 7, 8, 9, 10, 11, 12, 13, 14, 15, 16, 17, 18, 19, 20, 21, 22, 23, 24, 25, 26, 27, 28] (by rfl) (by decide +kernel)
set_option maxRecDepth 20000 in
theorem gc_isSo_L_areBicycles_wsL_areBicycles_r2 : GoodIn wsL_isSo wsL_areBicycles_r2 := goodIn_r wsL_areBicycles_r2 [29, 30, 31, 32, 33, 34, 35, 36, 37, 38, 39, 40, 41, 42, 43, 44, 45, 46, 47, 48, 49, 50, 51, 52] (by rfl) (by decide +kernel)
set_option maxRecDepth 20000 in
theorem gc_isSo_L_areBicycles_wsL_areBicycles_r3 : GoodIn wsL_isSo wsL_areBicycles_r3 := goodIn_r wsL_areBicycles_r3 [53, 54, 55, 56, 57, 58, 59, 60, 61, 62, 63, 64, 65, 66, 67, 68, 69, 70, 71, 72, 73, 74, 75, 76] (by rfl) (by decide +kernel)
set_option maxRecDepth 20000 in
theorem gc_isSo_L_areBicycles_wsL_areBicycles_r4 : GoodIn wsL_isSo wsL_areBicycles_r4 := goodIn_r wsL_areBicycles_r4 [77, 78, 79, 80, 81, 82, 83, 84, 85, 86, 87, 88, 89, 90, 91, 92, 93, 94, 95, 96, 97, 98, 99, 100] (by rfl) (by decide +kernel)
set_option maxRecDepth 20000 in
theorem gc_isSo_L_areBicycles_wsL_areBicycles_r5 : GoodIn wsL_isSo wsL_areBicycles_r5 := goodIn_r wsL_areBicycles_r5 [101, 102, 103] (by rfl) (by decide +kernel)
set_option maxRecDepth 20000 in
theorem gc_isSo_L_areBicycles_wsX100 : GoodIn wsL_isSo wsX100 := goodIn_r wsX100 [202, 203, 204, 205, 206, 207, 208] (by rfl) (by decide +kernel)
set_option maxRecDepth 20000 in
theorem gc_isSo_L_areBicycles_wsX50 : GoodIn wsL_isSo wsX50 := goodIn_r wsX50 [209, 210, 211, 212, 213, 214] (by rfl) (by decide +kernel)
set_option maxRecDepth 20000 in
theorem gc_isSo_L_areBicycles_wsX10 : GoodIn wsL_isSo wsX10 := goodIn_r wsX10 [215, 216, 217, 218, 219, 220, 221] (by rfl) (by decide +kernel)
set_option maxRecDepth 20000 in
theorem gc_isSo_L_areBicycles_wsX60 : GoodIn wsL_isSo wsX60 := goodIn_r wsX60 [222, 223, 224, 225, 226] (by rfl) (by decide +kernel)
set_option maxRecDepth 20000 in
theorem gc_isSo_L_areBicycles_wsX40 : GoodIn wsL_isSo wsX40 := goodIn_r wsX40 [227, 228, 229, 230, 231, 232, 233, 234, 235, 236] (by rfl) (by decide +kernel)
set_option maxRecDepth 20000 in
theorem gc_isSo_L_areBicycles_wsX80 : GoodIn wsL_isSo wsX80 := goodIn_r wsX80 [237, 238, 239, 240] (by rfl) (by decide +kernel)
set_option maxRecDepth 20000 in
theorem gc_isSo_L_areBicycles_wsX30 : GoodIn wsL_isSo wsX30 := goodIn_r wsX30 [241, 242, 243] (by rfl) (by decide +kernel)
set_option maxRecDepth 20000 in
theorem gc_isSo_L_areBicycles_wsX70 : GoodIn wsL_isSo wsX70 := goodIn_r wsX70 [244, 245, 246, 247, 248, 249, 250, 251, 252] (by rfl) (by decide +kernel)
set_option maxRecDepth 20000 in
theorem gc_isSo_L_areRiders_0 : GoodIn wsL_isSo [.code yL_areRiders cL_areRiders 9 (some .boolean)] := goodIn_r _ [106] (by rfl) (by decide +kernel)
set_option maxRecDepth 20000 in
theorem gc_isSo_L_areRiders_wsL_areRiders_r1 : GoodIn wsL_isSo wsL_areRiders_r1 := goodIn_r wsL_areRiders_r1 [107, 108, 109, 9, 110, 11, 38, 111, 112, 42, 113, 114, 89, 115, 116, 117, 118, 119, 120, 72, 121, 74, 122, 123] (by rfl) (by decide +kernel)
set_option maxRecDepth 20000 in
theorem gc_isSo_L_areRiders_wsL_areRiders_r2 : GoodIn wsL_isSo wsL_areRiders_r2 := goodIn_r wsL_areRiders_r2 [124, 125, 126, 127, 128, 129, 130, 131, 132, 133, 134, 135, 136, 137, 138, 139, 140, 141, 142, 143, 144, 145, 146, 147] (by rfl) (by decide +kernel)
set_option maxRecDepth 20000 in
theorem gc_isSo_L_areRiders_wsL_areRiders_r3 : GoodIn wsL_isSo wsL_areRiders_r3 := goodIn_r wsL_areRiders_r3 [148, 149, 3, 150, 151, 152, 153, 154, 35, 155, 156, 12, 157, 158, 159, 160, 92, 93, 65, 94, 67, 161, 162, 163] (by rfl) (by decide +kernel)
set_option maxRecDepth 20000 in
theorem gc_isSo_L_areRiders_wsL_areRiders_r4 : GoodIn wsL_isSo wsL_areRiders_r4 := goodIn_r wsL_areRiders_r4 [20, 164, 22, 27, 28, 165, 83, 84, 51, 85, 80, 86, 87, 88, 90, 91, 95, 96, 97, 98, 99, 100, 101, 102] (by rfl) (by decide +kernel)
set_option maxRecDepth 20000 in
theorem gc_isSo_L_areRiders_wsL_areRiders_r5 : GoodIn wsL_isSo wsL_areRiders_r5 := goodIn_r wsL_areRiders_r5 [103, 166, 167, 168, 169, 170, 171, 172, 173, 174, 175, 176, 177, 178, 179, 180, 63, 64, 66, 68, 181, 54, 55, 56] (by rfl) (by decide +kernel)
set_option maxRecDepth 20000 in
theorem gc_isSo_L_areRiders_wsL_areRiders_r6 : GoodIn wsL_isSo wsL_areRiders_r6 := goodIn_r wsL_areRiders_r6 [182, 30, 31, 32, 33, 34, 36, 37, 39, 40, 41, 43, 44, 45, 46, 47, 48, 49, 50, 52, 53, 57, 58, 59] (by rfl) (by decide +kernel)
set_option maxRecDepth 20000 in
theorem gc_isSo_L_areRiders_wsL_areRiders_r7 : GoodIn wsL_isSo wsL_areRiders_r7 := goodIn_r wsL_areRiders_r7 [60, 61, 62, 69, 70, 71, 73, 75, 76, 77, 78, 79, 81, 82] (by rfl) (by decide +kernel)
set_option maxRecDepth 20000 in
theorem gc_isSo_L_areRiders_wsX100 : GoodIn wsL_isSo wsX100 := goodIn_r wsX100 [202, 203, 204, 205, 206, 207, 208] (by rfl) (by decide +kernel)
set_option maxRecDepth 20000 in
theorem gc_isSo_L_areRiders_wsX50 : GoodIn wsL_isSo wsX50 := goodIn_r wsX50 [209, 210, 211, 212, 213, 214] (by rfl) (by decide +kernel)
set_option maxRecDepth 20000 in
theorem gc_isSo_L_areRiders_wsX40 : GoodIn wsL_isSo wsX40 := goodIn_r wsX40 [227, 228, 229, 230, 231, 232, 233, 234, 235, 236] (by rfl) (by decide +kernel)
set_option maxRecDepth 20000 in
theorem gc_isSo_L_areRiders_wsX60 : GoodIn wsL_isSo wsX60 := goodIn_r wsX60 [222, 223, 224, 225, 226] (by rfl) (by decide +kernel)
set_option maxRecDepth 20000 in
theorem gc_isSo_L_areRiders_wsX10 : GoodIn wsL_isSo wsX10 := goodIn_r wsX10 [215, 216, 217, 218, 219, 220, 221] (by rfl) (by decide +kernel)
set_option maxRecDepth 20000 in
theorem gc_isSo_L_areRiders_wsX20 : GoodIn wsL_isSo wsX20 := goodIn_r wsX20 [253, 254, 255, 256, 257, 258] (by rfl) (by decide +kernel)
set_option maxRecDepth 20000 in
theorem gc_isSo_L_areRiders_wsX80 : GoodIn wsL_isSo wsX80 := goodIn_r wsX80 [237, 238, 239, 240] (by rfl) (by decide +kernel)
set_option maxRecDepth 20000 in
theorem gc_isSo_L_areRiders_wsX30 : GoodIn wsL_isSo wsX30 := goodIn_r wsX30 [241, 242, 243] (by rfl) (by decide +kernel)
set_option maxRecDepth 20000 in
theorem gc_isSo_L_areRiders_wsX70 : GoodIn wsL_isSo wsX70 := goodIn_r wsX70 [244, 245, 246, 247, 248, 249, 250, 251, 252] (by rfl) (by decide +kernel)
set_option maxRecDepth 20000 in
theorem gc_law_X10_init_0 : GoodIn wsL_law [.code yX10_init cX10_init 1 none] := goodIn_r _ [7] (by rfl) (by decide +kernel)
set_option maxRecDepth 20000 in
theorem gc_law_X10_init_wsX10_init_r1 : GoodIn wsL_law wsX10_init_r1 := goodIn_r wsX10_init_r1 [8, 9, 10, 11, 12, 13, 14, 15, 16, 17, 18, 19, 20, 21, 22, 23, 24, 25, 26, 27, 28, 29, 30, 31] (by rfl) (by decide +kernel)
set_option maxRecDepth 20000 in
theorem gc_law_X10_init_wsX10_init_r2 : GoodIn wsL_law wsX10_init_r2 := goodIn_r wsX10_init_r2 [32, 33, 34, 35, 36, 37, 38, 39, 40, 41, 42, 43, 44, 45, 46, 47, 3, 48, 49, 50, 51, 52, 53, 54] (by rfl) (by decide +kernel)
set_option maxRecDepth 20000 in
theorem gc_law_X10_init_wsX10_init_r3 : GoodIn wsL_law wsX10_init_r3 := goodIn_r wsX10_init_r3 [55, 56, 57, 58, 59, 60, 61, 62, 63, 64, 65, 66, 67, 68, 69, 70, 71, 72, 73, 74, 75, 76, 77, 78] (by rfl) (by decide +kernel)
set_option maxRecDepth 20000 in
theorem gc_law_X10_init_wsX10_init_r4 : GoodIn wsL_law wsX10_init_r4 := goodIn_r wsX10_init_r4 [79, 80, 81, 82, 83, 84, 85, 86, 87, 88, 89, 90, 91, 92, 93, 94, 95, 96, 97, 98, 99, 100, 101, 102] (by rfl) (by decide +kernel)
set_option maxRecDepth 20000 in
theorem gc_law_X10_init_wsX10_init_r5 : GoodIn wsL_law wsX10_init_r5 := goodIn_r wsX10_init_r5 [103, 104, 105, 106, 107, 108, 109, 110, 111] (by rfl) (by decide +kernel)
set_option maxRecDepth 20000 in
theorem gc_law_X10_init_wsX50 : GoodIn wsL_law wsX50 := goodIn_r wsX50 [589, 590, 591, 592, 593, 594] (by rfl) (by decide +kernel)
set_option maxRecDepth 20000 in
theorem gc_law_X10_init_wsX100 : GoodIn wsL_law wsX100 := goodIn_r wsX100 [582, 583, 584, 585, 586, 587, 588] (by rfl) (by decide +kernel)
set_option maxRecDepth 20000 in
theorem gc_law_X10_init_wsX30 : GoodIn wsL_law wsX30 := goodIn_r wsX30 [595, 596, 597] (by rfl) (by decide +kernel)
set_option maxRecDepth 20000 in
theorem gc_law_X10_init_wsX20 : GoodIn wsL_law wsX20 := goodIn_r wsX20 [598, 599, 600, 601, 602, 603] (by rfl) (by decide +kernel)
set_option maxRecDepth 20000 in
theorem gc_law_X10_init_wsX70 : GoodIn wsL_law wsX70 := goodIn_r wsX70 [604, 605, 606, 607, 608, 609, 610, 611, 612] (by rfl) (by decide +kernel)
set_option maxRecDepth 20000 in
theorem gc_law_X10_init_wsX60 : GoodIn wsL_law wsX60 := goodIn_r wsX60 [613, 614, 615, 616, 617] (by rfl) (by decide +kernel)
set_option maxRecDepth 20000 in
theorem gc_law_X10_init_wsX10 : GoodIn wsL_law wsX10 := goodIn_r wsX10 [618, 619, 620, 621, 622, 623, 624] (by rfl) (by decide +kernel)
set_option maxRecDepth 20000 in
theorem gc_law_X10_init_wsX40 : GoodIn wsL_law wsX40 := goodIn_r wsX40 [625, 626, 627, 628, 629, 630, 631, 632, 633, 634] (by rfl) (by decide +kernel)
set_option maxRecDepth 20000 in
theorem gc_law_X10_init_wsX80 : GoodIn wsL_law wsX80 := goodIn_r wsX80 [635, 636, 637, 638] (by rfl) (by decide +kernel)
set_option maxRecDepth 20000 in
theorem gc_law_L_isSo_0 : GoodIn wsL_law [.code yL_isSo cL_isSo 13 (some .boolean)] := goodIn_r _ [115] (by rfl) (by decide +kernel)
set_option maxRecDepth 20000 in
theorem gc_law_L_isSo_wsL_isSo_r1 : GoodIn wsL_law wsL_isSo_r1 := goodIn_r wsL_isSo_r1 [116, 117, 114, 118, 3, 119, 120, 121, 2, 122, 14, 123, 124, 125, 126, 127, 128, 129, 130, 38, 131, 132, 133, 134] (by rfl) (by decide +kernel)
set_option maxRecDepth 20000 in
theorem gc_law_L_isSo_wsL_isSo_r2 : GoodIn wsL_law wsL_isSo_r2 := goodIn_r wsL_isSo_r2 [135, 136, 59, 60, 137, 138, 139, 140, 141, 142, 143, 144, 145, 146, 147, 148, 149, 150, 20, 151, 28, 152, 153, 154] (by rfl) (by decide +kernel)
set_option maxRecDepth 20000 in
theorem gc_law_L_isSo_wsL_isSo_r3 : GoodIn wsL_law wsL_isSo_r3 := goodIn_r wsL_isSo_r3 [155, 156, 13, 157, 158, 159, 160, 161, 162, 163, 164, 165, 62, 166, 167, 168, 34, 169, 170, 53, 171, 172, 173, 42] (by rfl) (by decide +kernel)
set_option maxRecDepth 20000 in
theorem gc_law_L_isSo_wsL_isSo_r4 : GoodIn wsL_law wsL_isSo_r4 := goodIn_r wsL_isSo_r4 [174, 175, 68, 176, 177, 178, 179, 35, 180, 181, 182, 183, 184, 185, 186, 187, 188, 189, 190, 191, 192, 193, 194, 195] (by rfl) (by decide +kernel)
set_option maxRecDepth 20000 in
theorem gc_law_L_isSo_wsL_isSo_r5 : GoodIn wsL_law wsL_isSo_r5 := goodIn_r wsL_isSo_r5 [196, 197, 39, 198, 199, 200, 201, 202, 203, 204, 205, 206, 207, 208, 209, 210, 211, 212, 213, 214, 215, 216, 217, 218] (by rfl) (by decide +kernel)
set_option maxRecDepth 20000 in
theorem gc_law_L_isSo_wsL_isSo_r6 : GoodIn wsL_law wsL_isSo_r6 := goodIn_r wsL_isSo_r6 [219, 220, 221, 222, 223, 72, 224, 225, 226, 227, 228, 229, 230, 231, 232, 233, 234, 73, 235, 236, 237, 238, 74, 239] (by rfl) (by decide +kernel)
set_option maxRecDepth 20000 in
theorem gc_law_L_isSo_wsL_isSo_r7 : GoodIn wsL_law wsL_isSo_r7 := goodIn_r wsL_isSo_r7 [75, 240, 241, 242, 243, 244, 245, 246, 247, 248, 249, 250, 24, 251, 252, 253, 254, 255, 256, 257, 258, 259, 260, 261] (by rfl) (by decide +kernel)
set_option maxRecDepth 20000 in
theorem gc_law_L_isSo_wsL_isSo_r8 : GoodIn wsL_law wsL_isSo_r8 := goodIn_r wsL_isSo_r8 [23, 262, 263, 91, 264, 265, 266, 267, 268, 269, 270, 271, 272, 273, 274, 275, 276, 277, 278, 279, 280, 281, 282, 46] (by rfl) (by decide +kernel)
set_option maxRecDepth 20000 in
theorem gc_law_L_isSo_wsL_isSo_r9 : GoodIn wsL_law wsL_isSo_r9 := goodIn_r wsL_isSo_r9 [283, 284, 285, 286, 287, 288, 82, 289, 290] (by rfl) (by decide +kernel)
set_option maxRecDepth 20000 in
theorem gc_law_L_isSo_wsX100 : GoodIn wsL_law wsX100 := goodIn_r wsX100 [582, 583, 584, 585, 586, 587, 588] (by rfl) (by decide +kernel)
