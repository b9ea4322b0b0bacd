set_option maxRecDepth 20000 in
theorem gc_law_X10_init_wsX50 : GoodIn wsL_law wsX50 := goodIn_r wsX50 [589, 590, 591, 592, 593, 594] (by decide +kernel) (by decide +kernel)
set_option maxRecDepth 20000 in
theorem gc_law_X10_init_wsX100 : GoodIn wsL_law wsX100 := goodIn_r wsX100 [582, 583, 584, 585, 586, 587, 588] (by decide +kernel) (by decide +kernel)
set_option maxRecDepth 20000 in
theorem gc_law_X10_init_wsX30 : GoodIn wsL_law wsX30 := goodIn_r wsX30 [595, 596, 597] (by decide +kernel) (by decide +kernel)
set_option maxRecDepth 20000 in
theorem gc_law_X10_init_wsX20 : GoodIn wsL_law wsX20 := goodIn_r wsX20 [598, 599, 600, 601, 602, 603] (by decide +kernel) (by decide +kernel)
set_option maxRecDepth 20000 in
theorem gc_law_X10_init_wsX70 : GoodIn wsL_law wsX70 := goodIn_r wsX70 [604, 605, 606, 607, 608, 609, 610, 611, 612] (by decide +kernel) (by decide +kernel)
set_option maxRecDepth 20000 in
theorem gc_law_X10_init_wsX60 : GoodIn wsL_law wsX60 := goodIn_r wsX60 [613, 614, 615, 616, 617] (by decide +kernel) (by decide +kernel)
set_option maxRecDepth 20000 in
theorem gc_law_X10_init_wsX10 : GoodIn wsL_law wsX10 := goodIn_r wsX10 [618, 619, 620, 621, 622, 623, 624] (by decide +kernel) (by decide +kernel)
set_option maxRecDepth 20000 in
theorem gc_law_X10_init_wsX40 : GoodIn wsL_law wsX40 := goodIn_r wsX40 [625, 626, 627, 628, 629, 630, 631, 632, 633, 634] (by decide +kernel) (by decide +kernel)
set_option maxRecDepth 20000 in
theorem gc_law_X10_init_wsX80 : GoodIn wsL_law wsX80 := goodIn_r wsX80 [635, 636, 637, 638] (by decide +kernel) (by decide +kernel)
set_option maxRecDepth 20000 in
theorem gc_law_L_isSo_0 : GoodIn wsL_law [.code yL_isSo cL_isSo 13 (some .boolean)] := goodIn_r _ [115] (by decide +kernel) (by decide +kernel)
set_option maxRecDepth 20000 in
theorem gc_law_L_isSo_wsL_isSo_r1 : GoodIn wsL_law wsL_isSo_r1 := goodIn_r wsL_isSo_r1 [116, 117, 114, 118, 3, 119, 120, 121, 2, 122, 14, 123, 124, 125, 126, 127, 128, 129, 130, 38, 131, 132, 133, 134] (by decide +kernel) (by decide +kernel)
set_option maxRecDepth 20000 in
theorem gc_law_L_isSo_wsL_isSo_r2 : GoodIn wsL_law wsL_isSo_r2 := goodIn_r wsL_isSo_r2 [135, 136, 59, 60, 137, 138, 139, 140, 141, 142, 143, 144, 145, 146, 147, 148, 149, 150, 20, 151, 28, 152, 153, 154] (by decide +kernel) (by decide +kernel)
set_option maxRecDepth 20000 in
theorem gc_law_L_isSo_wsL_isSo_r3 : GoodIn wsL_law wsL_isSo_r3 := goodIn_r wsL_isSo_r3 [155, 156, 13, 157, 158, 159, 160, 161, 162, 163, 164, 165, 62, 166, 167, 168, 34, 169, 170, 53, 171, 172, 173, 42] (by decide +kernel) (by decide +kernel)
set_option maxRecDepth 20000 in
theorem gc_law_L_isSo_wsL_isSo_r4 : GoodIn wsL_law wsL_isSo_r4 := goodIn_r wsL_isSo_r4 [174, 175, 68, 176, 177, 178, 179, 35, 180, 181, 182, 183, 184, 185, 186, 187, 188, 189, 190, 191, 192, 193, 194, 195] (by decide +kernel) (by decide +kernel)
set_option maxRecDepth 20000 in
theorem gc_law_L_isSo_wsL_isSo_r5 : GoodIn wsL_law wsL_isSo_r5 := goodIn_r wsL_isSo_r5 [196, 197, 39, 198, 199, 200, 201, 202, 203, 204, 205, 206, 207, 208, 209, 210, 211, 212, 213, 214, 215, 216, 217, 218] (by decide +kernel) (by decide +kernel)
set_option maxRecDepth 20000 in
theorem gc_law_L_isSo_wsL_isSo_r6 : GoodIn wsL_law wsL_isSo_r6 := goodIn_r wsL_isSo_r6 [219, 220, 221, 222, 223, 72, 224, 225, 226, 227, 228, 229, 230, 231, 232, 233, 234, 73, 235, 236, 237, 238, 74, 239] (by decide +kernel) (by decide +kernel)
set_option maxRecDepth 20000 in
theorem gc_law_L_isSo_wsL_isSo_r7 : GoodIn wsL_law wsL_isSo_r7 := goodIn_r wsL_isSo_r7 [75, 240, 241, 242, 243, 244, 245, 246, 247, 248, 249, 250, 24, 251, 252, 253, 254, 255, 256, 257, 258, 259, 260, 261] (by decide +kernel) (by decide +kernel)
set_option maxRecDepth 20000 in
theorem gc_law_L_isSo_wsL_isSo_r8 : GoodIn wsL_law wsL_isSo_r8 := goodIn_r wsL_isSo_r8 [23, 262, 263, 91, 264, 265, 266, 267, 268, 269, 270, 271, 272, 273, 274, 275, 276, 277, 278, 279, 280, 281, 282, 46] (by decide +kernel) (by decide +kernel)
set_option maxRecDepth 20000 in
theorem gc_law_L_isSo_wsL_isSo_r9 : GoodIn wsL_law wsL_isSo_r9 := goodIn_r wsL_isSo_r9 [283, 284, 285, 286, 287, 288, 82, 289, 290] (by decide +kernel) (by decide +kernel)
set_option maxRecDepth 20000 in
theorem gc_law_L_isSo_wsX100 : GoodIn wsL_law wsX100 := goodIn_r wsX100 [582, 583, 584, 585, 586, 587, 588] (by decide +kernel) (by decide +kernel)
