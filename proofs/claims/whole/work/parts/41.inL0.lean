set_option maxRecDepth 20000 in
theorem inL_1 : GoodIn lw_tbl wsL_law_r1 := goodIn_p wsL_law_r1 [78, 81] (by decide +kernel) (by decide +kernel)
set_option maxRecDepth 20000 in
theorem inL_2 : GoodIn lw_tbl wsL_law_r2 := goodIn_p wsL_law_r2 [86] (by decide +kernel) (by decide +kernel)
set_option maxRecDepth 20000 in
theorem inL_3 : GoodIn lw_tbl wsL_law_r3 := goodIn_p wsL_law_r3 [92, 127, 166] (by decide +kernel) (by decide +kernel)
set_option maxRecDepth 20000 in
theorem inL_4 : GoodIn lw_tbl wsL_law_r4 := goodIn_p wsL_law_r4 [219, 271, 291] (by decide +kernel) (by decide +kernel)
set_option maxRecDepth 20000 in
theorem inL_5 : GoodIn lw_tbl wsL_law_r5 := goodIn_p wsL_law_r5 [319, 323, 933] (by decide +kernel) (by decide +kernel)
set_option maxRecDepth 20000 in
theorem inL_6 : GoodIn lw_tbl wsL_law_r6 := goodIn_p wsL_law_r6 [390, 394, 398] (by decide +kernel) (by decide +kernel)
set_option maxRecDepth 20000 in
theorem inL_7 : GoodIn lw_tbl wsL_law_r7 := goodIn_p wsL_law_r7 [402, 409, 414, 419] (by decide +kernel) (by decide +kernel)
set_option maxRecDepth 20000 in
theorem inL_8 : GoodIn lw_tbl wsL_law_r8 := goodIn_p wsL_law_r8 [425, 429, 433, 437, 981, 984] (by decide +kernel) (by decide +kernel)
set_option maxRecDepth 20000 in
theorem inL_9 : GoodIn lw_tbl wsL_law_r9 := goodIn_p wsL_law_r9 [988, 442, 446, 450, 454] (by decide +kernel) (by decide +kernel)
set_option maxRecDepth 20000 in
theorem inL_10 : GoodIn lw_tbl wsL_law_r10 := goodIn_p wsL_law_r10 [458, 462, 466, 992, 996, 1000] (by decide +kernel) (by decide +kernel)
set_option maxRecDepth 20000 in
theorem inL_11 : GoodIn lw_tbl wsL_law_r11 := goodIn_p wsL_law_r11 [1004, 1008, 1012, 1015, 1019, 1023] (by decide +kernel) (by decide +kernel)
set_option maxRecDepth 20000 in
theorem inL_12 : GoodIn lw_tbl wsL_law_r12 := goodIn_p wsL_law_r12 [470, 474, 478, 1027, 482, 486] (by decide +kernel) (by decide +kernel)
set_option maxRecDepth 20000 in
theorem inL_13 : GoodIn lw_tbl wsL_law_r13 := goodIn_p wsL_law_r13 [490, 1031, 494, 498, 505, 502] (by decide +kernel) (by decide +kernel)
set_option maxRecDepth 20000 in
theorem inL_14 : GoodIn lw_tbl wsL_law_r14 := goodIn_p wsL_law_r14 [1035, 1039, 1043, 1047, 509, 513] (by decide +kernel) (by decide +kernel)
