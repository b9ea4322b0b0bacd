set_option maxRecDepth 20000 in
theorem inL_1 : GoodIn lw_tbl wsL_law_r1 := goodIn_p wsL_law_r1 [26, 29] (by rfl) (by decide +kernel)
set_option maxRecDepth 20000 in
theorem inL_2 : GoodIn lw_tbl wsL_law_r2 := goodIn_p wsL_law_r2 [34] (by rfl) (by decide +kernel)
set_option maxRecDepth 20000 in
theorem inL_3 : GoodIn lw_tbl wsL_law_r3 := goodIn_p wsL_law_r3 [40, 74, 113] (by rfl) (by decide +kernel)
set_option maxRecDepth 20000 in
theorem inL_4 : GoodIn lw_tbl wsL_law_r4 := goodIn_p wsL_law_r4 [166, 218, 238, 259] (by rfl) (by decide +kernel)
set_option maxRecDepth 20000 in
theorem inL_5 : GoodIn lw_tbl wsL_law_r5 := goodIn_p wsL_law_r5 [263, 666, 669] (by rfl) (by decide +kernel)
set_option maxRecDepth 20000 in
theorem inL_6 : GoodIn lw_tbl wsL_law_r6 := goodIn_p wsL_law_r6 [673, 518, 678, 324] (by rfl) (by decide +kernel)
set_option maxRecDepth 20000 in
theorem inL_7 : GoodIn lw_tbl wsL_law_r7 := goodIn_p wsL_law_r7 [328, 332, 336] (by rfl) (by decide +kernel)
set_option maxRecDepth 20000 in
theorem inL_8 : GoodIn lw_tbl wsL_law_r8 := goodIn_p wsL_law_r8 [340, 344, 348, 352, 367] (by rfl) (by decide +kernel)
set_option maxRecDepth 20000 in
theorem inL_9 : GoodIn lw_tbl wsL_law_r9 := goodIn_p wsL_law_r9 [356, 360, 364, 681, 685, 498] (by rfl) (by decide +kernel)
set_option maxRecDepth 20000 in
theorem inL_10 : GoodIn lw_tbl wsL_law_r10 := goodIn_p wsL_law_r10 [495, 522, 691, 545, 540] (by rfl) (by decide +kernel)
set_option maxRecDepth 20000 in
theorem inL_11 : GoodIn lw_tbl wsL_law_r11 := goodIn_p wsL_law_r11 [550, 698, 703, 708] (by rfl) (by decide +kernel)
set_option maxRecDepth 20000 in
theorem inL_12 : GoodIn lw_tbl wsL_law_r12 := goodIn_p wsL_law_r12 [712, 719, 576] (by rfl) (by decide +kernel)
set_option maxRecDepth 20000 in
theorem inL_13 : GoodIn lw_tbl wsL_law_r13 := goodIn_p wsL_law_r13 [724, 370, 378, 374, 382, 386] (by rfl) (by decide +kernel)
set_option maxRecDepth 20000 in
theorem inL_14 : GoodIn lw_tbl wsL_law_r14 := goodIn_p wsL_law_r14 [390, 394, 398, 405, 410] (by rfl) (by decide +kernel)
