set_option maxRecDepth 20000 in
theorem inL_29 : GoodIn lw_tbl wsL_law_r29 := goodIn_p wsL_law_r29 [1162, 707, 713] (by decide +kernel) (by decide +kernel)
set_option maxRecDepth 20000 in
theorem inL_30 : GoodIn lw_tbl wsL_law_r30 := goodIn_p wsL_law_r30 [1166, 720, 725, 1170, 731] (by decide +kernel) (by decide +kernel)
set_option maxRecDepth 20000 in
theorem inL_31 : GoodIn lw_tbl wsL_law_r31 := goodIn_p wsL_law_r31 [739, 743] (by decide +kernel) (by decide +kernel)
set_option maxRecDepth 20000 in
theorem inL_32 : GoodIn lw_tbl wsL_law_r32 := goodIn_p wsL_law_r32 [1174, 1178, 1182, 748, 752] (by decide +kernel) (by decide +kernel)
set_option maxRecDepth 20000 in
theorem inL_33 : GoodIn lw_tbl wsL_law_r33 := goodIn_p wsL_law_r33 [758, 762, 1186, 1190] (by decide +kernel) (by decide +kernel)
set_option maxRecDepth 20000 in
theorem inL_34 : GoodIn lw_tbl wsL_law_r34 := goodIn_p wsL_law_r34 [769, 773, 777, 1194, 781, 1198] (by decide +kernel) (by decide +kernel)
set_option maxRecDepth 20000 in
theorem inL_35 : GoodIn lw_tbl wsL_law_r35 := goodIn_p wsL_law_r35 [1201, 785, 1205, 789, 793, 1209] (by decide +kernel) (by decide +kernel)
set_option maxRecDepth 20000 in
theorem inL_36 : GoodIn lw_tbl wsL_law_r36 := goodIn_p wsL_law_r36 [797, 801, 1213, 805, 809, 1217] (by decide +kernel) (by decide +kernel)
set_option maxRecDepth 20000 in
theorem inL_37 : GoodIn lw_tbl wsL_law_r37 := goodIn_p wsL_law_r37 [813, 817, 821, 825] (by decide +kernel) (by decide +kernel)
set_option maxRecDepth 20000 in
theorem inL_38 : GoodIn lw_tbl wsL_law_r38 := goodIn_p wsL_law_r38 [829, 833, 837, 841, 847] (by decide +kernel) (by decide +kernel)
set_option maxRecDepth 20000 in
theorem inL_39 : GoodIn lw_tbl wsL_law_r39 := goodIn_p wsL_law_r39 [851, 854, 857, 862, 865, 868, 871] (by decide +kernel) (by decide +kernel)
set_option maxRecDepth 20000 in
theorem inL_40 : GoodIn lw_tbl wsL_law_r40 := goodIn_p wsL_law_r40 [875, 885, 889, 893, 897] (by decide +kernel) (by decide +kernel)
set_option maxRecDepth 20000 in
theorem inL_41 : GoodIn lw_tbl wsL_law_r41 := goodIn_p wsL_law_r41 [901, 909] (by decide +kernel) (by decide +kernel)
set_option maxRecDepth 20000 in
theorem inL_42 : GoodIn lw_tbl wsL_law_r42 := goodIn_p wsL_law_r42 [923, 1221, 1225, 1229] (by decide +kernel) (by decide +kernel)
