set_option maxRecDepth 20000 in
theorem inL_15 : GoodIn lw_tbl wsL_law_r15 := goodIn_p wsL_law_r15 [517, 521, 525, 529] (by decide +kernel) (by decide +kernel)
set_option maxRecDepth 20000 in
theorem inL_16 : GoodIn lw_tbl wsL_law_r16 := goodIn_p wsL_law_r16 [535, 1051, 1055, 539, 543] (by decide +kernel) (by decide +kernel)
set_option maxRecDepth 20000 in
theorem inL_17 : GoodIn lw_tbl wsL_law_r17 := goodIn_p wsL_law_r17 [547, 552, 1059, 1063, 558] (by decide +kernel) (by decide +kernel)
set_option maxRecDepth 20000 in
theorem inL_18 : GoodIn lw_tbl wsL_law_r18 := goodIn_p wsL_law_r18 [562, 1067, 566, 570, 574] (by decide +kernel) (by decide +kernel)
set_option maxRecDepth 20000 in
theorem inL_19 : GoodIn lw_tbl wsL_law_r19 := goodIn_p wsL_law_r19 [1071, 1075, 1079, 578, 582, 586] (by decide +kernel) (by decide +kernel)
set_option maxRecDepth 20000 in
theorem inL_20 : GoodIn lw_tbl wsL_law_r20 := goodIn_p wsL_law_r20 [591, 1083, 1087, 1091, 1095] (by decide +kernel) (by decide +kernel)
set_option maxRecDepth 20000 in
theorem inL_21 : GoodIn lw_tbl wsL_law_r21 := goodIn_p wsL_law_r21 [1099, 1103, 595, 599, 603, 1107] (by decide +kernel) (by decide +kernel)
set_option maxRecDepth 20000 in
theorem inL_22 : GoodIn lw_tbl wsL_law_r22 := goodIn_p wsL_law_r22 [607, 611, 615, 619, 1111, 1115] (by decide +kernel) (by decide +kernel)
set_option maxRecDepth 20000 in
theorem inL_23 : GoodIn lw_tbl wsL_law_r23 := goodIn_p wsL_law_r23 [623, 627, 1119, 631, 635, 639] (by decide +kernel) (by decide +kernel)
set_option maxRecDepth 20000 in
theorem inL_24 : GoodIn lw_tbl wsL_law_r24 := goodIn_p wsL_law_r24 [643, 647, 651, 1123, 1127, 1131] (by decide +kernel) (by decide +kernel)
set_option maxRecDepth 20000 in
theorem inL_25 : GoodIn lw_tbl wsL_law_r25 := goodIn_p wsL_law_r25 [655, 659, 663, 1135, 667] (by decide +kernel) (by decide +kernel)
set_option maxRecDepth 20000 in
theorem inL_26 : GoodIn lw_tbl wsL_law_r26 := goodIn_p wsL_law_r26 [672, 676, 681, 685] (by decide +kernel) (by decide +kernel)
set_option maxRecDepth 20000 in
theorem inL_27 : GoodIn lw_tbl wsL_law_r27 := goodIn_p wsL_law_r27 [689, 693, 1139, 1143, 1146, 1150] (by decide +kernel) (by decide +kernel)
set_option maxRecDepth 20000 in
theorem inL_28 : GoodIn lw_tbl wsL_law_r28 := goodIn_p wsL_law_r28 [1154, 1158, 698, 703] (by decide +kernel) (by decide +kernel)
