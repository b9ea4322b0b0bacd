set_option maxRecDepth 20000 in
theorem gc_drives_X10_take_wsX100 : GoodIn wsL_drives wsX100 := goodIn_r wsX100 [187, 188, 189, 190, 191, 192, 193] (by rfl) (by decide +kernel)
set_option maxRecDepth 20000 in
theorem gc_drives_X10_take_wsX50 : GoodIn wsL_drives wsX50 := goodIn_r wsX50 [194, 195, 196, 197, 198, 199] (by rfl) (by decide +kernel)
set_option maxRecDepth 20000 in
theorem gc_drives_X10_take_wsX60 : GoodIn wsL_drives wsX60 := goodIn_r wsX60 [200, 201, 202, 203, 204] (by rfl) (by decide +kernel)
set_option maxRecDepth 20000 in
theorem gc_drives_X10_take_wsX10 : GoodIn wsL_drives wsX10 := goodIn_r wsX10 [205, 206, 207, 208, 209, 210, 211] (by rfl) (by decide +kernel)
set_option maxRecDepth 20000 in
theorem gc_drives_X10_take_wsX40 : GoodIn wsL_drives wsX40 := goodIn_r wsX40 [212, 213, 214, 215, 216, 217, 218, 219, 220, 221] (by rfl) (by decide +kernel)
set_option maxRecDepth 20000 in
theorem gc_drives_X10_take_wsX80 : GoodIn wsL_drives wsX80 := goodIn_r wsX80 [222, 223, 224, 225] (by rfl) (by decide +kernel)
set_option maxRecDepth 20000 in
theorem gc_drives_X10_take_wsX30 : GoodIn wsL_drives wsX30 := goodIn_r wsX30 [226, 227, 228] (by rfl) (by decide +kernel)
set_option maxRecDepth 20000 in
theorem gc_drives_X10_put_0 : GoodIn wsL_drives [.code yX10_put cX10_put 3 (some .int)] := goodIn_r _ [136] (by rfl) (by decide +kernel)
set_option maxRecDepth 20000 in
theorem gc_drives_X10_put_wsX10_put_r1 : GoodIn wsL_drives wsX10_put_r1 := goodIn_r wsX10_put_r1 [10, 11, 12, 8, 13, 14, 15, 16, 17, 18, 19, 20, 21, 22, 23, 24, 25, 26, 27, 28, 29, 30, 31, 32] (by rfl) (by decide +kernel)
set_option maxRecDepth 20000 in
theorem gc_drives_X10_put_wsX10_put_r2 : GoodIn wsL_drives wsX10_put_r2 := goodIn_r wsX10_put_r2 [33, 34, 35, 36, 37, 38, 39, 40, 41, 42, 43, 44, 45, 46, 47, 48, 49, 50, 51, 52, 53, 54, 55, 56] (by rfl) (by decide +kernel)
set_option maxRecDepth 20000 in
theorem gc_drives_X10_put_wsX10_put_r3 : GoodIn wsL_drives wsX10_put_r3 := goodIn_r wsX10_put_r3 [57, 58, 59, 60, 61, 62, 63, 64, 65, 66, 67, 68, 69, 70, 71, 72, 73, 74, 75, 76, 77, 78, 79, 80] (by rfl) (by decide +kernel)
set_option maxRecDepth 20000 in
theorem gc_drives_X10_put_wsX10_put_r4 : GoodIn wsL_drives wsX10_put_r4 := goodIn_r wsX10_put_r4 [137, 138, 139, 140, 85, 87, 88, 89, 90, 91, 92, 93, 94, 141, 142, 143, 144, 104, 105, 106, 107, 108, 99, 100] (by rfl) (by decide +kernel)
set_option maxRecDepth 20000 in
theorem gc_drives_X10_put_wsX10_put_r5 : GoodIn wsL_drives wsX10_put_r5 := goodIn_r wsX10_put_r5 [101, 102, 103, 145, 146, 147, 148, 149, 150, 151, 152, 153, 154, 155, 156, 157, 95, 96, 97, 98, 109, 110, 111, 112] (by rfl) (by decide +kernel)
set_option maxRecDepth 20000 in
theorem gc_drives_X10_put_wsX10_put_r6 : GoodIn wsL_drives wsX10_put_r6 := goodIn_r wsX10_put_r6 [113, 114, 115, 116, 117, 118, 119, 120, 121, 122, 123, 124, 125, 126] (by rfl) (by decide +kernel)
set_option maxRecDepth 20000 in
theorem gc_drives_X10_put_wsX100 : GoodIn wsL_drives wsX100 := goodIn_r wsX100 [187, 188, 189, 190, 191, 192, 193] (by rfl) (by decide +kernel)
set_option maxRecDepth 20000 in
theorem gc_drives_X10_put_wsX50 : GoodIn wsL_drives wsX50 := goodIn_r wsX50 [194, 195, 196, 197, 198, 199] (by rfl) (by decide +kernel)
set_option maxRecDepth 20000 in
theorem gc_drives_X10_put_wsX60 : GoodIn wsL_drives wsX60 := goodIn_r wsX60 [200, 201, 202, 203, 204] (by rfl) (by decide +kernel)
set_option maxRecDepth 20000 in
theorem gc_drives_X10_put_wsX10 : GoodIn wsL_drives wsX10 := goodIn_r wsX10 [205, 206, 207, 208, 209, 210, 211] (by rfl) (by decide +kernel)
set_option maxRecDepth 20000 in
theorem gc_drives_X10_put_wsX40 : GoodIn wsL_drives wsX40 := goodIn_r wsX40 [212, 213, 214, 215, 216, 217, 218, 219, 220, 221] (by rfl) (by decide +kernel)
set_option maxRecDepth 20000 in
theorem gc_drives_X10_put_wsX80 : GoodIn wsL_drives wsX80 := goodIn_r wsX80 [222, 223, 224, 225] (by rfl) (by decide +kernel)
set_option maxRecDepth 20000 in
theorem gc_drives_X10_put_wsX30 : GoodIn wsL_drives wsX30 := goodIn_r wsX30 [226, 227, 228] (by rfl) (by decide +kernel)
set_option maxRecDepth 20000 in
theorem gc_drives_X10_mend_0 : GoodIn wsL_drives [.code yX10_mend cX10_mend 3 (some .int)] := goodIn_r _ [161] (by rfl) (by decide +kernel)
set_option maxRecDepth 20000 in
theorem gc_drives_X10_mend_wsX10_mend_r1 : GoodIn wsL_drives wsX10_mend_r1 := goodIn_r wsX10_mend_r1 [10, 11, 12, 8, 13, 14, 15, 16, 17, 18, 19, 20, 21, 22, 23, 24, 25, 26, 27, 28, 29, 30, 31, 32] (by rfl) (by decide +kernel)
set_option maxRecDepth 20000 in
theorem gc_drives_X10_mend_wsX10_mend_r2 : GoodIn wsL_drives wsX10_mend_r2 := goodIn_r wsX10_mend_r2 [33, 34, 35, 36, 37, 38, 39, 40, 41, 42, 43, 44, 45, 46, 47, 48, 49, 50, 51, 52, 53, 54, 55, 56] (by rfl) (by decide +kernel)
set_option maxRecDepth 20000 in
theorem gc_drives_X10_mend_wsX10_mend_r3 : GoodIn wsL_drives wsX10_mend_r3 := goodIn_r wsX10_mend_r3 [57, 58, 59, 60, 61, 62, 63, 64, 65, 66, 67, 68, 69, 70, 71, 72, 73, 74, 75, 76, 77, 78, 79, 80] (by rfl) (by decide +kernel)
set_option maxRecDepth 20000 in
theorem gc_drives_X10_mend_wsX10_mend_r4 : GoodIn wsL_drives wsX10_mend_r4 := goodIn_r wsX10_mend_r4 [162, 163, 164, 165, 85, 166, 87, 88, 89, 90, 91, 92, 93, 94, 141, 142, 143, 144, 104, 105, 106, 107, 108, 99] (by rfl) (by decide +kernel)
set_option maxRecDepth 20000 in
theorem gc_drives_X10_mend_wsX10_mend_r5 : GoodIn wsL_drives wsX10_mend_r5 := goodIn_r wsX10_mend_r5 [100, 101, 102, 103, 109, 110, 111, 112, 113, 114, 115, 116, 117, 118, 119, 120, 121, 122, 123, 124, 125, 126] (by rfl) (by decide +kernel)
set_option maxRecDepth 20000 in
theorem gc_drives_X10_mend_wsX100 : GoodIn wsL_drives wsX100 := goodIn_r wsX100 [187, 188, 189, 190, 191, 192, 193] (by rfl) (by decide +kernel)
set_option maxRecDepth 20000 in
theorem gc_drives_X10_mend_wsX50 : GoodIn wsL_drives wsX50 := goodIn_r wsX50 [194, 195, 196, 197, 198, 199] (by rfl) (by decide +kernel)
set_option maxRecDepth 20000 in
theorem gc_drives_X10_mend_wsX60 : GoodIn wsL_drives wsX60 := goodIn_r wsX60 [200, 201, 202, 203, 204] (by rfl) (by decide +kernel)
set_option maxRecDepth 20000 in
theorem gc_drives_X10_mend_wsX10 : GoodIn wsL_drives wsX10 := goodIn_r wsX10 [205, 206, 207, 208, 209, 210, 211] (by rfl) (by decide +kernel)
set_option maxRecDepth 20000 in
theorem gc_drives_X10_mend_wsX40 : GoodIn wsL_drives wsX40 := goodIn_r wsX40 [212, 213, 214, 215, 216, 217, 218, 219, 220, 221] (by rfl) (by decide +kernel)
set_option maxRecDepth 20000 in
theorem gc_drives_X10_mend_wsX80 : GoodIn wsL_drives wsX80 := goodIn_r wsX80 [222, 223, 224, 225] (by rfl) (by decide +kernel)
set_option maxRecDepth 20000 in
theorem gc_drives_X10_mend_wsX30 : GoodIn wsL_drives wsX30 := goodIn_r wsX30 [226, 227, 228] (by rfl) (by decide +kernel)
set_option maxRecDepth 20000 in
theorem gc_drives_X10_go_0 : GoodIn wsL_drives [.code yX10_go cX10_go 3 (some .int)] := goodIn_r _ [170] (by rfl) (by decide +kernel)
set_option maxRecDepth 20000 in
theorem gc_drives_X10_go_wsX10_go_r1 : GoodIn wsL_drives wsX10_go_r1 := goodIn_r wsX10_go_r1 [10, 11, 12, 8, 13, 14, 15, 16, 17, 18, 19, 20, 21, 22, 23, 24, 25, 26, 27, 28, 29, 30, 31, 32] (by rfl) (by decide +kernel)
set_option maxRecDepth 20000 in
theorem gc_drives_X10_go_wsX10_go_r2 : GoodIn wsL_drives wsX10_go_r2 := goodIn_r wsX10_go_r2 [33, 34, 35, 36, 37, 38, 39, 40, 41, 42, 43, 44, 45, 46, 47, 48, 49, 50, 51, 52, 53, 54, 55, 56] (by rfl) (by decide +kernel)
set_option maxRecDepth 20000 in
theorem gc_drives_X10_go_wsX10_go_r3 : GoodIn wsL_drives wsX10_go_r3 := goodIn_r wsX10_go_r3 [57, 58, 59, 60, 61, 62, 63, 64, 65, 66, 67, 68, 69, 70, 71, 72, 73, 74, 75, 76, 77, 78, 79, 80] (by rfl) (by decide +kernel)
set_option maxRecDepth 20000 in
theorem gc_drives_X10_go_wsX10_go_r4 : GoodIn wsL_drives wsX10_go_r4 := goodIn_r wsX10_go_r4 [171, 172, 173, 174, 85, 108, 87, 88, 89, 90, 150, 151, 152, 153, 104, 105, 106, 107, 175, 176, 177, 178, 179, 180] (by rfl) (by decide +kernel)
set_option maxRecDepth 20000 in
theorem gc_drives_X10_go_wsX10_go_r5 : GoodIn wsL_drives wsX10_go_r5 := goodIn_r wsX10_go_r5 [181, 182, 183, 113, 114, 115, 116, 117, 118, 119, 120, 121, 122, 123, 124, 125, 126] (by rfl) (by decide +kernel)
set_option maxRecDepth 20000 in
theorem gc_drives_X10_go_wsX100 : GoodIn wsL_drives wsX100 := goodIn_r wsX100 [187, 188, 189, 190, 191, 192, 193] (by rfl) (by decide +kernel)
set_option maxRecDepth 20000 in
theorem gc_drives_X10_go_wsX50 : GoodIn wsL_drives wsX50 := goodIn_r wsX50 [194, 195, 196, 197, 198, 199] (by rfl) (by decide +kernel)
set_option maxRecDepth 20000 in
theorem gc_drives_X10_go_wsX60 : GoodIn wsL_drives wsX60 := goodIn_r wsX60 [200, 201, 202, 203, 204] (by rfl) (by decide +kernel)
set_option maxRecDepth 20000 in
theorem gc_drives_X10_go_wsX10 : GoodIn wsL_drives wsX10 := goodIn_r wsX10 [205, 206, 207, 208, 209, 210, 211] (by rfl) (by decide +kernel)
set_option maxRecDepth 20000 in
theorem gc_drives_X10_go_wsX40 : GoodIn wsL_drives wsX40 := goodIn_r wsX40 [212, 213, 214, 215, 216, 217, 218, 219, 220, 221] (by rfl) (by decide +kernel)
set_option maxRecDepth 20000 in
theorem gc_drives_X10_go_wsX80 : GoodIn wsL_drives wsX80 := goodIn_r wsX80 [222, 223, 224, 225] (by rfl) (by decide +kernel)
set_option maxRecDepth 20000 in
theorem gc_drives_X10_go_wsX30 : GoodIn wsL_drives wsX30 := goodIn_r wsX30 [226, 227, 228] (by rfl) (by decide +kernel)
set_option maxRecDepth 20000 in
theorem gc_pauses_X10_pause_0 : GoodIn wsL_pauses [.code yX10_pause cX10_pause 2 (some .int)] := goodIn_r _ [12] (by rfl) (by decide +kernel)
set_option maxRecDepth 20000 in
theorem gc_pauses_X10_pause_wsX10_pause_r1 : GoodIn wsL_pauses wsX10_pause_r1 := goodIn_r wsX10_pause_r1 [13, 14, 15, 11, 16, 17, 18, 19, 20, 21, 22, 23, 24, 25, 26, 27, 28, 29, 30, 31, 32, 33, 34, 35] (by rfl) (by decide +kernel)
set_option maxRecDepth 20000 in
theorem gc_pauses_X10_pause_wsX10_pause_r2 : GoodIn wsL_pauses wsX10_pause_r2 := goodIn_r wsX10_pause_r2 [36, 37, 38, 39, 40, 41, 42, 43, 44, 45, 46, 47, 48, 49, 50, 51, 52, 53, 54, 55, 56, 57, 58, 59] (by rfl) (by decide +kernel)
set_option maxRecDepth 20000 in
theorem gc_pauses_X10_pause_wsX10_pause_r3 : GoodIn wsL_pauses wsX10_pause_r3 := goodIn_r wsX10_pause_r3 [60, 61, 62, 63, 64, 65, 66, 67, 68, 69, 70, 71, 72, 73, 74, 75, 76, 77, 78, 79, 80, 81, 82, 83] (by rfl) (by decide +kernel)
set_option maxRecDepth 20000 in
theorem gc_pauses_X10_pause_wsX10_pause_r4 : GoodIn wsL_pauses wsX10_pause_r4 := goodIn_r wsX10_pause_r4 [84, 85, 86, 87, 88, 89, 90, 91, 92, 93, 94, 95, 96, 97, 98, 99, 100, 101, 102, 103, 104, 105, 106, 107] (by rfl) (by decide +kernel)
set_option maxRecDepth 20000 in
theorem gc_pauses_X10_pause_wsX10_pause_r5 : GoodIn wsL_pauses wsX10_pause_r5 := goodIn_r wsX10_pause_r5 [108, 109, 110, 111, 112, 113, 114, 115, 116, 117, 118, 119, 120, 121, 122, 123, 124, 125, 126, 127, 128, 129, 130, 131] (by rfl) (by decide +kernel)
set_option maxRecDepth 20000 in
theorem gc_pauses_X10_pause_wsX10_pause_r6 : GoodIn wsL_pauses wsX10_pause_r6 := goodIn_r wsX10_pause_r6 [132] (by rfl) (by decide +kernel)
set_option maxRecDepth 20000 in
theorem gc_pauses_X10_pause_wsX100 : GoodIn wsL_pauses wsX100 := goodIn_r wsX100 [133, 134, 135, 136, 137, 138, 139] (by rfl) (by decide +kernel)
set_option maxRecDepth 20000 in
theorem gc_pauses_X10_pause_wsX50 : GoodIn wsL_pauses wsX50 := goodIn_r wsX50 [140, 141, 142, 143, 144, 145] (by rfl) (by decide +kernel)
set_option maxRecDepth 20000 in
theorem gc_pauses_X10_pause_wsX60 : GoodIn wsL_pauses wsX60 := goodIn_r wsX60 [146, 147, 148, 149, 150] (by rfl) (by decide +kernel)
set_option maxRecDepth 20000 in
theorem gc_pauses_X10_pause_wsX10 : GoodIn wsL_pauses wsX10 := goodIn_r wsX10 [151, 152, 153, 154, 155, 156, 157] (by rfl) (by decide +kernel)
set_option maxRecDepth 20000 in
theorem gc_pauses_X10_pause_wsX40 : GoodIn wsL_pauses wsX40 := goodIn_r wsX40 [158, 159, 160, 161, 162, 163, 164, 165, 166, 167] (by rfl) (by decide +kernel)
set_option maxRecDepth 20000 in
theorem gc_pauses_X10_pause_wsX80 : GoodIn wsL_pauses wsX80 := goodIn_r wsX80 [168, 169, 170, 171] (by rfl) (by decide +kernel)
