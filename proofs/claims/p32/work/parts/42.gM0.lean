set_option maxRecDepth 20000 in
theorem gc_brings_X10_bicycle_0 : GoodIn wsL_brings [.code yX10_bicycle cX10_bicycle 2 (some .int)] := goodIn_r _ [109] (by rfl) (by decide +kernel)
set_option maxRecDepth 20000 in
theorem gc_brings_X10_bicycle_wsX10_bicycle_r1 : GoodIn wsL_brings wsX10_bicycle_r1 := goodIn_r wsX10_bicycle_r1 [6, 7, 8, 4, 9, 10, 11, 12, 13, 14, 15, 16, 17, 18, 19, 20, 21, 22, 23, 24, 25, 26, 27, 28] (by rfl) (by decide +kernel)
set_option maxRecDepth 20000 in
theorem gc_brings_X10_bicycle_wsX10_bicycle_r2 : GoodIn wsL_brings wsX10_bicycle_r2 := goodIn_r wsX10_bicycle_r2 [29, 30, 31, 32, 33, 34, 35, 36, 37, 38, 39, 40, 41, 42, 43, 44, 45, 46, 47, 48, 49, 50, 51, 52] (by rfl) (by decide +kernel)
set_option maxRecDepth 20000 in
theorem gc_brings_X10_bicycle_wsX10_bicycle_r3 : GoodIn wsL_brings wsX10_bicycle_r3 := goodIn_r wsX10_bicycle_r3 [53, 54, 55, 56, 57, 58, 59, 60, 61, 62, 63, 64, 65, 66, 67, 68, 69, 70, 71, 72, 73, 74, 75, 76] (by rfl) (by decide +kernel)
set_option maxRecDepth 20000 in
theorem gc_brings_X10_bicycle_wsX10_bicycle_r4 : GoodIn wsL_brings wsX10_bicycle_r4 := goodIn_r wsX10_bicycle_r4 [110, 111, 112, 113, 114, 115, 116, 117, 118, 119, 120, 121, 122, 123, 124, 125, 126, 127, 128, 129, 130, 131, 132, 133] (by rfl) (by decide +kernel)
set_option maxRecDepth 20000 in
theorem gc_brings_X10_bicycle_wsX10_bicycle_r5 : GoodIn wsL_brings wsX10_bicycle_r5 := goodIn_r wsX10_bicycle_r5 [134, 85, 86, 87, 88, 89, 90, 91, 92, 93, 94, 95, 96, 97, 98] (by rfl) (by decide +kernel)
set_option maxRecDepth 20000 in
theorem gc_brings_X10_bicycle_wsX100 : GoodIn wsL_brings wsX100 := goodIn_r wsX100 [159, 160, 161, 162, 163, 164, 165] (by rfl) (by decide +kernel)
set_option maxRecDepth 20000 in
theorem gc_brings_X10_bicycle_wsX50 : GoodIn wsL_brings wsX50 := goodIn_r wsX50 [166, 167, 168, 169, 170, 171] (by rfl) (by decide +kernel)
set_option maxRecDepth 20000 in
theorem gc_brings_X10_bicycle_wsX60 : GoodIn wsL_brings wsX60 := goodIn_r wsX60 [172, 173, 174, 175, 176] (by rfl) (by decide +kernel)
set_option maxRecDepth 20000 in
theorem gc_brings_X10_bicycle_wsX10 : GoodIn wsL_brings wsX10 := goodIn_r wsX10 [177, 178, 179, 180, 181, 182, 183] (by rfl) (by decide +kernel)
set_option maxRecDepth 20000 in
theorem gc_brings_X10_bicycle_wsX40 : GoodIn wsL_brings wsX40 := goodIn_r wsX40 [184, 185, 186, 187, 188, 189, 190, 191, 192, 193] (by rfl) (by decide +kernel)
set_option maxRecDepth 20000 in
theorem gc_brings_X10_bicycle_wsX80 : GoodIn wsL_brings wsX80 := goodIn_r wsX80 [194, 195, 196, 197] (by rfl) (by decide +kernel)
set_option maxRecDepth 20000 in
theorem gc_brings_X10_bicycle_wsX30 : GoodIn wsL_brings wsX30 := goodIn_r wsX30 [198, 199, 200] (by rfl) (by decide +kernel)
set_option maxRecDepth 20000 in
theorem gc_rides_X10_rent_0 : GoodIn wsL_rides [.code yX10_rent cX10_rent 3 (some .int)] := goodIn_r _ [109] (by rfl) (by decide +kernel)
set_option maxRecDepth 20000 in
theorem gc_rides_X10_rent_wsX10_rent_r1 : GoodIn wsL_rides wsX10_rent_r1 := goodIn_r wsX10_rent_r1 [6, 7, 8, 4, 9, 10, 11, 12, 13, 14, 15, 16, 17, 18, 19, 20, 21, 22, 23, 24, 25, 26, 27, 28] (by rfl) (by decide +kernel)
set_option maxRecDepth 20000 in
theorem gc_rides_X10_rent_wsX10_rent_r2 : GoodIn wsL_rides wsX10_rent_r2 := goodIn_r wsX10_rent_r2 [29, 30, 31, 32, 33, 34, 35, 36, 37, 38, 39, 40, 41, 42, 43, 44, 45, 46, 47, 48, 49, 50, 51, 52] (by rfl) (by decide +kernel)
set_option maxRecDepth 20000 in
theorem gc_rides_X10_rent_wsX10_rent_r3 : GoodIn wsL_rides wsX10_rent_r3 := goodIn_r wsX10_rent_r3 [53, 54, 55, 56, 57, 58, 59, 60, 61, 62, 63, 64, 65, 66, 67, 68, 69, 70, 71, 72, 73, 74, 75, 76] (by rfl) (by decide +kernel)
set_option maxRecDepth 20000 in
theorem gc_rides_X10_rent_wsX10_rent_r4 : GoodIn wsL_rides wsX10_rent_r4 := goodIn_r wsX10_rent_r4 [110, 111, 112, 113, 81, 114, 115, 116, 117, 118, 119, 88, 89, 90, 91, 120, 121, 122, 123, 124, 125, 126, 127, 128] (by rfl) (by decide +kernel)
set_option maxRecDepth 20000 in
theorem gc_rides_X10_rent_wsX10_rent_r5 : GoodIn wsL_rides wsX10_rent_r5 := goodIn_r wsX10_rent_r5 [129, 130, 131, 132, 133, 134, 135, 136, 137, 138, 139, 140, 141, 142, 143, 144, 145, 92, 93, 94, 95, 96, 97, 98] (by rfl) (by decide +kernel)
set_option maxRecDepth 20000 in
theorem gc_rides_X10_rent_wsX10_rent_r6 : GoodIn wsL_rides wsX10_rent_r6 := goodIn_r wsX10_rent_r6 [99, 100, 101, 102, 103, 104, 105] (by rfl) (by decide +kernel)
set_option maxRecDepth 20000 in
theorem gc_rides_X10_rent_wsX100 : GoodIn wsL_rides wsX100 := goodIn_r wsX100 [200, 201, 202, 203, 204, 205, 206] (by rfl) (by decide +kernel)
set_option maxRecDepth 20000 in
theorem gc_rides_X10_rent_wsX50 : GoodIn wsL_rides wsX50 := goodIn_r wsX50 [207, 208, 209, 210, 211, 212] (by rfl) (by decide +kernel)
set_option maxRecDepth 20000 in
theorem gc_rides_X10_rent_wsX60 : GoodIn wsL_rides wsX60 := goodIn_r wsX60 [213, 214, 215, 216, 217] (by rfl) (by decide +kernel)
set_option maxRecDepth 20000 in
theorem gc_rides_X10_rent_wsX10 : GoodIn wsL_rides wsX10 := goodIn_r wsX10 [218, 219, 220, 221, 222, 223, 224] (by rfl) (by decide +kernel)
set_option maxRecDepth 20000 in
theorem gc_rides_X10_rent_wsX40 : GoodIn wsL_rides wsX40 := goodIn_r wsX40 [225, 226, 227, 228, 229, 230, 231, 232, 233, 234] (by rfl) (by decide +kernel)
set_option maxRecDepth 20000 in
theorem gc_rides_X10_rent_wsX80 : GoodIn wsL_rides wsX80 := goodIn_r wsX80 [235, 236, 237, 238] (by rfl) (by decide +kernel)
set_option maxRecDepth 20000 in
theorem gc_rides_X10_rent_wsX30 : GoodIn wsL_rides wsX30 := goodIn_r wsX30 [239, 240, 241] (by rfl) (by decide +kernel)
set_option maxRecDepth 20000 in
theorem gc_rides_X10_back_0 : GoodIn wsL_rides [.code yX10_back cX10_back 3 (some .int)] := goodIn_r _ [156] (by rfl) (by decide +kernel)
set_option maxRecDepth 20000 in
theorem gc_rides_X10_back_wsX10_back_r1 : GoodIn wsL_rides wsX10_back_r1 := goodIn_r wsX10_back_r1 [6, 7, 8, 4, 9, 10, 11, 12, 13, 14, 15, 16, 17, 18, 19, 20, 21, 22, 23, 24, 25, 26, 27, 28] (by rfl) (by decide +kernel)
set_option maxRecDepth 20000 in
theorem gc_rides_X10_back_wsX10_back_r2 : GoodIn wsL_rides wsX10_back_r2 := goodIn_r wsX10_back_r2 [29, 30, 31, 32, 33, 34, 35, 36, 37, 38, 39, 40, 41, 42, 43, 44, 45, 46, 47, 48, 49, 50, 51, 52] (by rfl) (by decide +kernel)
set_option maxRecDepth 20000 in
theorem gc_rides_X10_back_wsX10_back_r3 : GoodIn wsL_rides wsX10_back_r3 := goodIn_r wsX10_back_r3 [53, 54, 55, 56, 57, 58, 59, 60, 61, 62, 63, 64, 65, 66, 67, 68, 69, 70, 71, 72, 73, 74, 75, 76] (by rfl) (by decide +kernel)
set_option maxRecDepth 20000 in
theorem gc_rides_X10_back_wsX10_back_r4 : GoodIn wsL_rides wsX10_back_r4 := goodIn_r wsX10_back_r4 [157, 158, 159, 160, 114, 161, 162, 87, 163, 164, 88, 89, 90, 91, 120, 121, 122, 123, 141, 133, 134, 135, 165, 166] (by rfl) (by decide +kernel)
set_option maxRecDepth 20000 in
theorem gc_rides_X10_back_wsX10_back_r5 : GoodIn wsL_rides wsX10_back_r5 := goodIn_r wsX10_back_r5 [167, 168, 169, 170, 171, 172, 173, 174, 175, 176, 177, 178, 179, 180, 181, 182, 83, 84, 85, 183, 137, 138, 139, 140] (by rfl) (by decide +kernel)
set_option maxRecDepth 20000 in
theorem gc_rides_X10_back_wsX10_back_r6 : GoodIn wsL_rides wsX10_back_r6 := goodIn_r wsX10_back_r6 [184, 185, 186, 187, 188, 142, 143, 144, 145, 132, 92, 93, 94, 95, 96, 97, 98, 99, 100, 101, 102, 103, 104, 105] (by rfl) (by decide +kernel)
set_option maxRecDepth 20000 in
theorem gc_rides_X10_back_wsX100 : GoodIn wsL_rides wsX100 := goodIn_r wsX100 [200, 201, 202, 203, 204, 205, 206] (by rfl) (by decide +kernel)
set_option maxRecDepth 20000 in
theorem gc_rides_X10_back_wsX50 : GoodIn wsL_rides wsX50 := goodIn_r wsX50 [207, 208, 209, 210, 211, 212] (by rfl) (by decide +kernel)
set_option maxRecDepth 20000 in
theorem gc_rides_X10_back_wsX60 : GoodIn wsL_rides wsX60 := goodIn_r wsX60 [213, 214, 215, 216, 217] (by rfl) (by decide +kernel)
set_option maxRecDepth 20000 in
theorem gc_rides_X10_back_wsX10 : GoodIn wsL_rides wsX10 := goodIn_r wsX10 [218, 219, 220, 221, 222, 223, 224] (by rfl) (by decide +kernel)
set_option maxRecDepth 20000 in
theorem gc_rides_X10_back_wsX40 : GoodIn wsL_rides wsX40 := goodIn_r wsX40 [225, 226, 227, 228, 229, 230, 231, 232, 233, 234] (by rfl) (by decide +kernel)
set_option maxRecDepth 20000 in
theorem gc_rides_X10_back_wsX80 : GoodIn wsL_rides wsX80 := goodIn_r wsX80 [235, 236, 237, 238] (by rfl) (by decide +kernel)
set_option maxRecDepth 20000 in
theorem gc_rides_X10_back_wsX30 : GoodIn wsL_rides wsX30 := goodIn_r wsX30 [239, 240, 241] (by rfl) (by decide +kernel)
set_option maxRecDepth 20000 in
theorem gc_rides_X10_full_0 : GoodIn wsL_rides [.code yX10_full cX10_full 3 (some .int)] := goodIn_r _ [195] (by rfl) (by decide +kernel)
set_option maxRecDepth 20000 in
theorem gc_rides_X10_full_wsX10_full_r1 : GoodIn wsL_rides wsX10_full_r1 := goodIn_r wsX10_full_r1 [6, 7, 8, 4, 9, 10, 11, 12, 13, 14, 15, 16, 17, 18, 19, 20, 21, 22, 23, 24, 25, 26, 27, 28] (by rfl) (by decide +kernel)
set_option maxRecDepth 20000 in
theorem gc_rides_X10_full_wsX10_full_r2 : GoodIn wsL_rides wsX10_full_r2 := goodIn_r wsX10_full_r2 [29, 30, 31, 32, 33, 34, 35, 36, 37, 38, 39, 40, 41, 42, 43, 44, 45, 46, 47, 48, 49, 50, 51, 52] (by rfl) (by decide +kernel)
set_option maxRecDepth 20000 in
theorem gc_rides_X10_full_wsX10_full_r3 : GoodIn wsL_rides wsX10_full_r3 := goodIn_r wsX10_full_r3 [53, 54, 55, 56, 57, 58, 59, 60, 61, 62, 63, 64, 65, 66, 67, 68, 69, 70, 71, 72, 73, 74, 75, 76] (by rfl) (by decide +kernel)
set_option maxRecDepth 20000 in
theorem gc_rides_X10_full_wsX10_full_r4 : GoodIn wsL_rides wsX10_full_r4 := goodIn_r wsX10_full_r4 [196, 197, 198, 199, 118, 116, 88, 89, 90, 91, 120, 121, 122, 123, 136, 137, 138, 139, 140, 165, 166, 167, 168, 169] (by rfl) (by decide +kernel)
set_option maxRecDepth 20000 in
theorem gc_rides_X10_full_wsX10_full_r5 : GoodIn wsL_rides wsX10_full_r5 := goodIn_r wsX10_full_r5 [170, 171, 172, 173, 174, 175, 176, 177, 92, 93, 94, 95, 96, 97, 98, 99, 100, 101, 102, 103, 104, 105] (by rfl) (by decide +kernel)
set_option maxRecDepth 20000 in
theorem gc_rides_X10_full_wsX100 : GoodIn wsL_rides wsX100 := goodIn_r wsX100 [200, 201, 202, 203, 204, 205, 206] (by rfl) (by decide +kernel)
set_option maxRecDepth 20000 in
theorem gc_rides_X10_full_wsX50 : GoodIn wsL_rides wsX50 := goodIn_r wsX50 [207, 208, 209, 210, 211, 212] (by rfl) (by decide +kernel)
set_option maxRecDepth 20000 in
theorem gc_rides_X10_full_wsX60 : GoodIn wsL_rides wsX60 := goodIn_r wsX60 [213, 214, 215, 216, 217] (by rfl) (by decide +kernel)
set_option maxRecDepth 20000 in
theorem gc_rides_X10_full_wsX10 : GoodIn wsL_rides wsX10 := goodIn_r wsX10 [218, 219, 220, 221, 222, 223, 224] (by rfl) (by decide +kernel)
set_option maxRecDepth 20000 in
theorem gc_rides_X10_full_wsX40 : GoodIn wsL_rides wsX40 := goodIn_r wsX40 [225, 226, 227, 228, 229, 230, 231, 232, 233, 234] (by rfl) (by decide +kernel)
set_option maxRecDepth 20000 in
theorem gc_rides_X10_full_wsX80 : GoodIn wsL_rides wsX80 := goodIn_r wsX80 [235, 236, 237, 238] (by rfl) (by decide +kernel)
set_option maxRecDepth 20000 in
theorem gc_rides_X10_full_wsX30 : GoodIn wsL_rides wsX30 := goodIn_r wsX30 [239, 240, 241] (by rfl) (by decide +kernel)
set_option maxRecDepth 20000 in
theorem gc_drives_X10_take_0 : GoodIn wsL_drives [.code yX10_take cX10_take 3 (some .int)] := goodIn_r _ [9] (by rfl) (by decide +kernel)
set_option maxRecDepth 20000 in
theorem gc_drives_X10_take_wsX10_take_r1 : GoodIn wsL_drives wsX10_take_r1 := goodIn_r wsX10_take_r1 [10, 11, 12, 8, 13, 14, 15, 16, 17, 18, 19, 20, 21, 22, 23, 24, 25, 26, 27, 28, 29, 30, 31, 32] (by rfl) (by decide +kernel)
set_option maxRecDepth 20000 in
theorem gc_drives_X10_take_wsX10_take_r2 : GoodIn wsL_drives wsX10_take_r2 := goodIn_r wsX10_take_r2 [33, 34, 35, 36, 37, 38, 39, 40, 41, 42, 43, 44, 45, 46, 47, 48, 49, 50, 51, 52, 53, 54, 55, 56] (by rfl) (by decide +kernel)
set_option maxRecDepth 20000 in
theorem gc_drives_X10_take_wsX10_take_r3 : GoodIn wsL_drives wsX10_take_r3 := goodIn_r wsX10_take_r3 [57, 58, 59, 60, 61, 62, 63, 64, 65, 66, 67, 68, 69, 70, 71, 72, 73, 74, 75, 76, 77, 78, 79, 80] (by rfl) (by decide +kernel)
set_option maxRecDepth 20000 in
theorem gc_drives_X10_take_wsX10_take_r4 : GoodIn wsL_drives wsX10_take_r4 := goodIn_r wsX10_take_r4 [81, 82, 83, 84, 85, 86, 87, 88, 89, 90, 91, 92, 93, 94, 95, 96, 97, 98, 99, 100, 101, 102, 103, 104] (by rfl) (by decide +kernel)
set_option maxRecDepth 20000 in
theorem gc_drives_X10_take_wsX10_take_r5 : GoodIn wsL_drives wsX10_take_r5 := goodIn_r wsX10_take_r5 [105, 106, 107, 108, 109, 110, 111, 112, 113, 114, 115, 116, 117, 118, 119, 120, 121, 122, 123, 124, 125, 126] (by rfl) (by decide +kernel)
