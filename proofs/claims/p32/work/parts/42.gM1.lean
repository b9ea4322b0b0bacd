set_option maxRecDepth 20000 in
theorem gc_rides_X10_rent_wsX100 : GoodIn wsL_rides wsX100 := goodIn_r wsX100 [200, 201, 202, 203, 204, 205, 206] (by decide +kernel) (by decide +kernel)
set_option maxRecDepth 20000 in
theorem gc_rides_X10_rent_wsX50 : GoodIn wsL_rides wsX50 := goodIn_r wsX50 [207, 208, 209, 210, 211, 212] (by decide +kernel) (by decide +kernel)
set_option maxRecDepth 20000 in
theorem gc_rides_X10_rent_wsX60 : GoodIn wsL_rides wsX60 := goodIn_r wsX60 [213, 214, 215, 216, 217] (by decide +kernel) (by decide +kernel)
set_option maxRecDepth 20000 in
theorem gc_rides_X10_rent_wsX10 : GoodIn wsL_rides wsX10 := goodIn_r wsX10 [218, 219, 220, 221, 222, 223, 224] (by decide +kernel) (by decide +kernel)
set_option maxRecDepth 20000 in
theorem gc_rides_X10_rent_wsX40 : GoodIn wsL_rides wsX40 := goodIn_r wsX40 [225, 226, 227, 228, 229, 230, 231, 232, 233, 234] (by decide +kernel) (by decide +kernel)
set_option maxRecDepth 20000 in
theorem gc_rides_X10_rent_wsX80 : GoodIn wsL_rides wsX80 := goodIn_r wsX80 [235, 236, 237, 238] (by decide +kernel) (by decide +kernel)
set_option maxRecDepth 20000 in
theorem gc_rides_X10_rent_wsX30 : GoodIn wsL_rides wsX30 := goodIn_r wsX30 [239, 240, 241] (by decide +kernel) (by decide +kernel)
set_option maxRecDepth 20000 in
theorem gc_rides_X10_back_0 : GoodIn wsL_rides [.code yX10_back cX10_back 3 (some .int)] := goodIn_r _ [156] (by decide +kernel) (by decide +kernel)
set_option maxRecDepth 20000 in
theorem gc_rides_X10_back_wsX10_back_r1 : GoodIn wsL_rides wsX10_back_r1 := goodIn_r wsX10_back_r1 [6, 7, 8, 4, 9, 10, 11, 12, 13, 14, 15, 16, 17, 18, 19, 20, 21, 22, 23, 24, 25, 26, 27, 28] (by decide +kernel) (by decide +kernel)
set_option maxRecDepth 20000 in
theorem gc_rides_X10_back_wsX10_back_r2 : GoodIn wsL_rides wsX10_back_r2 := goodIn_r wsX10_back_r2 [29, 30, 31, 32, 33, 34, 35, 36, 37, 38, 39, 40, 41, 42, 43, 44, 45, 46, 47, 48, 49, 50, 51, 52] (by decide +kernel) (by decide +kernel)
set_option maxRecDepth 20000 in
theorem gc_rides_X10_back_wsX10_back_r3 : GoodIn wsL_rides wsX10_back_r3 := goodIn_r wsX10_back_r3 [53, 54, 55, 56, 57, 58, 59, 60, 61, 62, 63, 64, 65, 66, 67, 68, 69, 70, 71, 72, 73, 74, 75, 76] (by decide +kernel) (by decide +kernel)
set_option maxRecDepth 20000 in
theorem gc_rides_X10_back_wsX10_back_r4 : GoodIn wsL_rides wsX10_back_r4 := goodIn_r wsX10_back_r4 [157, 158, 159, 160, 114, 161, 162, 87, 163, 164, 88, 89, 90, 91, 120, 121, 122, 123, 141, 133, 134, 135, 165, 166] (by decide +kernel) (by decide +kernel)
set_option maxRecDepth 20000 in
theorem gc_rides_X10_back_wsX10_back_r5 : GoodIn wsL_rides wsX10_back_r5 := goodIn_r wsX10_back_r5 [167, 168, 169, 170, 171, 172, 173, 174, 175, 176, 177, 178, 179, 180, 181, 182, 83, 84, 85, 183, 137, 138, 139, 140] (by decide +kernel) (by decide +kernel)
set_option maxRecDepth 20000 in
theorem gc_rides_X10_back_wsX10_back_r6 : GoodIn wsL_rides wsX10_back_r6 := goodIn_r wsX10_back_r6 [184, 185, 186, 187, 188, 142, 143, 144, 145, 132, 92, 93, 94, 95, 96, 97, 98, 99, 100, 101, 102, 103, 104, 105] (by decide +kernel) (by decide +kernel)
set_option maxRecDepth 20000 in
theorem gc_rides_X10_back_wsX100 : GoodIn wsL_rides wsX100 := goodIn_r wsX100 [200, 201, 202, 203, 204, 205, 206] (by decide +kernel) (by decide +kernel)
set_option maxRecDepth 20000 in
theorem gc_rides_X10_back_wsX50 : GoodIn wsL_rides wsX50 := goodIn_r wsX50 [207, 208, 209, 210, 211, 212] (by decide +kernel) (by decide +kernel)
set_option maxRecDepth 20000 in
theorem gc_rides_X10_back_wsX60 : GoodIn wsL_rides wsX60 := goodIn_r wsX60 [213, 214, 215, 216, 217] (by decide +kernel) (by decide +kernel)
set_option maxRecDepth 20000 in
theorem gc_rides_X10_back_wsX10 : GoodIn wsL_rides wsX10 := goodIn_r wsX10 [218, 219, 220, 221, 222, 223, 224] (by decide +kernel) (by decide +kernel)
set_option maxRecDepth 20000 in
theorem gc_rides_X10_back_wsX40 : GoodIn wsL_rides wsX40 := goodIn_r wsX40 [225, 226, 227, 228, 229, 230, 231, 232, 233, 234] (by decide +kernel) (by decide +kernel)
set_option maxRecDepth 20000 in
theorem gc_rides_X10_back_wsX80 : GoodIn wsL_rides wsX80 := goodIn_r wsX80 [235, 236, 237, 238] (by decide +kernel) (by decide +kernel)
