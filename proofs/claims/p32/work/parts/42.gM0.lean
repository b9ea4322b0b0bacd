set_option maxRecDepth 20000 in
theorem gc_brings_X10_bicycle_0 : GoodIn wsL_brings [.code yX10_bicycle cX10_bicycle 2 (some .int)] := goodIn_r _ [109] (by decide +kernel) (by decide +kernel)
set_option maxRecDepth 20000 in
theorem gc_brings_X10_bicycle_wsX10_bicycle_r1 : GoodIn wsL_brings wsX10_bicycle_r1 := goodIn_r wsX10_bicycle_r1 [6, 7, 8, 4, 9, 10, 11, 12, 13, 14, 15, 16, 17, 18, 19, 20, 21, 22, 23, 24, 25, 26, 27, 28] (by decide +kernel) (by decide +kernel)
set_option maxRecDepth 20000 in
theorem gc_brings_X10_bicycle_wsX10_bicycle_r2 : GoodIn wsL_brings wsX10_bicycle_r2 := goodIn_r wsX10_bicycle_r2 [29, 30, 31, 32, 33, 34, 35, 36, 37, 38, 39, 40, 41, 42, 43, 44, 45, 46, 47, 48, 49, 50, 51, 52] (by decide +kernel) (by decide +kernel)
set_option maxRecDepth 20000 in
theorem gc_brings_X10_bicycle_wsX10_bicycle_r3 : GoodIn wsL_brings wsX10_bicycle_r3 := goodIn_r wsX10_bicycle_r3 [53, 54, 55, 56, 57, 58, 59, 60, 61, 62, 63, 64, 65, 66, 67, 68, 69, 70, 71, 72, 73, 74, 75, 76] (by decide +kernel) (by decide +kernel)
set_option maxRecDepth 20000 in
theorem gc_brings_X10_bicycle_wsX10_bicycle_r4 : GoodIn wsL_brings wsX10_bicycle_r4 := goodIn_r wsX10_bicycle_r4 [110, 111, 112, 113, 114, 115, 116, 117, 118, 119, 120, 121, 122, 123, 124, 125, 126, 127, 128, 129, 130, 131, 132, 133] (by decide +kernel) (by decide +kernel)
set_option maxRecDepth 20000 in
theorem gc_brings_X10_bicycle_wsX10_bicycle_r5 : GoodIn wsL_brings wsX10_bicycle_r5 := goodIn_r wsX10_bicycle_r5 [134, 85, 86, 87, 88, 89, 90, 91, 92, 93, 94, 95, 96, 97, 98] (by decide +kernel) (by decide +kernel)
set_option maxRecDepth 20000 in
theorem gc_brings_X10_bicycle_wsX100 : GoodIn wsL_brings wsX100 := goodIn_r wsX100 [159, 160, 161, 162, 163, 164, 165] (by decide +kernel) (by decide +kernel)
set_option maxRecDepth 20000 in
theorem gc_brings_X10_bicycle_wsX50 : GoodIn wsL_brings wsX50 := goodIn_r wsX50 [166, 167, 168, 169, 170, 171] (by decide +kernel) (by decide +kernel)
set_option maxRecDepth 20000 in
theorem gc_brings_X10_bicycle_wsX60 : GoodIn wsL_brings wsX60 := goodIn_r wsX60 [172, 173, 174, 175, 176] (by decide +kernel) (by decide +kernel)
set_option maxRecDepth 20000 in
theorem gc_brings_X10_bicycle_wsX10 : GoodIn wsL_brings wsX10 := goodIn_r wsX10 [177, 178, 179, 180, 181, 182, 183] (by decide +kernel) (by decide +kernel)
set_option maxRecDepth 20000 in
theorem gc_brings_X10_bicycle_wsX40 : GoodIn wsL_brings wsX40 := goodIn_r wsX40 [184, 185, 186, 187, 188, 189, 190, 191, 192, 193] (by decide +kernel) (by decide +kernel)
set_option maxRecDepth 20000 in
theorem gc_brings_X10_bicycle_wsX80 : GoodIn wsL_brings wsX80 := goodIn_r wsX80 [194, 195, 196, 197] (by decide +kernel) (by decide +kernel)
set_option maxRecDepth 20000 in
theorem gc_brings_X10_bicycle_wsX30 : GoodIn wsL_brings wsX30 := goodIn_r wsX30 [198, 199, 200] (by decide +kernel) (by decide +kernel)
set_option maxRecDepth 20000 in
theorem gc_rides_X10_rent_0 : GoodIn wsL_rides [.code yX10_rent cX10_rent 3 (some .int)] := goodIn_r _ [109] (by decide +kernel) (by decide +kernel)
set_option maxRecDepth 20000 in
theorem gc_rides_X10_rent_wsX10_rent_r1 : GoodIn wsL_rides wsX10_rent_r1 := goodIn_r wsX10_rent_r1 [6, 7, 8, 4, 9, 10, 11, 12, 13, 14, 15, 16, 17, 18, 19, 20, 21, 22, 23, 24, 25, 26, 27, 28] (by decide +kernel) (by decide +kernel)
set_option maxRecDepth 20000 in
theorem gc_rides_X10_rent_wsX10_rent_r2 : GoodIn wsL_rides wsX10_rent_r2 := goodIn_r wsX10_rent_r2 [29, 30, 31, 32, 33, 34, 35, 36, 37, 38, 39, 40, 41, 42, 43, 44, 45, 46, 47, 48, 49, 50, 51, 52] (by decide +kernel) (by decide +kernel)
set_option maxRecDepth 20000 in
theorem gc_rides_X10_rent_wsX10_rent_r3 : GoodIn wsL_rides wsX10_rent_r3 := goodIn_r wsX10_rent_r3 [53, 54, 55, 56, 57, 58, 59, 60, 61, 62, 63, 64, 65, 66, 67, 68, 69, 70, 71, 72, 73, 74, 75, 76] (by decide +kernel) (by decide +kernel)
set_option maxRecDepth 20000 in
theorem gc_rides_X10_rent_wsX10_rent_r4 : GoodIn wsL_rides wsX10_rent_r4 := goodIn_r wsX10_rent_r4 [110, 111, 112, 113, 81, 114, 115, 116, 117, 118, 119, 88, 89, 90, 91, 120, 121, 122, 123, 124, 125, 126, 127, 128] (by decide +kernel) (by decide +kernel)
set_option maxRecDepth 20000 in
theorem gc_rides_X10_rent_wsX10_rent_r5 : GoodIn wsL_rides wsX10_rent_r5 := goodIn_r wsX10_rent_r5 [129, 130, 131, 132, 133, 134, 135, 136, 137, 138, 139, 140, 141, 142, 143, 144, 145, 92, 93, 94, 95, 96, 97, 98] (by decide +kernel) (by decide +kernel)
set_option maxRecDepth 20000 in
theorem gc_rides_X10_rent_wsX10_rent_r6 : GoodIn wsL_rides wsX10_rent_r6 := goodIn_r wsX10_rent_r6 [99, 100, 101, 102, 103, 104, 105] (by decide +kernel) (by decide +kernel)
