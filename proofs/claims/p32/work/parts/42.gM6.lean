set_option maxRecDepth 20000 in
theorem gc_pauses_X10_pause_wsX30 : GoodIn wsL_pauses wsX30 := goodIn_r wsX30 [172, 173, 174] (by decide +kernel) (by decide +kernel)
set_option maxRecDepth 20000 in
theorem gc_acts_L_brings_0 : GoodIn wsL_acts [.code yL_brings cL_brings 12 (some .boolean)] := goodIn_r _ [9] (by decide +kernel) (by decide +kernel)
set_option maxRecDepth 20000 in
theorem gc_acts_L_brings_wsL_brings_r1 : GoodIn wsL_acts wsL_brings_r1 := goodIn_r wsL_brings_r1 [10, 11, 12, 13, 14, 15, 16, 17, 18, 19, 20, 21, 22, 23, 24, 25, 26, 27, 28, 29, 30, 31, 32, 33] (by decide +kernel) (by decide +kernel)
set_option maxRecDepth 20000 in
theorem gc_acts_L_brings_wsL_brings_r2 : GoodIn wsL_acts wsL_brings_r2 := goodIn_r wsL_brings_r2 [34, 35, 36, 37, 38, 39, 40, 41, 42, 43, 44, 45, 46, 47, 48, 49, 50, 51, 52, 53, 54, 55, 56, 57] (by decide +kernel) (by decide +kernel)
set_option maxRecDepth 20000 in
theorem gc_acts_L_brings_wsL_brings_r3 : GoodIn wsL_acts wsL_brings_r3 := goodIn_r wsL_brings_r3 [58, 59, 60, 61, 62, 63, 64, 65, 66, 67, 68, 69, 70, 71, 72, 73, 74, 75, 76, 77, 78, 79, 80, 81] (by decide +kernel) (by decide +kernel)
set_option maxRecDepth 20000 in
theorem gc_acts_L_brings_wsL_brings_r4 : GoodIn wsL_acts wsL_brings_r4 := goodIn_r wsL_brings_r4 [82, 83, 84, 85, 86, 87, 88, 89, 90, 91, 92, 93, 94, 95, 96, 97, 98, 99, 100, 101, 102, 103, 104, 105] (by decide +kernel) (by decide +kernel)
set_option maxRecDepth 20000 in
theorem gc_acts_L_brings_wsL_brings_r5 : GoodIn wsL_acts wsL_brings_r5 := goodIn_r wsL_brings_r5 [106, 107, 108, 109, 4, 110, 111, 112, 113, 114, 115, 116, 117, 118, 119, 120, 121, 122, 123, 124, 125, 126, 127, 128] (by decide +kernel) (by decide +kernel)
set_option maxRecDepth 20000 in
theorem gc_acts_L_brings_wsL_brings_r6 : GoodIn wsL_acts wsL_brings_r6 := goodIn_r wsL_brings_r6 [129, 130, 131, 132, 133, 134, 135, 136, 137, 138, 139, 140, 141, 142, 143, 144, 145, 146, 147, 148, 149, 150, 151, 152] (by decide +kernel) (by decide +kernel)
set_option maxRecDepth 20000 in
theorem gc_acts_L_brings_wsL_brings_r7 : GoodIn wsL_acts wsL_brings_r7 := goodIn_r wsL_brings_r7 [153, 154, 155, 156, 157, 158, 159, 160, 161, 162, 163, 164, 165, 166] (by decide +kernel) (by decide +kernel)
set_option maxRecDepth 20000 in
theorem gc_acts_L_brings_wsX100 : GoodIn wsL_acts wsX100 := goodIn_r wsX100 [380, 381, 382, 383, 384, 385, 386] (by decide +kernel) (by decide +kernel)
set_option maxRecDepth 20000 in
theorem gc_acts_L_brings_wsX50 : GoodIn wsL_acts wsX50 := goodIn_r wsX50 [387, 388, 389, 390, 391, 392] (by decide +kernel) (by decide +kernel)
set_option maxRecDepth 20000 in
theorem gc_acts_L_brings_wsX60 : GoodIn wsL_acts wsX60 := goodIn_r wsX60 [393, 394, 395, 396, 397] (by decide +kernel) (by decide +kernel)
set_option maxRecDepth 20000 in
theorem gc_acts_L_brings_wsX10 : GoodIn wsL_acts wsX10 := goodIn_r wsX10 [398, 399, 400, 401, 402, 403, 404] (by decide +kernel) (by decide +kernel)
set_option maxRecDepth 20000 in
theorem gc_acts_L_brings_wsX40 : GoodIn wsL_acts wsX40 := goodIn_r wsX40 [405, 406, 407, 408, 409, 410, 411, 412, 413, 414] (by decide +kernel) (by decide +kernel)
set_option maxRecDepth 20000 in
theorem gc_acts_L_brings_wsX80 : GoodIn wsL_acts wsX80 := goodIn_r wsX80 [415, 416, 417, 418] (by decide +kernel) (by decide +kernel)
set_option maxRecDepth 20000 in
theorem gc_acts_L_brings_wsX30 : GoodIn wsL_acts wsX30 := goodIn_r wsX30 [419, 420, 421] (by decide +kernel) (by decide +kernel)
set_option maxRecDepth 20000 in
theorem gc_acts_L_rides_0 : GoodIn wsL_acts [.code yL_rides cL_rides 15 (some .boolean)] := goodIn_r _ [169] (by decide +kernel) (by decide +kernel)
set_option maxRecDepth 20000 in
theorem gc_acts_L_rides_wsL_rides_r1 : GoodIn wsL_acts wsL_rides_r1 := goodIn_r wsL_rides_r1 [170, 171, 172, 13, 173, 15, 16, 17, 18, 19, 20, 21, 22, 23, 24, 25, 26, 27, 28, 29, 30, 31, 32, 33] (by decide +kernel) (by decide +kernel)
set_option maxRecDepth 20000 in
theorem gc_acts_L_rides_wsL_rides_r2 : GoodIn wsL_acts wsL_rides_r2 := goodIn_r wsL_rides_r2 [34, 35, 36, 37, 38, 39, 40, 41, 42, 43, 44, 45, 46, 47, 48, 49, 50, 51, 52, 53, 54, 55, 56, 57] (by decide +kernel) (by decide +kernel)
set_option maxRecDepth 20000 in
theorem gc_acts_L_rides_wsL_rides_r3 : GoodIn wsL_acts wsL_rides_r3 := goodIn_r wsL_rides_r3 [58, 59, 60, 61, 62, 63, 64, 65, 66, 67, 68, 69, 70, 71, 72, 73, 74, 75, 76, 77, 78, 79, 80, 81] (by decide +kernel) (by decide +kernel)
