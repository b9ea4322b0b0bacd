set_option maxRecDepth 20000 in
theorem gc_acts_L_rides_wsL_rides_r4 : GoodIn wsL_acts wsL_rides_r4 := goodIn_r wsL_rides_r4 [82, 83, 84, 85, 174, 175, 176, 177, 178, 179, 180, 181, 182, 183, 184, 185, 186, 187, 188, 94, 95, 96, 97, 98] (by decide +kernel) (by decide +kernel)
set_option maxRecDepth 20000 in
theorem gc_acts_L_rides_wsL_rides_r5 : GoodIn wsL_acts wsL_rides_r5 := goodIn_r wsL_rides_r5 [99, 100, 101, 102, 103, 104, 105, 106, 107, 189, 190, 191, 192, 193, 194, 195, 196, 197, 198, 199, 200, 201, 202, 122] (by decide +kernel) (by decide +kernel)
set_option maxRecDepth 20000 in
theorem gc_acts_L_rides_wsL_rides_r6 : GoodIn wsL_acts wsL_rides_r6 := goodIn_r wsL_rides_r6 [123, 124, 125, 203, 204, 205, 206, 207, 208, 209, 210, 211, 212, 213, 214, 215, 216, 217, 218, 219, 220, 221, 222, 223] (by decide +kernel) (by decide +kernel)
set_option maxRecDepth 20000 in
theorem gc_acts_L_rides_wsL_rides_r7 : GoodIn wsL_acts wsL_rides_r7 := goodIn_r wsL_rides_r7 [224, 108, 109, 4, 110, 111, 112, 113, 225, 226, 227, 228, 229, 230, 231, 232, 233, 234, 235, 236, 126, 127, 128, 129] (by decide +kernel) (by decide +kernel)
set_option maxRecDepth 20000 in
theorem gc_acts_L_rides_wsL_rides_r8 : GoodIn wsL_acts wsL_rides_r8 := goodIn_r wsL_rides_r8 [130, 131, 132, 133, 134, 135, 136, 137, 138, 237, 238, 239, 240, 241, 242, 243, 244, 245, 246, 247, 248, 249, 250, 251] (by decide +kernel) (by decide +kernel)
set_option maxRecDepth 20000 in
theorem gc_acts_L_rides_wsL_rides_r9 : GoodIn wsL_acts wsL_rides_r9 := goodIn_r wsL_rides_r9 [252, 253, 254, 255, 256, 257, 258] (by decide +kernel) (by decide +kernel)
set_option maxRecDepth 20000 in
theorem gc_acts_L_rides_wsX100 : GoodIn wsL_acts wsX100 := goodIn_r wsX100 [380, 381, 382, 383, 384, 385, 386] (by decide +kernel) (by decide +kernel)
set_option maxRecDepth 20000 in
theorem gc_acts_L_rides_wsX50 : GoodIn wsL_acts wsX50 := goodIn_r wsX50 [387, 388, 389, 390, 391, 392] (by decide +kernel) (by decide +kernel)
set_option maxRecDepth 20000 in
theorem gc_acts_L_rides_wsX60 : GoodIn wsL_acts wsX60 := goodIn_r wsX60 [393, 394, 395, 396, 397] (by decide +kernel) (by decide +kernel)
set_option maxRecDepth 20000 in
theorem gc_acts_L_rides_wsX10 : GoodIn wsL_acts wsX10 := goodIn_r wsX10 [398, 399, 400, 401, 402, 403, 404] (by decide +kernel) (by decide +kernel)
set_option maxRecDepth 20000 in
theorem gc_acts_L_rides_wsX40 : GoodIn wsL_acts wsX40 := goodIn_r wsX40 [405, 406, 407, 408, 409, 410, 411, 412, 413, 414] (by decide +kernel) (by decide +kernel)
set_option maxRecDepth 20000 in
theorem gc_acts_L_rides_wsX80 : GoodIn wsL_acts wsX80 := goodIn_r wsX80 [415, 416, 417, 418] (by decide +kernel) (by decide +kernel)
set_option maxRecDepth 20000 in
theorem gc_acts_L_rides_wsX30 : GoodIn wsL_acts wsX30 := goodIn_r wsX30 [419, 420, 421] (by decide +kernel) (by decide +kernel)
set_option maxRecDepth 20000 in
theorem gc_acts_L_drives_0 : GoodIn wsL_acts [.code yL_drives cL_drives 13 (some .boolean)] := goodIn_r _ [261] (by decide +kernel) (by decide +kernel)
set_option maxRecDepth 20000 in
theorem gc_acts_L_drives_wsL_drives_r1 : GoodIn wsL_acts wsL_drives_r1 := goodIn_r wsL_drives_r1 [262, 263, 4, 264, 265, 266, 267, 13, 268, 15, 16, 17, 18, 19, 20, 21, 22, 23, 24, 25, 26, 27, 28, 29] (by decide +kernel) (by decide +kernel)
set_option maxRecDepth 20000 in
theorem gc_acts_L_drives_wsL_drives_r2 : GoodIn wsL_acts wsL_drives_r2 := goodIn_r wsL_drives_r2 [30, 31, 32, 33, 34, 35, 36, 37, 38, 39, 40, 41, 42, 43, 44, 45, 46, 47, 48, 49, 50, 51, 52, 53] (by decide +kernel) (by decide +kernel)
set_option maxRecDepth 20000 in
theorem gc_acts_L_drives_wsL_drives_r3 : GoodIn wsL_acts wsL_drives_r3 := goodIn_r wsL_drives_r3 [54, 55, 56, 57, 58, 59, 60, 61, 62, 63, 64, 65, 66, 67, 68, 69, 70, 71, 72, 73, 74, 75, 76, 77] (by decide +kernel) (by decide +kernel)
set_option maxRecDepth 20000 in
theorem gc_acts_L_drives_wsL_drives_r4 : GoodIn wsL_acts wsL_drives_r4 := goodIn_r wsL_drives_r4 [78, 79, 80, 81, 82, 83, 84, 85, 269, 270, 271, 272, 273, 274, 275, 276, 277, 278, 220, 212, 213, 214, 135, 136] (by decide +kernel) (by decide +kernel)
set_option maxRecDepth 20000 in
theorem gc_acts_L_drives_wsL_drives_r5 : GoodIn wsL_acts wsL_drives_r5 := goodIn_r wsL_drives_r5 [137, 138, 279, 208, 209, 210, 211, 280, 281, 282, 283, 284, 221, 222, 223, 224, 94, 95, 96, 97, 98, 99, 100, 101] (by decide +kernel) (by decide +kernel)
set_option maxRecDepth 20000 in
theorem gc_acts_L_drives_wsL_drives_r6 : GoodIn wsL_acts wsL_drives_r6 := goodIn_r wsL_drives_r6 [102, 103, 104, 105, 106, 107, 108, 109, 110, 111, 112, 113, 285, 286, 287, 288, 289, 290, 291, 292, 293, 294, 295, 296] (by decide +kernel) (by decide +kernel)
