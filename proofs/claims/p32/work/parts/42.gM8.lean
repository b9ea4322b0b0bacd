set_option maxRecDepth 20000 in
theorem gc_acts_L_drives_wsL_drives_r7 : GoodIn wsL_acts wsL_drives_r7 := goodIn_r wsL_drives_r7 [126, 127, 128, 129, 130, 122, 123, 124, 125, 131, 132, 133, 134, 297, 298, 299, 300, 301, 302, 303, 304, 305, 306, 307] (by decide +kernel) (by decide +kernel)
set_option maxRecDepth 20000 in
theorem gc_acts_L_drives_wsL_drives_r8 : GoodIn wsL_acts wsL_drives_r8 := goodIn_r wsL_drives_r8 [308, 309, 310, 311, 312, 313, 314, 315, 316, 317, 318, 319, 181, 320, 321, 322, 323, 324] (by decide +kernel) (by decide +kernel)
set_option maxRecDepth 20000 in
theorem gc_acts_L_drives_wsX100 : GoodIn wsL_acts wsX100 := goodIn_r wsX100 [380, 381, 382, 383, 384, 385, 386] (by decide +kernel) (by decide +kernel)
set_option maxRecDepth 20000 in
theorem gc_acts_L_drives_wsX50 : GoodIn wsL_acts wsX50 := goodIn_r wsX50 [387, 388, 389, 390, 391, 392] (by decide +kernel) (by decide +kernel)
set_option maxRecDepth 20000 in
theorem gc_acts_L_drives_wsX60 : GoodIn wsL_acts wsX60 := goodIn_r wsX60 [393, 394, 395, 396, 397] (by decide +kernel) (by decide +kernel)
set_option maxRecDepth 20000 in
theorem gc_acts_L_drives_wsX10 : GoodIn wsL_acts wsX10 := goodIn_r wsX10 [398, 399, 400, 401, 402, 403, 404] (by decide +kernel) (by decide +kernel)
set_option maxRecDepth 20000 in
theorem gc_acts_L_drives_wsX40 : GoodIn wsL_acts wsX40 := goodIn_r wsX40 [405, 406, 407, 408, 409, 410, 411, 412, 413, 414] (by decide +kernel) (by decide +kernel)
set_option maxRecDepth 20000 in
theorem gc_acts_L_drives_wsX80 : GoodIn wsL_acts wsX80 := goodIn_r wsX80 [415, 416, 417, 418] (by decide +kernel) (by decide +kernel)
set_option maxRecDepth 20000 in
theorem gc_acts_L_drives_wsX30 : GoodIn wsL_acts wsX30 := goodIn_r wsX30 [419, 420, 421] (by decide +kernel) (by decide +kernel)
set_option maxRecDepth 20000 in
theorem gc_acts_L_pauses_0 : GoodIn wsL_acts [.code yL_pauses cL_pauses 11 (some .boolean)] := goodIn_r _ [327] (by decide +kernel) (by decide +kernel)
set_option maxRecDepth 20000 in
theorem gc_acts_L_pauses_wsL_pauses_r1 : GoodIn wsL_acts wsL_pauses_r1 := goodIn_r wsL_pauses_r1 [108, 109, 4, 110, 111, 112, 113, 328, 329, 330, 13, 331, 15, 16, 17, 18, 19, 20, 21, 22, 23, 24, 25, 26] (by decide +kernel) (by decide +kernel)
set_option maxRecDepth 20000 in
theorem gc_acts_L_pauses_wsL_pauses_r2 : GoodIn wsL_acts wsL_pauses_r2 := goodIn_r wsL_pauses_r2 [27, 28, 29, 30, 31, 32, 33, 34, 35, 36, 37, 38, 39, 40, 41, 42, 43, 44, 45, 46, 47, 48, 49, 50] (by decide +kernel) (by decide +kernel)
set_option maxRecDepth 20000 in
theorem gc_acts_L_pauses_wsL_pauses_r3 : GoodIn wsL_acts wsL_pauses_r3 := goodIn_r wsL_pauses_r3 [51, 52, 53, 54, 55, 56, 57, 58, 59, 60, 61, 62, 63, 64, 65, 66, 67, 68, 69, 70, 71, 72, 73, 74] (by decide +kernel) (by decide +kernel)
set_option maxRecDepth 20000 in
theorem gc_acts_L_pauses_wsL_pauses_r4 : GoodIn wsL_acts wsL_pauses_r4 := goodIn_r wsL_pauses_r4 [75, 76, 77, 78, 79, 80, 81, 82, 83, 84, 85, 332, 333, 334, 335, 336, 337, 338, 339, 340, 341, 342, 343, 344] (by decide +kernel) (by decide +kernel)
set_option maxRecDepth 20000 in
theorem gc_acts_L_pauses_wsL_pauses_r5 : GoodIn wsL_acts wsL_pauses_r5 := goodIn_r wsL_pauses_r5 [211, 212, 213, 214, 345, 346, 347, 348, 349, 350, 351, 352, 353, 130, 135, 136, 137, 138, 221, 222, 223, 224, 94, 95] (by decide +kernel) (by decide +kernel)
set_option maxRecDepth 20000 in
theorem gc_acts_L_pauses_wsL_pauses_r6 : GoodIn wsL_acts wsL_pauses_r6 := goodIn_r wsL_pauses_r6 [96, 97, 98, 99, 100, 101, 102, 103, 104, 105, 106, 107] (by decide +kernel) (by decide +kernel)
set_option maxRecDepth 20000 in
theorem gc_acts_L_pauses_wsX100 : GoodIn wsL_acts wsX100 := goodIn_r wsX100 [380, 381, 382, 383, 384, 385, 386] (by decide +kernel) (by decide +kernel)
set_option maxRecDepth 20000 in
theorem gc_acts_L_pauses_wsX50 : GoodIn wsL_acts wsX50 := goodIn_r wsX50 [387, 388, 389, 390, 391, 392] (by decide +kernel) (by decide +kernel)
set_option maxRecDepth 20000 in
theorem gc_acts_L_pauses_wsX60 : GoodIn wsL_acts wsX60 := goodIn_r wsX60 [393, 394, 395, 396, 397] (by decide +kernel) (by decide +kernel)
set_option maxRecDepth 20000 in
theorem gc_acts_L_pauses_wsX10 : GoodIn wsL_acts wsX10 := goodIn_r wsX10 [398, 399, 400, 401, 402, 403, 404] (by decide +kernel) (by decide +kernel)
