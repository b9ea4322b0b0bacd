set_option maxRecDepth 20000 in
theorem gc_pauses_X10_pause_wsX30 : GoodIn wsL_pauses wsX30 := goodIn_r wsX30 [172, 173, 174] (by rfl) (by decide +kernel)
set_option maxRecDepth 20000 in
theorem gc_acts_L_brings_0 : GoodIn wsL_acts [.code yL_brings cL_brings 12 (some .boolean)] := goodIn_r _ [9] (by rfl) (by decide +kernel)
set_option maxRecDepth 20000 in
theorem gc_acts_L_brings_wsL_brings_r1 : GoodIn wsL_acts wsL_brings_r1 := goodIn_r wsL_brings_r1 [10, 11, 12, 13, 14, 15, 16, 17, 18, 19, 20, 21, 22, 23, 24, 25, 26, 27, 28, 29, 30, 31, 32, 33] (by rfl) (by decide +kernel)
set_option maxRecDepth 20000 in
theorem gc_acts_L_brings_wsL_brings_r2 : GoodIn wsL_acts wsL_brings_r2 := goodIn_r wsL_brings_r2 [34, 35, 36, 37, 38, 39, 40, 41, 42, 43, 44, 45, 46, 47, 48, 49, 50, 51, 52, 53, 54, 55, 56, 57] (by rfl) (by decide +kernel)
set_option maxRecDepth 20000 in
theorem gc_acts_L_brings_wsL_brings_r3 : GoodIn wsL_acts wsL_brings_r3 := goodIn_r wsL_brings_r3 [58, 59, 60, 61, 62, 63, 64, 65, 66, 67, 68, 69, 70, 71, 72, 73, 74, 75, 76, 77, 78, 79, 80, 81] (by rfl) (by decide +kernel)
set_option maxRecDepth 20000 in
theorem gc_acts_L_brings_wsL_brings_r4 : GoodIn wsL_acts wsL_brings_r4 := goodIn_r wsL_brings_r4 [82, 83, 84, 85, 86, 87, 88, 89, 90, 91, 92, 93, 94, 95, 96, 97, 98, 99, 100, 101, 102, 103, 104, 105] (by rfl) (by decide +kernel)
set_option maxRecDepth 20000 in
theorem gc_acts_L_brings_wsL_brings_r5 : GoodIn wsL_acts wsL_brings_r5 := goodIn_r wsL_brings_r5 [106, 107, 108, 109, 4, 110, 111, 112, 113, 114, 115, 116, 117, 118, 119, 120, 121, 122, 123, 124, 125, 126, 127, 128] (by rfl) (by decide +kernel)
set_option maxRecDepth 20000 in
theorem gc_acts_L_brings_wsL_brings_r6 : GoodIn wsL_acts wsL_brings_r6 := goodIn_r wsL_brings_r6 [129, 130, 131, 132, 133, 134, 135, 136, 137, 138, 139, 140, 141, 142, 143, 144, 145, 146, 147, 148, 149, 150, 151, 152] (by rfl) (by decide +kernel)
set_option maxRecDepth 20000 in
theorem gc_acts_L_brings_wsL_brings_r7 : GoodIn wsL_acts wsL_brings_r7 := goodIn_r wsL_brings_r7 [153, 154, 155, 156, 157, 158, 159, 160, 161, 162, 163, 164, 165, 166] (by rfl) (by decide +kernel)
set_option maxRecDepth 20000 in
theorem gc_acts_L_brings_wsX100 : GoodIn wsL_acts wsX100 := goodIn_r wsX100 [380, 381, 382, 383, 384, 385, 386] (by rfl) (by decide +kernel)
set_option maxRecDepth 20000 in
theorem gc_acts_L_brings_wsX50 : GoodIn wsL_acts wsX50 := goodIn_r wsX50 [387, 388, 389, 390, 391, 392] (by rfl) (by decide +kernel)
set_option maxRecDepth 20000 in
theorem gc_acts_L_brings_wsX60 : GoodIn wsL_acts wsX60 := goodIn_r wsX60 [393, 394, 395, 396, 397] (by rfl) (by decide +kernel)
set_option maxRecDepth 20000 in
theorem gc_acts_L_brings_wsX10 : GoodIn wsL_acts wsX10 := goodIn_r wsX10 [398, 399, 400, 401, 402, 403, 404] (by rfl) (by decide +kernel)
set_option maxRecDepth 20000 in
theorem gc_acts_L_brings_wsX40 : GoodIn wsL_acts wsX40 := goodIn_r wsX40 [405, 406, 407, 408, 409, 410, 411, 412, 413, 414] (by rfl) (by decide +kernel)
set_option maxRecDepth 20000 in
theorem gc_acts_L_brings_wsX80 : GoodIn wsL_acts wsX80 := goodIn_r wsX80 [415, 416, 417, 418] (by rfl) (by decide +kernel)
set_option maxRecDepth 20000 in
theorem gc_acts_L_brings_wsX30 : GoodIn wsL_acts wsX30 := goodIn_r wsX30 [419, 420, 421] (by rfl) (by decide +kernel)
set_option maxRecDepth 20000 in
theorem gc_acts_L_rides_0 : GoodIn wsL_acts [.code yL_rides cL_rides 15 (some .boolean)] := goodIn_r _ [169] (by rfl) (by decide +kernel)
set_option maxRecDepth 20000 in
theorem gc_acts_L_rides_wsL_rides_r1 : GoodIn wsL_acts wsL_rides_r1 := goodIn_r wsL_rides_r1 [170, 171, 172, 13, 173, 15, 16, 17, 18, 19, 20, 21, 22, 23, 24, 25, 26, 27, 28, 29, 30, 31, 32, 33] (by rfl) (by decide +kernel)
set_option maxRecDepth 20000 in
theorem gc_acts_L_rides_wsL_rides_r2 : GoodIn wsL_acts wsL_rides_r2 := goodIn_r wsL_rides_r2 [34, 35, 36, 37, 38, 39, 40, 41, 42, 43, 44, 45, 46, 47, 48, 49, 50, 51, 52, 53, 54, 55, 56, 57] (by rfl) (by decide +kernel)
set_option maxRecDepth 20000 in
theorem gc_acts_L_rides_wsL_rides_r3 : GoodIn wsL_acts wsL_rides_r3 := goodIn_r wsL_rides_r3 [58, 59, 60, 61, 62, 63, 64, 65, 66, 67, 68, 69, 70, 71, 72, 73, 74, 75, 76, 77, 78, 79, 80, 81] (by rfl) (by decide +kernel)
set_option maxRecDepth 20000 in
theorem gc_acts_L_rides_wsL_rides_r4 : GoodIn wsL_acts wsL_rides_r4 := goodIn_r wsL_rides_r4 [82, 83, 84, 85, 174, 175, 176, 177, 178, 179, 180, 181, 182, 183, 184, 185, 186, 187, 188, 94, 95, 96, 97, 98] (by rfl) (by decide +kernel)
set_option maxRecDepth 20000 in
theorem gc_acts_L_rides_wsL_rides_r5 : GoodIn wsL_acts wsL_rides_r5 := goodIn_r wsL_rides_r5 [99, 100, 101, 102, 103, 104, 105, 106, 107, 189, 190, 191, 192, 193, 194, 195, 196, 197, 198, 199, 200, 201, 202, 122] (by rfl) (by decide +kernel)
set_option maxRecDepth 20000 in
theorem gc_acts_L_rides_wsL_rides_r6 : GoodIn wsL_acts wsL_rides_r6 := goodIn_r wsL_rides_r6 [123, 124, 125, 203, 204, 205, 206, 207, 208, 209, 210, 211, 212, 213, 214, 215, 216, 217, 218, 219, 220, 221, 222, 223] (by rfl) (by decide +kernel)
set_option maxRecDepth 20000 in
theorem gc_acts_L_rides_wsL_rides_r7 : GoodIn wsL_acts wsL_rides_r7 := goodIn_r wsL_rides_r7 [224, 108, 109, 4, 110, 111, 112, 113, 225, 226, 227, 228, 229, 230, 231, 232, 233, 234, 235, 236, 126, 127, 128, 129] (by rfl) (by decide +kernel)
set_option maxRecDepth 20000 in
theorem gc_acts_L_rides_wsL_rides_r8 : GoodIn wsL_acts wsL_rides_r8 := goodIn_r wsL_rides_r8 [130, 131, 132, 133, 134, 135, 136, 137, 138, 237, 238, 239, 240, 241, 242, 243, 244, 245, 246, 247, 248, 249, 250, 251] (by rfl) (by decide +kernel)
set_option maxRecDepth 20000 in
theorem gc_acts_L_rides_wsL_rides_r9 : GoodIn wsL_acts wsL_rides_r9 := goodIn_r wsL_rides_r9 [252, 253, 254, 255, 256, 257, 258] (by rfl) (by decide +kernel)
set_option maxRecDepth 20000 in
theorem gc_acts_L_rides_wsX100 : GoodIn wsL_acts wsX100 := goodIn_r wsX100 [380, 381, 382, 383, 384, 385, 386] (by rfl) (by decide +kernel)
set_option maxRecDepth 20000 in
theorem gc_acts_L_rides_wsX50 : GoodIn wsL_acts wsX50 := goodIn_r wsX50 [387, 388, 389, 390, 391, 392] (by rfl) (by decide +kernel)
set_option maxRecDepth 20000 in
theorem gc_acts_L_rides_wsX60 : GoodIn wsL_acts wsX60 := goodIn_r wsX60 [393, 394, 395, 396, 397] (by rfl) (by decide +kernel)
set_option maxRecDepth 20000 in
theorem gc_acts_L_rides_wsX10 : GoodIn wsL_acts wsX10 := goodIn_r wsX10 [398, 399, 400, 401, 402, 403, 404] (by rfl) (by decide +kernel)
set_option maxRecDepth 20000 in
theorem gc_acts_L_rides_wsX40 : GoodIn wsL_acts wsX40 := goodIn_r wsX40 [405, 406, 407, 408, 409, 410, 411, 412, 413, 414] (by rfl) (by decide +kernel)
set_option maxRecDepth 20000 in
theorem gc_acts_L_rides_wsX80 : GoodIn wsL_acts wsX80 := goodIn_r wsX80 [415, 416, 417, 418] (by rfl) (by decide +kernel)
set_option maxRecDepth 20000 in
theorem gc_acts_L_rides_wsX30 : GoodIn wsL_acts wsX30 := goodIn_r wsX30 [419, 420, 421] (by rfl) (by decide +kernel)
set_option maxRecDepth 20000 in
theorem gc_acts_L_drives_0 : GoodIn wsL_acts [.code yL_drives cL_drives 13 (some .boolean)] := goodIn_r _ [261] (by rfl) (by decide +kernel)
set_option maxRecDepth 20000 in
theorem gc_acts_L_drives_wsL_drives_r1 : GoodIn wsL_acts wsL_drives_r1 := goodIn_r wsL_drives_r1 [262, 263, 4, 264, 265, 266, 267, 13, 268, 15, 16, 17, 18, 19, 20, 21, 22, 23, 24, 25, 26, 27, 28, 29] (by rfl) (by decide +kernel)
set_option maxRecDepth 20000 in
theorem gc_acts_L_drives_wsL_drives_r2 : GoodIn wsL_acts wsL_drives_r2 := goodIn_r wsL_drives_r2 [30, 31, 32, 33, 34, 35, 36, 37, 38, 39, 40, 41, 42, 43, 44, 45, 46, 47, 48, 49, 50, 51, 52, 53] (by rfl) (by decide +kernel)
set_option maxRecDepth 20000 in
theorem gc_acts_L_drives_wsL_drives_r3 : GoodIn wsL_acts wsL_drives_r3 := goodIn_r wsL_drives_r3 [54, 55, 56, 57, 58, 59, 60, 61, 62, 63, 64, 65, 66, 67, 68, 69, 70, 71, 72, 73, 74, 75, 76, 77] (by rfl) (by decide +kernel)
set_option maxRecDepth 20000 in
theorem gc_acts_L_drives_wsL_drives_r4 : GoodIn wsL_acts wsL_drives_r4 := goodIn_r wsL_drives_r4 [78, 79, 80, 81, 82, 83, 84, 85, 269, 270, 271, 272, 273, 274, 275, 276, 277, 278, 220, 212, 213, 214, 135, 136] (by rfl) (by decide +kernel)
set_option maxRecDepth 20000 in
theorem gc_acts_L_drives_wsL_drives_r5 : GoodIn wsL_acts wsL_drives_r5 := goodIn_r wsL_drives_r5 [137, 138, 279, 208, 209, 210, 211, 280, 281, 282, 283, 284, 221, 222, 223, 224, 94, 95, 96, 97, 98, 99, 100, 101] (by rfl) (by decide +kernel)
set_option maxRecDepth 20000 in
theorem gc_acts_L_drives_wsL_drives_r6 : GoodIn wsL_acts wsL_drives_r6 := goodIn_r wsL_drives_r6 [102, 103, 104, 105, 106, 107, 108, 109, 110, 111, 112, 113, 285, 286, 287, 288, 289, 290, 291, 292, 293, 294, 295, 296] (by rfl) (by decide +kernel)
set_option maxRecDepth 20000 in
theorem gc_acts_L_drives_wsL_drives_r7 : GoodIn wsL_acts wsL_drives_r7 := goodIn_r wsL_drives_r7 [126, 127, 128, 129, 130, 122, 123, 124, 125, 131, 132, 133, 134, 297, 298, 299, 300, 301, 302, 303, 304, 305, 306, 307] (by rfl) (by decide +kernel)
set_option maxRecDepth 20000 in
theorem gc_acts_L_drives_wsL_drives_r8 : GoodIn wsL_acts wsL_drives_r8 := goodIn_r wsL_drives_r8 [308, 309, 310, 311, 312, 313, 314, 315, 316, 317, 318, 319, 181, 320, 321, 322, 323, 324] (by rfl) (by decide +kernel)
set_option maxRecDepth 20000 in
theorem gc_acts_L_drives_wsX100 : GoodIn wsL_acts wsX100 := goodIn_r wsX100 [380, 381, 382, 383, 384, 385, 386] (by rfl) (by decide +kernel)
set_option maxRecDepth 20000 in
theorem gc_acts_L_drives_wsX50 : GoodIn wsL_acts wsX50 := goodIn_r wsX50 [387, 388, 389, 390, 391, 392] (by rfl) (by decide +kernel)
set_option maxRecDepth 20000 in
theorem gc_acts_L_drives_wsX60 : GoodIn wsL_acts wsX60 := goodIn_r wsX60 [393, 394, 395, 396, 397] (by rfl) (by decide +kernel)
set_option maxRecDepth 20000 in
theorem gc_acts_L_drives_wsX10 : GoodIn wsL_acts wsX10 := goodIn_r wsX10 [398, 399, 400, 401, 402, 403, 404] (by rfl) (by decide +kernel)
set_option maxRecDepth 20000 in
theorem gc_acts_L_drives_wsX40 : GoodIn wsL_acts wsX40 := goodIn_r wsX40 [405, 406, 407, 408, 409, 410, 411, 412, 413, 414] (by rfl) (by decide +kernel)
set_option maxRecDepth 20000 in
theorem gc_acts_L_drives_wsX80 : GoodIn wsL_acts wsX80 := goodIn_r wsX80 [415, 416, 417, 418] (by rfl) (by decide +kernel)
set_option maxRecDepth 20000 in
theorem gc_acts_L_drives_wsX30 : GoodIn wsL_acts wsX30 := goodIn_r wsX30 [419, 420, 421] (by rfl) (by decide +kernel)
set_option maxRecDepth 20000 in
theorem gc_acts_L_pauses_0 : GoodIn wsL_acts [.code yL_pauses cL_pauses 11 (some .boolean)] := goodIn_r _ [327] (by rfl) (by decide +kernel)
set_option maxRecDepth 20000 in
theorem gc_acts_L_pauses_wsL_pauses_r1 : GoodIn wsL_acts wsL_pauses_r1 := goodIn_r wsL_pauses_r1 [108, 109, 4, 110, 111, 112, 113, 328, 329, 330, 13, 331, 15, 16, 17, 18, 19, 20, 21, 22, 23, 24, 25, 26] (by rfl) (by decide +kernel)
set_option maxRecDepth 20000 in
theorem gc_acts_L_pauses_wsL_pauses_r2 : GoodIn wsL_acts wsL_pauses_r2 := goodIn_r wsL_pauses_r2 [27, 28, 29, 30, 31, 32, 33, 34, 35, 36, 37, 38, 39, 40, 41, 42, 43, 44, 45, 46, 47, 48, 49, 50] (by rfl) (by decide +kernel)
set_option maxRecDepth 20000 in
theorem gc_acts_L_pauses_wsL_pauses_r3 : GoodIn wsL_acts wsL_pauses_r3 := goodIn_r wsL_pauses_r3 [51, 52, 53, 54, 55, 56, 57, 58, 59, 60, 61, 62, 63, 64, 65, 66, 67, 68, 69, 70, 71, 72, 73, 74] (by rfl) (by decide +kernel)
set_option maxRecDepth 20000 in
theorem gc_acts_L_pauses_wsL_pauses_r4 : GoodIn wsL_acts wsL_pauses_r4 := goodIn_r wsL_pauses_r4 [75, 76, 77, 78, 79, 80, 81, 82, 83, 84, 85, 332, 333, 334, 335, 336, 337, 338, 339, 340, 341, 342, 343, 344] (by rfl) (by decide +kernel)
set_option maxRecDepth 20000 in
theorem gc_acts_L_pauses_wsL_pauses_r5 : GoodIn wsL_acts wsL_pauses_r5 := goodIn_r wsL_pauses_r5 [211, 212, 213, 214, 345, 346, 347, 348, 349, 350, 351, 352, 353, 130, 135, 136, 137, 138, 221, 222, 223, 224, 94, 95] (by rfl) (by decide +kernel)
set_option maxRecDepth 20000 in
theorem gc_acts_L_pauses_wsL_pauses_r6 : GoodIn wsL_acts wsL_pauses_r6 := goodIn_r wsL_pauses_r6 [96, 97, 98, 99, 100, 101, 102, 103, 104, 105, 106, 107] (by rfl) (by decide +kernel)
set_option maxRecDepth 20000 in
theorem gc_acts_L_pauses_wsX100 : GoodIn wsL_acts wsX100 := goodIn_r wsX100 [380, 381, 382, 383, 384, 385, 386] (by rfl) (by decide +kernel)
set_option maxRecDepth 20000 in
theorem gc_acts_L_pauses_wsX50 : GoodIn wsL_acts wsX50 := goodIn_r wsX50 [387, 388, 389, 390, 391, 392] (by rfl) (by decide +kernel)
set_option maxRecDepth 20000 in
theorem gc_acts_L_pauses_wsX60 : GoodIn wsL_acts wsX60 := goodIn_r wsX60 [393, 394, 395, 396, 397] (by rfl) (by decide +kernel)
set_option maxRecDepth 20000 in
theorem gc_acts_L_pauses_wsX10 : GoodIn wsL_acts wsX10 := goodIn_r wsX10 [398, 399, 400, 401, 402, 403, 404] (by rfl) (by decide +kernel)
