set_option maxRecDepth 20000 in
theorem ggL_free_L_docked : GoodIn wsL_free wsL_docked := goodIn_r _ [4] (by rfl) (by decide +kernel)
set_option maxRecDepth 20000 in
theorem gL_free_L_docked : GoodIn wsL_free (va_wsS RL 9 yL_docked wsL_docked) := goodIn_app (goodIn_of _ (by decide +kernel)) ggL_free_L_docked
set_option maxRecDepth 20000 in
theorem ggL_brings_X10_station : GoodIn wsL_brings wsX10_station := goodIn_r _ [5, 6, 7, 8, 4, 9, 10, 11, 12, 13, 14, 15, 16, 17, 18, 19, 20, 21, 22, 23, 24, 25, 26, 27, 28, 29, 30, 31, 32, 33, 34, 35, 36, 37, 38, 39, 40, 41, 42, 43, 44, 45, 46, 47, 48, 49, 50, 51, 52, 53, 54, 55, 56, 57, 58, 59, 60, 61, 62, 63, 64, 65, 66, 67, 68, 69, 70, 71, 72, 73, 74, 75, 76, 77, 78, 79, 80, 81, 82, 83, 84, 85, 86, 87, 88, 89, 90, 91, 92, 93, 94, 95, 96, 97, 98, 159, 160, 161, 162, 163, 164, 165, 166, 167, 168, 169, 170, 171, 172, 173, 174, 175, 176, 177, 178, 179, 180, 181, 182, 183, 184, 185, 186, 187, 188, 189, 190, 191, 192, 193, 194, 195, 196, 197, 198, 199, 200] (by rfl) (by decide +kernel)
set_option maxRecDepth 20000 in
theorem gL_brings_X10_station : GoodIn wsL_brings (wsV RL 15 RX10 yX10_station wsX10_station) := goodIn_app (goodIn_of _ (by decide +kernel)) ggL_brings_X10_station
set_option maxRecDepth 20000 in
theorem ggL_brings_L_free : GoodIn wsL_brings wsL_free := goodIn_r _ [102, 103, 104, 101, 105] (by rfl) (by decide +kernel)
set_option maxRecDepth 20000 in
theorem gL_brings_L_free : GoodIn wsL_brings (va_wsS RL 21 yL_free wsL_free) := goodIn_app (goodIn_of _ (by decide +kernel)) ggL_brings_L_free
set_option maxRecDepth 20000 in
theorem ggL_brings_X10_rider : GoodIn wsL_brings wsX10_rider := goodIn_r _ [138, 6, 7, 8, 4, 9, 10, 11, 12, 13, 14, 15, 16, 17, 18, 19, 20, 21, 22, 23, 24, 25, 26, 27, 28, 29, 30, 31, 32, 33, 34, 35, 36, 37, 38, 39, 40, 41, 42, 43, 44, 45, 46, 47, 48, 49, 50, 51, 52, 53, 54, 55, 56, 57, 58, 59, 60, 61, 62, 63, 64, 65, 66, 67, 68, 69, 70, 71, 72, 73, 74, 75, 76, 139, 140, 141, 142, 143, 144, 145, 146, 85, 86, 87, 88, 89, 90, 91, 92, 93, 94, 95, 96, 97, 98, 159, 160, 161, 162, 163, 164, 165, 166, 167, 168, 169, 170, 171, 172, 173, 174, 175, 176, 177, 178, 179, 180, 181, 182, 183, 184, 185, 186, 187, 188, 189, 190, 191, 192, 193, 194, 195, 196, 197, 198, 199, 200] (by rfl) (by decide +kernel)
set_option maxRecDepth 20000 in
theorem gL_brings_X10_rider : GoodIn wsL_brings (wsV RL 29 RX10 yX10_rider wsX10_rider) := goodIn_app (goodIn_of _ (by decide +kernel)) ggL_brings_X10_rider
set_option maxRecDepth 20000 in
theorem ggL_brings_X10_van : GoodIn wsL_brings wsX10_van := goodIn_r _ [150, 6, 7, 8, 4, 9, 10, 11, 12, 13, 14, 15, 16, 17, 18, 19, 20, 21, 22, 23, 24, 25, 26, 27, 28, 29, 30, 31, 32, 33, 34, 35, 36, 37, 38, 39, 40, 41, 42, 43, 44, 45, 46, 47, 48, 49, 50, 51, 52, 53, 54, 55, 56, 57, 58, 59, 60, 61, 62, 63, 64, 65, 66, 67, 68, 69, 70, 71, 72, 73, 74, 75, 76, 151, 152, 153, 154, 114, 115, 116, 117, 155, 156, 157, 158, 85, 86, 87, 88, 89, 90, 91, 92, 93, 94, 95, 96, 97, 98, 159, 160, 161, 162, 163, 164, 165, 166, 167, 168, 169, 170, 171, 172, 173, 174, 175, 176, 177, 178, 179, 180, 181, 182, 183, 184, 185, 186, 187, 188, 189, 190, 191, 192, 193, 194, 195, 196, 197, 198, 199, 200] (by rfl) (by decide +kernel)
set_option maxRecDepth 20000 in
theorem gL_brings_X10_van : GoodIn wsL_brings (wsV RL 33 RX10 yX10_van wsX10_van) := goodIn_app (goodIn_of _ (by decide +kernel)) ggL_brings_X10_van
set_option maxRecDepth 20000 in
theorem ggL_rides_X10_pass : GoodIn wsL_rides wsX10_pass := goodIn_r _ [5, 6, 7, 8, 4, 9, 10, 11, 12, 13, 14, 15, 16, 17, 18, 19, 20, 21, 22, 23, 24, 25, 26, 27, 28, 29, 30, 31, 32, 33, 34, 35, 36, 37, 38, 39, 40, 41, 42, 43, 44, 45, 46, 47, 48, 49, 50, 51, 52, 53, 54, 55, 56, 57, 58, 59, 60, 61, 62, 63, 64, 65, 66, 67, 68, 69, 70, 71, 72, 73, 74, 75, 76, 77, 78, 79, 80, 81, 82, 83, 84, 85, 86, 87, 88, 89, 90, 91, 92, 93, 94, 95, 96, 97, 98, 99, 100, 101, 102, 103, 104, 105, 200, 201, 202, 203, 204, 205, 206, 207, 208, 209, 210, 211, 212, 213, 214, 215, 216, 217, 218, 219, 220, 221, 222, 223, 224, 225, 226, 227, 228, 229, 230, 231, 232, 233, 234, 235, 236, 237, 238, 239, 240, 241] (by rfl) (by decide +kernel)
set_option maxRecDepth 20000 in
theorem gL_rides_X10_pass : GoodIn wsL_rides (wsV RL 36 RX10 yX10_pass wsX10_pass) := goodIn_app (goodIn_of _ (by decide +kernel)) ggL_rides_X10_pass
set_option maxRecDepth 20000 in
theorem ggL_rides_L_free : GoodIn wsL_rides wsL_free := goodIn_r _ [149, 150, 151, 148, 152] (by rfl) (by decide +kernel)
set_option maxRecDepth 20000 in
theorem gL_rides_L_free : GoodIn wsL_rides (va_wsS RL 21 yL_free wsL_free) := goodIn_app (goodIn_of _ (by decide +kernel)) ggL_rides_L_free
set_option maxRecDepth 20000 in
theorem ggL_rides_L_fee : GoodIn wsL_rides wsL_fee := goodIn_r _ [191] (by rfl) (by decide +kernel)
set_option maxRecDepth 20000 in
theorem gL_rides_L_fee : GoodIn wsL_rides (va_wsS RL 45 yL_fee wsL_fee) := goodIn_app (goodIn_of _ (by decide +kernel)) ggL_rides_L_fee
set_option maxRecDepth 20000 in
theorem ggL_drives_L_carried : GoodIn wsL_drives wsL_carried := goodIn_r _ [4] (by rfl) (by decide +kernel)
set_option maxRecDepth 20000 in
theorem gL_drives_L_carried : GoodIn wsL_drives (va_wsS RL 52 yL_carried wsL_carried) := goodIn_app (goodIn_of _ (by decide +kernel)) ggL_drives_L_carried
set_option maxRecDepth 20000 in
theorem ggL_drives_L_free : GoodIn wsL_drives wsL_free := goodIn_r _ [129, 130, 131, 3, 132] (by rfl) (by decide +kernel)
set_option maxRecDepth 20000 in
theorem gL_drives_L_free : GoodIn wsL_drives (va_wsS RL 21 yL_free wsL_free) := goodIn_app (goodIn_of _ (by decide +kernel)) ggL_drives_L_free
set_option maxRecDepth 20000 in
theorem ggL_drives_L_way : GoodIn wsL_drives wsL_way := goodIn_r _ [186] (by rfl) (by decide +kernel)
set_option maxRecDepth 20000 in
theorem gL_drives_L_way : GoodIn wsL_drives (va_wsS RL 67 yL_way wsL_way) := goodIn_app (goodIn_of _ (by decide +kernel)) ggL_drives_L_way
set_option maxRecDepth 20000 in
theorem ggL_pauses_L_free : GoodIn wsL_pauses wsL_free := goodIn_r _ [4, 5, 6, 3, 7] (by rfl) (by decide +kernel)
set_option maxRecDepth 20000 in
theorem gL_pauses_L_free : GoodIn wsL_pauses (va_wsS RL 21 yL_free wsL_free) := goodIn_app (goodIn_of _ (by decide +kernel)) ggL_pauses_L_free
set_option maxRecDepth 20000 in
theorem ggL_acts_L_low : GoodIn wsL_acts wsL_low := goodIn_r _ [5, 6] (by rfl) (by decide +kernel)
set_option maxRecDepth 20000 in
theorem gL_acts_L_low : GoodIn wsL_acts (va_wsS RL 75 yL_low wsL_low) := goodIn_app (goodIn_of _ (by decide +kernel)) ggL_acts_L_low
set_option maxRecDepth 20000 in
theorem ggL_acts_X10_report : GoodIn wsL_acts wsX10_report := goodIn_r _ [357, 15, 16, 17, 13, 18, 19, 20, 21, 22, 23, 24, 25, 26, 27, 28, 29, 30, 31, 32, 33, 34, 35, 36, 37, 38, 39, 40, 41, 42, 43, 44, 45, 46, 47, 48, 49, 50, 51, 52, 53, 54, 55, 56, 57, 58, 59, 60, 61, 62, 63, 64, 65, 66, 67, 68, 69, 70, 71, 72, 73, 74, 75, 76, 77, 78, 79, 80, 81, 82, 83, 84, 85, 358, 359, 360, 361, 362, 363, 220, 212, 213, 214, 364, 365, 366, 367, 94, 95, 96, 97, 98, 99, 100, 101, 102, 103, 104, 105, 106, 107, 380, 381, 382, 383, 384, 385, 386, 387, 388, 389, 390, 391, 392, 393, 394, 395, 396, 397, 398, 399, 400, 401, 402, 403, 404, 405, 406, 407, 408, 409, 410, 411, 412, 413, 414, 415, 416, 417, 418, 419, 420, 421] (by rfl) (by decide +kernel)
set_option maxRecDepth 20000 in
theorem gL_acts_X10_report : GoodIn wsL_acts (wsV RL 94 RX10 yX10_report wsX10_report) := goodIn_app (goodIn_of _ (by decide +kernel)) ggL_acts_X10_report
set_option maxRecDepth 20000 in
theorem ggL_acts_X10_set : GoodIn wsL_acts wsX10_set := goodIn_r _ [371, 15, 16, 17, 13, 18, 19, 20, 21, 22, 23, 24, 25, 26, 27, 28, 29, 30, 31, 32, 33, 34, 35, 36, 37, 38, 39, 40, 41, 42, 43, 44, 45, 46, 47, 48, 49, 50, 51, 52, 53, 54, 55, 56, 57, 58, 59, 60, 61, 62, 63, 64, 65, 66, 67, 68, 69, 70, 71, 72, 73, 74, 75, 76, 77, 78, 79, 80, 81, 82, 83, 84, 85, 372, 373, 374, 375, 376, 377, 378, 379, 94, 95, 96, 97, 98, 99, 100, 101, 102, 103, 104, 105, 106, 107, 380, 381, 382, 383, 384, 385, 386, 387, 388, 389, 390, 391, 392, 393, 394, 395, 396, 397, 398, 399, 400, 401, 402, 403, 404, 405, 406, 407, 408, 409, 410, 411, 412, 413, 414, 415, 416, 417, 418, 419, 420, 421] (by rfl) (by decide +kernel)
set_option maxRecDepth 20000 in
theorem gL_acts_X10_set : GoodIn wsL_acts (wsV RL 97 RX10 yX10_set wsX10_set) := goodIn_app (goodIn_of _ (by decide +kernel)) ggL_acts_X10_set
set_option maxRecDepth 20000 in
theorem ggL_areBicycles_X10_bicycleOf : GoodIn wsL_areBicycles wsX10_bicycleOf := goodIn_r _ [6, 7, 8, 9, 10, 11, 12, 13, 14, 15, 16, 17, 18, 19, 20, 21, 22, 23, 24, 25, 100, 101, 102, 103, 104, 105, 106, 107, 108, 109, 110, 111, 112, 113, 114, 115, 116, 117, 118, 119] (by rfl) (by decide +kernel)
set_option maxRecDepth 20000 in
theorem gL_areBicycles_X10_bicycleOf : GoodIn wsL_areBicycles (wsV RL 100 RX10 yX10_bicycleOf wsX10_bicycleOf) := goodIn_app (goodIn_of _ (by decide +kernel)) ggL_areBicycles_X10_bicycleOf
set_option maxRecDepth 20000 in
theorem ggL_areBicycles_X10_count : GoodIn wsL_areBicycles wsX10_count := goodIn_r _ [29, 7, 30, 31, 32, 8, 33, 34, 35, 36, 37, 38, 39, 40, 41, 42, 43, 44, 45, 46, 47, 48, 49, 50, 51, 16, 52, 18, 23, 53, 54, 55, 56, 57, 58, 59, 60, 61, 62, 63, 64, 65, 66, 67, 68, 69, 70, 71, 72, 73, 74, 75, 76, 77, 78, 79, 80, 81, 82, 83, 84, 85, 86, 87, 88, 89, 90, 91, 92, 93, 94, 95, 96, 97, 98, 99, 24, 100, 101, 102, 103, 104, 105, 106, 107, 108, 109, 110, 111, 112, 120, 121, 122, 123, 124, 113, 114, 115, 116, 117, 118, 119, 125, 126, 127, 128, 129, 130, 131, 132, 133, 134, 135, 136, 137, 138, 139, 140, 141, 142, 143, 144, 145, 146, 147, 148, 149, 150] (by rfl) (by decide +kernel)
set_option maxRecDepth 20000 in
theorem gL_areBicycles_X10_count : GoodIn wsL_areBicycles (wsV RL 103 RX10 yX10_count wsX10_count) := goodIn_app (goodIn_of _ (by decide +kernel)) ggL_areBicycles_X10_count
set_option maxRecDepth 20000 in
theorem ggL_areRiders_X10_riderOf : GoodIn wsL_areRiders wsX10_riderOf := goodIn_r _ [5, 6, 7, 8, 9, 10, 11, 12, 13, 14, 15, 16, 17, 18, 19, 20, 21, 22, 23, 24, 25, 26, 27, 28, 29, 30, 31, 4, 32, 33, 34, 35, 36, 37, 38, 39, 40, 41, 42, 43, 44, 45, 46, 47, 48, 159, 160, 161, 162, 163, 164, 165, 166, 167, 168, 169, 170, 171, 172, 173, 174, 175, 176, 177, 178, 179, 180, 181] (by rfl) (by decide +kernel)
set_option maxRecDepth 20000 in
theorem gL_areRiders_X10_riderOf : GoodIn wsL_areRiders (wsV RL 106 RX10 yX10_riderOf wsX10_riderOf) := goodIn_app (goodIn_of _ (by decide +kernel)) ggL_areRiders_X10_riderOf
set_option maxRecDepth 20000 in
theorem ggL_areRiders_L_fee : GoodIn wsL_areRiders wsL_fee := goodIn_r _ [52] (by rfl) (by decide +kernel)
set_option maxRecDepth 20000 in
theorem gL_areRiders_L_fee : GoodIn wsL_areRiders (va_wsS RL 45 yL_fee wsL_fee) := goodIn_app (goodIn_of _ (by decide +kernel)) ggL_areRiders_L_fee
set_option maxRecDepth 20000 in
theorem ggL_areRiders_X10_stationOf : GoodIn wsL_areRiders wsX10_stationOf := goodIn_r _ [56, 6, 57, 58, 59, 60, 61, 62, 63, 64, 65, 66, 67, 68, 69, 70, 71, 72, 73, 74, 75, 76, 77, 78, 79, 80, 81, 82, 83, 84, 85, 86, 13, 87, 88, 89, 90, 91, 92, 93, 94, 95, 96, 97, 98, 99, 100, 101, 102, 103, 104, 105, 106, 107, 108, 109, 110, 111, 112, 113, 114, 115, 116, 117, 118, 119, 120, 121, 159, 160, 161, 162, 163, 164, 165, 166, 167, 168, 169, 170, 171, 182, 183, 184, 185, 186, 187, 188, 189, 190, 191, 192, 193, 194, 195, 196, 197, 198, 199] (by rfl) (by decide +kernel)
set_option maxRecDepth 20000 in
theorem gL_areRiders_X10_stationOf : GoodIn wsL_areRiders (wsV RL 109 RX10 yX10_stationOf wsX10_stationOf) := goodIn_app (goodIn_of _ (by decide +kernel)) ggL_areRiders_X10_stationOf
set_option maxRecDepth 20000 in
theorem ggL_areRiders_X10_count : GoodIn wsL_areRiders wsX10_count := goodIn_r _ [125, 6, 126, 57, 127, 60, 128, 7, 129, 130, 131, 10, 132, 133, 134, 135, 136, 137, 138, 139, 81, 140, 141, 118, 119, 73, 120, 75, 76, 142, 143, 144, 145, 146, 147, 113, 114, 67, 115, 69, 116, 148, 149, 150, 20, 151, 22, 152, 153, 154, 155, 156, 83, 157, 158, 79, 80, 82, 84, 85, 86, 13, 87, 88, 65, 66, 68, 89, 90, 91, 92, 93, 94, 95, 96, 97, 77, 159, 160, 161, 162, 163, 164, 165, 166, 167, 168, 169, 170, 171, 182, 183, 184, 185, 186, 187, 188, 189, 190, 191, 192, 193, 172, 173, 174, 175, 176, 177, 178, 179, 180, 181, 200, 201, 202, 203, 204, 205, 206, 207, 208, 209, 210, 211, 212, 213, 214, 215] (by rfl) (by decide +kernel)
set_option maxRecDepth 20000 in
theorem gL_areRiders_X10_count : GoodIn wsL_areRiders (wsV RL 103 RX10 yX10_count wsX10_count) := goodIn_app (goodIn_of _ (by decide +kernel)) ggL_areRiders_X10_count
set_option maxRecDepth 20000 in
theorem ggL_isSo_X10_stationOf : GoodIn wsL_isSo wsX10_stationOf := goodIn_r _ [154, 11, 35, 155, 156, 12, 157, 158, 159, 160, 92, 93, 65, 94, 67, 161, 162, 163, 20, 164, 22, 27, 28, 165, 83, 84, 51, 85, 80, 86, 87, 88, 89, 90, 91, 95, 96, 97, 98, 99, 100, 101, 102, 103, 166, 167, 168, 169, 170, 171, 172, 173, 174, 175, 176, 177, 178, 179, 180, 63, 64, 66, 68, 181, 54, 55, 56, 182, 202, 203, 204, 205, 206, 207, 208, 209, 210, 211, 212, 213, 214, 222, 223, 224, 225, 226, 215, 216, 217, 218, 219, 220, 221, 253, 254, 255, 256, 257, 258] (by rfl) (by decide +kernel)
set_option maxRecDepth 20000 in
theorem gL_isSo_X10_stationOf : GoodIn wsL_isSo (wsV RL 109 RX10 yX10_stationOf wsX10_stationOf) := goodIn_app (goodIn_of _ (by decide +kernel)) ggL_isSo_X10_stationOf
set_option maxRecDepth 20000 in
theorem ggL_isSo_X10_vanOf : GoodIn wsL_isSo wsX10_vanOf := goodIn_r _ [186, 11, 40, 187, 188, 12, 42, 189, 190, 191, 192, 193, 194, 161, 162, 163, 20, 164, 22, 27, 28, 195, 196, 197, 198, 199, 200, 114, 89, 115, 201, 202, 203, 204, 205, 206, 207, 208, 209, 210, 211, 212, 213, 214, 237, 238, 239, 240, 215, 216, 217, 218, 219, 220, 221] (by rfl) (by decide +kernel)
set_option maxRecDepth 20000 in
theorem gL_isSo_X10_vanOf : GoodIn wsL_isSo (wsV RL 119 RX10 yX10_vanOf wsX10_vanOf) := goodIn_app (goodIn_of _ (by decide +kernel)) ggL_isSo_X10_vanOf
set_option maxRecDepth 20000 in
theorem ggL_isSo_X10_count : GoodIn wsL_isSo wsX10_count := goodIn_r _ [33, 11, 34, 35, 36, 12, 37, 38, 39, 40, 41, 42, 43, 44, 45, 46, 47, 48, 49, 50, 51, 52, 53, 54, 55, 20, 56, 22, 27, 57, 58, 59, 60, 61, 62, 63, 64, 65, 66, 67, 68, 69, 70, 71, 72, 73, 74, 75, 76, 77, 78, 79, 80, 81, 82, 83, 84, 85, 86, 87, 88, 89, 90, 91, 92, 93, 94, 95, 96, 97, 98, 99, 100, 101, 102, 103, 28, 202, 203, 204, 205, 206, 207, 208, 209, 210, 211, 212, 213, 214, 222, 223, 224, 225, 226, 215, 216, 217, 218, 219, 220, 221, 227, 228, 229, 230, 231, 232, 233, 234, 235, 236, 237, 238, 239, 240, 241, 242, 243, 244, 245, 246, 247, 248, 249, 250, 251, 252] (by rfl) (by decide +kernel)
set_option maxRecDepth 20000 in
theorem gL_isSo_X10_count : GoodIn wsL_isSo (wsV RL 103 RX10 yX10_count wsX10_count) := goodIn_app (goodIn_of _ (by decide +kernel)) ggL_isSo_X10_count
set_option maxRecDepth 20000 in
theorem ggL_law_L_cell : GoodIn wsL_law wsL_cell := goodIn_r _ [293, 294] (by rfl) (by decide +kernel)
set_option maxRecDepth 20000 in
theorem gL_law_L_cell : GoodIn wsL_law (va_wsS RL 127 yL_cell wsL_cell) := goodIn_app (goodIn_of _ (by decide +kernel)) ggL_law_L_cell
set_option maxRecDepth 20000 in
theorem ggL_law_L_low : GoodIn wsL_law wsL_low := goodIn_r _ [301, 4] (by rfl) (by decide +kernel)
set_option maxRecDepth 20000 in
theorem gL_law_L_low : GoodIn wsL_law (va_wsS RL 75 yL_low wsL_low) := goodIn_app (goodIn_of _ (by decide +kernel)) ggL_law_L_low
set_option maxRecDepth 20000 in
theorem ggL_law_X10_count : GoodIn wsL_law wsX10_count := goodIn_r _ [141, 14, 142, 143, 144, 123, 145, 146, 147, 148, 149, 150, 20, 151, 28, 152, 153, 154, 155, 156, 13, 157, 158, 159, 160, 38, 161, 132, 59, 162, 163, 164, 165, 62, 166, 167, 168, 34, 169, 170, 53, 171, 172, 173, 42, 174, 175, 68, 176, 177, 178, 179, 35, 180, 181, 182, 183, 184, 185, 186, 187, 188, 189, 190, 191, 192, 193, 194, 195, 196, 197, 39, 198, 199, 200, 201, 60, 582, 583, 584, 585, 586, 587, 588, 589, 590, 591, 592, 593, 594, 613, 614, 615, 616, 617, 618, 619, 620, 621, 622, 623, 624, 625, 626, 627, 628, 629, 630, 631, 632, 633, 634, 635, 636, 637, 638, 595, 596, 597, 604, 605, 606, 607, 608, 609, 610, 611, 612] (by rfl) (by decide +kernel)
set_option maxRecDepth 20000 in
theorem gL_law_X10_count : GoodIn wsL_law (wsV RL 103 RX10 yX10_count wsX10_count) := goodIn_app (goodIn_of _ (by decide +kernel)) ggL_law_X10_count
