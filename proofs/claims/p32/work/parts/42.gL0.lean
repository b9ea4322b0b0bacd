set_option maxRecDepth 20000 in
theorem ggL_free_L_docked : GoodIn wsL_free wsL_docked := goodIn_r _ [4] (by decide +kernel) (by decide +kernel)
set_option maxRecDepth 20000 in
theorem gL_free_L_docked : GoodIn wsL_free (va_wsS RL 9 yL_docked wsL_docked) := goodIn_app (goodIn_of _ (by decide +kernel)) ggL_free_L_docked
set_option maxRecDepth 20000 in
theorem ggL_brings_X10_station : GoodIn wsL_brings wsX10_station := goodIn_r _ [5, 6, 7, 8, 4, 9, 10, 11, 12, 13, 14, 15, 16, 17, 18, 19, 20, 21, 22, 23, 24, 25, 26, 27, 28, 29, 30, 31, 32, 33, 34, 35, 36, 37, 38, 39, 40, 41, 42, 43, 44, 45, 46, 47, 48, 49, 50, 51, 52, 53, 54, 55, 56, 57, 58, 59, 60, 61, 62, 63, 64, 65, 66, 67, 68, 69, 70, 71, 72, 73, 74, 75, 76, 77, 78, 79, 80, 81, 82, 83, 84, 85, 86, 87, 88, 89, 90, 91, 92, 93, 94, 95, 96, 97, 98, 159, 160, 161, 162, 163, 164, 165, 166, 167, 168, 169, 170, 171, 172, 173, 174, 175, 176, 177, 178, 179, 180, 181, 182, 183, 184, 185, 186, 187, 188, 189, 190, 191, 192, 193, 194, 195, 196, 197, 198, 199, 200] (by decide +kernel) (by decide +kernel)
set_option maxRecDepth 20000 in
theorem gL_brings_X10_station : GoodIn wsL_brings (wsV RL 15 RX10 yX10_station wsX10_station) := goodIn_app (goodIn_of _ (by decide +kernel)) ggL_brings_X10_station
set_option maxRecDepth 20000 in
theorem ggL_brings_L_free : GoodIn wsL_brings wsL_free := goodIn_r _ [102, 103, 104, 101, 105] (by decide +kernel) (by decide +kernel)
set_option maxRecDepth 20000 in
theorem gL_brings_L_free : GoodIn wsL_brings (va_wsS RL 21 yL_free wsL_free) := goodIn_app (goodIn_of _ (by decide +kernel)) ggL_brings_L_free
set_option maxRecDepth 20000 in
theorem ggL_brings_X10_rider : GoodIn wsL_brings wsX10_rider := goodIn_r _ [138, 6, 7, 8, 4, 9, 10, 11, 12, 13, 14, 15, 16, 17, 18, 19, 20, 21, 22, 23, 24, 25, 26, 27, 28, 29, 30, 31, 32, 33, 34, 35, 36, 37, 38, 39, 40, 41, 42, 43, 44, 45, 46, 47, 48, 49, 50, 51, 52, 53, 54, 55, 56, 57, 58, 59, 60, 61, 62, 63, 64, 65, 66, 67, 68, 69, 70, 71, 72, 73, 74, 75, 76, 139, 140, 141, 142, 143, 144, 145, 146, 85, 86, 87, 88, 89, 90, 91, 92, 93, 94, 95, 96, 97, 98, 159, 160, 161, 162, 163, 164, 165, 166, 167, 168, 169, 170, 171, 172, 173, 174, 175, 176, 177, 178, 179, 180, 181, 182, 183, 184, 185, 186, 187, 188, 189, 190, 191, 192, 193, 194, 195, 196, 197, 198, 199, 200] (by decide +kernel) (by decide +kernel)
set_option maxRecDepth 20000 in
theorem gL_brings_X10_rider : GoodIn wsL_brings (wsV RL 29 RX10 yX10_rider wsX10_rider) := goodIn_app (goodIn_of _ (by decide +kernel)) ggL_brings_X10_rider
set_option maxRecDepth 20000 in
theorem ggL_brings_X10_van : GoodIn wsL_brings wsX10_van := goodIn_r _ [150, 6, 7, 8, 4, 9, 10, 11, 12, 13, 14, 15, 16, 17, 18, 19, 20, 21, 22, 23, 24, 25, 26, 27, 28, 29, 30, 31, 32, 33, 34, 35, 36, 37, 38, 39, 40, 41, 42, 43, 44, 45, 46, 47, 48, 49, 50, 51, 52, 53, 54, 55, 56, 57, 58, 59, 60, 61, 62, 63, 64, 65, 66, 67, 68, 69, 70, 71, 72, 73, 74, 75, 76, 151, 152, 153, 154, 114, 115, 116, 117, 155, 156, 157, 158, 85, 86, 87, 88, 89, 90, 91, 92, 93, 94, 95, 96, 97, 98, 159, 160, 161, 162, 163, 164, 165, 166, 167, 168, 169, 170, 171, 172, 173, 174, 175, 176, 177, 178, 179, 180, 181, 182, 183, 184, 185, 186, 187, 188, 189, 190, 191, 192, 193, 194, 195, 196, 197, 198, 199, 200] (by decide +kernel) (by decide +kernel)
set_option maxRecDepth 20000 in
theorem gL_brings_X10_van : GoodIn wsL_brings (wsV RL 33 RX10 yX10_van wsX10_van) := goodIn_app (goodIn_of _ (by decide +kernel)) ggL_brings_X10_van
set_option maxRecDepth 20000 in
theorem ggL_rides_X10_pass : GoodIn wsL_rides wsX10_pass := goodIn_r _ [5, 6, 7, 8, 4, 9, 10, 11, 12, 13, 14, 15, 16, 17, 18, 19, 20, 21, 22, 23, 24, 25, 26, 27, 28, 29, 30, 31, 32, 33, 34, 35, 36, 37, 38, 39, 40, 41, 42, 43, 44, 45, 46, 47, 48, 49, 50, 51, 52, 53, 54, 55, 56, 57, 58, 59, 60, 61, 62, 63, 64, 65, 66, 67, 68, 69, 70, 71, 72, 73, 74, 75, 76, 77, 78, 79, 80, 81, 82, 83, 84, 85, 86, 87, 88, 89, 90, 91, 92, 93, 94, 95, 96, 97, 98, 99, 100, 101, 102, 103, 104, 105, 200, 201, 202, 203, 204, 205, 206, 207, 208, 209, 210, 211, 212, 213, 214, 215, 216, 217, 218, 219, 220, 221, 222, 223, 224, 225, 226, 227, 228, 229, 230, 231, 232, 233, 234, 235, 236, 237, 238, 239, 240, 241] (by decide +kernel) (by decide +kernel)
set_option maxRecDepth 20000 in
theorem gL_rides_X10_pass : GoodIn wsL_rides (wsV RL 36 RX10 yX10_pass wsX10_pass) := goodIn_app (goodIn_of _ (by decide +kernel)) ggL_rides_X10_pass
set_option maxRecDepth 20000 in
theorem ggL_rides_L_free : GoodIn wsL_rides wsL_free := goodIn_r _ [149, 150, 151, 148, 152] (by decide +kernel) (by decide +kernel)
set_option maxRecDepth 20000 in
theorem gL_rides_L_free : GoodIn wsL_rides (va_wsS RL 21 yL_free wsL_free) := goodIn_app (goodIn_of _ (by decide +kernel)) ggL_rides_L_free
set_option maxRecDepth 20000 in
theorem ggL_rides_L_fee : GoodIn wsL_rides wsL_fee := goodIn_r _ [191] (by decide +kernel) (by decide +kernel)
set_option maxRecDepth 20000 in
theorem gL_rides_L_fee : GoodIn wsL_rides (va_wsS RL 45 yL_fee wsL_fee) := goodIn_app (goodIn_of _ (by decide +kernel)) ggL_rides_L_fee
set_option maxRecDepth 20000 in
theorem ggL_drives_L_carried : GoodIn wsL_drives wsL_carried := goodIn_r _ [4] (by decide +kernel) (by decide +kernel)
set_option maxRecDepth 20000 in
theorem gL_drives_L_carried : GoodIn wsL_drives (va_wsS RL 52 yL_carried wsL_carried) := goodIn_app (goodIn_of _ (by decide +kernel)) ggL_drives_L_carried
set_option maxRecDepth 20000 in
theorem ggL_drives_L_free : GoodIn wsL_drives wsL_free := goodIn_r _ [129, 130, 131, 3, 132] (by decide +kernel) (by decide +kernel)
set_option maxRecDepth 20000 in
theorem gL_drives_L_free : GoodIn wsL_drives (va_wsS RL 21 yL_free wsL_free) := goodIn_app (goodIn_of _ (by decide +kernel)) ggL_drives_L_free
set_option maxRecDepth 20000 in
theorem ggL_drives_L_way : GoodIn wsL_drives wsL_way := goodIn_r _ [186] (by decide +kernel) (by decide +kernel)
set_option maxRecDepth 20000 in
theorem gL_drives_L_way : GoodIn wsL_drives (va_wsS RL 67 yL_way wsL_way) := goodIn_app (goodIn_of _ (by decide +kernel)) ggL_drives_L_way
set_option maxRecDepth 20000 in
theorem ggL_pauses_L_free : GoodIn wsL_pauses wsL_free := goodIn_r _ [4, 5, 6, 3, 7] (by decide +kernel) (by decide +kernel)
set_option maxRecDepth 20000 in
theorem gL_pauses_L_free : GoodIn wsL_pauses (va_wsS RL 21 yL_free wsL_free) := goodIn_app (goodIn_of _ (by decide +kernel)) ggL_pauses_L_free
