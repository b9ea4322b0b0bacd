theorem dX10_count_264 : decode cX10_count 264 = .ok (.ireturn, 1) := by decide +kernel
theorem dX10_count_265 : decode cX10_count 265 = .ok (.aload_n 0, 1) := by decide +kernel
theorem dX10_count_266 : decode cX10_count 266 = .ok (.getfield 232, 3) := by decide +kernel
theorem dX10_count_269 : decode cX10_count 269 = .ok (.ifCond .eq 7, 3) := by decide +kernel
theorem dX10_count_272 : decode cX10_count 272 = .ok (.iconst 1, 1) := by decide +kernel
theorem dX10_count_273 : decode cX10_count 273 = .ok (.goto 4, 3) := by decide +kernel
theorem dX10_count_276 : decode cX10_count 276 = .ok (.iconst 0, 1) := by decide +kernel
theorem dX10_count_277 : decode cX10_count 277 = .ok (.ireturn, 1) := by decide +kernel
theorem dX10_count_278 : decode cX10_count 278 = .ok (.iconst (-1), 1) := by decide +kernel
theorem dX10_count_279 : decode cX10_count 279 = .ok (.ireturn, 1) := by decide +kernel
set_option maxRecDepth 20000 in
theorem ggX10_rideOf_X4_rideMinutes : GoodIn wsX10_rideOf wsX4_rideMinutes := goodIn_r _ [10, 11, 12, 13, 14, 9, 15, 16, 46, 47, 48, 49, 50, 51, 52, 53, 54, 55] (by decide +kernel) (by decide +kernel)
set_option maxRecDepth 20000 in
theorem gX10_rideOf_X4_rideMinutes : GoodIn wsX10_rideOf (wsV RX10 282 RX4 yX4_rideMinutes wsX4_rideMinutes) := goodIn_app (goodIn_of _ (by decide +kernel)) ggX10_rideOf_X4_rideMinutes
set_option maxRecDepth 20000 in
theorem ggX10_rideOf_X4_fee : GoodIn wsX10_rideOf wsX4_fee := goodIn_r _ [20, 21, 22, 23, 24, 25, 26, 27, 28, 29, 9, 30, 31, 12, 13, 14, 15, 16, 32, 7, 8, 10, 11, 46, 47, 48, 49, 50, 51, 52, 53, 54, 55] (by decide +kernel) (by decide +kernel)
set_option maxRecDepth 20000 in
theorem gX10_rideOf_X4_fee : GoodIn wsX10_rideOf (wsV RX10 288 RX4 yX4_fee wsX4_fee) := goodIn_app (goodIn_of _ (by decide +kernel)) ggX10_rideOf_X4_fee
theorem dX10_rideOf_0 : decode cX10_rideOf 0 = .ok (.iload_n 2, 1) := by decide +kernel
theorem dX10_rideOf_1 : decode cX10_rideOf 1 = .ok (.tableswitch 72 2 4 #[27, 40, 59], 27) := by decide +kernel
theorem dX10_rideOf_28 : decode cX10_rideOf 28 = .ok (.aload_n 0, 1) := by decide +kernel
theorem dX10_rideOf_29 : decode cX10_rideOf 29 = .ok (.getfield 10, 3) := by decide +kernel
theorem dX10_rideOf_32 : decode cX10_rideOf 32 = .ok (.getfield 153, 3) := by decide +kernel
theorem dX10_rideOf_35 : decode cX10_rideOf 35 = .ok (.getfield 279, 3) := by decide +kernel
theorem dX10_rideOf_38 : decode cX10_rideOf 38 = .ok (.iload_n 1, 1) := by decide +kernel
theorem dX10_rideOf_39 : decode cX10_rideOf 39 = .ok (.iaload, 1) := by decide +kernel
theorem dX10_rideOf_40 : decode cX10_rideOf 40 = .ok (.ireturn, 1) := by decide +kernel
theorem dX10_rideOf_41 : decode cX10_rideOf 41 = .ok (.aload_n 0, 1) := by decide +kernel
theorem dX10_rideOf_42 : decode cX10_rideOf 42 = .ok (.getfield 10, 3) := by decide +kernel
theorem dX10_rideOf_45 : decode cX10_rideOf 45 = .ok (.getfield 153, 3) := by decide +kernel
theorem dX10_rideOf_48 : decode cX10_rideOf 48 = .ok (.iload_n 1, 1) := by decide +kernel
theorem dX10_rideOf_49 : decode cX10_rideOf 49 = .ok (.aload_n 0, 1) := by decide +kernel
theorem dX10_rideOf_50 : decode cX10_rideOf 50 = .ok (.getfield 10, 3) := by decide +kernel
theorem dX10_rideOf_53 : decode cX10_rideOf 53 = .ok (.getfield 172, 3) := by decide +kernel
theorem dX10_rideOf_56 : decode cX10_rideOf 56 = .ok (.invokevirtual 282, 3) := by decide +kernel
theorem dX10_rideOf_59 : decode cX10_rideOf 59 = .ok (.ireturn, 1) := by decide +kernel
theorem dX10_rideOf_60 : decode cX10_rideOf 60 = .ok (.aload_n 0, 1) := by decide +kernel
theorem dX10_rideOf_61 : decode cX10_rideOf 61 = .ok (.getfield 10, 3) := by decide +kernel
theorem dX10_rideOf_64 : decode cX10_rideOf 64 = .ok (.getfield 153, 3) := by decide +kernel
theorem dX10_rideOf_67 : decode cX10_rideOf 67 = .ok (.getfield 285, 3) := by decide +kernel
theorem dX10_rideOf_70 : decode cX10_rideOf 70 = .ok (.iload_n 1, 1) := by decide +kernel
theorem dX10_rideOf_71 : decode cX10_rideOf 71 = .ok (.iaload, 1) := by decide +kernel
theorem dX10_rideOf_72 : decode cX10_rideOf 72 = .ok (.ireturn, 1) := by decide +kernel
theorem dX10_rideOf_73 : decode cX10_rideOf 73 = .ok (.aload_n 0, 1) := by decide +kernel
theorem dX10_rideOf_74 : decode cX10_rideOf 74 = .ok (.getfield 10, 3) := by decide +kernel
theorem dX10_rideOf_77 : decode cX10_rideOf 77 = .ok (.getfield 153, 3) := by decide +kernel
theorem dX10_rideOf_80 : decode cX10_rideOf 80 = .ok (.iload_n 1, 1) := by decide +kernel
theorem dX10_rideOf_81 : decode cX10_rideOf 81 = .ok (.aload_n 0, 1) := by decide +kernel
theorem dX10_rideOf_82 : decode cX10_rideOf 82 = .ok (.getfield 10, 3) := by decide +kernel
theorem dX10_rideOf_85 : decode cX10_rideOf 85 = .ok (.getfield 172, 3) := by decide +kernel
theorem dX10_rideOf_88 : decode cX10_rideOf 88 = .ok (.invokevirtual 288, 3) := by decide +kernel
theorem dX10_rideOf_91 : decode cX10_rideOf 91 = .ok (.ireturn, 1) := by decide +kernel
set_option maxRecDepth 20000 in
theorem ggX10_freshDraft_X5_copy : GoodIn wsX10_freshDraft wsX5_copy := goodIn_r _ [7, 8, 9, 10, 11, 12, 13, 14, 15, 16, 17, 18, 19, 20, 21, 22, 23, 24, 25, 26, 27, 28, 29, 30, 31, 32, 33, 34, 35, 36, 37, 38, 39, 40, 41, 42, 43, 44, 45, 46, 47, 48, 49, 50, 51, 52, 53, 54, 55, 56, 57, 58, 59, 60, 61, 62, 63, 64, 65, 66, 67, 75, 76, 77, 78, 79, 80, 81, 82, 83, 84, 85, 86, 87, 88, 89, 90, 91, 92, 93, 94, 95, 96, 97, 98, 99, 100, 101, 102, 103, 104, 105, 106] (by decide +kernel) (by decide +kernel)
set_option maxRecDepth 20000 in
theorem gX10_freshDraft_X5_copy : GoodIn wsX10_freshDraft (wsV RX10 253 RX5 yX5_copy wsX5_copy) := goodIn_app (goodIn_of _ (by decide +kernel)) ggX10_freshDraft_X5_copy
theorem dX10_freshDraft_0 : decode cX10_freshDraft 0 = .ok (.aload_n 0, 1) := by decide +kernel
theorem dX10_freshDraft_1 : decode cX10_freshDraft 1 = .ok (.getfield 16, 3) := by decide +kernel
theorem dX10_freshDraft_4 : decode cX10_freshDraft 4 = .ok (.aload_n 0, 1) := by decide +kernel
theorem dX10_freshDraft_5 : decode cX10_freshDraft 5 = .ok (.getfield 10, 3) := by decide +kernel
theorem dX10_freshDraft_8 : decode cX10_freshDraft 8 = .ok (.invokevirtual 253, 3) := by decide +kernel
theorem dX10_freshDraft_11 : decode cX10_freshDraft 11 = .ok (.aload_n 0, 1) := by decide +kernel
theorem dX10_freshDraft_12 : decode cX10_freshDraft 12 = .ok (.getfield 16, 3) := by decide +kernel
theorem dX10_freshDraft_15 : decode cX10_freshDraft 15 = .ok (.areturn, 1) := by decide +kernel
set_option maxRecDepth 20000 in
theorem ggX10_settle_X3_record : GoodIn wsX10_settle wsX3_record := goodIn_r _ [8, 9, 10, 11, 12, 13, 14, 15, 16, 17, 18, 19, 20, 21, 22, 23, 24, 25, 26, 27, 28, 29, 30, 31, 32, 33, 34, 35, 36, 37, 38, 39, 40, 41, 42, 43, 44, 45, 46, 47, 48, 49, 50, 51, 52, 53, 54, 55, 56, 57, 58, 59, 60, 61, 62, 63, 64, 65, 66, 67, 68, 69, 70, 71, 72, 73, 74, 75, 76, 85, 86, 87, 88, 89, 90, 91, 92, 93, 94, 95, 96, 97, 98, 99, 100, 101, 102, 103, 104, 105, 106, 107, 108, 109, 110, 111, 112, 113, 114, 115, 116, 117, 118, 119] (by decide +kernel) (by decide +kernel)
set_option maxRecDepth 20000 in
theorem gX10_settle_X3_record : GoodIn wsX10_settle (wsV RX10 291 RX3 yX3_record wsX3_record) := goodIn_app (goodIn_of _ (by decide +kernel)) ggX10_settle_X3_record
set_option maxRecDepth 20000 in
theorem ggX10_settle_X5_copy : GoodIn wsX10_settle wsX5_copy := goodIn_r _ [16, 17, 18, 19, 20, 21, 22, 23, 24, 25, 26, 27, 28, 29, 30, 31, 32, 33, 34, 35, 36, 37, 38, 39, 40, 41, 42, 43, 44, 45, 46, 47, 48, 49, 50, 51, 52, 53, 54, 55, 56, 57, 58, 59, 60, 61, 62, 63, 64, 65, 66, 67, 68, 69, 70, 71, 72, 73, 74, 75, 76, 88, 89, 90, 91, 92, 93, 94, 95, 96, 97, 98, 99, 100, 101, 102, 103, 104, 105, 106, 107, 108, 109, 110, 111, 112, 113, 114, 115, 116, 117, 118, 119] (by decide +kernel) (by decide +kernel)
set_option maxRecDepth 20000 in
theorem gX10_settle_X5_copy : GoodIn wsX10_settle (wsV RX10 253 RX5 yX5_copy wsX5_copy) := goodIn_app (goodIn_of _ (by decide +kernel)) ggX10_settle_X5_copy
theorem dX10_settle_0 : decode cX10_settle 0 = .ok (.iload_n 1, 1) := by decide +kernel
theorem dX10_settle_1 : decode cX10_settle 1 = .ok (.ifCond .lt 25, 3) := by decide +kernel
theorem dX10_settle_4 : decode cX10_settle 4 = .ok (.aload_n 0, 1) := by decide +kernel
theorem dX10_settle_5 : decode cX10_settle 5 = .ok (.getfield 25, 3) := by decide +kernel
theorem dX10_settle_8 : decode cX10_settle 8 = .ok (.aload_n 0, 1) := by decide +kernel
theorem dX10_settle_9 : decode cX10_settle 9 = .ok (.getfield 10, 3) := by decide +kernel
theorem dX10_settle_12 : decode cX10_settle 12 = .ok (.invokevirtual 291, 3) := by decide +kernel
theorem dX10_settle_15 : decode cX10_settle 15 = .ok (.aload_n 0, 1) := by decide +kernel
theorem dX10_settle_16 : decode cX10_settle 16 = .ok (.getfield 10, 3) := by decide +kernel
theorem dX10_settle_19 : decode cX10_settle 19 = .ok (.aload_n 0, 1) := by decide +kernel
theorem dX10_settle_20 : decode cX10_settle 20 = .ok (.getfield 16, 3) := by decide +kernel
theorem dX10_settle_23 : decode cX10_settle 23 = .ok (.invokevirtual 253, 3) := by decide +kernel
theorem dX10_settle_26 : decode cX10_settle 26 = .ok (.iload_n 1, 1) := by decide +kernel
theorem dX10_settle_27 : decode cX10_settle 27 = .ok (.ireturn, 1) := by decide +kernel
theorem dJ9_abs_0f7a4_0 : decode cJ9_abs_0f7a4 0 = .ok (.iload_n 0, 1) := by decide +kernel
theorem dJ9_abs_0f7a4_1 : decode cJ9_abs_0f7a4 1 = .ok (.ifCond .ge 8, 3) := by decide +kernel
theorem dJ9_abs_0f7a4_4 : decode cJ9_abs_0f7a4 4 = .ok (.iload_n 0, 1) := by decide +kernel
theorem dJ9_abs_0f7a4_5 : decode cJ9_abs_0f7a4 5 = .ok (.ineg, 1) := by decide +kernel
theorem dJ9_abs_0f7a4_6 : decode cJ9_abs_0f7a4 6 = .ok (.goto 4, 3) := by decide +kernel
theorem dJ9_abs_0f7a4_9 : decode cJ9_abs_0f7a4 9 = .ok (.iload_n 0, 1) := by decide +kernel
theorem dJ9_abs_0f7a4_10 : decode cJ9_abs_0f7a4 10 = .ok (.ireturn, 1) := by decide +kernel
theorem dJ9_max_7cf53_0 : decode cJ9_max_7cf53 0 = .ok (.iload_n 0, 1) := by decide +kernel
theorem dJ9_max_7cf53_1 : decode cJ9_max_7cf53 1 = .ok (.iload_n 1, 1) := by decide +kernel
theorem dJ9_max_7cf53_2 : decode cJ9_max_7cf53 2 = .ok (.if_icmp .lt 7, 3) := by decide +kernel
theorem dJ9_max_7cf53_5 : decode cJ9_max_7cf53 5 = .ok (.iload_n 0, 1) := by decide +kernel
theorem dJ9_max_7cf53_6 : decode cJ9_max_7cf53 6 = .ok (.goto 4, 3) := by decide +kernel
theorem dJ9_max_7cf53_9 : decode cJ9_max_7cf53 9 = .ok (.iload_n 1, 1) := by decide +kernel
theorem dJ9_max_7cf53_10 : decode cJ9_max_7cf53 10 = .ok (.ireturn, 1) := by decide +kernel
