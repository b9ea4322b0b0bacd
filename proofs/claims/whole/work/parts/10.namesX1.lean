set_option maxRecDepth 20000 in
theorem gX5_beginRide_X4_has : GoodIn wsX5_beginRide (wsV RX5 84 RX4 yX4_has wsX4_has) := goodIn_app (goodIn_of _ (by decide +kernel)) ggX5_beginRide_X4_has
set_option maxRecDepth 20000 in
theorem ggX5_beginRide_X6_has : GoodIn wsX5_beginRide wsX6_has := goodIn_r _ [23, 24, 70, 71, 72, 73, 74] (by decide +kernel) (by decide +kernel)
set_option maxRecDepth 20000 in
theorem gX5_beginRide_X6_has : GoodIn wsX5_beginRide (wsV RX5 70 RX6 yX6_has wsX6_has) := goodIn_app (goodIn_of _ (by decide +kernel)) ggX5_beginRide_X6_has
set_option maxRecDepth 20000 in
theorem ggX5_beginRide_X1_leastRiddenAt : GoodIn wsX5_beginRide wsX1_leastRiddenAt := goodIn_r _ [29, 30, 31, 32, 33, 34, 35, 28, 36, 37, 38, 39, 40, 41, 42, 75, 76, 77, 78, 79, 80, 81] (by decide +kernel) (by decide +kernel)
set_option maxRecDepth 20000 in
theorem gX5_beginRide_X1_leastRiddenAt : GoodIn wsX5_beginRide (wsV RX5 99 RX1 yX1_leastRiddenAt wsX1_leastRiddenAt) := goodIn_app (goodIn_of _ (by decide +kernel)) ggX5_beginRide_X1_leastRiddenAt
set_option maxRecDepth 20000 in
theorem ggX5_beginRide_X4_hasRide : GoodIn wsX5_beginRide wsX4_hasRide := goodIn_r _ [46, 47, 48, 14, 15, 16, 17, 18, 60, 61, 62, 63, 64, 65, 66, 67, 68, 69] (by decide +kernel) (by decide +kernel)
set_option maxRecDepth 20000 in
theorem gX5_beginRide_X4_hasRide : GoodIn wsX5_beginRide (wsV RX5 102 RX4 yX4_hasRide wsX4_hasRide) := goodIn_app (goodIn_of _ (by decide +kernel)) ggX5_beginRide_X4_hasRide
set_option maxRecDepth 20000 in
theorem ggX5_beginRide_X1_has : GoodIn wsX5_beginRide wsX1_has := goodIn_r _ [42, 30, 75, 76, 77, 78, 79, 80, 81] (by decide +kernel) (by decide +kernel)
set_option maxRecDepth 20000 in
theorem gX5_beginRide_X1_has : GoodIn wsX5_beginRide (wsV RX5 105 RX1 yX1_has wsX1_has) := goodIn_app (goodIn_of _ (by decide +kernel)) ggX5_beginRide_X1_has
set_option maxRecDepth 20000 in
theorem ggX5_beginRide_X1_bring : GoodIn wsX5_beginRide wsX1_bring := goodIn_r _ [53, 37, 38, 39, 40, 41, 28, 42, 30, 75, 76, 77, 78, 79, 80, 81] (by decide +kernel) (by decide +kernel)
set_option maxRecDepth 20000 in
theorem gX5_beginRide_X1_bring : GoodIn wsX5_beginRide (wsV RX5 121 RX1 yX1_bring wsX1_bring) := goodIn_app (goodIn_of _ (by decide +kernel)) ggX5_beginRide_X1_bring
theorem dX5_beginRide_0 : decode cX5_beginRide 0 = .ok (.aload_n 0, 1) := by decide +kernel
theorem dX5_beginRide_1 : decode cX5_beginRide 1 = .ok (.getfield 28, 3) := by decide +kernel
theorem dX5_beginRide_4 : decode cX5_beginRide 4 = .ok (.iload_n 1, 1) := by decide +kernel
theorem dX5_beginRide_5 : decode cX5_beginRide 5 = .ok (.invokevirtual 84, 3) := by decide +kernel
theorem dX5_beginRide_8 : decode cX5_beginRide 8 = .ok (.ifCond .eq 14, 3) := by decide +kernel
theorem dX5_beginRide_11 : decode cX5_beginRide 11 = .ok (.aload_n 0, 1) := by decide +kernel
theorem dX5_beginRide_12 : decode cX5_beginRide 12 = .ok (.getfield 12, 3) := by decide +kernel
theorem dX5_beginRide_15 : decode cX5_beginRide 15 = .ok (.iload_n 2, 1) := by decide +kernel
theorem dX5_beginRide_16 : decode cX5_beginRide 16 = .ok (.invokevirtual 70, 3) := by decide +kernel
theorem dX5_beginRide_19 : decode cX5_beginRide 19 = .ok (.ifCond .ne 5, 3) := by decide +kernel
theorem dX5_beginRide_22 : decode cX5_beginRide 22 = .ok (.iconst (-1), 1) := by decide +kernel
theorem dX5_beginRide_23 : decode cX5_beginRide 23 = .ok (.ireturn, 1) := by decide +kernel
theorem dX5_beginRide_24 : decode cX5_beginRide 24 = .ok (.aload_n 0, 1) := by decide +kernel
theorem dX5_beginRide_25 : decode cX5_beginRide 25 = .ok (.getfield 21, 3) := by decide +kernel
theorem dX5_beginRide_28 : decode cX5_beginRide 28 = .ok (.iload_n 2, 1) := by decide +kernel
theorem dX5_beginRide_29 : decode cX5_beginRide 29 = .ok (.invokevirtual 99, 3) := by decide +kernel
theorem dX5_beginRide_32 : decode cX5_beginRide 32 = .ok (.istore_n 3, 1) := by decide +kernel
theorem dX5_beginRide_33 : decode cX5_beginRide 33 = .ok (.aload_n 0, 1) := by decide +kernel
theorem dX5_beginRide_34 : decode cX5_beginRide 34 = .ok (.getfield 28, 3) := by decide +kernel
theorem dX5_beginRide_37 : decode cX5_beginRide 37 = .ok (.iload_n 1, 1) := by decide +kernel
theorem dX5_beginRide_38 : decode cX5_beginRide 38 = .ok (.invokevirtual 102, 3) := by decide +kernel
theorem dX5_beginRide_41 : decode cX5_beginRide 41 = .ok (.ifCond .ne 14, 3) := by decide +kernel
theorem dX5_beginRide_44 : decode cX5_beginRide 44 = .ok (.aload_n 0, 1) := by decide +kernel
theorem dX5_beginRide_45 : decode cX5_beginRide 45 = .ok (.getfield 21, 3) := by decide +kernel
theorem dX5_beginRide_48 : decode cX5_beginRide 48 = .ok (.iload_n 3, 1) := by decide +kernel
theorem dX5_beginRide_49 : decode cX5_beginRide 49 = .ok (.invokevirtual 105, 3) := by decide +kernel
theorem dX5_beginRide_52 : decode cX5_beginRide 52 = .ok (.ifCond .ne 6, 3) := by decide +kernel
theorem dX5_beginRide_55 : decode cX5_beginRide 55 = .ok (.bipush (-2), 2) := by decide +kernel
theorem dX5_beginRide_57 : decode cX5_beginRide 57 = .ok (.ireturn, 1) := by decide +kernel
theorem dX5_beginRide_58 : decode cX5_beginRide 58 = .ok (.aload_n 0, 1) := by decide +kernel
theorem dX5_beginRide_59 : decode cX5_beginRide 59 = .ok (.getfield 62, 3) := by decide +kernel
theorem dX5_beginRide_62 : decode cX5_beginRide 62 = .ok (.aload_n 0, 1) := by decide +kernel
theorem dX5_beginRide_63 : decode cX5_beginRide 63 = .ok (.getfield 28, 3) := by decide +kernel
theorem dX5_beginRide_66 : decode cX5_beginRide 66 = .ok (.getfield 85, 3) := by decide +kernel
theorem dX5_beginRide_69 : decode cX5_beginRide 69 = .ok (.iload_n 1, 1) := by decide +kernel
theorem dX5_beginRide_70 : decode cX5_beginRide 70 = .ok (.iaload, 1) := by decide +kernel
theorem dX5_beginRide_71 : decode cX5_beginRide 71 = .ok (.if_icmp .ge 7, 3) := by decide +kernel
theorem dX5_beginRide_74 : decode cX5_beginRide 74 = .ok (.iconst 1, 1) := by decide +kernel
theorem dX5_beginRide_75 : decode cX5_beginRide 75 = .ok (.goto 4, 3) := by decide +kernel
theorem dX5_beginRide_78 : decode cX5_beginRide 78 = .ok (.iconst 0, 1) := by decide +kernel
theorem dX5_beginRide_79 : decode cX5_beginRide 79 = .ok (.istore 4, 2) := by decide +kernel
theorem dX5_beginRide_81 : decode cX5_beginRide 81 = .ok (.aload_n 0, 1) := by decide +kernel
theorem dX5_beginRide_82 : decode cX5_beginRide 82 = .ok (.getfield 28, 3) := by decide +kernel
theorem dX5_beginRide_85 : decode cX5_beginRide 85 = .ok (.getfield 106, 3) := by decide +kernel
theorem dX5_beginRide_88 : decode cX5_beginRide 88 = .ok (.iload_n 1, 1) := by decide +kernel
theorem dX5_beginRide_89 : decode cX5_beginRide 89 = .ok (.iload_n 3, 1) := by decide +kernel
theorem dX5_beginRide_90 : decode cX5_beginRide 90 = .ok (.iastore, 1) := by decide +kernel
theorem dX5_beginRide_91 : decode cX5_beginRide 91 = .ok (.aload_n 0, 1) := by decide +kernel
theorem dX5_beginRide_92 : decode cX5_beginRide 92 = .ok (.getfield 28, 3) := by decide +kernel
theorem dX5_beginRide_95 : decode cX5_beginRide 95 = .ok (.getfield 109, 3) := by decide +kernel
theorem dX5_beginRide_98 : decode cX5_beginRide 98 = .ok (.iload_n 1, 1) := by decide +kernel
theorem dX5_beginRide_99 : decode cX5_beginRide 99 = .ok (.aload_n 0, 1) := by decide +kernel
theorem dX5_beginRide_100 : decode cX5_beginRide 100 = .ok (.getfield 62, 3) := by decide +kernel
theorem dX5_beginRide_103 : decode cX5_beginRide 103 = .ok (.iastore, 1) := by decide +kernel
theorem dX5_beginRide_104 : decode cX5_beginRide 104 = .ok (.aload_n 0, 1) := by decide +kernel
theorem dX5_beginRide_105 : decode cX5_beginRide 105 = .ok (.getfield 28, 3) := by decide +kernel
theorem dX5_beginRide_108 : decode cX5_beginRide 108 = .ok (.getfield 112, 3) := by decide +kernel
theorem dX5_beginRide_111 : decode cX5_beginRide 111 = .ok (.iload_n 1, 1) := by decide +kernel
theorem dX5_beginRide_112 : decode cX5_beginRide 112 = .ok (.iload 4, 2) := by decide +kernel
theorem dX5_beginRide_114 : decode cX5_beginRide 114 = .ok (.ifCond .eq 12, 3) := by decide +kernel
theorem dX5_beginRide_117 : decode cX5_beginRide 117 = .ok (.aload_n 0, 1) := by decide +kernel
theorem dX5_beginRide_118 : decode cX5_beginRide 118 = .ok (.getfield 39, 3) := by decide +kernel
theorem dX5_beginRide_121 : decode cX5_beginRide 121 = .ok (.iconst 0, 1) := by decide +kernel
theorem dX5_beginRide_122 : decode cX5_beginRide 122 = .ok (.iaload, 1) := by decide +kernel
theorem dX5_beginRide_123 : decode cX5_beginRide 123 = .ok (.goto 4, 3) := by decide +kernel
theorem dX5_beginRide_126 : decode cX5_beginRide 126 = .ok (.iconst 0, 1) := by decide +kernel
theorem dX5_beginRide_127 : decode cX5_beginRide 127 = .ok (.iastore, 1) := by decide +kernel
theorem dX5_beginRide_128 : decode cX5_beginRide 128 = .ok (.aload_n 0, 1) := by decide +kernel
theorem dX5_beginRide_129 : decode cX5_beginRide 129 = .ok (.getfield 28, 3) := by decide +kernel
theorem dX5_beginRide_132 : decode cX5_beginRide 132 = .ok (.getfield 115, 3) := by decide +kernel
theorem dX5_beginRide_135 : decode cX5_beginRide 135 = .ok (.iload_n 1, 1) := by decide +kernel
theorem dX5_beginRide_136 : decode cX5_beginRide 136 = .ok (.iload 4, 2) := by decide +kernel
theorem dX5_beginRide_138 : decode cX5_beginRide 138 = .ok (.ifCond .eq 7, 3) := by decide +kernel
theorem dX5_beginRide_141 : decode cX5_beginRide 141 = .ok (.iconst 0, 1) := by decide +kernel
theorem dX5_beginRide_142 : decode cX5_beginRide 142 = .ok (.goto 4, 3) := by decide +kernel
theorem dX5_beginRide_145 : decode cX5_beginRide 145 = .ok (.iconst 1, 1) := by decide +kernel
theorem dX5_beginRide_146 : decode cX5_beginRide 146 = .ok (.iastore, 1) := by decide +kernel
theorem dX5_beginRide_147 : decode cX5_beginRide 147 = .ok (.aload_n 0, 1) := by decide +kernel
theorem dX5_beginRide_148 : decode cX5_beginRide 148 = .ok (.getfield 28, 3) := by decide +kernel
theorem dX5_beginRide_151 : decode cX5_beginRide 151 = .ok (.getfield 118, 3) := by decide +kernel
theorem dX5_beginRide_154 : decode cX5_beginRide 154 = .ok (.iload_n 1, 1) := by decide +kernel
theorem dX5_beginRide_155 : decode cX5_beginRide 155 = .ok (.iconst 0, 1) := by decide +kernel
theorem dX5_beginRide_156 : decode cX5_beginRide 156 = .ok (.iastore, 1) := by decide +kernel
theorem dX5_beginRide_157 : decode cX5_beginRide 157 = .ok (.aload_n 0, 1) := by decide +kernel
theorem dX5_beginRide_158 : decode cX5_beginRide 158 = .ok (.getfield 21, 3) := by decide +kernel
theorem dX5_beginRide_161 : decode cX5_beginRide 161 = .ok (.iload_n 3, 1) := by decide +kernel
theorem dX5_beginRide_162 : decode cX5_beginRide 162 = .ok (.iconst 1, 1) := by decide +kernel
theorem dX5_beginRide_163 : decode cX5_beginRide 163 = .ok (.iload_n 1, 1) := by decide +kernel
theorem dX5_beginRide_164 : decode cX5_beginRide 164 = .ok (.invokevirtual 121, 3) := by decide +kernel
theorem dX5_beginRide_167 : decode cX5_beginRide 167 = .ok (.aload_n 0, 1) := by decide +kernel
theorem dX5_beginRide_168 : decode cX5_beginRide 168 = .ok (.getfield 12, 3) := by decide +kernel
theorem dX5_beginRide_171 : decode cX5_beginRide 171 = .ok (.getfield 125, 3) := by decide +kernel
theorem dX5_beginRide_174 : decode cX5_beginRide 174 = .ok (.iload_n 2, 1) := by decide +kernel
theorem dX5_beginRide_175 : decode cX5_beginRide 175 = .ok (.dup2, 1) := by decide +kernel
theorem dX5_beginRide_176 : decode cX5_beginRide 176 = .ok (.iaload, 1) := by decide +kernel
theorem dX5_beginRide_177 : decode cX5_beginRide 177 = .ok (.iconst 1, 1) := by decide +kernel
theorem dX5_beginRide_178 : decode cX5_beginRide 178 = .ok (.iadd, 1) := by decide +kernel
theorem dX5_beginRide_179 : decode cX5_beginRide 179 = .ok (.iastore, 1) := by decide +kernel
theorem dX5_beginRide_180 : decode cX5_beginRide 180 = .ok (.iload_n 3, 1) := by decide +kernel
theorem dX5_beginRide_181 : decode cX5_beginRide 181 = .ok (.ireturn, 1) := by decide +kernel
set_option maxRecDepth 20000 in
theorem ggX5_endRide_X4_has : GoodIn wsX5_endRide wsX4_has := goodIn_r _ [15, 16, 78, 79, 80, 81, 82, 83, 84, 85, 86, 87] (by decide +kernel) (by decide +kernel)
set_option maxRecDepth 20000 in
theorem gX5_endRide_X4_has : GoodIn wsX5_endRide (wsV RX5 84 RX4 yX4_has wsX4_has) := goodIn_app (goodIn_of _ (by decide +kernel)) ggX5_endRide_X4_has
set_option maxRecDepth 20000 in
theorem ggX5_endRide_X6_has : GoodIn wsX5_endRide wsX6_has := goodIn_r _ [21, 22, 95, 96, 97, 98, 99] (by decide +kernel) (by decide +kernel)
set_option maxRecDepth 20000 in
theorem gX5_endRide_X6_has : GoodIn wsX5_endRide (wsV RX5 70 RX6 yX6_has wsX6_has) := goodIn_app (goodIn_of _ (by decide +kernel)) ggX5_endRide_X6_has
set_option maxRecDepth 20000 in
theorem ggX5_endRide_X1_has : GoodIn wsX5_endRide wsX1_has := goodIn_r _ [27, 28, 88, 89, 90, 91, 92, 93, 94] (by decide +kernel) (by decide +kernel)
set_option maxRecDepth 20000 in
theorem gX5_endRide_X1_has : GoodIn wsX5_endRide (wsV RX5 105 RX1 yX1_has wsX1_has) := goodIn_app (goodIn_of _ (by decide +kernel)) ggX5_endRide_X1_has
set_option maxRecDepth 20000 in
theorem ggX5_endRide_X5_hasFreeDock : GoodIn wsX5_endRide wsX5_hasFreeDock := goodIn_r _ [33, 2, 34, 17, 18, 19, 20, 21, 22, 35, 36, 37, 32, 38, 4, 39, 40, 41, 26, 42, 28, 43, 44, 72, 73, 74, 75, 76, 77, 95, 96, 97, 98, 99, 88, 89, 90, 91, 92, 93, 94] (by decide +kernel) (by decide +kernel)
set_option maxRecDepth 20000 in
theorem gX5_endRide_X5_hasFreeDock : GoodIn wsX5_endRide (wsV RX5 74 RX5 yX5_hasFreeDock wsX5_hasFreeDock) := goodIn_app (goodIn_of _ (by decide +kernel)) ggX5_endRide_X5_hasFreeDock
set_option maxRecDepth 20000 in
theorem ggX5_endRide_X4_fee : GoodIn wsX5_endRide wsX4_fee := goodIn_r _ [48, 49, 50, 51, 52, 53, 54, 55, 56, 57, 14, 58, 59, 60, 12, 13, 15, 16, 61, 62, 63, 64, 65, 78, 79, 80, 81, 82, 83, 84, 85, 86, 87] (by decide +kernel) (by decide +kernel)
set_option maxRecDepth 20000 in
theorem gX5_endRide_X4_fee : GoodIn wsX5_endRide (wsV RX5 128 RX4 yX4_fee wsX4_fee) := goodIn_app (goodIn_of _ (by decide +kernel)) ggX5_endRide_X4_fee
set_option maxRecDepth 20000 in
theorem ggX5_endRide_X4_rideMinutes : GoodIn wsX5_endRide wsX4_rideMinutes := goodIn_r _ [64, 65, 60, 12, 13, 14, 15, 16, 78, 79, 80, 81, 82, 83, 84, 85, 86, 87] (by decide +kernel) (by decide +kernel)
set_option maxRecDepth 20000 in
theorem gX5_endRide_X4_rideMinutes : GoodIn wsX5_endRide (wsV RX5 134 RX4 yX4_rideMinutes wsX4_rideMinutes) := goodIn_app (goodIn_of _ (by decide +kernel)) ggX5_endRide_X4_rideMinutes
set_option maxRecDepth 20000 in
theorem ggX5_endRide_X1_bring : GoodIn wsX5_endRide wsX1_bring := goodIn_r _ [70, 43, 44, 71, 24, 25, 26, 27, 28, 88, 89, 90, 91, 92, 93, 94] (by decide +kernel) (by decide +kernel)
set_option maxRecDepth 20000 in
theorem gX5_endRide_X1_bring : GoodIn wsX5_endRide (wsV RX5 121 RX1 yX1_bring wsX1_bring) := goodIn_app (goodIn_of _ (by decide +kernel)) ggX5_endRide_X1_bring
theorem dX5_endRide_0 : decode cX5_endRide 0 = .ok (.aload_n 0, 1) := by decide +kernel
theorem dX5_endRide_1 : decode cX5_endRide 1 = .ok (.getfield 28, 3) := by decide +kernel
theorem dX5_endRide_4 : decode cX5_endRide 4 = .ok (.iload_n 1, 1) := by decide +kernel
theorem dX5_endRide_5 : decode cX5_endRide 5 = .ok (.invokevirtual 84, 3) := by decide +kernel
theorem dX5_endRide_8 : decode cX5_endRide 8 = .ok (.ifCond .eq 14, 3) := by decide +kernel
theorem dX5_endRide_11 : decode cX5_endRide 11 = .ok (.aload_n 0, 1) := by decide +kernel
theorem dX5_endRide_12 : decode cX5_endRide 12 = .ok (.getfield 12, 3) := by decide +kernel
theorem dX5_endRide_15 : decode cX5_endRide 15 = .ok (.iload_n 2, 1) := by decide +kernel
theorem dX5_endRide_16 : decode cX5_endRide 16 = .ok (.invokevirtual 70, 3) := by decide +kernel
theorem dX5_endRide_19 : decode cX5_endRide 19 = .ok (.ifCond .ne 5, 3) := by decide +kernel
theorem dX5_endRide_22 : decode cX5_endRide 22 = .ok (.iconst (-1), 1) := by decide +kernel
theorem dX5_endRide_23 : decode cX5_endRide 23 = .ok (.ireturn, 1) := by decide +kernel
theorem dX5_endRide_24 : decode cX5_endRide 24 = .ok (.aload_n 0, 1) := by decide +kernel
theorem dX5_endRide_25 : decode cX5_endRide 25 = .ok (.getfield 28, 3) := by decide +kernel
theorem dX5_endRide_28 : decode cX5_endRide 28 = .ok (.getfield 106, 3) := by decide +kernel
theorem dX5_endRide_31 : decode cX5_endRide 31 = .ok (.iload_n 1, 1) := by decide +kernel
theorem dX5_endRide_32 : decode cX5_endRide 32 = .ok (.iaload, 1) := by decide +kernel
theorem dX5_endRide_33 : decode cX5_endRide 33 = .ok (.istore_n 3, 1) := by decide +kernel
theorem dX5_endRide_34 : decode cX5_endRide 34 = .ok (.aload_n 0, 1) := by decide +kernel
theorem dX5_endRide_35 : decode cX5_endRide 35 = .ok (.getfield 21, 3) := by decide +kernel
theorem dX5_endRide_38 : decode cX5_endRide 38 = .ok (.iload_n 3, 1) := by decide +kernel
theorem dX5_endRide_39 : decode cX5_endRide 39 = .ok (.invokevirtual 105, 3) := by decide +kernel
theorem dX5_endRide_42 : decode cX5_endRide 42 = .ok (.ifCond .eq 11, 3) := by decide +kernel
theorem dX5_endRide_45 : decode cX5_endRide 45 = .ok (.aload_n 0, 1) := by decide +kernel
theorem dX5_endRide_46 : decode cX5_endRide 46 = .ok (.iload_n 2, 1) := by decide +kernel
theorem dX5_endRide_47 : decode cX5_endRide 47 = .ok (.invokevirtual 74, 3) := by decide +kernel
theorem dX5_endRide_50 : decode cX5_endRide 50 = .ok (.ifCond .ne 6, 3) := by decide +kernel
theorem dX5_endRide_53 : decode cX5_endRide 53 = .ok (.bipush (-2), 2) := by decide +kernel
theorem dX5_endRide_55 : decode cX5_endRide 55 = .ok (.ireturn, 1) := by decide +kernel
theorem dX5_endRide_56 : decode cX5_endRide 56 = .ok (.aload_n 0, 1) := by decide +kernel
theorem dX5_endRide_57 : decode cX5_endRide 57 = .ok (.getfield 28, 3) := by decide +kernel
theorem dX5_endRide_60 : decode cX5_endRide 60 = .ok (.iload_n 1, 1) := by decide +kernel
theorem dX5_endRide_61 : decode cX5_endRide 61 = .ok (.aload_n 0, 1) := by decide +kernel
theorem dX5_endRide_62 : decode cX5_endRide 62 = .ok (.getfield 62, 3) := by decide +kernel
theorem dX5_endRide_65 : decode cX5_endRide 65 = .ok (.invokevirtual 128, 3) := by decide +kernel
theorem dX5_endRide_68 : decode cX5_endRide 68 = .ok (.istore 4, 2) := by decide +kernel
theorem dX5_endRide_70 : decode cX5_endRide 70 = .ok (.aload_n 0, 1) := by decide +kernel
theorem dX5_endRide_71 : decode cX5_endRide 71 = .ok (.getfield 21, 3) := by decide +kernel
theorem dX5_endRide_74 : decode cX5_endRide 74 = .ok (.getfield 131, 3) := by decide +kernel
theorem dX5_endRide_77 : decode cX5_endRide 77 = .ok (.iload_n 3, 1) := by decide +kernel
theorem dX5_endRide_78 : decode cX5_endRide 78 = .ok (.dup2, 1) := by decide +kernel
theorem dX5_endRide_79 : decode cX5_endRide 79 = .ok (.iaload, 1) := by decide +kernel
theorem dX5_endRide_80 : decode cX5_endRide 80 = .ok (.aload_n 0, 1) := by decide +kernel
theorem dX5_endRide_81 : decode cX5_endRide 81 = .ok (.getfield 28, 3) := by decide +kernel
theorem dX5_endRide_84 : decode cX5_endRide 84 = .ok (.iload_n 1, 1) := by decide +kernel
theorem dX5_endRide_85 : decode cX5_endRide 85 = .ok (.aload_n 0, 1) := by decide +kernel
theorem dX5_endRide_86 : decode cX5_endRide 86 = .ok (.getfield 62, 3) := by decide +kernel
theorem dX5_endRide_89 : decode cX5_endRide 89 = .ok (.invokevirtual 134, 3) := by decide +kernel
theorem dX5_endRide_92 : decode cX5_endRide 92 = .ok (.iadd, 1) := by decide +kernel
theorem dX5_endRide_93 : decode cX5_endRide 93 = .ok (.iastore, 1) := by decide +kernel
theorem dX5_endRide_94 : decode cX5_endRide 94 = .ok (.aload_n 0, 1) := by decide +kernel
theorem dX5_endRide_95 : decode cX5_endRide 95 = .ok (.getfield 21, 3) := by decide +kernel
theorem dX5_endRide_98 : decode cX5_endRide 98 = .ok (.getfield 137, 3) := by decide +kernel
theorem dX5_endRide_101 : decode cX5_endRide 101 = .ok (.iload_n 3, 1) := by decide +kernel
theorem dX5_endRide_102 : decode cX5_endRide 102 = .ok (.dup2, 1) := by decide +kernel
theorem dX5_endRide_103 : decode cX5_endRide 103 = .ok (.iaload, 1) := by decide +kernel
theorem dX5_endRide_104 : decode cX5_endRide 104 = .ok (.iconst 1, 1) := by decide +kernel
theorem dX5_endRide_105 : decode cX5_endRide 105 = .ok (.iadd, 1) := by decide +kernel
theorem dX5_endRide_106 : decode cX5_endRide 106 = .ok (.iastore, 1) := by decide +kernel
theorem dX5_endRide_107 : decode cX5_endRide 107 = .ok (.aload_n 0, 1) := by decide +kernel
theorem dX5_endRide_108 : decode cX5_endRide 108 = .ok (.getfield 21, 3) := by decide +kernel
theorem dX5_endRide_111 : decode cX5_endRide 111 = .ok (.iload_n 3, 1) := by decide +kernel
theorem dX5_endRide_112 : decode cX5_endRide 112 = .ok (.iconst 0, 1) := by decide +kernel
theorem dX5_endRide_113 : decode cX5_endRide 113 = .ok (.iload_n 2, 1) := by decide +kernel
theorem dX5_endRide_114 : decode cX5_endRide 114 = .ok (.invokevirtual 121, 3) := by decide +kernel
theorem dX5_endRide_117 : decode cX5_endRide 117 = .ok (.aload_n 0, 1) := by decide +kernel
theorem dX5_endRide_118 : decode cX5_endRide 118 = .ok (.getfield 28, 3) := by decide +kernel
theorem dX5_endRide_121 : decode cX5_endRide 121 = .ok (.getfield 96, 3) := by decide +kernel
theorem dX5_endRide_124 : decode cX5_endRide 124 = .ok (.iload_n 1, 1) := by decide +kernel
theorem dX5_endRide_125 : decode cX5_endRide 125 = .ok (.dup2, 1) := by decide +kernel
theorem dX5_endRide_126 : decode cX5_endRide 126 = .ok (.iaload, 1) := by decide +kernel
theorem dX5_endRide_127 : decode cX5_endRide 127 = .ok (.iload 4, 2) := by decide +kernel
theorem dX5_endRide_129 : decode cX5_endRide 129 = .ok (.iadd, 1) := by decide +kernel
theorem dX5_endRide_130 : decode cX5_endRide 130 = .ok (.iastore, 1) := by decide +kernel
theorem dX5_endRide_131 : decode cX5_endRide 131 = .ok (.aload_n 0, 1) := by decide +kernel
theorem dX5_endRide_132 : decode cX5_endRide 132 = .ok (.getfield 28, 3) := by decide +kernel
theorem dX5_endRide_135 : decode cX5_endRide 135 = .ok (.getfield 140, 3) := by decide +kernel
theorem dX5_endRide_138 : decode cX5_endRide 138 = .ok (.iload_n 1, 1) := by decide +kernel
theorem dX5_endRide_139 : decode cX5_endRide 139 = .ok (.dup2, 1) := by decide +kernel
theorem dX5_endRide_140 : decode cX5_endRide 140 = .ok (.iaload, 1) := by decide +kernel
theorem dX5_endRide_141 : decode cX5_endRide 141 = .ok (.iconst 1, 1) := by decide +kernel
theorem dX5_endRide_142 : decode cX5_endRide 142 = .ok (.iadd, 1) := by decide +kernel
theorem dX5_endRide_143 : decode cX5_endRide 143 = .ok (.iastore, 1) := by decide +kernel
theorem dX5_endRide_144 : decode cX5_endRide 144 = .ok (.aload_n 0, 1) := by decide +kernel
theorem dX5_endRide_145 : decode cX5_endRide 145 = .ok (.getfield 28, 3) := by decide +kernel
theorem dX5_endRide_148 : decode cX5_endRide 148 = .ok (.getfield 106, 3) := by decide +kernel
theorem dX5_endRide_151 : decode cX5_endRide 151 = .ok (.iload_n 1, 1) := by decide +kernel
theorem dX5_endRide_152 : decode cX5_endRide 152 = .ok (.iconst (-1), 1) := by decide +kernel
theorem dX5_endRide_153 : decode cX5_endRide 153 = .ok (.iastore, 1) := by decide +kernel
theorem dX5_endRide_154 : decode cX5_endRide 154 = .ok (.aload_n 0, 1) := by decide +kernel
theorem dX5_endRide_155 : decode cX5_endRide 155 = .ok (.getfield 12, 3) := by decide +kernel
theorem dX5_endRide_158 : decode cX5_endRide 158 = .ok (.getfield 141, 3) := by decide +kernel
theorem dX5_endRide_161 : decode cX5_endRide 161 = .ok (.iload_n 2, 1) := by decide +kernel
theorem dX5_endRide_162 : decode cX5_endRide 162 = .ok (.dup2, 1) := by decide +kernel
theorem dX5_endRide_163 : decode cX5_endRide 163 = .ok (.iaload, 1) := by decide +kernel
theorem dX5_endRide_164 : decode cX5_endRide 164 = .ok (.iconst 1, 1) := by decide +kernel
theorem dX5_endRide_165 : decode cX5_endRide 165 = .ok (.iadd, 1) := by decide +kernel
theorem dX5_endRide_166 : decode cX5_endRide 166 = .ok (.iastore, 1) := by decide +kernel
theorem dX5_endRide_167 : decode cX5_endRide 167 = .ok (.iload 4, 2) := by decide +kernel
theorem dX5_endRide_169 : decode cX5_endRide 169 = .ok (.ireturn, 1) := by decide +kernel
set_option maxRecDepth 20000 in
theorem ggX5_tellFull_X4_has : GoodIn wsX5_tellFull wsX4_has := goodIn_r _ [9, 10, 48, 49, 50, 51, 52, 53, 54, 55, 56, 57] (by decide +kernel) (by decide +kernel)
set_option maxRecDepth 20000 in
theorem gX5_tellFull_X4_has : GoodIn wsX5_tellFull (wsV RX5 84 RX4 yX4_has wsX4_has) := goodIn_app (goodIn_of _ (by decide +kernel)) ggX5_tellFull_X4_has
set_option maxRecDepth 20000 in
theorem ggX5_tellFull_X6_has : GoodIn wsX5_tellFull wsX6_has := goodIn_r _ [15, 16, 58, 59, 60, 61, 62] (by decide +kernel) (by decide +kernel)
set_option maxRecDepth 20000 in
theorem gX5_tellFull_X6_has : GoodIn wsX5_tellFull (wsV RX5 70 RX6 yX6_has wsX6_has) := goodIn_app (goodIn_of _ (by decide +kernel)) ggX5_tellFull_X6_has
set_option maxRecDepth 20000 in
theorem ggX5_tellFull_X4_hasRide : GoodIn wsX5_tellFull wsX4_hasRide := goodIn_r _ [20, 21, 22, 6, 7, 8, 9, 10, 48, 49, 50, 51, 52, 53, 54, 55, 56, 57] (by decide +kernel) (by decide +kernel)
set_option maxRecDepth 20000 in
theorem gX5_tellFull_X4_hasRide : GoodIn wsX5_tellFull (wsV RX5 102 RX4 yX4_hasRide wsX4_hasRide) := goodIn_app (goodIn_of _ (by decide +kernel)) ggX5_tellFull_X4_hasRide
set_option maxRecDepth 20000 in
theorem ggX5_tellFull_X5_hasFreeDock : GoodIn wsX5_tellFull wsX5_hasFreeDock := goodIn_r _ [27, 2, 28, 11, 12, 13, 14, 15, 16, 29, 30, 31, 26, 32, 33, 34, 35, 36, 37, 38, 39, 40, 41, 42, 43, 44, 45, 46, 47, 58, 59, 60, 61, 62, 63, 64, 65, 66, 67, 68, 69] (by decide +kernel) (by decide +kernel)
set_option maxRecDepth 20000 in
theorem gX5_tellFull_X5_hasFreeDock : GoodIn wsX5_tellFull (wsV RX5 74 RX5 yX5_hasFreeDock wsX5_hasFreeDock) := goodIn_app (goodIn_of _ (by decide +kernel)) ggX5_tellFull_X5_hasFreeDock
theorem dX5_tellFull_0 : decode cX5_tellFull 0 = .ok (.aload_n 0, 1) := by decide +kernel
theorem dX5_tellFull_1 : decode cX5_tellFull 1 = .ok (.getfield 28, 3) := by decide +kernel
theorem dX5_tellFull_4 : decode cX5_tellFull 4 = .ok (.iload_n 1, 1) := by decide +kernel
theorem dX5_tellFull_5 : decode cX5_tellFull 5 = .ok (.invokevirtual 84, 3) := by decide +kernel
theorem dX5_tellFull_8 : decode cX5_tellFull 8 = .ok (.ifCond .eq 14, 3) := by decide +kernel
theorem dX5_tellFull_11 : decode cX5_tellFull 11 = .ok (.aload_n 0, 1) := by decide +kernel
theorem dX5_tellFull_12 : decode cX5_tellFull 12 = .ok (.getfield 12, 3) := by decide +kernel
theorem dX5_tellFull_15 : decode cX5_tellFull 15 = .ok (.iload_n 2, 1) := by decide +kernel
theorem dX5_tellFull_16 : decode cX5_tellFull 16 = .ok (.invokevirtual 70, 3) := by decide +kernel
theorem dX5_tellFull_19 : decode cX5_tellFull 19 = .ok (.ifCond .ne 5, 3) := by decide +kernel
theorem dX5_tellFull_22 : decode cX5_tellFull 22 = .ok (.iconst (-1), 1) := by decide +kernel
theorem dX5_tellFull_23 : decode cX5_tellFull 23 = .ok (.ireturn, 1) := by decide +kernel
theorem dX5_tellFull_24 : decode cX5_tellFull 24 = .ok (.aload_n 0, 1) := by decide +kernel
theorem dX5_tellFull_25 : decode cX5_tellFull 25 = .ok (.getfield 28, 3) := by decide +kernel
theorem dX5_tellFull_28 : decode cX5_tellFull 28 = .ok (.getfield 118, 3) := by decide +kernel
theorem dX5_tellFull_31 : decode cX5_tellFull 31 = .ok (.iload_n 1, 1) := by decide +kernel
theorem dX5_tellFull_32 : decode cX5_tellFull 32 = .ok (.iaload, 1) := by decide +kernel
theorem dX5_tellFull_33 : decode cX5_tellFull 33 = .ok (.iconst 1, 1) := by decide +kernel
theorem dX5_tellFull_34 : decode cX5_tellFull 34 = .ok (.iload_n 2, 1) := by decide +kernel
theorem dX5_tellFull_35 : decode cX5_tellFull 35 = .ok (.ishl, 1) := by decide +kernel
theorem dX5_tellFull_36 : decode cX5_tellFull 36 = .ok (.iand, 1) := by decide +kernel
theorem dX5_tellFull_37 : decode cX5_tellFull 37 = .ok (.ifCond .eq 7, 3) := by decide +kernel
theorem dX5_tellFull_40 : decode cX5_tellFull 40 = .ok (.iconst 1, 1) := by decide +kernel
theorem dX5_tellFull_41 : decode cX5_tellFull 41 = .ok (.goto 4, 3) := by decide +kernel
theorem dX5_tellFull_44 : decode cX5_tellFull 44 = .ok (.iconst 0, 1) := by decide +kernel
theorem dX5_tellFull_45 : decode cX5_tellFull 45 = .ok (.istore_n 3, 1) := by decide +kernel
theorem dX5_tellFull_46 : decode cX5_tellFull 46 = .ok (.aload_n 0, 1) := by decide +kernel
theorem dX5_tellFull_47 : decode cX5_tellFull 47 = .ok (.getfield 28, 3) := by decide +kernel
theorem dX5_tellFull_50 : decode cX5_tellFull 50 = .ok (.iload_n 1, 1) := by decide +kernel
theorem dX5_tellFull_51 : decode cX5_tellFull 51 = .ok (.invokevirtual 102, 3) := by decide +kernel
theorem dX5_tellFull_54 : decode cX5_tellFull 54 = .ok (.ifCond .eq 15, 3) := by decide +kernel
theorem dX5_tellFull_57 : decode cX5_tellFull 57 = .ok (.aload_n 0, 1) := by decide +kernel
theorem dX5_tellFull_58 : decode cX5_tellFull 58 = .ok (.iload_n 2, 1) := by decide +kernel
theorem dX5_tellFull_59 : decode cX5_tellFull 59 = .ok (.invokevirtual 74, 3) := by decide +kernel
theorem dX5_tellFull_62 : decode cX5_tellFull 62 = .ok (.ifCond .ne 7, 3) := by decide +kernel
theorem dX5_tellFull_65 : decode cX5_tellFull 65 = .ok (.iload_n 3, 1) := by decide +kernel
theorem dX5_tellFull_66 : decode cX5_tellFull 66 = .ok (.ifCond .eq 6, 3) := by decide +kernel
theorem dX5_tellFull_69 : decode cX5_tellFull 69 = .ok (.bipush (-2), 2) := by decide +kernel
theorem dX5_tellFull_71 : decode cX5_tellFull 71 = .ok (.ireturn, 1) := by decide +kernel
theorem dX5_tellFull_72 : decode cX5_tellFull 72 = .ok (.aload_n 0, 1) := by decide +kernel
theorem dX5_tellFull_73 : decode cX5_tellFull 73 = .ok (.getfield 28, 3) := by decide +kernel
theorem dX5_tellFull_76 : decode cX5_tellFull 76 = .ok (.getfield 118, 3) := by decide +kernel
theorem dX5_tellFull_79 : decode cX5_tellFull 79 = .ok (.iload_n 1, 1) := by decide +kernel
theorem dX5_tellFull_80 : decode cX5_tellFull 80 = .ok (.dup2, 1) := by decide +kernel
theorem dX5_tellFull_81 : decode cX5_tellFull 81 = .ok (.iaload, 1) := by decide +kernel
theorem dX5_tellFull_82 : decode cX5_tellFull 82 = .ok (.iconst 1, 1) := by decide +kernel
theorem dX5_tellFull_83 : decode cX5_tellFull 83 = .ok (.iload_n 2, 1) := by decide +kernel
theorem dX5_tellFull_84 : decode cX5_tellFull 84 = .ok (.ishl, 1) := by decide +kernel
theorem dX5_tellFull_85 : decode cX5_tellFull 85 = .ok (.ior, 1) := by decide +kernel
theorem dX5_tellFull_86 : decode cX5_tellFull 86 = .ok (.iastore, 1) := by decide +kernel
theorem dX5_tellFull_87 : decode cX5_tellFull 87 = .ok (.aload_n 0, 1) := by decide +kernel
theorem dX5_tellFull_88 : decode cX5_tellFull 88 = .ok (.getfield 28, 3) := by decide +kernel
theorem dX5_tellFull_91 : decode cX5_tellFull 91 = .ok (.getfield 112, 3) := by decide +kernel
theorem dX5_tellFull_94 : decode cX5_tellFull 94 = .ok (.iload_n 1, 1) := by decide +kernel
theorem dX5_tellFull_95 : decode cX5_tellFull 95 = .ok (.dup2, 1) := by decide +kernel
theorem dX5_tellFull_96 : decode cX5_tellFull 96 = .ok (.iaload, 1) := by decide +kernel
theorem dX5_tellFull_97 : decode cX5_tellFull 97 = .ok (.bipush 15, 2) := by decide +kernel
theorem dX5_tellFull_99 : decode cX5_tellFull 99 = .ok (.iadd, 1) := by decide +kernel
theorem dX5_tellFull_100 : decode cX5_tellFull 100 = .ok (.iastore, 1) := by decide +kernel
theorem dX5_tellFull_101 : decode cX5_tellFull 101 = .ok (.aload_n 0, 1) := by decide +kernel
theorem dX5_tellFull_102 : decode cX5_tellFull 102 = .ok (.getfield 28, 3) := by decide +kernel
theorem dX5_tellFull_105 : decode cX5_tellFull 105 = .ok (.getfield 112, 3) := by decide +kernel
theorem dX5_tellFull_108 : decode cX5_tellFull 108 = .ok (.iload_n 1, 1) := by decide +kernel
theorem dX5_tellFull_109 : decode cX5_tellFull 109 = .ok (.iaload, 1) := by decide +kernel
theorem dX5_tellFull_110 : decode cX5_tellFull 110 = .ok (.ireturn, 1) := by decide +kernel
set_option maxRecDepth 20000 in
theorem ggX5_tellFaulty_X1_has : GoodIn wsX5_tellFaulty wsX1_has := goodIn_r _ [8, 9, 21, 22, 23, 24, 25, 26, 27] (by decide +kernel) (by decide +kernel)
set_option maxRecDepth 20000 in
theorem gX5_tellFaulty_X1_has : GoodIn wsX5_tellFaulty (wsV RX5 105 RX1 yX1_has wsX1_has) := goodIn_app (goodIn_of _ (by decide +kernel)) ggX5_tellFaulty_X1_has
set_option maxRecDepth 20000 in
theorem ggX5_tellFaulty_X1_countFaulty : GoodIn wsX5_tellFaulty wsX1_countFaulty := goodIn_r _ [13, 9, 14, 21, 22, 23, 24, 25, 26, 27] (by decide +kernel) (by decide +kernel)
set_option maxRecDepth 20000 in
theorem gX5_tellFaulty_X1_countFaulty : GoodIn wsX5_tellFaulty (wsV RX5 150 RX1 yX1_countFaulty wsX1_countFaulty) := goodIn_app (goodIn_of _ (by decide +kernel)) ggX5_tellFaulty_X1_countFaulty
theorem dX5_tellFaulty_0 : decode cX5_tellFaulty 0 = .ok (.aload_n 0, 1) := by decide +kernel
theorem dX5_tellFaulty_1 : decode cX5_tellFaulty 1 = .ok (.getfield 21, 3) := by decide +kernel
theorem dX5_tellFaulty_4 : decode cX5_tellFaulty 4 = .ok (.iload_n 1, 1) := by decide +kernel
theorem dX5_tellFaulty_5 : decode cX5_tellFaulty 5 = .ok (.invokevirtual 105, 3) := by decide +kernel
theorem dX5_tellFaulty_8 : decode cX5_tellFaulty 8 = .ok (.ifCond .ne 5, 3) := by decide +kernel
theorem dX5_tellFaulty_11 : decode cX5_tellFaulty 11 = .ok (.iconst (-1), 1) := by decide +kernel
theorem dX5_tellFaulty_12 : decode cX5_tellFaulty 12 = .ok (.ireturn, 1) := by decide +kernel
theorem dX5_tellFaulty_13 : decode cX5_tellFaulty 13 = .ok (.aload_n 0, 1) := by decide +kernel
theorem dX5_tellFaulty_14 : decode cX5_tellFaulty 14 = .ok (.getfield 21, 3) := by decide +kernel
theorem dX5_tellFaulty_17 : decode cX5_tellFaulty 17 = .ok (.getfield 144, 3) := by decide +kernel
theorem dX5_tellFaulty_20 : decode cX5_tellFaulty 20 = .ok (.iload_n 1, 1) := by decide +kernel
theorem dX5_tellFaulty_21 : decode cX5_tellFaulty 21 = .ok (.iaload, 1) := by decide +kernel
theorem dX5_tellFaulty_22 : decode cX5_tellFaulty 22 = .ok (.istore_n 2, 1) := by decide +kernel
theorem dX5_tellFaulty_23 : decode cX5_tellFaulty 23 = .ok (.iload_n 2, 1) := by decide +kernel
theorem dX5_tellFaulty_24 : decode cX5_tellFaulty 24 = .ok (.ifCond .eq 8, 3) := by decide +kernel
theorem dX5_tellFaulty_27 : decode cX5_tellFaulty 27 = .ok (.iload_n 2, 1) := by decide +kernel
theorem dX5_tellFaulty_28 : decode cX5_tellFaulty 28 = .ok (.iconst 1, 1) := by decide +kernel
theorem dX5_tellFaulty_29 : decode cX5_tellFaulty 29 = .ok (.if_icmp .ne 7, 3) := by decide +kernel
theorem dX5_tellFaulty_32 : decode cX5_tellFaulty 32 = .ok (.iconst 1, 1) := by decide +kernel
theorem dX5_tellFaulty_33 : decode cX5_tellFaulty 33 = .ok (.goto 4, 3) := by decide +kernel
theorem dX5_tellFaulty_36 : decode cX5_tellFaulty 36 = .ok (.iconst 0, 1) := by decide +kernel
theorem dX5_tellFaulty_37 : decode cX5_tellFaulty 37 = .ok (.istore_n 3, 1) := by decide +kernel
theorem dX5_tellFaulty_38 : decode cX5_tellFaulty 38 = .ok (.iload_n 3, 1) := by decide +kernel
theorem dX5_tellFaulty_39 : decode cX5_tellFaulty 39 = .ok (.ifCond .eq 15, 3) := by decide +kernel
theorem dX5_tellFaulty_42 : decode cX5_tellFaulty 42 = .ok (.aload_n 0, 1) := by decide +kernel
theorem dX5_tellFaulty_43 : decode cX5_tellFaulty 43 = .ok (.getfield 21, 3) := by decide +kernel
theorem dX5_tellFaulty_46 : decode cX5_tellFaulty 46 = .ok (.getfield 147, 3) := by decide +kernel
theorem dX5_tellFaulty_49 : decode cX5_tellFaulty 49 = .ok (.iload_n 1, 1) := by decide +kernel
theorem dX5_tellFaulty_50 : decode cX5_tellFaulty 50 = .ok (.iaload, 1) := by decide +kernel
theorem dX5_tellFaulty_51 : decode cX5_tellFaulty 51 = .ok (.ifCond .eq 6, 3) := by decide +kernel
theorem dX5_tellFaulty_54 : decode cX5_tellFaulty 54 = .ok (.bipush (-2), 2) := by decide +kernel
theorem dX5_tellFaulty_56 : decode cX5_tellFaulty 56 = .ok (.ireturn, 1) := by decide +kernel
theorem dX5_tellFaulty_57 : decode cX5_tellFaulty 57 = .ok (.aload_n 0, 1) := by decide +kernel
theorem dX5_tellFaulty_58 : decode cX5_tellFaulty 58 = .ok (.getfield 21, 3) := by decide +kernel
theorem dX5_tellFaulty_61 : decode cX5_tellFaulty 61 = .ok (.getfield 147, 3) := by decide +kernel
theorem dX5_tellFaulty_64 : decode cX5_tellFaulty 64 = .ok (.iload_n 1, 1) := by decide +kernel
theorem dX5_tellFaulty_65 : decode cX5_tellFaulty 65 = .ok (.iconst 1, 1) := by decide +kernel
theorem dX5_tellFaulty_66 : decode cX5_tellFaulty 66 = .ok (.iastore, 1) := by decide +kernel
theorem dX5_tellFaulty_67 : decode cX5_tellFaulty 67 = .ok (.aload_n 0, 1) := by decide +kernel
theorem dX5_tellFaulty_68 : decode cX5_tellFaulty 68 = .ok (.getfield 21, 3) := by decide +kernel
theorem dX5_tellFaulty_71 : decode cX5_tellFaulty 71 = .ok (.invokevirtual 150, 3) := by decide +kernel
theorem dX5_tellFaulty_74 : decode cX5_tellFaulty 74 = .ok (.ireturn, 1) := by decide +kernel
set_option maxRecDepth 20000 in
theorem ggX5_load_X8_has : GoodIn wsX5_load wsX8_has := goodIn_r _ [9, 10, 45, 46, 47, 48] (by decide +kernel) (by decide +kernel)
set_option maxRecDepth 20000 in
theorem gX5_load_X8_has : GoodIn wsX5_load (wsV RX5 153 RX8 yX8_has wsX8_has) := goodIn_app (goodIn_of _ (by decide +kernel)) ggX5_load_X8_has
set_option maxRecDepth 20000 in
theorem ggX5_load_X1_has : GoodIn wsX5_load wsX1_has := goodIn_r _ [15, 16, 49, 50, 51, 52, 53, 54, 55] (by decide +kernel) (by decide +kernel)
set_option maxRecDepth 20000 in
theorem gX5_load_X1_has : GoodIn wsX5_load (wsV RX5 105 RX1 yX1_has wsX1_has) := goodIn_app (goodIn_of _ (by decide +kernel)) ggX5_load_X1_has
set_option maxRecDepth 20000 in
theorem ggX5_load_X1_countAt : GoodIn wsX5_load wsX1_countAt := goodIn_r _ [20, 16, 21, 22, 49, 50, 51, 52, 53, 54, 55] (by decide +kernel) (by decide +kernel)
set_option maxRecDepth 20000 in
theorem gX5_load_X1_countAt : GoodIn wsX5_load (wsV RX5 154 RX1 yX1_countAt wsX1_countAt) := goodIn_app (goodIn_of _ (by decide +kernel)) ggX5_load_X1_countAt
set_option maxRecDepth 20000 in
theorem ggX5_load_X1_isAt : GoodIn wsX5_load wsX1_isAt := goodIn_r _ [26, 21, 22, 27, 12, 13, 14, 15, 16, 49, 50, 51, 52, 53, 54, 55] (by decide +kernel) (by decide +kernel)
set_option maxRecDepth 20000 in
theorem gX5_load_X1_isAt : GoodIn wsX5_load (wsV RX5 160 RX1 yX1_isAt wsX1_isAt) := goodIn_app (goodIn_of _ (by decide +kernel)) ggX5_load_X1_isAt
set_option maxRecDepth 20000 in
theorem ggX5_load_X5_isUnderWay : GoodIn wsX5_load wsX5_isUnderWay := goodIn_r _ [32, 1, 33, 34, 5, 6, 7, 8, 9, 10, 39, 40, 41, 42, 43, 44, 45, 46, 47, 48] (by decide +kernel) (by decide +kernel)
set_option maxRecDepth 20000 in
theorem gX5_load_X5_isUnderWay : GoodIn wsX5_load (wsV RX5 164 RX5 yX5_isUnderWay wsX5_isUnderWay) := goodIn_app (goodIn_of _ (by decide +kernel)) ggX5_load_X5_isUnderWay
set_option maxRecDepth 20000 in
theorem ggX5_load_X1_bring : GoodIn wsX5_load wsX1_bring := goodIn_r _ [38, 21, 22, 27, 12, 13, 14, 15, 16, 49, 50, 51, 52, 53, 54, 55] (by decide +kernel) (by decide +kernel)
set_option maxRecDepth 20000 in
theorem gX5_load_X1_bring : GoodIn wsX5_load (wsV RX5 121 RX1 yX1_bring wsX1_bring) := goodIn_app (goodIn_of _ (by decide +kernel)) ggX5_load_X1_bring
theorem dX5_load_0 : decode cX5_load 0 = .ok (.aload_n 0, 1) := by decide +kernel
theorem dX5_load_1 : decode cX5_load 1 = .ok (.getfield 35, 3) := by decide +kernel
theorem dX5_load_4 : decode cX5_load 4 = .ok (.iload_n 1, 1) := by decide +kernel
theorem dX5_load_5 : decode cX5_load 5 = .ok (.invokevirtual 153, 3) := by decide +kernel
theorem dX5_load_8 : decode cX5_load 8 = .ok (.ifCond .eq 14, 3) := by decide +kernel
theorem dX5_load_11 : decode cX5_load 11 = .ok (.aload_n 0, 1) := by decide +kernel
theorem dX5_load_12 : decode cX5_load 12 = .ok (.getfield 21, 3) := by decide +kernel
theorem dX5_load_15 : decode cX5_load 15 = .ok (.iload_n 2, 1) := by decide +kernel
theorem dX5_load_16 : decode cX5_load 16 = .ok (.invokevirtual 105, 3) := by decide +kernel
theorem dX5_load_19 : decode cX5_load 19 = .ok (.ifCond .ne 5, 3) := by decide +kernel
theorem dX5_load_22 : decode cX5_load 22 = .ok (.iconst (-1), 1) := by decide +kernel
theorem dX5_load_23 : decode cX5_load 23 = .ok (.ireturn, 1) := by decide +kernel
theorem dX5_load_24 : decode cX5_load 24 = .ok (.aload_n 0, 1) := by decide +kernel
theorem dX5_load_25 : decode cX5_load 25 = .ok (.getfield 21, 3) := by decide +kernel
theorem dX5_load_28 : decode cX5_load 28 = .ok (.iconst 2, 1) := by decide +kernel
theorem dX5_load_29 : decode cX5_load 29 = .ok (.iload_n 1, 1) := by decide +kernel
theorem dX5_load_30 : decode cX5_load 30 = .ok (.invokevirtual 154, 3) := by decide +kernel
theorem dX5_load_33 : decode cX5_load 33 = .ok (.istore_n 3, 1) := by decide +kernel
theorem dX5_load_34 : decode cX5_load 34 = .ok (.aload_n 0, 1) := by decide +kernel
theorem dX5_load_35 : decode cX5_load 35 = .ok (.getfield 21, 3) := by decide +kernel
theorem dX5_load_38 : decode cX5_load 38 = .ok (.iload_n 2, 1) := by decide +kernel
theorem dX5_load_39 : decode cX5_load 39 = .ok (.iconst 0, 1) := by decide +kernel
theorem dX5_load_40 : decode cX5_load 40 = .ok (.aload_n 0, 1) := by decide +kernel
theorem dX5_load_41 : decode cX5_load 41 = .ok (.getfield 35, 3) := by decide +kernel
theorem dX5_load_44 : decode cX5_load 44 = .ok (.getfield 157, 3) := by decide +kernel
theorem dX5_load_47 : decode cX5_load 47 = .ok (.iload_n 1, 1) := by decide +kernel
theorem dX5_load_48 : decode cX5_load 48 = .ok (.iaload, 1) := by decide +kernel
theorem dX5_load_49 : decode cX5_load 49 = .ok (.invokevirtual 160, 3) := by decide +kernel
theorem dX5_load_52 : decode cX5_load 52 = .ok (.istore 4, 2) := by decide +kernel
theorem dX5_load_54 : decode cX5_load 54 = .ok (.aload_n 0, 1) := by decide +kernel
theorem dX5_load_55 : decode cX5_load 55 = .ok (.iload_n 1, 1) := by decide +kernel
theorem dX5_load_56 : decode cX5_load 56 = .ok (.invokevirtual 164, 3) := by decide +kernel
theorem dX5_load_59 : decode cX5_load 59 = .ok (.ifCond .ne 21, 3) := by decide +kernel
theorem dX5_load_62 : decode cX5_load 62 = .ok (.iload_n 3, 1) := by decide +kernel
theorem dX5_load_63 : decode cX5_load 63 = .ok (.aload_n 0, 1) := by decide +kernel
theorem dX5_load_64 : decode cX5_load 64 = .ok (.getfield 35, 3) := by decide +kernel
theorem dX5_load_67 : decode cX5_load 67 = .ok (.getfield 167, 3) := by decide +kernel
theorem dX5_load_70 : decode cX5_load 70 = .ok (.iload_n 1, 1) := by decide +kernel
theorem dX5_load_71 : decode cX5_load 71 = .ok (.iaload, 1) := by decide +kernel
theorem dX5_load_72 : decode cX5_load 72 = .ok (.if_icmp .ge 8, 3) := by decide +kernel
theorem dX5_load_75 : decode cX5_load 75 = .ok (.iload 4, 2) := by decide +kernel
theorem dX5_load_77 : decode cX5_load 77 = .ok (.ifCond .ne 6, 3) := by decide +kernel
theorem dX5_load_80 : decode cX5_load 80 = .ok (.bipush (-2), 2) := by decide +kernel
theorem dX5_load_82 : decode cX5_load 82 = .ok (.ireturn, 1) := by decide +kernel
theorem dX5_load_83 : decode cX5_load 83 = .ok (.aload_n 0, 1) := by decide +kernel
theorem dX5_load_84 : decode cX5_load 84 = .ok (.getfield 21, 3) := by decide +kernel
theorem dX5_load_87 : decode cX5_load 87 = .ok (.iload_n 2, 1) := by decide +kernel
theorem dX5_load_88 : decode cX5_load 88 = .ok (.iconst 2, 1) := by decide +kernel
theorem dX5_load_89 : decode cX5_load 89 = .ok (.iload_n 1, 1) := by decide +kernel
theorem dX5_load_90 : decode cX5_load 90 = .ok (.invokevirtual 121, 3) := by decide +kernel
theorem dX5_load_93 : decode cX5_load 93 = .ok (.iload_n 3, 1) := by decide +kernel
theorem dX5_load_94 : decode cX5_load 94 = .ok (.iconst 1, 1) := by decide +kernel
theorem dX5_load_95 : decode cX5_load 95 = .ok (.iadd, 1) := by decide +kernel
theorem dX5_load_96 : decode cX5_load 96 = .ok (.ireturn, 1) := by decide +kernel
set_option maxRecDepth 20000 in
theorem ggX5_unload_X8_has : GoodIn wsX5_unload wsX8_has := goodIn_r _ [8, 9, 64, 65, 66, 67] (by decide +kernel) (by decide +kernel)
set_option maxRecDepth 20000 in
theorem gX5_unload_X8_has : GoodIn wsX5_unload (wsV RX5 153 RX8 yX8_has wsX8_has) := goodIn_app (goodIn_of _ (by decide +kernel)) ggX5_unload_X8_has
set_option maxRecDepth 20000 in
theorem ggX5_unload_X1_has : GoodIn wsX5_unload wsX1_has := goodIn_r _ [14, 15, 68, 69, 70, 71, 72, 73, 74] (by decide +kernel) (by decide +kernel)
set_option maxRecDepth 20000 in
theorem gX5_unload_X1_has : GoodIn wsX5_unload (wsV RX5 105 RX1 yX1_has wsX1_has) := goodIn_app (goodIn_of _ (by decide +kernel)) ggX5_unload_X1_has
set_option maxRecDepth 20000 in
theorem ggX5_unload_X5_canHandOut : GoodIn wsX5_unload wsX5_canHandOut := goodIn_r _ [20, 2, 21, 22, 23, 19, 24, 1, 25, 26, 4, 5, 6, 7, 8, 9, 27, 28, 29, 13, 30, 31, 32, 33, 11, 12, 14, 15, 58, 59, 60, 61, 62, 63, 64, 65, 66, 67, 68, 69, 70, 71, 72, 73, 74] (by decide +kernel) (by decide +kernel)
set_option maxRecDepth 20000 in
theorem gX5_unload_X5_canHandOut : GoodIn wsX5_unload (wsV RX5 170 RX5 yX5_canHandOut wsX5_canHandOut) := goodIn_app (goodIn_of _ (by decide +kernel)) ggX5_unload_X5_canHandOut
set_option maxRecDepth 20000 in
theorem ggX5_unload_X5_hasFreeDock : GoodIn wsX5_unload wsX5_hasFreeDock := goodIn_r _ [37, 38, 39, 40, 41, 42, 43, 44, 45, 46, 47, 48, 19, 49, 2, 50, 51, 52, 13, 53, 15, 31, 32, 58, 59, 60, 61, 62, 63, 75, 76, 77, 78, 79, 68, 69, 70, 71, 72, 73, 74] (by decide +kernel) (by decide +kernel)
set_option maxRecDepth 20000 in
theorem gX5_unload_X5_hasFreeDock : GoodIn wsX5_unload (wsV RX5 74 RX5 yX5_hasFreeDock wsX5_hasFreeDock) := goodIn_app (goodIn_of _ (by decide +kernel)) ggX5_unload_X5_hasFreeDock
set_option maxRecDepth 20000 in
theorem ggX5_unload_X1_bring : GoodIn wsX5_unload wsX1_bring := goodIn_r _ [57, 31, 32, 33, 11, 12, 13, 14, 15, 68, 69, 70, 71, 72, 73, 74] (by decide +kernel) (by decide +kernel)
set_option maxRecDepth 20000 in
theorem gX5_unload_X1_bring : GoodIn wsX5_unload (wsV RX5 121 RX1 yX1_bring wsX1_bring) := goodIn_app (goodIn_of _ (by decide +kernel)) ggX5_unload_X1_bring
set_option maxRecDepth 20000 in
theorem ggX5_unload_X1_countAt : GoodIn wsX5_unload wsX1_countAt := goodIn_r _ [53, 15, 31, 32, 68, 69, 70, 71, 72, 73, 74] (by decide +kernel) (by decide +kernel)
set_option maxRecDepth 20000 in
theorem gX5_unload_X1_countAt : GoodIn wsX5_unload (wsV RX5 154 RX1 yX1_countAt wsX1_countAt) := goodIn_app (goodIn_of _ (by decide +kernel)) ggX5_unload_X1_countAt
theorem dX5_unload_0 : decode cX5_unload 0 = .ok (.aload_n 0, 1) := by decide +kernel
theorem dX5_unload_1 : decode cX5_unload 1 = .ok (.getfield 35, 3) := by decide +kernel
theorem dX5_unload_4 : decode cX5_unload 4 = .ok (.iload_n 1, 1) := by decide +kernel
theorem dX5_unload_5 : decode cX5_unload 5 = .ok (.invokevirtual 153, 3) := by decide +kernel
theorem dX5_unload_8 : decode cX5_unload 8 = .ok (.ifCond .eq 14, 3) := by decide +kernel
theorem dX5_unload_11 : decode cX5_unload 11 = .ok (.aload_n 0, 1) := by decide +kernel
theorem dX5_unload_12 : decode cX5_unload 12 = .ok (.getfield 21, 3) := by decide +kernel
theorem dX5_unload_15 : decode cX5_unload 15 = .ok (.iload_n 2, 1) := by decide +kernel
theorem dX5_unload_16 : decode cX5_unload 16 = .ok (.invokevirtual 105, 3) := by decide +kernel
theorem dX5_unload_19 : decode cX5_unload 19 = .ok (.ifCond .ne 5, 3) := by decide +kernel
theorem dX5_unload_22 : decode cX5_unload 22 = .ok (.iconst (-1), 1) := by decide +kernel
theorem dX5_unload_23 : decode cX5_unload 23 = .ok (.ireturn, 1) := by decide +kernel
theorem dX5_unload_24 : decode cX5_unload 24 = .ok (.aload_n 0, 1) := by decide +kernel
theorem dX5_unload_25 : decode cX5_unload 25 = .ok (.getfield 35, 3) := by decide +kernel
theorem dX5_unload_28 : decode cX5_unload 28 = .ok (.getfield 157, 3) := by decide +kernel
theorem dX5_unload_31 : decode cX5_unload 31 = .ok (.iload_n 1, 1) := by decide +kernel
theorem dX5_unload_32 : decode cX5_unload 32 = .ok (.iaload, 1) := by decide +kernel
theorem dX5_unload_33 : decode cX5_unload 33 = .ok (.istore_n 3, 1) := by decide +kernel
theorem dX5_unload_34 : decode cX5_unload 34 = .ok (.aload_n 0, 1) := by decide +kernel
theorem dX5_unload_35 : decode cX5_unload 35 = .ok (.iload_n 1, 1) := by decide +kernel
theorem dX5_unload_36 : decode cX5_unload 36 = .ok (.iload_n 2, 1) := by decide +kernel
theorem dX5_unload_37 : decode cX5_unload 37 = .ok (.invokevirtual 170, 3) := by decide +kernel
theorem dX5_unload_40 : decode cX5_unload 40 = .ok (.ifCond .eq 11, 3) := by decide +kernel
theorem dX5_unload_43 : decode cX5_unload 43 = .ok (.aload_n 0, 1) := by decide +kernel
theorem dX5_unload_44 : decode cX5_unload 44 = .ok (.iload_n 3, 1) := by decide +kernel
theorem dX5_unload_45 : decode cX5_unload 45 = .ok (.invokevirtual 74, 3) := by decide +kernel
theorem dX5_unload_48 : decode cX5_unload 48 = .ok (.ifCond .ne 6, 3) := by decide +kernel
theorem dX5_unload_51 : decode cX5_unload 51 = .ok (.bipush (-2), 2) := by decide +kernel
theorem dX5_unload_53 : decode cX5_unload 53 = .ok (.ireturn, 1) := by decide +kernel
theorem dX5_unload_54 : decode cX5_unload 54 = .ok (.aload_n 0, 1) := by decide +kernel
theorem dX5_unload_55 : decode cX5_unload 55 = .ok (.getfield 21, 3) := by decide +kernel
theorem dX5_unload_58 : decode cX5_unload 58 = .ok (.iload_n 2, 1) := by decide +kernel
theorem dX5_unload_59 : decode cX5_unload 59 = .ok (.iconst 0, 1) := by decide +kernel
theorem dX5_unload_60 : decode cX5_unload 60 = .ok (.iload_n 3, 1) := by decide +kernel
theorem dX5_unload_61 : decode cX5_unload 61 = .ok (.invokevirtual 121, 3) := by decide +kernel
theorem dX5_unload_64 : decode cX5_unload 64 = .ok (.aload_n 0, 1) := by decide +kernel
theorem dX5_unload_65 : decode cX5_unload 65 = .ok (.getfield 21, 3) := by decide +kernel
theorem dX5_unload_68 : decode cX5_unload 68 = .ok (.iconst 2, 1) := by decide +kernel
theorem dX5_unload_69 : decode cX5_unload 69 = .ok (.iload_n 1, 1) := by decide +kernel
theorem dX5_unload_70 : decode cX5_unload 70 = .ok (.invokevirtual 154, 3) := by decide +kernel
theorem dX5_unload_73 : decode cX5_unload 73 = .ok (.ireturn, 1) := by decide +kernel
set_option maxRecDepth 20000 in
theorem ggX5_sendVan_X8_has : GoodIn wsX5_sendVan wsX8_has := goodIn_r _ [10, 11, 39, 40, 41, 42] (by decide +kernel) (by decide +kernel)
set_option maxRecDepth 20000 in
theorem gX5_sendVan_X8_has : GoodIn wsX5_sendVan (wsV RX5 153 RX8 yX8_has wsX8_has) := goodIn_app (goodIn_of _ (by decide +kernel)) ggX5_sendVan_X8_has
set_option maxRecDepth 20000 in
theorem ggX5_sendVan_X6_has : GoodIn wsX5_sendVan wsX6_has := goodIn_r _ [16, 17, 43, 44, 45, 46, 47] (by decide +kernel) (by decide +kernel)
set_option maxRecDepth 20000 in
theorem gX5_sendVan_X6_has : GoodIn wsX5_sendVan (wsV RX5 70 RX6 yX6_has wsX6_has) := goodIn_app (goodIn_of _ (by decide +kernel)) ggX5_sendVan_X6_has
set_option maxRecDepth 20000 in
theorem ggX5_sendVan_X5_isUnderWay : GoodIn wsX5_sendVan wsX5_isUnderWay := goodIn_r _ [22, 1, 5, 4, 6, 7, 8, 9, 10, 11, 33, 34, 35, 36, 37, 38, 39, 40, 41, 42] (by decide +kernel) (by decide +kernel)
set_option maxRecDepth 20000 in
theorem gX5_sendVan_X5_isUnderWay : GoodIn wsX5_sendVan (wsV RX5 164 RX5 yX5_isUnderWay wsX5_isUnderWay) := goodIn_app (goodIn_of _ (by decide +kernel)) ggX5_sendVan_X5_isUnderWay
set_option maxRecDepth 20000 in
theorem ggX5_sendVan_X6_way : GoodIn wsX5_sendVan wsX6_way := goodIn_r _ [26, 27, 28, 29, 30, 31, 32, 13, 14, 15, 16, 17, 43, 44, 45, 46, 47] (by decide +kernel) (by decide +kernel)
set_option maxRecDepth 20000 in
theorem gX5_sendVan_X6_way : GoodIn wsX5_sendVan (wsV RX5 174 RX6 yX6_way wsX6_way) := goodIn_app (goodIn_of _ (by decide +kernel)) ggX5_sendVan_X6_way
theorem dX5_sendVan_0 : decode cX5_sendVan 0 = .ok (.aload_n 0, 1) := by decide +kernel
theorem dX5_sendVan_1 : decode cX5_sendVan 1 = .ok (.getfield 35, 3) := by decide +kernel
theorem dX5_sendVan_4 : decode cX5_sendVan 4 = .ok (.iload_n 1, 1) := by decide +kernel
theorem dX5_sendVan_5 : decode cX5_sendVan 5 = .ok (.invokevirtual 153, 3) := by decide +kernel
theorem dX5_sendVan_8 : decode cX5_sendVan 8 = .ok (.ifCond .eq 14, 3) := by decide +kernel
theorem dX5_sendVan_11 : decode cX5_sendVan 11 = .ok (.aload_n 0, 1) := by decide +kernel
theorem dX5_sendVan_12 : decode cX5_sendVan 12 = .ok (.getfield 12, 3) := by decide +kernel
theorem dX5_sendVan_15 : decode cX5_sendVan 15 = .ok (.iload_n 2, 1) := by decide +kernel
theorem dX5_sendVan_16 : decode cX5_sendVan 16 = .ok (.invokevirtual 70, 3) := by decide +kernel
theorem dX5_sendVan_19 : decode cX5_sendVan 19 = .ok (.ifCond .ne 5, 3) := by decide +kernel
theorem dX5_sendVan_22 : decode cX5_sendVan 22 = .ok (.iconst (-1), 1) := by decide +kernel
theorem dX5_sendVan_23 : decode cX5_sendVan 23 = .ok (.ireturn, 1) := by decide +kernel
theorem dX5_sendVan_24 : decode cX5_sendVan 24 = .ok (.aload_n 0, 1) := by decide +kernel
theorem dX5_sendVan_25 : decode cX5_sendVan 25 = .ok (.iload_n 1, 1) := by decide +kernel
theorem dX5_sendVan_26 : decode cX5_sendVan 26 = .ok (.invokevirtual 164, 3) := by decide +kernel
theorem dX5_sendVan_29 : decode cX5_sendVan 29 = .ok (.ifCond .ne 16, 3) := by decide +kernel
theorem dX5_sendVan_32 : decode cX5_sendVan 32 = .ok (.aload_n 0, 1) := by decide +kernel
theorem dX5_sendVan_33 : decode cX5_sendVan 33 = .ok (.getfield 35, 3) := by decide +kernel
theorem dX5_sendVan_36 : decode cX5_sendVan 36 = .ok (.getfield 157, 3) := by decide +kernel
theorem dX5_sendVan_39 : decode cX5_sendVan 39 = .ok (.iload_n 1, 1) := by decide +kernel
theorem dX5_sendVan_40 : decode cX5_sendVan 40 = .ok (.iaload, 1) := by decide +kernel
theorem dX5_sendVan_41 : decode cX5_sendVan 41 = .ok (.iload_n 2, 1) := by decide +kernel
theorem dX5_sendVan_42 : decode cX5_sendVan 42 = .ok (.if_icmp .ne 6, 3) := by decide +kernel
theorem dX5_sendVan_45 : decode cX5_sendVan 45 = .ok (.bipush (-2), 2) := by decide +kernel
theorem dX5_sendVan_47 : decode cX5_sendVan 47 = .ok (.ireturn, 1) := by decide +kernel
theorem dX5_sendVan_48 : decode cX5_sendVan 48 = .ok (.aload_n 0, 1) := by decide +kernel
theorem dX5_sendVan_49 : decode cX5_sendVan 49 = .ok (.getfield 62, 3) := by decide +kernel
theorem dX5_sendVan_52 : decode cX5_sendVan 52 = .ok (.aload_n 0, 1) := by decide +kernel
theorem dX5_sendVan_53 : decode cX5_sendVan 53 = .ok (.getfield 12, 3) := by decide +kernel
theorem dX5_sendVan_56 : decode cX5_sendVan 56 = .ok (.aload_n 0, 1) := by decide +kernel
theorem dX5_sendVan_57 : decode cX5_sendVan 57 = .ok (.getfield 35, 3) := by decide +kernel
theorem dX5_sendVan_60 : decode cX5_sendVan 60 = .ok (.getfield 157, 3) := by decide +kernel
theorem dX5_sendVan_63 : decode cX5_sendVan 63 = .ok (.iload_n 1, 1) := by decide +kernel
theorem dX5_sendVan_64 : decode cX5_sendVan 64 = .ok (.iaload, 1) := by decide +kernel
theorem dX5_sendVan_65 : decode cX5_sendVan 65 = .ok (.iload_n 2, 1) := by decide +kernel
theorem dX5_sendVan_66 : decode cX5_sendVan 66 = .ok (.invokevirtual 174, 3) := by decide +kernel
theorem dX5_sendVan_69 : decode cX5_sendVan 69 = .ok (.iconst 2, 1) := by decide +kernel
theorem dX5_sendVan_70 : decode cX5_sendVan 70 = .ok (.idiv, 1) := by decide +kernel
theorem dX5_sendVan_71 : decode cX5_sendVan 71 = .ok (.iadd, 1) := by decide +kernel
theorem dX5_sendVan_72 : decode cX5_sendVan 72 = .ok (.iconst 1, 1) := by decide +kernel
theorem dX5_sendVan_73 : decode cX5_sendVan 73 = .ok (.iadd, 1) := by decide +kernel
theorem dX5_sendVan_74 : decode cX5_sendVan 74 = .ok (.istore_n 3, 1) := by decide +kernel
theorem dX5_sendVan_75 : decode cX5_sendVan 75 = .ok (.aload_n 0, 1) := by decide +kernel
theorem dX5_sendVan_76 : decode cX5_sendVan 76 = .ok (.getfield 35, 3) := by decide +kernel
theorem dX5_sendVan_79 : decode cX5_sendVan 79 = .ok (.getfield 157, 3) := by decide +kernel
theorem dX5_sendVan_82 : decode cX5_sendVan 82 = .ok (.iload_n 1, 1) := by decide +kernel
theorem dX5_sendVan_83 : decode cX5_sendVan 83 = .ok (.iload_n 2, 1) := by decide +kernel
theorem dX5_sendVan_84 : decode cX5_sendVan 84 = .ok (.iastore, 1) := by decide +kernel
theorem dX5_sendVan_85 : decode cX5_sendVan 85 = .ok (.aload_n 0, 1) := by decide +kernel
theorem dX5_sendVan_86 : decode cX5_sendVan 86 = .ok (.getfield 35, 3) := by decide +kernel
theorem dX5_sendVan_89 : decode cX5_sendVan 89 = .ok (.getfield 177, 3) := by decide +kernel
theorem dX5_sendVan_92 : decode cX5_sendVan 92 = .ok (.iload_n 1, 1) := by decide +kernel
theorem dX5_sendVan_93 : decode cX5_sendVan 93 = .ok (.iload_n 3, 1) := by decide +kernel
theorem dX5_sendVan_94 : decode cX5_sendVan 94 = .ok (.iastore, 1) := by decide +kernel
theorem dX5_sendVan_95 : decode cX5_sendVan 95 = .ok (.iload_n 3, 1) := by decide +kernel
theorem dX5_sendVan_96 : decode cX5_sendVan 96 = .ok (.ireturn, 1) := by decide +kernel
set_option maxRecDepth 20000 in
theorem ggX5_handOver_X8_has : GoodIn wsX5_handOver wsX8_has := goodIn_r _ [11, 12, 46, 47, 48, 49] (by decide +kernel) (by decide +kernel)
set_option maxRecDepth 20000 in
theorem gX5_handOver_X8_has : GoodIn wsX5_handOver (wsV RX5 153 RX8 yX8_has wsX8_has) := goodIn_app (goodIn_of _ (by decide +kernel)) ggX5_handOver_X8_has
set_option maxRecDepth 20000 in
theorem ggX5_handOver_X1_has : GoodIn wsX5_handOver wsX1_has := goodIn_r _ [17, 18, 50, 51, 52, 53, 54, 55, 56] (by decide +kernel) (by decide +kernel)
set_option maxRecDepth 20000 in
theorem gX5_handOver_X1_has : GoodIn wsX5_handOver (wsV RX5 105 RX1 yX1_has wsX1_has) := goodIn_app (goodIn_of _ (by decide +kernel)) ggX5_handOver_X1_has
set_option maxRecDepth 20000 in
theorem ggX5_handOver_X5_canHandOut : GoodIn wsX5_handOver wsX5_canHandOut := goodIn_r _ [23, 2, 24, 25, 26, 22, 27, 1, 28, 5, 7, 8, 9, 10, 11, 12, 29, 30, 31, 16, 32, 33, 34, 35, 14, 15, 17, 18, 40, 41, 42, 43, 44, 45, 46, 47, 48, 49, 50, 51, 52, 53, 54, 55, 56] (by decide +kernel) (by decide +kernel)
set_option maxRecDepth 20000 in
theorem gX5_handOver_X5_canHandOut : GoodIn wsX5_handOver (wsV RX5 170 RX5 yX5_canHandOut wsX5_canHandOut) := goodIn_app (goodIn_of _ (by decide +kernel)) ggX5_handOver_X5_canHandOut
set_option maxRecDepth 20000 in
theorem ggX5_handOver_X1_bring : GoodIn wsX5_handOver wsX1_bring := goodIn_r _ [39, 33, 34, 35, 14, 15, 16, 17, 18, 50, 51, 52, 53, 54, 55, 56] (by decide +kernel) (by decide +kernel)
set_option maxRecDepth 20000 in
theorem gX5_handOver_X1_bring : GoodIn wsX5_handOver (wsV RX5 121 RX1 yX1_bring wsX1_bring) := goodIn_app (goodIn_of _ (by decide +kernel)) ggX5_handOver_X1_bring
theorem dX5_handOver_0 : decode cX5_handOver 0 = .ok (.aload_n 0, 1) := by decide +kernel
theorem dX5_handOver_1 : decode cX5_handOver 1 = .ok (.getfield 35, 3) := by decide +kernel
theorem dX5_handOver_4 : decode cX5_handOver 4 = .ok (.iload_n 1, 1) := by decide +kernel
theorem dX5_handOver_5 : decode cX5_handOver 5 = .ok (.invokevirtual 153, 3) := by decide +kernel
theorem dX5_handOver_8 : decode cX5_handOver 8 = .ok (.ifCond .eq 14, 3) := by decide +kernel
theorem dX5_handOver_11 : decode cX5_handOver 11 = .ok (.aload_n 0, 1) := by decide +kernel
theorem dX5_handOver_12 : decode cX5_handOver 12 = .ok (.getfield 21, 3) := by decide +kernel
theorem dX5_handOver_15 : decode cX5_handOver 15 = .ok (.iload_n 2, 1) := by decide +kernel
theorem dX5_handOver_16 : decode cX5_handOver 16 = .ok (.invokevirtual 105, 3) := by decide +kernel
theorem dX5_handOver_19 : decode cX5_handOver 19 = .ok (.ifCond .ne 5, 3) := by decide +kernel
theorem dX5_handOver_22 : decode cX5_handOver 22 = .ok (.iconst (-1), 1) := by decide +kernel
theorem dX5_handOver_23 : decode cX5_handOver 23 = .ok (.ireturn, 1) := by decide +kernel
theorem dX5_handOver_24 : decode cX5_handOver 24 = .ok (.aload_n 0, 1) := by decide +kernel
theorem dX5_handOver_25 : decode cX5_handOver 25 = .ok (.iload_n 1, 1) := by decide +kernel
theorem dX5_handOver_26 : decode cX5_handOver 26 = .ok (.iload_n 2, 1) := by decide +kernel
theorem dX5_handOver_27 : decode cX5_handOver 27 = .ok (.invokevirtual 170, 3) := by decide +kernel
theorem dX5_handOver_30 : decode cX5_handOver 30 = .ok (.ifCond .eq 15, 3) := by decide +kernel
theorem dX5_handOver_33 : decode cX5_handOver 33 = .ok (.aload_n 0, 1) := by decide +kernel
theorem dX5_handOver_34 : decode cX5_handOver 34 = .ok (.getfield 35, 3) := by decide +kernel
theorem dX5_handOver_37 : decode cX5_handOver 37 = .ok (.getfield 157, 3) := by decide +kernel
theorem dX5_handOver_40 : decode cX5_handOver 40 = .ok (.iload_n 1, 1) := by decide +kernel
theorem dX5_handOver_41 : decode cX5_handOver 41 = .ok (.iaload, 1) := by decide +kernel
theorem dX5_handOver_42 : decode cX5_handOver 42 = .ok (.ifCond .eq 6, 3) := by decide +kernel
theorem dX5_handOver_45 : decode cX5_handOver 45 = .ok (.bipush (-2), 2) := by decide +kernel
theorem dX5_handOver_47 : decode cX5_handOver 47 = .ok (.ireturn, 1) := by decide +kernel
theorem dX5_handOver_48 : decode cX5_handOver 48 = .ok (.aload_n 0, 1) := by decide +kernel
theorem dX5_handOver_49 : decode cX5_handOver 49 = .ok (.getfield 21, 3) := by decide +kernel
theorem dX5_handOver_52 : decode cX5_handOver 52 = .ok (.iload_n 2, 1) := by decide +kernel
theorem dX5_handOver_53 : decode cX5_handOver 53 = .ok (.iconst 3, 1) := by decide +kernel
theorem dX5_handOver_54 : decode cX5_handOver 54 = .ok (.iconst (-1), 1) := by decide +kernel
theorem dX5_handOver_55 : decode cX5_handOver 55 = .ok (.invokevirtual 121, 3) := by decide +kernel
theorem dX5_handOver_58 : decode cX5_handOver 58 = .ok (.aload_n 0, 1) := by decide +kernel
theorem dX5_handOver_59 : decode cX5_handOver 59 = .ok (.getfield 21, 3) := by decide +kernel
theorem dX5_handOver_62 : decode cX5_handOver 62 = .ok (.getfield 180, 3) := by decide +kernel
theorem dX5_handOver_65 : decode cX5_handOver 65 = .ok (.iload_n 2, 1) := by decide +kernel
theorem dX5_handOver_66 : decode cX5_handOver 66 = .ok (.aload_n 0, 1) := by decide +kernel
theorem dX5_handOver_67 : decode cX5_handOver 67 = .ok (.getfield 62, 3) := by decide +kernel
theorem dX5_handOver_70 : decode cX5_handOver 70 = .ok (.aload_n 0, 1) := by decide +kernel
theorem dX5_handOver_71 : decode cX5_handOver 71 = .ok (.getfield 39, 3) := by decide +kernel
theorem dX5_handOver_74 : decode cX5_handOver 74 = .ok (.iconst 1, 1) := by decide +kernel
theorem dX5_handOver_75 : decode cX5_handOver 75 = .ok (.iaload, 1) := by decide +kernel
theorem dX5_handOver_76 : decode cX5_handOver 76 = .ok (.iadd, 1) := by decide +kernel
theorem dX5_handOver_77 : decode cX5_handOver 77 = .ok (.iastore, 1) := by decide +kernel
theorem dX5_handOver_78 : decode cX5_handOver 78 = .ok (.aload_n 0, 1) := by decide +kernel
theorem dX5_handOver_79 : decode cX5_handOver 79 = .ok (.getfield 21, 3) := by decide +kernel
theorem dX5_handOver_82 : decode cX5_handOver 82 = .ok (.getfield 180, 3) := by decide +kernel
theorem dX5_handOver_85 : decode cX5_handOver 85 = .ok (.iload_n 2, 1) := by decide +kernel
theorem dX5_handOver_86 : decode cX5_handOver 86 = .ok (.iaload, 1) := by decide +kernel
theorem dX5_handOver_87 : decode cX5_handOver 87 = .ok (.ireturn, 1) := by decide +kernel
set_option maxRecDepth 20000 in
theorem ggX5_letGoBy_X5_dockReadyBicycles : GoodIn wsX5_letGoBy wsX5_dockReadyBicycles := goodIn_r _ [6, 7, 8, 1, 9, 10, 11, 12, 13, 14, 15, 16, 17, 18, 19, 20, 21, 22, 23, 24, 25, 26, 27, 28, 29, 5, 30, 31, 32, 33, 34, 35, 36, 37, 38, 39, 40, 41, 42, 43, 44, 45, 46, 47, 48, 49, 50, 51, 52, 53, 54, 55, 56, 57, 58, 59, 60] (by decide +kernel) (by decide +kernel)
set_option maxRecDepth 20000 in
theorem gX5_letGoBy_X5_dockReadyBicycles : GoodIn wsX5_letGoBy (wsV RX5 183 RX5 yX5_dockReadyBicycles wsX5_dockReadyBicycles) := goodIn_app (goodIn_of _ (by decide +kernel)) ggX5_letGoBy_X5_dockReadyBicycles
theorem dX5_letGoBy_0 : decode cX5_letGoBy 0 = .ok (.iload_n 1, 1) := by decide +kernel
theorem dX5_letGoBy_1 : decode cX5_letGoBy 1 = .ok (.iconst 1, 1) := by decide +kernel
theorem dX5_letGoBy_2 : decode cX5_letGoBy 2 = .ok (.if_icmp .lt 10, 3) := by decide +kernel
theorem dX5_letGoBy_5 : decode cX5_letGoBy 5 = .ok (.iload_n 1, 1) := by decide +kernel
theorem dX5_letGoBy_6 : decode cX5_letGoBy 6 = .ok (.sipush 200, 3) := by decide +kernel
theorem dX5_letGoBy_9 : decode cX5_letGoBy 9 = .ok (.if_icmp .le 5, 3) := by decide +kernel
theorem dX5_letGoBy_12 : decode cX5_letGoBy 12 = .ok (.iconst (-1), 1) := by decide +kernel
theorem dX5_letGoBy_13 : decode cX5_letGoBy 13 = .ok (.ireturn, 1) := by decide +kernel
theorem dX5_letGoBy_14 : decode cX5_letGoBy 14 = .ok (.aload_n 0, 1) := by decide +kernel
theorem dX5_letGoBy_15 : decode cX5_letGoBy 15 = .ok (.getfield 62, 3) := by decide +kernel
theorem dX5_letGoBy_18 : decode cX5_letGoBy 18 = .ok (.iload_n 1, 1) := by decide +kernel
theorem dX5_letGoBy_19 : decode cX5_letGoBy 19 = .ok (.iadd, 1) := by decide +kernel
theorem dX5_letGoBy_20 : decode cX5_letGoBy 20 = .ok (.sipush 9000, 3) := by decide +kernel
theorem dX5_letGoBy_23 : decode cX5_letGoBy 23 = .ok (.if_icmp .le 6, 3) := by decide +kernel
theorem dX5_letGoBy_26 : decode cX5_letGoBy 26 = .ok (.bipush (-3), 2) := by decide +kernel
theorem dX5_letGoBy_28 : decode cX5_letGoBy 28 = .ok (.ireturn, 1) := by decide +kernel
theorem dX5_letGoBy_29 : decode cX5_letGoBy 29 = .ok (.iconst 0, 1) := by decide +kernel
theorem dX5_letGoBy_30 : decode cX5_letGoBy 30 = .ok (.istore_n 2, 1) := by decide +kernel
theorem dX5_letGoBy_31 : decode cX5_letGoBy 31 = .ok (.iconst 0, 1) := by decide +kernel
theorem dX5_letGoBy_32 : decode cX5_letGoBy 32 = .ok (.istore_n 3, 1) := by decide +kernel
theorem dX5_letGoBy_33 : decode cX5_letGoBy 33 = .ok (.iload_n 3, 1) := by decide +kernel
theorem dX5_letGoBy_34 : decode cX5_letGoBy 34 = .ok (.iload_n 1, 1) := by decide +kernel
theorem dX5_letGoBy_35 : decode cX5_letGoBy 35 = .ok (.if_icmp .ge 26, 3) := by decide +kernel
theorem dX5_letGoBy_38 : decode cX5_letGoBy 38 = .ok (.aload_n 0, 1) := by decide +kernel
theorem dX5_letGoBy_39 : decode cX5_letGoBy 39 = .ok (.dup, 1) := by decide +kernel
theorem dX5_letGoBy_40 : decode cX5_letGoBy 40 = .ok (.getfield 62, 3) := by decide +kernel
theorem dX5_letGoBy_43 : decode cX5_letGoBy 43 = .ok (.iconst 1, 1) := by decide +kernel
theorem dX5_letGoBy_44 : decode cX5_letGoBy 44 = .ok (.iadd, 1) := by decide +kernel
theorem dX5_letGoBy_45 : decode cX5_letGoBy 45 = .ok (.putfield 62, 3) := by decide +kernel
theorem dX5_letGoBy_48 : decode cX5_letGoBy 48 = .ok (.iload_n 2, 1) := by decide +kernel
theorem dX5_letGoBy_49 : decode cX5_letGoBy 49 = .ok (.aload_n 0, 1) := by decide +kernel
theorem dX5_letGoBy_50 : decode cX5_letGoBy 50 = .ok (.invokevirtual 183, 3) := by decide +kernel
theorem dX5_letGoBy_53 : decode cX5_letGoBy 53 = .ok (.iadd, 1) := by decide +kernel
theorem dX5_letGoBy_54 : decode cX5_letGoBy 54 = .ok (.istore_n 2, 1) := by decide +kernel
theorem dX5_letGoBy_55 : decode cX5_letGoBy 55 = .ok (.iinc 3 1, 3) := by decide +kernel
theorem dX5_letGoBy_58 : decode cX5_letGoBy 58 = .ok (.goto (-25), 3) := by decide +kernel
theorem dX5_letGoBy_61 : decode cX5_letGoBy 61 = .ok (.iload_n 2, 1) := by decide +kernel
theorem dX5_letGoBy_62 : decode cX5_letGoBy 62 = .ok (.ireturn, 1) := by decide +kernel
set_option maxRecDepth 20000 in
theorem ggX5_changeSetting_X5_isSetting : GoodIn wsX5_changeSetting wsX5_isSetting := goodIn_r _ [6] (by decide +kernel) (by decide +kernel)
set_option maxRecDepth 20000 in
theorem gX5_changeSetting_X5_isSetting : GoodIn wsX5_changeSetting (wsV RX5 186 RX5 yX5_isSetting wsX5_isSetting) := goodIn_app (goodIn_of _ (by decide +kernel)) ggX5_changeSetting_X5_isSetting
theorem dX5_changeSetting_0 : decode cX5_changeSetting 0 = .ok (.aload_n 0, 1) := by decide +kernel
theorem dX5_changeSetting_1 : decode cX5_changeSetting 1 = .ok (.iload_n 1, 1) := by decide +kernel
theorem dX5_changeSetting_2 : decode cX5_changeSetting 2 = .ok (.invokevirtual 186, 3) := by decide +kernel
theorem dX5_changeSetting_5 : decode cX5_changeSetting 5 = .ok (.ifCond .ne 5, 3) := by decide +kernel
theorem dX5_changeSetting_8 : decode cX5_changeSetting 8 = .ok (.iconst (-1), 1) := by decide +kernel
theorem dX5_changeSetting_9 : decode cX5_changeSetting 9 = .ok (.ireturn, 1) := by decide +kernel
theorem dX5_changeSetting_10 : decode cX5_changeSetting 10 = .ok (.iload_n 1, 1) := by decide +kernel
theorem dX5_changeSetting_11 : decode cX5_changeSetting 11 = .ok (.iconst 1, 1) := by decide +kernel
theorem dX5_changeSetting_12 : decode cX5_changeSetting 12 = .ok (.if_icmp .ne 7, 3) := by decide +kernel
theorem dX5_changeSetting_15 : decode cX5_changeSetting 15 = .ok (.iconst 1, 1) := by decide +kernel
theorem dX5_changeSetting_16 : decode cX5_changeSetting 16 = .ok (.goto 4, 3) := by decide +kernel
theorem dX5_changeSetting_19 : decode cX5_changeSetting 19 = .ok (.iconst 0, 1) := by decide +kernel
theorem dX5_changeSetting_20 : decode cX5_changeSetting 20 = .ok (.istore_n 3, 1) := by decide +kernel
theorem dX5_changeSetting_21 : decode cX5_changeSetting 21 = .ok (.iload_n 1, 1) := by decide +kernel
theorem dX5_changeSetting_22 : decode cX5_changeSetting 22 = .ok (.ifCond .ne 8, 3) := by decide +kernel
theorem dX5_changeSetting_25 : decode cX5_changeSetting 25 = .ok (.bipush 99, 2) := by decide +kernel
theorem dX5_changeSetting_27 : decode cX5_changeSetting 27 = .ok (.goto 6, 3) := by decide +kernel
theorem dX5_changeSetting_30 : decode cX5_changeSetting 30 = .ok (.sipush 999, 3) := by decide +kernel
theorem dX5_changeSetting_33 : decode cX5_changeSetting 33 = .ok (.istore 4, 2) := by decide +kernel
theorem dX5_changeSetting_35 : decode cX5_changeSetting 35 = .ok (.iload_n 2, 1) := by decide +kernel
theorem dX5_changeSetting_36 : decode cX5_changeSetting 36 = .ok (.iload_n 3, 1) := by decide +kernel
theorem dX5_changeSetting_37 : decode cX5_changeSetting 37 = .ok (.if_icmp .lt 9, 3) := by decide +kernel
theorem dX5_changeSetting_40 : decode cX5_changeSetting 40 = .ok (.iload_n 2, 1) := by decide +kernel
theorem dX5_changeSetting_41 : decode cX5_changeSetting 41 = .ok (.iload 4, 2) := by decide +kernel
theorem dX5_changeSetting_43 : decode cX5_changeSetting 43 = .ok (.if_icmp .le 5, 3) := by decide +kernel
theorem dX5_changeSetting_46 : decode cX5_changeSetting 46 = .ok (.iconst (-1), 1) := by decide +kernel
theorem dX5_changeSetting_47 : decode cX5_changeSetting 47 = .ok (.ireturn, 1) := by decide +kernel
theorem dX5_changeSetting_48 : decode cX5_changeSetting 48 = .ok (.aload_n 0, 1) := by decide +kernel
theorem dX5_changeSetting_49 : decode cX5_changeSetting 49 = .ok (.getfield 39, 3) := by decide +kernel
theorem dX5_changeSetting_52 : decode cX5_changeSetting 52 = .ok (.iload_n 1, 1) := by decide +kernel
theorem dX5_changeSetting_53 : decode cX5_changeSetting 53 = .ok (.iaload, 1) := by decide +kernel
theorem dX5_changeSetting_54 : decode cX5_changeSetting 54 = .ok (.istore 5, 2) := by decide +kernel
theorem dX5_changeSetting_56 : decode cX5_changeSetting 56 = .ok (.aload_n 0, 1) := by decide +kernel
theorem dX5_changeSetting_57 : decode cX5_changeSetting 57 = .ok (.getfield 39, 3) := by decide +kernel
theorem dX5_changeSetting_60 : decode cX5_changeSetting 60 = .ok (.iload_n 1, 1) := by decide +kernel
theorem dX5_changeSetting_61 : decode cX5_changeSetting 61 = .ok (.iload_n 2, 1) := by decide +kernel
theorem dX5_changeSetting_62 : decode cX5_changeSetting 62 = .ok (.iastore, 1) := by decide +kernel
theorem dX5_changeSetting_63 : decode cX5_changeSetting 63 = .ok (.iload 5, 2) := by decide +kernel
theorem dX5_changeSetting_65 : decode cX5_changeSetting 65 = .ok (.ireturn, 1) := by decide +kernel
theorem dX5_isSetting_0 : decode cX5_isSetting 0 = .ok (.iload_n 1, 1) := by decide +kernel
theorem dX5_isSetting_1 : decode cX5_isSetting 1 = .ok (.ifCond .lt 12, 3) := by decide +kernel
theorem dX5_isSetting_4 : decode cX5_isSetting 4 = .ok (.iload_n 1, 1) := by decide +kernel
theorem dX5_isSetting_5 : decode cX5_isSetting 5 = .ok (.iconst 3, 1) := by decide +kernel
theorem dX5_isSetting_6 : decode cX5_isSetting 6 = .ok (.if_icmp .ge 7, 3) := by decide +kernel
theorem dX5_isSetting_9 : decode cX5_isSetting 9 = .ok (.iconst 1, 1) := by decide +kernel
theorem dX5_isSetting_10 : decode cX5_isSetting 10 = .ok (.goto 4, 3) := by decide +kernel
theorem dX5_isSetting_13 : decode cX5_isSetting 13 = .ok (.iconst 0, 1) := by decide +kernel
theorem dX5_isSetting_14 : decode cX5_isSetting 14 = .ok (.ireturn, 1) := by decide +kernel
set_option maxRecDepth 20000 in
theorem ggX5_docked_X1_countAt : GoodIn wsX5_docked wsX1_countAt := goodIn_r _ [6, 7, 8, 9, 16, 17, 18, 19, 20, 21, 22] (by decide +kernel) (by decide +kernel)
set_option maxRecDepth 20000 in
theorem gX5_docked_X1_countAt : GoodIn wsX5_docked (wsV RX5 154 RX1 yX1_countAt wsX1_countAt) := goodIn_app (goodIn_of _ (by decide +kernel)) ggX5_docked_X1_countAt
theorem dX5_docked_0 : decode cX5_docked 0 = .ok (.aload_n 0, 1) := by decide +kernel
theorem dX5_docked_1 : decode cX5_docked 1 = .ok (.getfield 21, 3) := by decide +kernel
theorem dX5_docked_4 : decode cX5_docked 4 = .ok (.iconst 0, 1) := by decide +kernel
theorem dX5_docked_5 : decode cX5_docked 5 = .ok (.iload_n 1, 1) := by decide +kernel
theorem dX5_docked_6 : decode cX5_docked 6 = .ok (.invokevirtual 154, 3) := by decide +kernel
theorem dX5_docked_9 : decode cX5_docked 9 = .ok (.ireturn, 1) := by decide +kernel
set_option maxRecDepth 20000 in
theorem ggX5_hasFreeDock_X6_has : GoodIn wsX5_hasFreeDock wsX6_has := goodIn_r _ [7, 8, 29, 30, 31, 32, 33] (by decide +kernel) (by decide +kernel)
set_option maxRecDepth 20000 in
theorem gX5_hasFreeDock_X6_has : GoodIn wsX5_hasFreeDock (wsV RX5 70 RX6 yX6_has wsX6_has) := goodIn_app (goodIn_of _ (by decide +kernel)) ggX5_hasFreeDock_X6_has
set_option maxRecDepth 20000 in
theorem ggX5_hasFreeDock_X5_docked : GoodIn wsX5_hasFreeDock wsX5_docked := goodIn_r _ [13, 14, 15, 16, 17, 18, 19, 20, 21, 22, 23, 24, 25, 26, 27, 28, 34, 35, 36, 37, 38, 39, 40] (by decide +kernel) (by decide +kernel)
set_option maxRecDepth 20000 in
theorem gX5_hasFreeDock_X5_docked : GoodIn wsX5_hasFreeDock (wsV RX5 189 RX5 yX5_docked wsX5_docked) := goodIn_app (goodIn_of _ (by decide +kernel)) ggX5_hasFreeDock_X5_docked
theorem dX5_hasFreeDock_0 : decode cX5_hasFreeDock 0 = .ok (.aload_n 0, 1) := by decide +kernel
theorem dX5_hasFreeDock_1 : decode cX5_hasFreeDock 1 = .ok (.getfield 12, 3) := by decide +kernel
theorem dX5_hasFreeDock_4 : decode cX5_hasFreeDock 4 = .ok (.iload_n 1, 1) := by decide +kernel
theorem dX5_hasFreeDock_5 : decode cX5_hasFreeDock 5 = .ok (.invokevirtual 70, 3) := by decide +kernel
theorem dX5_hasFreeDock_8 : decode cX5_hasFreeDock 8 = .ok (.ifCond .eq 24, 3) := by decide +kernel
theorem dX5_hasFreeDock_11 : decode cX5_hasFreeDock 11 = .ok (.aload_n 0, 1) := by decide +kernel
theorem dX5_hasFreeDock_12 : decode cX5_hasFreeDock 12 = .ok (.iload_n 1, 1) := by decide +kernel
theorem dX5_hasFreeDock_13 : decode cX5_hasFreeDock 13 = .ok (.invokevirtual 189, 3) := by decide +kernel
theorem dX5_hasFreeDock_16 : decode cX5_hasFreeDock 16 = .ok (.aload_n 0, 1) := by decide +kernel
theorem dX5_hasFreeDock_17 : decode cX5_hasFreeDock 17 = .ok (.getfield 12, 3) := by decide +kernel
theorem dX5_hasFreeDock_20 : decode cX5_hasFreeDock 20 = .ok (.getfield 192, 3) := by decide +kernel
theorem dX5_hasFreeDock_23 : decode cX5_hasFreeDock 23 = .ok (.iload_n 1, 1) := by decide +kernel
theorem dX5_hasFreeDock_24 : decode cX5_hasFreeDock 24 = .ok (.iaload, 1) := by decide +kernel
theorem dX5_hasFreeDock_25 : decode cX5_hasFreeDock 25 = .ok (.if_icmp .ge 7, 3) := by decide +kernel
theorem dX5_hasFreeDock_28 : decode cX5_hasFreeDock 28 = .ok (.iconst 1, 1) := by decide +kernel
theorem dX5_hasFreeDock_29 : decode cX5_hasFreeDock 29 = .ok (.goto 4, 3) := by decide +kernel
theorem dX5_hasFreeDock_32 : decode cX5_hasFreeDock 32 = .ok (.iconst 0, 1) := by decide +kernel
theorem dX5_hasFreeDock_33 : decode cX5_hasFreeDock 33 = .ok (.ireturn, 1) := by decide +kernel
set_option maxRecDepth 20000 in
theorem ggX5_unevenness_X6_has : GoodIn wsX5_unevenness wsX6_has := goodIn_r _ [11, 12, 33, 34, 35, 36, 37] (by decide +kernel) (by decide +kernel)
set_option maxRecDepth 20000 in
theorem gX5_unevenness_X6_has : GoodIn wsX5_unevenness (wsV RX5 70 RX6 yX6_has wsX6_has) := goodIn_app (goodIn_of _ (by decide +kernel)) ggX5_unevenness_X6_has
set_option maxRecDepth 20000 in
theorem ggX5_unevenness_X5_docked : GoodIn wsX5_unevenness wsX5_docked := goodIn_r _ [17, 18, 19, 20, 21, 22, 23, 24, 25, 26, 27, 28, 29, 30, 31, 32, 38, 39, 40, 41, 42, 43, 44] (by decide +kernel) (by decide +kernel)
set_option maxRecDepth 20000 in
theorem gX5_unevenness_X5_docked : GoodIn wsX5_unevenness (wsV RX5 189 RX5 yX5_docked wsX5_docked) := goodIn_app (goodIn_of _ (by decide +kernel)) ggX5_unevenness_X5_docked
theorem dX5_unevenness_0 : decode cX5_unevenness 0 = .ok (.aload_n 0, 1) := by decide +kernel
theorem dX5_unevenness_1 : decode cX5_unevenness 1 = .ok (.getfield 12, 3) := by decide +kernel
theorem dX5_unevenness_4 : decode cX5_unevenness 4 = .ok (.iload_n 1, 1) := by decide +kernel
theorem dX5_unevenness_5 : decode cX5_unevenness 5 = .ok (.invokevirtual 70, 3) := by decide +kernel
theorem dX5_unevenness_8 : decode cX5_unevenness 8 = .ok (.ifCond .eq 26, 3) := by decide +kernel
theorem dX5_unevenness_11 : decode cX5_unevenness 11 = .ok (.iconst 2, 1) := by decide +kernel
theorem dX5_unevenness_12 : decode cX5_unevenness 12 = .ok (.aload_n 0, 1) := by decide +kernel
theorem dX5_unevenness_13 : decode cX5_unevenness 13 = .ok (.iload_n 1, 1) := by decide +kernel
theorem dX5_unevenness_14 : decode cX5_unevenness 14 = .ok (.invokevirtual 189, 3) := by decide +kernel
theorem dX5_unevenness_17 : decode cX5_unevenness 17 = .ok (.imul, 1) := by decide +kernel
theorem dX5_unevenness_18 : decode cX5_unevenness 18 = .ok (.aload_n 0, 1) := by decide +kernel
theorem dX5_unevenness_19 : decode cX5_unevenness 19 = .ok (.getfield 12, 3) := by decide +kernel
theorem dX5_unevenness_22 : decode cX5_unevenness 22 = .ok (.getfield 192, 3) := by decide +kernel
theorem dX5_unevenness_25 : decode cX5_unevenness 25 = .ok (.iload_n 1, 1) := by decide +kernel
theorem dX5_unevenness_26 : decode cX5_unevenness 26 = .ok (.iaload, 1) := by decide +kernel
theorem dX5_unevenness_27 : decode cX5_unevenness 27 = .ok (.isub, 1) := by decide +kernel
theorem dX5_unevenness_28 : decode cX5_unevenness 28 = .ok (.invokestatic 195, 3) := by decide +kernel
theorem dX5_unevenness_31 : decode cX5_unevenness 31 = .ok (.goto 4, 3) := by decide +kernel
theorem dX5_unevenness_34 : decode cX5_unevenness 34 = .ok (.iconst 0, 1) := by decide +kernel
theorem dX5_unevenness_35 : decode cX5_unevenness 35 = .ok (.ireturn, 1) := by decide +kernel
set_option maxRecDepth 20000 in
theorem ggX5_allUnevenness_X5_unevenness : GoodIn wsX5_allUnevenness wsX5_unevenness := goodIn_r _ [7, 1, 8, 9, 10, 11, 12, 13, 14, 15, 16, 17, 18, 19, 20, 21, 6, 22, 23, 24, 25, 26, 27, 28, 29, 30, 31, 32, 33, 34, 35, 36, 37, 38, 39, 40, 41, 42, 43, 44, 45, 46, 47, 48, 49] (by decide +kernel) (by decide +kernel)
set_option maxRecDepth 20000 in
theorem gX5_allUnevenness_X5_unevenness : GoodIn wsX5_allUnevenness (wsV RX5 201 RX5 yX5_unevenness wsX5_unevenness) := goodIn_app (goodIn_of _ (by decide +kernel)) ggX5_allUnevenness_X5_unevenness
theorem dX5_allUnevenness_0 : decode cX5_allUnevenness 0 = .ok (.iconst 0, 1) := by decide +kernel
theorem dX5_allUnevenness_1 : decode cX5_allUnevenness 1 = .ok (.istore_n 1, 1) := by decide +kernel
theorem dX5_allUnevenness_2 : decode cX5_allUnevenness 2 = .ok (.iconst 0, 1) := by decide +kernel
theorem dX5_allUnevenness_3 : decode cX5_allUnevenness 3 = .ok (.istore_n 2, 1) := by decide +kernel
theorem dX5_allUnevenness_4 : decode cX5_allUnevenness 4 = .ok (.iload_n 2, 1) := by decide +kernel
theorem dX5_allUnevenness_5 : decode cX5_allUnevenness 5 = .ok (.aload_n 0, 1) := by decide +kernel
theorem dX5_allUnevenness_6 : decode cX5_allUnevenness 6 = .ok (.getfield 12, 3) := by decide +kernel
theorem dX5_allUnevenness_9 : decode cX5_allUnevenness 9 = .ok (.getfield 198, 3) := by decide +kernel
theorem dX5_allUnevenness_12 : decode cX5_allUnevenness 12 = .ok (.if_icmp .ge 17, 3) := by decide +kernel
theorem dX5_allUnevenness_15 : decode cX5_allUnevenness 15 = .ok (.iload_n 1, 1) := by decide +kernel
theorem dX5_allUnevenness_16 : decode cX5_allUnevenness 16 = .ok (.aload_n 0, 1) := by decide +kernel
theorem dX5_allUnevenness_17 : decode cX5_allUnevenness 17 = .ok (.iload_n 2, 1) := by decide +kernel
theorem dX5_allUnevenness_18 : decode cX5_allUnevenness 18 = .ok (.invokevirtual 201, 3) := by decide +kernel
theorem dX5_allUnevenness_21 : decode cX5_allUnevenness 21 = .ok (.iadd, 1) := by decide +kernel
theorem dX5_allUnevenness_22 : decode cX5_allUnevenness 22 = .ok (.istore_n 1, 1) := by decide +kernel
theorem dX5_allUnevenness_23 : decode cX5_allUnevenness 23 = .ok (.iinc 2 1, 3) := by decide +kernel
theorem dX5_allUnevenness_26 : decode cX5_allUnevenness 26 = .ok (.goto (-22), 3) := by decide +kernel
theorem dX5_allUnevenness_29 : decode cX5_allUnevenness 29 = .ok (.iload_n 1, 1) := by decide +kernel
theorem dX5_allUnevenness_30 : decode cX5_allUnevenness 30 = .ok (.ireturn, 1) := by decide +kernel
set_option maxRecDepth 20000 in
theorem ggX5_isUnderWay_X8_has : GoodIn wsX5_isUnderWay wsX8_has := goodIn_r _ [8, 9, 16, 17, 18, 19] (by decide +kernel) (by decide +kernel)
set_option maxRecDepth 20000 in
theorem gX5_isUnderWay_X8_has : GoodIn wsX5_isUnderWay (wsV RX5 153 RX8 yX8_has wsX8_has) := goodIn_app (goodIn_of _ (by decide +kernel)) ggX5_isUnderWay_X8_has
theorem dX5_isUnderWay_0 : decode cX5_isUnderWay 0 = .ok (.aload_n 0, 1) := by decide +kernel
theorem dX5_isUnderWay_1 : decode cX5_isUnderWay 1 = .ok (.getfield 35, 3) := by decide +kernel
theorem dX5_isUnderWay_4 : decode cX5_isUnderWay 4 = .ok (.iload_n 1, 1) := by decide +kernel
theorem dX5_isUnderWay_5 : decode cX5_isUnderWay 5 = .ok (.invokevirtual 153, 3) := by decide +kernel
theorem dX5_isUnderWay_8 : decode cX5_isUnderWay 8 = .ok (.ifCond .eq 23, 3) := by decide +kernel
theorem dX5_isUnderWay_11 : decode cX5_isUnderWay 11 = .ok (.aload_n 0, 1) := by decide +kernel
theorem dX5_isUnderWay_12 : decode cX5_isUnderWay 12 = .ok (.getfield 35, 3) := by decide +kernel
theorem dX5_isUnderWay_15 : decode cX5_isUnderWay 15 = .ok (.getfield 177, 3) := by decide +kernel
theorem dX5_isUnderWay_18 : decode cX5_isUnderWay 18 = .ok (.iload_n 1, 1) := by decide +kernel
theorem dX5_isUnderWay_19 : decode cX5_isUnderWay 19 = .ok (.iaload, 1) := by decide +kernel
theorem dX5_isUnderWay_20 : decode cX5_isUnderWay 20 = .ok (.aload_n 0, 1) := by decide +kernel
theorem dX5_isUnderWay_21 : decode cX5_isUnderWay 21 = .ok (.getfield 62, 3) := by decide +kernel
theorem dX5_isUnderWay_24 : decode cX5_isUnderWay 24 = .ok (.if_icmp .le 7, 3) := by decide +kernel
theorem dX5_isUnderWay_27 : decode cX5_isUnderWay 27 = .ok (.iconst 1, 1) := by decide +kernel
theorem dX5_isUnderWay_28 : decode cX5_isUnderWay 28 = .ok (.goto 4, 3) := by decide +kernel
theorem dX5_isUnderWay_31 : decode cX5_isUnderWay 31 = .ok (.iconst 0, 1) := by decide +kernel
theorem dX5_isUnderWay_32 : decode cX5_isUnderWay 32 = .ok (.ireturn, 1) := by decide +kernel
set_option maxRecDepth 20000 in
theorem ggX5_canHandOut_X5_isUnderWay : GoodIn wsX5_canHandOut wsX5_isUnderWay := goodIn_r _ [6, 7, 8, 9, 10, 11, 12, 13, 14, 15, 28, 29, 30, 31, 32, 33, 34, 35, 36, 37] (by decide +kernel) (by decide +kernel)
set_option maxRecDepth 20000 in
theorem gX5_canHandOut_X5_isUnderWay : GoodIn wsX5_canHandOut (wsV RX5 164 RX5 yX5_isUnderWay wsX5_isUnderWay) := goodIn_app (goodIn_of _ (by decide +kernel)) ggX5_canHandOut_X5_isUnderWay
set_option maxRecDepth 20000 in
theorem ggX5_canHandOut_X1_isAt : GoodIn wsX5_canHandOut wsX1_isAt := goodIn_r _ [20, 21, 22, 23, 24, 25, 19, 26, 27, 38, 39, 40, 41, 42, 43, 44] (by decide +kernel) (by decide +kernel)
set_option maxRecDepth 20000 in
theorem gX5_canHandOut_X1_isAt : GoodIn wsX5_canHandOut (wsV RX5 160 RX1 yX1_isAt wsX1_isAt) := goodIn_app (goodIn_of _ (by decide +kernel)) ggX5_canHandOut_X1_isAt
theorem dX5_canHandOut_0 : decode cX5_canHandOut 0 = .ok (.aload_n 0, 1) := by decide +kernel
theorem dX5_canHandOut_1 : decode cX5_canHandOut 1 = .ok (.iload_n 1, 1) := by decide +kernel
theorem dX5_canHandOut_2 : decode cX5_canHandOut 2 = .ok (.invokevirtual 164, 3) := by decide +kernel
theorem dX5_canHandOut_5 : decode cX5_canHandOut 5 = .ok (.ifCond .ne 20, 3) := by decide +kernel
theorem dX5_canHandOut_8 : decode cX5_canHandOut 8 = .ok (.aload_n 0, 1) := by decide +kernel
theorem dX5_canHandOut_9 : decode cX5_canHandOut 9 = .ok (.getfield 21, 3) := by decide +kernel
theorem dX5_canHandOut_12 : decode cX5_canHandOut 12 = .ok (.iload_n 2, 1) := by decide +kernel
theorem dX5_canHandOut_13 : decode cX5_canHandOut 13 = .ok (.iconst 2, 1) := by decide +kernel
theorem dX5_canHandOut_14 : decode cX5_canHandOut 14 = .ok (.iload_n 1, 1) := by decide +kernel
theorem dX5_canHandOut_15 : decode cX5_canHandOut 15 = .ok (.invokevirtual 160, 3) := by decide +kernel
theorem dX5_canHandOut_18 : decode cX5_canHandOut 18 = .ok (.ifCond .eq 7, 3) := by decide +kernel
theorem dX5_canHandOut_21 : decode cX5_canHandOut 21 = .ok (.iconst 1, 1) := by decide +kernel
theorem dX5_canHandOut_22 : decode cX5_canHandOut 22 = .ok (.goto 4, 3) := by decide +kernel
theorem dX5_canHandOut_25 : decode cX5_canHandOut 25 = .ok (.iconst 0, 1) := by decide +kernel
theorem dX5_canHandOut_26 : decode cX5_canHandOut 26 = .ok (.ireturn, 1) := by decide +kernel
set_option maxRecDepth 20000 in
theorem ggX5_dockReadyBicycles_X1_isReady : GoodIn wsX5_dockReadyBicycles wsX1_isReady := goodIn_r _ [8, 9, 10, 11, 12, 13, 7, 14, 15, 45, 46, 47, 48, 49, 50, 51] (by decide +kernel) (by decide +kernel)
set_option maxRecDepth 20000 in
theorem gX5_dockReadyBicycles_X1_isReady : GoodIn wsX5_dockReadyBicycles (wsV RX5 205 RX1 yX1_isReady wsX1_isReady) := goodIn_app (goodIn_of _ (by decide +kernel)) ggX5_dockReadyBicycles_X1_isReady
set_option maxRecDepth 20000 in
theorem ggX5_dockReadyBicycles_X1_renew : GoodIn wsX5_dockReadyBicycles wsX1_renew := goodIn_r _ [19, 20, 21, 11, 12, 13, 7, 14, 15, 45, 46, 47, 48, 49, 50, 51] (by decide +kernel) (by decide +kernel)
set_option maxRecDepth 20000 in
theorem gX5_dockReadyBicycles_X1_renew : GoodIn wsX5_dockReadyBicycles (wsV RX5 208 RX1 yX1_renew wsX1_renew) := goodIn_app (goodIn_of _ (by decide +kernel)) ggX5_dockReadyBicycles_X1_renew
set_option maxRecDepth 20000 in
theorem ggX5_dockReadyBicycles_X5_firstWithFreeDock : GoodIn wsX5_dockReadyBicycles wsX5_firstWithFreeDock := goodIn_r _ [26, 27, 28, 1, 29, 30, 31, 32, 7, 33, 15, 9, 34, 39, 40, 41, 42, 43, 44, 52, 53, 54, 55, 56, 45, 46, 47, 48, 49, 50, 51] (by decide +kernel) (by decide +kernel)
set_option maxRecDepth 20000 in
theorem gX5_dockReadyBicycles_X5_firstWithFreeDock : GoodIn wsX5_dockReadyBicycles (wsV RX5 212 RX5 yX5_firstWithFreeDock wsX5_firstWithFreeDock) := goodIn_app (goodIn_of _ (by decide +kernel)) ggX5_dockReadyBicycles_X5_firstWithFreeDock
set_option maxRecDepth 20000 in
theorem ggX5_dockReadyBicycles_X1_bring : GoodIn wsX5_dockReadyBicycles wsX1_bring := goodIn_r _ [38, 9, 34, 11, 12, 13, 7, 14, 15, 45, 46, 47, 48, 49, 50, 51] (by decide +kernel) (by decide +kernel)
set_option maxRecDepth 20000 in
theorem gX5_dockReadyBicycles_X1_bring : GoodIn wsX5_dockReadyBicycles (wsV RX5 121 RX1 yX1_bring wsX1_bring) := goodIn_app (goodIn_of _ (by decide +kernel)) ggX5_dockReadyBicycles_X1_bring
theorem dX5_dockReadyBicycles_0 : decode cX5_dockReadyBicycles 0 = .ok (.iconst 0, 1) := by decide +kernel
theorem dX5_dockReadyBicycles_1 : decode cX5_dockReadyBicycles 1 = .ok (.istore_n 1, 1) := by decide +kernel
theorem dX5_dockReadyBicycles_2 : decode cX5_dockReadyBicycles 2 = .ok (.iconst 0, 1) := by decide +kernel
theorem dX5_dockReadyBicycles_3 : decode cX5_dockReadyBicycles 3 = .ok (.istore_n 2, 1) := by decide +kernel
theorem dX5_dockReadyBicycles_4 : decode cX5_dockReadyBicycles 4 = .ok (.iload_n 2, 1) := by decide +kernel
theorem dX5_dockReadyBicycles_5 : decode cX5_dockReadyBicycles 5 = .ok (.aload_n 0, 1) := by decide +kernel
theorem dX5_dockReadyBicycles_6 : decode cX5_dockReadyBicycles 6 = .ok (.getfield 21, 3) := by decide +kernel
theorem dX5_dockReadyBicycles_9 : decode cX5_dockReadyBicycles 9 = .ok (.getfield 204, 3) := by decide +kernel
theorem dX5_dockReadyBicycles_12 : decode cX5_dockReadyBicycles 12 = .ok (.if_icmp .ge 54, 3) := by decide +kernel
theorem dX5_dockReadyBicycles_15 : decode cX5_dockReadyBicycles 15 = .ok (.aload_n 0, 1) := by decide +kernel
theorem dX5_dockReadyBicycles_16 : decode cX5_dockReadyBicycles 16 = .ok (.getfield 21, 3) := by decide +kernel
theorem dX5_dockReadyBicycles_19 : decode cX5_dockReadyBicycles 19 = .ok (.iload_n 2, 1) := by decide +kernel
theorem dX5_dockReadyBicycles_20 : decode cX5_dockReadyBicycles 20 = .ok (.aload_n 0, 1) := by decide +kernel
theorem dX5_dockReadyBicycles_21 : decode cX5_dockReadyBicycles 21 = .ok (.getfield 62, 3) := by decide +kernel
theorem dX5_dockReadyBicycles_24 : decode cX5_dockReadyBicycles 24 = .ok (.invokevirtual 205, 3) := by decide +kernel
theorem dX5_dockReadyBicycles_27 : decode cX5_dockReadyBicycles 27 = .ok (.ifCond .eq 33, 3) := by decide +kernel
theorem dX5_dockReadyBicycles_30 : decode cX5_dockReadyBicycles 30 = .ok (.aload_n 0, 1) := by decide +kernel
theorem dX5_dockReadyBicycles_31 : decode cX5_dockReadyBicycles 31 = .ok (.getfield 21, 3) := by decide +kernel
theorem dX5_dockReadyBicycles_34 : decode cX5_dockReadyBicycles 34 = .ok (.iload_n 2, 1) := by decide +kernel
theorem dX5_dockReadyBicycles_35 : decode cX5_dockReadyBicycles 35 = .ok (.invokevirtual 208, 3) := by decide +kernel
theorem dX5_dockReadyBicycles_38 : decode cX5_dockReadyBicycles 38 = .ok (.aload_n 0, 1) := by decide +kernel
theorem dX5_dockReadyBicycles_39 : decode cX5_dockReadyBicycles 39 = .ok (.invokevirtual 212, 3) := by decide +kernel
theorem dX5_dockReadyBicycles_42 : decode cX5_dockReadyBicycles 42 = .ok (.istore_n 3, 1) := by decide +kernel
theorem dX5_dockReadyBicycles_43 : decode cX5_dockReadyBicycles 43 = .ok (.iload_n 3, 1) := by decide +kernel
theorem dX5_dockReadyBicycles_44 : decode cX5_dockReadyBicycles 44 = .ok (.ifCond .lt 16, 3) := by decide +kernel
theorem dX5_dockReadyBicycles_47 : decode cX5_dockReadyBicycles 47 = .ok (.aload_n 0, 1) := by decide +kernel
theorem dX5_dockReadyBicycles_48 : decode cX5_dockReadyBicycles 48 = .ok (.getfield 21, 3) := by decide +kernel
theorem dX5_dockReadyBicycles_51 : decode cX5_dockReadyBicycles 51 = .ok (.iload_n 2, 1) := by decide +kernel
theorem dX5_dockReadyBicycles_52 : decode cX5_dockReadyBicycles 52 = .ok (.iconst 0, 1) := by decide +kernel
theorem dX5_dockReadyBicycles_53 : decode cX5_dockReadyBicycles 53 = .ok (.iload_n 3, 1) := by decide +kernel
theorem dX5_dockReadyBicycles_54 : decode cX5_dockReadyBicycles 54 = .ok (.invokevirtual 121, 3) := by decide +kernel
theorem dX5_dockReadyBicycles_57 : decode cX5_dockReadyBicycles 57 = .ok (.iinc 1 1, 3) := by decide +kernel
theorem dX5_dockReadyBicycles_60 : decode cX5_dockReadyBicycles 60 = .ok (.iinc 2 1, 3) := by decide +kernel
theorem dX5_dockReadyBicycles_63 : decode cX5_dockReadyBicycles 63 = .ok (.goto (-59), 3) := by decide +kernel
theorem dX5_dockReadyBicycles_66 : decode cX5_dockReadyBicycles 66 = .ok (.iload_n 1, 1) := by decide +kernel
theorem dX5_dockReadyBicycles_67 : decode cX5_dockReadyBicycles 67 = .ok (.ireturn, 1) := by decide +kernel
set_option maxRecDepth 20000 in
theorem ggX5_firstWithFreeDock_X1_countAt : GoodIn wsX5_firstWithFreeDock wsX1_countAt := goodIn_r _ [9, 10, 11, 12, 24, 25, 26, 27, 28, 29, 30] (by decide +kernel) (by decide +kernel)
set_option maxRecDepth 20000 in
theorem gX5_firstWithFreeDock_X1_countAt : GoodIn wsX5_firstWithFreeDock (wsV RX5 154 RX1 yX1_countAt wsX1_countAt) := goodIn_app (goodIn_of _ (by decide +kernel)) ggX5_firstWithFreeDock_X1_countAt
theorem dX5_firstWithFreeDock_0 : decode cX5_firstWithFreeDock 0 = .ok (.iconst 0, 1) := by decide +kernel
theorem dX5_firstWithFreeDock_1 : decode cX5_firstWithFreeDock 1 = .ok (.istore_n 1, 1) := by decide +kernel
theorem dX5_firstWithFreeDock_2 : decode cX5_firstWithFreeDock 2 = .ok (.iload_n 1, 1) := by decide +kernel
theorem dX5_firstWithFreeDock_3 : decode cX5_firstWithFreeDock 3 = .ok (.aload_n 0, 1) := by decide +kernel
theorem dX5_firstWithFreeDock_4 : decode cX5_firstWithFreeDock 4 = .ok (.getfield 12, 3) := by decide +kernel
theorem dX5_firstWithFreeDock_7 : decode cX5_firstWithFreeDock 7 = .ok (.getfield 198, 3) := by decide +kernel
theorem dX5_firstWithFreeDock_10 : decode cX5_firstWithFreeDock 10 = .ok (.if_icmp .ge 32, 3) := by decide +kernel
theorem dX5_firstWithFreeDock_13 : decode cX5_firstWithFreeDock 13 = .ok (.aload_n 0, 1) := by decide +kernel
theorem dX5_firstWithFreeDock_14 : decode cX5_firstWithFreeDock 14 = .ok (.getfield 21, 3) := by decide +kernel
theorem dX5_firstWithFreeDock_17 : decode cX5_firstWithFreeDock 17 = .ok (.iconst 0, 1) := by decide +kernel
theorem dX5_firstWithFreeDock_18 : decode cX5_firstWithFreeDock 18 = .ok (.iload_n 1, 1) := by decide +kernel
theorem dX5_firstWithFreeDock_19 : decode cX5_firstWithFreeDock 19 = .ok (.invokevirtual 154, 3) := by decide +kernel
theorem dX5_firstWithFreeDock_22 : decode cX5_firstWithFreeDock 22 = .ok (.aload_n 0, 1) := by decide +kernel
theorem dX5_firstWithFreeDock_23 : decode cX5_firstWithFreeDock 23 = .ok (.getfield 12, 3) := by decide +kernel
theorem dX5_firstWithFreeDock_26 : decode cX5_firstWithFreeDock 26 = .ok (.getfield 192, 3) := by decide +kernel
theorem dX5_firstWithFreeDock_29 : decode cX5_firstWithFreeDock 29 = .ok (.iload_n 1, 1) := by decide +kernel
theorem dX5_firstWithFreeDock_30 : decode cX5_firstWithFreeDock 30 = .ok (.iaload, 1) := by decide +kernel
theorem dX5_firstWithFreeDock_31 : decode cX5_firstWithFreeDock 31 = .ok (.if_icmp .ge 5, 3) := by decide +kernel
theorem dX5_firstWithFreeDock_34 : decode cX5_firstWithFreeDock 34 = .ok (.iload_n 1, 1) := by decide +kernel
theorem dX5_firstWithFreeDock_35 : decode cX5_firstWithFreeDock 35 = .ok (.ireturn, 1) := by decide +kernel
theorem dX5_firstWithFreeDock_36 : decode cX5_firstWithFreeDock 36 = .ok (.iinc 1 1, 3) := by decide +kernel
theorem dX5_firstWithFreeDock_39 : decode cX5_firstWithFreeDock 39 = .ok (.goto (-37), 3) := by decide +kernel
theorem dX5_firstWithFreeDock_42 : decode cX5_firstWithFreeDock 42 = .ok (.iconst (-1), 1) := by decide +kernel
theorem dX5_firstWithFreeDock_43 : decode cX5_firstWithFreeDock 43 = .ok (.ireturn, 1) := by decide +kernel
theorem dX6_init_0 : decode cX6_init 0 = .ok (.aload_n 0, 1) := by decide +kernel
theorem dX6_init_1 : decode cX6_init 1 = .ok (.invokespecial 3, 3) := by decide +kernel
theorem dX6_init_4 : decode cX6_init 4 = .ok (.aload_n 0, 1) := by decide +kernel
theorem dX6_init_5 : decode cX6_init 5 = .ok (.bipush 6, 2) := by decide +kernel
theorem dX6_init_7 : decode cX6_init 7 = .ok (.newarray .int, 2) := by decide +kernel
theorem dX6_init_9 : decode cX6_init 9 = .ok (.putfield 11, 3) := by decide +kernel
theorem dX6_init_12 : decode cX6_init 12 = .ok (.aload_n 0, 1) := by decide +kernel
theorem dX6_init_13 : decode cX6_init 13 = .ok (.bipush 6, 2) := by decide +kernel
theorem dX6_init_15 : decode cX6_init 15 = .ok (.newarray .int, 2) := by decide +kernel
theorem dX6_init_17 : decode cX6_init 17 = .ok (.putfield 15, 3) := by decide +kernel
theorem dX6_init_20 : decode cX6_init 20 = .ok (.aload_n 0, 1) := by decide +kernel
theorem dX6_init_21 : decode cX6_init 21 = .ok (.bipush 6, 2) := by decide +kernel
theorem dX6_init_23 : decode cX6_init 23 = .ok (.newarray .int, 2) := by decide +kernel
theorem dX6_init_25 : decode cX6_init 25 = .ok (.putfield 18, 3) := by decide +kernel
theorem dX6_init_28 : decode cX6_init 28 = .ok (.aload_n 0, 1) := by decide +kernel
theorem dX6_init_29 : decode cX6_init 29 = .ok (.bipush 6, 2) := by decide +kernel
theorem dX6_init_31 : decode cX6_init 31 = .ok (.newarray .int, 2) := by decide +kernel
theorem dX6_init_33 : decode cX6_init 33 = .ok (.putfield 21, 3) := by decide +kernel
theorem dX6_init_36 : decode cX6_init 36 = .ok (.return_, 1) := by decide +kernel
theorem dX6_copy_0 : decode cX6_copy 0 = .ok (.aload_n 0, 1) := by decide +kernel
theorem dX6_copy_1 : decode cX6_copy 1 = .ok (.aload_n 1, 1) := by decide +kernel
theorem dX6_copy_2 : decode cX6_copy 2 = .ok (.getfield 24, 3) := by decide +kernel
theorem dX6_copy_5 : decode cX6_copy 5 = .ok (.putfield 24, 3) := by decide +kernel
theorem dX6_copy_8 : decode cX6_copy 8 = .ok (.aload_n 1, 1) := by decide +kernel
theorem dX6_copy_9 : decode cX6_copy 9 = .ok (.getfield 11, 3) := by decide +kernel
theorem dX6_copy_12 : decode cX6_copy 12 = .ok (.iconst 0, 1) := by decide +kernel
theorem dX6_copy_13 : decode cX6_copy 13 = .ok (.aload_n 0, 1) := by decide +kernel
theorem dX6_copy_14 : decode cX6_copy 14 = .ok (.getfield 11, 3) := by decide +kernel
theorem dX6_copy_17 : decode cX6_copy 17 = .ok (.iconst 0, 1) := by decide +kernel
theorem dX6_copy_18 : decode cX6_copy 18 = .ok (.bipush 6, 2) := by decide +kernel
theorem dX6_copy_20 : decode cX6_copy 20 = .ok (.invokestatic 28, 3) := by decide +kernel
theorem dX6_copy_23 : decode cX6_copy 23 = .ok (.aload_n 1, 1) := by decide +kernel
theorem dX6_copy_24 : decode cX6_copy 24 = .ok (.getfield 15, 3) := by decide +kernel
theorem dX6_copy_27 : decode cX6_copy 27 = .ok (.iconst 0, 1) := by decide +kernel
theorem dX6_copy_28 : decode cX6_copy 28 = .ok (.aload_n 0, 1) := by decide +kernel
theorem dX6_copy_29 : decode cX6_copy 29 = .ok (.getfield 15, 3) := by decide +kernel
theorem dX6_copy_32 : decode cX6_copy 32 = .ok (.iconst 0, 1) := by decide +kernel
theorem dX6_copy_33 : decode cX6_copy 33 = .ok (.bipush 6, 2) := by decide +kernel
theorem dX6_copy_35 : decode cX6_copy 35 = .ok (.invokestatic 28, 3) := by decide +kernel
theorem dX6_copy_38 : decode cX6_copy 38 = .ok (.aload_n 1, 1) := by decide +kernel
theorem dX6_copy_39 : decode cX6_copy 39 = .ok (.getfield 18, 3) := by decide +kernel
theorem dX6_copy_42 : decode cX6_copy 42 = .ok (.iconst 0, 1) := by decide +kernel
theorem dX6_copy_43 : decode cX6_copy 43 = .ok (.aload_n 0, 1) := by decide +kernel
theorem dX6_copy_44 : decode cX6_copy 44 = .ok (.getfield 18, 3) := by decide +kernel
theorem dX6_copy_47 : decode cX6_copy 47 = .ok (.iconst 0, 1) := by decide +kernel
theorem dX6_copy_48 : decode cX6_copy 48 = .ok (.bipush 6, 2) := by decide +kernel
theorem dX6_copy_50 : decode cX6_copy 50 = .ok (.invokestatic 28, 3) := by decide +kernel
theorem dX6_copy_53 : decode cX6_copy 53 = .ok (.aload_n 1, 1) := by decide +kernel
theorem dX6_copy_54 : decode cX6_copy 54 = .ok (.getfield 21, 3) := by decide +kernel
theorem dX6_copy_57 : decode cX6_copy 57 = .ok (.iconst 0, 1) := by decide +kernel
theorem dX6_copy_58 : decode cX6_copy 58 = .ok (.aload_n 0, 1) := by decide +kernel
theorem dX6_copy_59 : decode cX6_copy 59 = .ok (.getfield 21, 3) := by decide +kernel
theorem dX6_copy_62 : decode cX6_copy 62 = .ok (.iconst 0, 1) := by decide +kernel
theorem dX6_copy_63 : decode cX6_copy 63 = .ok (.bipush 6, 2) := by decide +kernel
theorem dX6_copy_65 : decode cX6_copy 65 = .ok (.invokestatic 28, 3) := by decide +kernel
theorem dX6_copy_68 : decode cX6_copy 68 = .ok (.return_, 1) := by decide +kernel
theorem dX6_has_0 : decode cX6_has 0 = .ok (.iload_n 1, 1) := by decide +kernel
theorem dX6_has_1 : decode cX6_has 1 = .ok (.ifCond .lt 15, 3) := by decide +kernel
theorem dX6_has_4 : decode cX6_has 4 = .ok (.iload_n 1, 1) := by decide +kernel
theorem dX6_has_5 : decode cX6_has 5 = .ok (.aload_n 0, 1) := by decide +kernel
theorem dX6_has_6 : decode cX6_has 6 = .ok (.getfield 24, 3) := by decide +kernel
theorem dX6_has_9 : decode cX6_has 9 = .ok (.if_icmp .ge 7, 3) := by decide +kernel
theorem dX6_has_12 : decode cX6_has 12 = .ok (.iconst 1, 1) := by decide +kernel
theorem dX6_has_13 : decode cX6_has 13 = .ok (.goto 4, 3) := by decide +kernel
theorem dX6_has_16 : decode cX6_has 16 = .ok (.iconst 0, 1) := by decide +kernel
theorem dX6_has_17 : decode cX6_has 17 = .ok (.ireturn, 1) := by decide +kernel
theorem dX6_add_0 : decode cX6_add 0 = .ok (.aload_n 0, 1) := by decide +kernel
theorem dX6_add_1 : decode cX6_add 1 = .ok (.getfield 24, 3) := by decide +kernel
theorem dX6_add_4 : decode cX6_add 4 = .ok (.bipush 6, 2) := by decide +kernel
theorem dX6_add_6 : decode cX6_add 6 = .ok (.if_icmp .lt 6, 3) := by decide +kernel
theorem dX6_add_9 : decode cX6_add 9 = .ok (.bipush (-3), 2) := by decide +kernel
theorem dX6_add_11 : decode cX6_add 11 = .ok (.ireturn, 1) := by decide +kernel
theorem dX6_add_12 : decode cX6_add 12 = .ok (.aload_n 0, 1) := by decide +kernel
theorem dX6_add_13 : decode cX6_add 13 = .ok (.getfield 11, 3) := by decide +kernel
theorem dX6_add_16 : decode cX6_add 16 = .ok (.aload_n 0, 1) := by decide +kernel
theorem dX6_add_17 : decode cX6_add 17 = .ok (.getfield 24, 3) := by decide +kernel
theorem dX6_add_20 : decode cX6_add 20 = .ok (.iload_n 1, 1) := by decide +kernel
theorem dX6_add_21 : decode cX6_add 21 = .ok (.iastore, 1) := by decide +kernel
theorem dX6_add_22 : decode cX6_add 22 = .ok (.aload_n 0, 1) := by decide +kernel
theorem dX6_add_23 : decode cX6_add 23 = .ok (.getfield 15, 3) := by decide +kernel
theorem dX6_add_26 : decode cX6_add 26 = .ok (.aload_n 0, 1) := by decide +kernel
theorem dX6_add_27 : decode cX6_add 27 = .ok (.getfield 24, 3) := by decide +kernel
theorem dX6_add_30 : decode cX6_add 30 = .ok (.iload_n 2, 1) := by decide +kernel
theorem dX6_add_31 : decode cX6_add 31 = .ok (.iastore, 1) := by decide +kernel
theorem dX6_add_32 : decode cX6_add 32 = .ok (.aload_n 0, 1) := by decide +kernel
theorem dX6_add_33 : decode cX6_add 33 = .ok (.dup, 1) := by decide +kernel
theorem dX6_add_34 : decode cX6_add 34 = .ok (.getfield 24, 3) := by decide +kernel
theorem dX6_add_37 : decode cX6_add 37 = .ok (.iconst 1, 1) := by decide +kernel
theorem dX6_add_38 : decode cX6_add 38 = .ok (.iadd, 1) := by decide +kernel
theorem dX6_add_39 : decode cX6_add 39 = .ok (.putfield 24, 3) := by decide +kernel
theorem dX6_add_42 : decode cX6_add 42 = .ok (.aload_n 0, 1) := by decide +kernel
theorem dX6_add_43 : decode cX6_add 43 = .ok (.getfield 24, 3) := by decide +kernel
theorem dX6_add_46 : decode cX6_add 46 = .ok (.iconst 1, 1) := by decide +kernel
theorem dX6_add_47 : decode cX6_add 47 = .ok (.isub, 1) := by decide +kernel
theorem dX6_add_48 : decode cX6_add 48 = .ok (.ireturn, 1) := by decide +kernel
set_option maxRecDepth 20000 in
theorem ggX6_way_X6_has : GoodIn wsX6_way wsX6_has := goodIn_r _ [10, 11, 12, 13, 14, 15, 16] (by decide +kernel) (by decide +kernel)
set_option maxRecDepth 20000 in
theorem gX6_way_X6_has : GoodIn wsX6_way (wsV RX6 34 RX6 yX6_has wsX6_has) := goodIn_app (goodIn_of _ (by decide +kernel)) ggX6_way_X6_has
theorem dX6_way_0 : decode cX6_way 0 = .ok (.aload_n 0, 1) := by decide +kernel
theorem dX6_way_1 : decode cX6_way 1 = .ok (.iload_n 1, 1) := by decide +kernel
theorem dX6_way_2 : decode cX6_way 2 = .ok (.invokevirtual 34, 3) := by decide +kernel
theorem dX6_way_5 : decode cX6_way 5 = .ok (.ifCond .eq 30, 3) := by decide +kernel
theorem dX6_way_8 : decode cX6_way 8 = .ok (.aload_n 0, 1) := by decide +kernel
theorem dX6_way_9 : decode cX6_way 9 = .ok (.iload_n 2, 1) := by decide +kernel
theorem dX6_way_10 : decode cX6_way 10 = .ok (.invokevirtual 34, 3) := by decide +kernel
theorem dX6_way_13 : decode cX6_way 13 = .ok (.ifCond .eq 22, 3) := by decide +kernel
theorem dX6_way_16 : decode cX6_way 16 = .ok (.aload_n 0, 1) := by decide +kernel
theorem dX6_way_17 : decode cX6_way 17 = .ok (.getfield 11, 3) := by decide +kernel
theorem dX6_way_20 : decode cX6_way 20 = .ok (.iload_n 1, 1) := by decide +kernel
theorem dX6_way_21 : decode cX6_way 21 = .ok (.iaload, 1) := by decide +kernel
theorem dX6_way_22 : decode cX6_way 22 = .ok (.aload_n 0, 1) := by decide +kernel
theorem dX6_way_23 : decode cX6_way 23 = .ok (.getfield 11, 3) := by decide +kernel
theorem dX6_way_26 : decode cX6_way 26 = .ok (.iload_n 2, 1) := by decide +kernel
theorem dX6_way_27 : decode cX6_way 27 = .ok (.iaload, 1) := by decide +kernel
theorem dX6_way_28 : decode cX6_way 28 = .ok (.isub, 1) := by decide +kernel
theorem dX6_way_29 : decode cX6_way 29 = .ok (.invokestatic 38, 3) := by decide +kernel
theorem dX6_way_32 : decode cX6_way 32 = .ok (.goto 4, 3) := by decide +kernel
theorem dX6_way_35 : decode cX6_way 35 = .ok (.iconst 0, 1) := by decide +kernel
theorem dX6_way_36 : decode cX6_way 36 = .ok (.ireturn, 1) := by decide +kernel
theorem dX6_allDocks_0 : decode cX6_allDocks 0 = .ok (.iconst 0, 1) := by decide +kernel
theorem dX6_allDocks_1 : decode cX6_allDocks 1 = .ok (.istore_n 1, 1) := by decide +kernel
theorem dX6_allDocks_2 : decode cX6_allDocks 2 = .ok (.iconst 0, 1) := by decide +kernel
theorem dX6_allDocks_3 : decode cX6_allDocks 3 = .ok (.istore_n 2, 1) := by decide +kernel
theorem dX6_allDocks_4 : decode cX6_allDocks 4 = .ok (.iload_n 2, 1) := by decide +kernel
theorem dX6_allDocks_5 : decode cX6_allDocks 5 = .ok (.aload_n 0, 1) := by decide +kernel
theorem dX6_allDocks_6 : decode cX6_allDocks 6 = .ok (.getfield 24, 3) := by decide +kernel
theorem dX6_allDocks_9 : decode cX6_allDocks 9 = .ok (.if_icmp .ge 18, 3) := by decide +kernel
theorem dX6_allDocks_12 : decode cX6_allDocks 12 = .ok (.iload_n 1, 1) := by decide +kernel
theorem dX6_allDocks_13 : decode cX6_allDocks 13 = .ok (.aload_n 0, 1) := by decide +kernel
theorem dX6_allDocks_14 : decode cX6_allDocks 14 = .ok (.getfield 15, 3) := by decide +kernel
theorem dX6_allDocks_17 : decode cX6_allDocks 17 = .ok (.iload_n 2, 1) := by decide +kernel
theorem dX6_allDocks_18 : decode cX6_allDocks 18 = .ok (.iaload, 1) := by decide +kernel
theorem dX6_allDocks_19 : decode cX6_allDocks 19 = .ok (.iadd, 1) := by decide +kernel
theorem dX6_allDocks_20 : decode cX6_allDocks 20 = .ok (.istore_n 1, 1) := by decide +kernel
theorem dX6_allDocks_21 : decode cX6_allDocks 21 = .ok (.iinc 2 1, 3) := by decide +kernel
theorem dX6_allDocks_24 : decode cX6_allDocks 24 = .ok (.goto (-20), 3) := by decide +kernel
theorem dX6_allDocks_27 : decode cX6_allDocks 27 = .ok (.iload_n 1, 1) := by decide +kernel
theorem dX6_allDocks_28 : decode cX6_allDocks 28 = .ok (.ireturn, 1) := by decide +kernel
set_option maxRecDepth 20000 in
theorem ggX7_init_X9_values : GoodIn wsX7_init wsX9_values := goodIn_r _ [13, 14, 15, 16, 17, 18, 19, 20] (by decide +kernel) (by decide +kernel)
set_option maxRecDepth 20000 in
theorem gX7_init_X9_values : GoodIn wsX7_init (va_wsS RX7 19 yX9_values wsX9_values) := goodIn_app (goodIn_of _ (by decide +kernel)) ggX7_init_X9_values
theorem dX7_init_0 : decode cX7_init 0 = .ok (.aload_n 0, 1) := by decide +kernel
theorem dX7_init_1 : decode cX7_init 1 = .ok (.invokespecial 3, 3) := by decide +kernel
theorem dX7_init_4 : decode cX7_init 4 = .ok (.aload_n 0, 1) := by decide +kernel
theorem dX7_init_5 : decode cX7_init 5 = .ok (.iconst (-1), 1) := by decide +kernel
theorem dX7_init_6 : decode cX7_init 6 = .ok (.putfield 11, 3) := by decide +kernel
theorem dX7_init_9 : decode cX7_init 9 = .ok (.aload_n 0, 1) := by decide +kernel
theorem dX7_init_10 : decode cX7_init 10 = .ok (.bipush 60, 2) := by decide +kernel
theorem dX7_init_12 : decode cX7_init 12 = .ok (.newarray .char, 2) := by decide +kernel
theorem dX7_init_14 : decode cX7_init 14 = .ok (.putfield 15, 3) := by decide +kernel
theorem dX7_init_17 : decode cX7_init 17 = .ok (.aload_n 0, 1) := by decide +kernel
theorem dX7_init_18 : decode cX7_init 18 = .ok (.invokestatic 19, 3) := by decide +kernel
theorem dX7_init_21 : decode cX7_init 21 = .ok (.putfield 25, 3) := by decide +kernel
theorem dX7_init_24 : decode cX7_init 24 = .ok (.aload_n 0, 1) := by decide +kernel
theorem dX7_init_25 : decode cX7_init 25 = .ok (.iconst 2, 1) := by decide +kernel
theorem dX7_init_26 : decode cX7_init 26 = .ok (.newarray .int, 2) := by decide +kernel
theorem dX7_init_28 : decode cX7_init 28 = .ok (.putfield 29, 3) := by decide +kernel
theorem dX7_init_31 : decode cX7_init 31 = .ok (.return_, 1) := by decide +kernel
theorem dX7_append_0 : decode cX7_append 0 = .ok (.iload_n 1, 1) := by decide +kernel
theorem dX7_append_1 : decode cX7_append 1 = .ok (.bipush 32, 2) := by decide +kernel
theorem dX7_append_3 : decode cX7_append 3 = .ok (.if_icmp .lt 9, 3) := by decide +kernel
theorem dX7_append_6 : decode cX7_append 6 = .ok (.iload_n 1, 1) := by decide +kernel
theorem dX7_append_7 : decode cX7_append 7 = .ok (.bipush 126, 2) := by decide +kernel
theorem dX7_append_9 : decode cX7_append 9 = .ok (.if_icmp .le 5, 3) := by decide +kernel
theorem dX7_append_12 : decode cX7_append 12 = .ok (.iconst (-1), 1) := by decide +kernel
theorem dX7_append_13 : decode cX7_append 13 = .ok (.ireturn, 1) := by decide +kernel
theorem dX7_append_14 : decode cX7_append 14 = .ok (.aload_n 0, 1) := by decide +kernel
theorem dX7_append_15 : decode cX7_append 15 = .ok (.getfield 33, 3) := by decide +kernel
theorem dX7_append_18 : decode cX7_append 18 = .ok (.bipush 60, 2) := by decide +kernel
theorem dX7_append_20 : decode cX7_append 20 = .ok (.if_icmp .lt 6, 3) := by decide +kernel
theorem dX7_append_23 : decode cX7_append 23 = .ok (.bipush (-3), 2) := by decide +kernel
theorem dX7_append_25 : decode cX7_append 25 = .ok (.ireturn, 1) := by decide +kernel
theorem dX7_append_26 : decode cX7_append 26 = .ok (.aload_n 0, 1) := by decide +kernel
theorem dX7_append_27 : decode cX7_append 27 = .ok (.getfield 15, 3) := by decide +kernel
theorem dX7_append_30 : decode cX7_append 30 = .ok (.aload_n 0, 1) := by decide +kernel
theorem dX7_append_31 : decode cX7_append 31 = .ok (.getfield 33, 3) := by decide +kernel
theorem dX7_append_34 : decode cX7_append 34 = .ok (.iload_n 1, 1) := by decide +kernel
theorem dX7_append_35 : decode cX7_append 35 = .ok (.i2c, 1) := by decide +kernel
theorem dX7_append_36 : decode cX7_append 36 = .ok (.castore, 1) := by decide +kernel
theorem dX7_append_37 : decode cX7_append 37 = .ok (.aload_n 0, 1) := by decide +kernel
theorem dX7_append_38 : decode cX7_append 38 = .ok (.dup, 1) := by decide +kernel
theorem dX7_append_39 : decode cX7_append 39 = .ok (.getfield 33, 3) := by decide +kernel
theorem dX7_append_42 : decode cX7_append 42 = .ok (.iconst 1, 1) := by decide +kernel
theorem dX7_append_43 : decode cX7_append 43 = .ok (.iadd, 1) := by decide +kernel
theorem dX7_append_44 : decode cX7_append 44 = .ok (.putfield 33, 3) := by decide +kernel
theorem dX7_append_47 : decode cX7_append 47 = .ok (.aload_n 0, 1) := by decide +kernel
theorem dX7_append_48 : decode cX7_append 48 = .ok (.getfield 33, 3) := by decide +kernel
theorem dX7_append_51 : decode cX7_append 51 = .ok (.ireturn, 1) := by decide +kernel
theorem dX7_empty_0 : decode cX7_empty 0 = .ok (.aload_n 0, 1) := by decide +kernel
theorem dX7_empty_1 : decode cX7_empty 1 = .ok (.getfield 33, 3) := by decide +kernel
theorem dX7_empty_4 : decode cX7_empty 4 = .ok (.istore_n 1, 1) := by decide +kernel
theorem dX7_empty_5 : decode cX7_empty 5 = .ok (.aload_n 0, 1) := by decide +kernel
theorem dX7_empty_6 : decode cX7_empty 6 = .ok (.iconst 0, 1) := by decide +kernel
theorem dX7_empty_7 : decode cX7_empty 7 = .ok (.putfield 33, 3) := by decide +kernel
theorem dX7_empty_10 : decode cX7_empty 10 = .ok (.iload_n 1, 1) := by decide +kernel
theorem dX7_empty_11 : decode cX7_empty 11 = .ok (.ireturn, 1) := by decide +kernel
theorem dX7_hasFault_0 : decode cX7_hasFault 0 = .ok (.aload_n 0, 1) := by decide +kernel
theorem dX7_hasFault_1 : decode cX7_hasFault 1 = .ok (.getfield 11, 3) := by decide +kernel
theorem dX7_hasFault_4 : decode cX7_hasFault 4 = .ok (.iconst (-1), 1) := by decide +kernel
theorem dX7_hasFault_5 : decode cX7_hasFault 5 = .ok (.if_icmp .eq 7, 3) := by decide +kernel
theorem dX7_hasFault_8 : decode cX7_hasFault 8 = .ok (.iconst 1, 1) := by decide +kernel
theorem dX7_hasFault_9 : decode cX7_hasFault 9 = .ok (.goto 4, 3) := by decide +kernel
theorem dX7_hasFault_12 : decode cX7_hasFault 12 = .ok (.iconst 0, 1) := by decide +kernel
theorem dX7_hasFault_13 : decode cX7_hasFault 13 = .ok (.ireturn, 1) := by decide +kernel
set_option maxRecDepth 20000 in
theorem ggX7_aboutFault_X7_hasFault : GoodIn wsX7_aboutFault wsX7_hasFault := goodIn_r _ [8, 2, 9, 10, 11, 12, 13, 14, 15, 16, 17] (by decide +kernel) (by decide +kernel)
set_option maxRecDepth 20000 in
theorem gX7_aboutFault_X7_hasFault : GoodIn wsX7_aboutFault (wsV RX7 36 RX7 yX7_hasFault wsX7_hasFault) := goodIn_app (goodIn_of _ (by decide +kernel)) ggX7_aboutFault_X7_hasFault
theorem dX7_aboutFault_0 : decode cX7_aboutFault 0 = .ok (.aload_n 0, 1) := by decide +kernel
theorem dX7_aboutFault_1 : decode cX7_aboutFault 1 = .ok (.invokevirtual 36, 3) := by decide +kernel
theorem dX7_aboutFault_4 : decode cX7_aboutFault 4 = .ok (.ifCond .eq 16, 3) := by decide +kernel
theorem dX7_aboutFault_7 : decode cX7_aboutFault 7 = .ok (.iload_n 1, 1) := by decide +kernel
theorem dX7_aboutFault_8 : decode cX7_aboutFault 8 = .ok (.iconst 2, 1) := by decide +kernel
theorem dX7_aboutFault_9 : decode cX7_aboutFault 9 = .ok (.if_icmp .ne 14, 3) := by decide +kernel
theorem dX7_aboutFault_12 : decode cX7_aboutFault 12 = .ok (.aload_n 0, 1) := by decide +kernel
theorem dX7_aboutFault_13 : decode cX7_aboutFault 13 = .ok (.getfield 40, 3) := by decide +kernel
theorem dX7_aboutFault_16 : decode cX7_aboutFault 16 = .ok (.iconst 1, 1) := by decide +kernel
theorem dX7_aboutFault_17 : decode cX7_aboutFault 17 = .ok (.if_icmp .ne 6, 3) := by decide +kernel
theorem dX7_aboutFault_20 : decode cX7_aboutFault 20 = .ok (.bipush (-4), 2) := by decide +kernel
theorem dX7_aboutFault_22 : decode cX7_aboutFault 22 = .ok (.ireturn, 1) := by decide +kernel
theorem dX7_aboutFault_23 : decode cX7_aboutFault 23 = .ok (.iload_n 1, 1) := by decide +kernel
theorem dX7_aboutFault_24 : decode cX7_aboutFault 24 = .ok (.lookupswitch 38 #[(0, 28), (1, 33)], 28) := by decide +kernel
theorem dX7_aboutFault_52 : decode cX7_aboutFault 52 = .ok (.aload_n 0, 1) := by decide +kernel
theorem dX7_aboutFault_53 : decode cX7_aboutFault 53 = .ok (.getfield 11, 3) := by decide +kernel
theorem dX7_aboutFault_56 : decode cX7_aboutFault 56 = .ok (.ireturn, 1) := by decide +kernel
theorem dX7_aboutFault_57 : decode cX7_aboutFault 57 = .ok (.aload_n 0, 1) := by decide +kernel
theorem dX7_aboutFault_58 : decode cX7_aboutFault 58 = .ok (.getfield 40, 3) := by decide +kernel
theorem dX7_aboutFault_61 : decode cX7_aboutFault 61 = .ok (.ireturn, 1) := by decide +kernel
theorem dX7_aboutFault_62 : decode cX7_aboutFault 62 = .ok (.aload_n 0, 1) := by decide +kernel
theorem dX7_aboutFault_63 : decode cX7_aboutFault 63 = .ok (.getfield 43, 3) := by decide +kernel
theorem dX7_aboutFault_66 : decode cX7_aboutFault 66 = .ok (.ireturn, 1) := by decide +kernel
set_option maxRecDepth 20000 in
theorem ggX7_tryOn_X7_hasFault : GoodIn wsX7_tryOn wsX7_hasFault := goodIn_r _ [12, 1, 292, 293, 294, 295, 296, 297, 298, 299, 300] (by decide +kernel) (by decide +kernel)
set_option maxRecDepth 20000 in
theorem gX7_tryOn_X7_hasFault : GoodIn wsX7_tryOn (wsV RX7 36 RX7 yX7_hasFault wsX7_hasFault) := goodIn_app (goodIn_of _ (by decide +kernel)) ggX7_tryOn_X7_hasFault
set_option maxRecDepth 20000 in
theorem ggX7_tryOn_X7_readCommand : GoodIn wsX7_tryOn wsX7_readCommand := goodIn_r _ [16, 17, 18, 19, 20, 11, 21, 22, 23, 2, 24, 25, 26, 27, 4, 28, 29, 30, 31, 32, 33, 34, 35, 36, 37, 38, 39, 40, 41, 42, 43, 44, 45, 46, 47, 48, 49, 50, 51, 52, 53, 54, 55, 56, 57, 58, 59, 60, 61, 62, 63, 64, 65, 66, 67, 68, 69, 70, 71, 72, 73, 74, 75, 76, 77, 78, 79, 80, 81, 5, 82, 83, 84, 85, 86, 87, 88, 89, 90, 91, 92, 93, 292, 293, 294, 295, 296, 297, 298, 299, 300] (by decide +kernel) (by decide +kernel)
set_option maxRecDepth 20000 in
theorem gX7_tryOn_X7_readCommand : GoodIn wsX7_tryOn (wsV RX7 52 RX7 yX7_readCommand wsX7_readCommand) := goodIn_app (goodIn_of _ (by decide +kernel)) ggX7_tryOn_X7_readCommand
set_option maxRecDepth 20000 in
theorem ggX7_tryOn_X9_doOn : GoodIn wsX7_tryOn wsX9_doOn := goodIn_r _ [98, 99, 100, 101, 102, 103, 104, 105, 106, 107, 108, 109, 110, 111, 112, 113, 114, 115, 116, 117, 118, 119, 120, 121, 122, 123, 124, 125, 126, 127, 128, 129, 130, 131, 132, 133, 134, 135, 136, 137, 138, 139, 140, 141, 142, 143, 144, 145, 146, 147, 148, 149, 150, 151, 152, 153, 154, 155, 156, 157, 158, 159, 160, 161, 162, 163, 164, 165, 166, 167, 168, 169, 170, 171, 172, 173, 174, 175, 176, 177, 178, 179, 180, 181, 182, 183, 184, 185, 186, 187, 188, 189, 190, 191, 192, 193, 194, 195, 196, 197, 198, 199, 200, 201, 202, 203, 204, 205, 206, 207, 208, 209, 210, 211, 212, 213, 214, 215, 216, 217, 218, 219, 220, 221, 222, 223, 224, 225, 226, 227, 228, 229, 230, 231, 232, 233, 234, 235, 236, 237, 238, 239, 240, 241, 242, 243, 244, 245, 246, 247, 248, 249, 250, 251, 252, 253, 254, 255, 256, 257, 258, 259, 260, 261, 262, 263, 264, 265, 266, 267, 268, 269, 270, 271, 272, 273, 274, 275, 276, 277, 278, 279, 280, 281, 282, 283, 284, 285, 286, 287, 288, 289, 290, 291, 301, 302, 303, 304, 305, 306, 307, 308, 309, 310, 311, 312, 313, 314, 315, 316, 317, 318, 319, 320, 321, 322, 323, 324, 325, 326, 327, 328, 329, 330, 331, 332] (by decide +kernel) (by decide +kernel)
set_option maxRecDepth 20000 in
theorem gX7_tryOn_X9_doOn : GoodIn wsX7_tryOn (wsV RX7 56 RX9 yX9_doOn wsX9_doOn) := goodIn_app (goodIn_of _ (by decide +kernel)) ggX7_tryOn_X9_doOn
theorem dX7_tryOn_0 : decode cX7_tryOn 0 = .ok (.aload_n 0, 1) := by decide +kernel
theorem dX7_tryOn_1 : decode cX7_tryOn 1 = .ok (.iconst (-1), 1) := by decide +kernel
theorem dX7_tryOn_2 : decode cX7_tryOn 2 = .ok (.putfield 11, 3) := by decide +kernel
theorem dX7_tryOn_5 : decode cX7_tryOn 5 = .ok (.aload_n 0, 1) := by decide +kernel
theorem dX7_tryOn_6 : decode cX7_tryOn 6 = .ok (.iconst 0, 1) := by decide +kernel
theorem dX7_tryOn_7 : decode cX7_tryOn 7 = .ok (.putfield 46, 3) := by decide +kernel
theorem dX7_tryOn_10 : decode cX7_tryOn 10 = .ok (.aload_n 0, 1) := by decide +kernel
theorem dX7_tryOn_11 : decode cX7_tryOn 11 = .ok (.iconst 0, 1) := by decide +kernel
theorem dX7_tryOn_12 : decode cX7_tryOn 12 = .ok (.putfield 49, 3) := by decide +kernel
theorem dX7_tryOn_15 : decode cX7_tryOn 15 = .ok (.aload_n 0, 1) := by decide +kernel
theorem dX7_tryOn_16 : decode cX7_tryOn 16 = .ok (.getfield 49, 3) := by decide +kernel
theorem dX7_tryOn_19 : decode cX7_tryOn 19 = .ok (.bipush 60, 2) := by decide +kernel
theorem dX7_tryOn_21 : decode cX7_tryOn 21 = .ok (.if_icmp .ge 104, 3) := by decide +kernel
theorem dX7_tryOn_24 : decode cX7_tryOn 24 = .ok (.aload_n 0, 1) := by decide +kernel
theorem dX7_tryOn_25 : decode cX7_tryOn 25 = .ok (.getfield 46, 3) := by decide +kernel
theorem dX7_tryOn_28 : decode cX7_tryOn 28 = .ok (.aload_n 0, 1) := by decide +kernel
theorem dX7_tryOn_29 : decode cX7_tryOn 29 = .ok (.getfield 33, 3) := by decide +kernel
theorem dX7_tryOn_32 : decode cX7_tryOn 32 = .ok (.if_icmp .ge 93, 3) := by decide +kernel
theorem dX7_tryOn_35 : decode cX7_tryOn 35 = .ok (.aload_n 0, 1) := by decide +kernel
theorem dX7_tryOn_36 : decode cX7_tryOn 36 = .ok (.invokevirtual 36, 3) := by decide +kernel
theorem dX7_tryOn_39 : decode cX7_tryOn 39 = .ok (.ifCond .ne 86, 3) := by decide +kernel
theorem dX7_tryOn_42 : decode cX7_tryOn 42 = .ok (.aload_n 0, 1) := by decide +kernel
theorem dX7_tryOn_43 : decode cX7_tryOn 43 = .ok (.getfield 46, 3) := by decide +kernel
theorem dX7_tryOn_46 : decode cX7_tryOn 46 = .ok (.istore_n 2, 1) := by decide +kernel
theorem dX7_tryOn_47 : decode cX7_tryOn 47 = .ok (.aload_n 0, 1) := by decide +kernel
theorem dX7_tryOn_48 : decode cX7_tryOn 48 = .ok (.invokevirtual 52, 3) := by decide +kernel
theorem dX7_tryOn_51 : decode cX7_tryOn 51 = .ok (.astore_n 3, 1) := by decide +kernel
theorem dX7_tryOn_52 : decode cX7_tryOn 52 = .ok (.aload_n 3, 1) := by decide +kernel
theorem dX7_tryOn_53 : decode cX7_tryOn 53 = .ok (.ifnonnull 7, 3) := by decide +kernel
theorem dX7_tryOn_56 : decode cX7_tryOn 56 = .ok (.iconst 0, 1) := by decide +kernel
theorem dX7_tryOn_57 : decode cX7_tryOn 57 = .ok (.goto 20, 3) := by decide +kernel
theorem dX7_tryOn_60 : decode cX7_tryOn 60 = .ok (.aload_n 3, 1) := by decide +kernel
theorem dX7_tryOn_61 : decode cX7_tryOn 61 = .ok (.aload_n 1, 1) := by decide +kernel
theorem dX7_tryOn_62 : decode cX7_tryOn 62 = .ok (.aload_n 0, 1) := by decide +kernel
theorem dX7_tryOn_63 : decode cX7_tryOn 63 = .ok (.getfield 29, 3) := by decide +kernel
theorem dX7_tryOn_66 : decode cX7_tryOn 66 = .ok (.iconst 0, 1) := by decide +kernel
theorem dX7_tryOn_67 : decode cX7_tryOn 67 = .ok (.iaload, 1) := by decide +kernel
theorem dX7_tryOn_68 : decode cX7_tryOn 68 = .ok (.aload_n 0, 1) := by decide +kernel
theorem dX7_tryOn_69 : decode cX7_tryOn 69 = .ok (.getfield 29, 3) := by decide +kernel
theorem dX7_tryOn_72 : decode cX7_tryOn 72 = .ok (.iconst 1, 1) := by decide +kernel
theorem dX7_tryOn_73 : decode cX7_tryOn 73 = .ok (.iaload, 1) := by decide +kernel
theorem dX7_tryOn_74 : decode cX7_tryOn 74 = .ok (.invokevirtual 56, 3) := by decide +kernel
theorem dX7_tryOn_77 : decode cX7_tryOn 77 = .ok (.istore 4, 2) := by decide +kernel
theorem dX7_tryOn_79 : decode cX7_tryOn 79 = .ok (.aload_n 3, 1) := by decide +kernel
theorem dX7_tryOn_80 : decode cX7_tryOn 80 = .ok (.ifnull 8, 3) := by decide +kernel
theorem dX7_tryOn_83 : decode cX7_tryOn 83 = .ok (.iload 4, 2) := by decide +kernel
theorem dX7_tryOn_85 : decode cX7_tryOn 85 = .ok (.ifCond .ge 27, 3) := by decide +kernel
theorem dX7_tryOn_88 : decode cX7_tryOn 88 = .ok (.aload_n 0, 1) := by decide +kernel
theorem dX7_tryOn_89 : decode cX7_tryOn 89 = .ok (.iload_n 2, 1) := by decide +kernel
theorem dX7_tryOn_90 : decode cX7_tryOn 90 = .ok (.putfield 11, 3) := by decide +kernel
theorem dX7_tryOn_93 : decode cX7_tryOn 93 = .ok (.aload_n 0, 1) := by decide +kernel
theorem dX7_tryOn_94 : decode cX7_tryOn 94 = .ok (.aload_n 3, 1) := by decide +kernel
theorem dX7_tryOn_95 : decode cX7_tryOn 95 = .ok (.ifnonnull 7, 3) := by decide +kernel
theorem dX7_tryOn_98 : decode cX7_tryOn 98 = .ok (.iconst 1, 1) := by decide +kernel
theorem dX7_tryOn_99 : decode cX7_tryOn 99 = .ok (.goto 4, 3) := by decide +kernel
theorem dX7_tryOn_102 : decode cX7_tryOn 102 = .ok (.iconst 2, 1) := by decide +kernel
theorem dX7_tryOn_103 : decode cX7_tryOn 103 = .ok (.putfield 40, 3) := by decide +kernel
theorem dX7_tryOn_106 : decode cX7_tryOn 106 = .ok (.aload_n 0, 1) := by decide +kernel
theorem dX7_tryOn_107 : decode cX7_tryOn 107 = .ok (.iload 4, 2) := by decide +kernel
theorem dX7_tryOn_109 : decode cX7_tryOn 109 = .ok (.putfield 43, 3) := by decide +kernel
theorem dX7_tryOn_112 : decode cX7_tryOn 112 = .ok (.aload_n 0, 1) := by decide +kernel
theorem dX7_tryOn_113 : decode cX7_tryOn 113 = .ok (.dup, 1) := by decide +kernel
theorem dX7_tryOn_114 : decode cX7_tryOn 114 = .ok (.getfield 49, 3) := by decide +kernel
theorem dX7_tryOn_117 : decode cX7_tryOn 117 = .ok (.iconst 1, 1) := by decide +kernel
theorem dX7_tryOn_118 : decode cX7_tryOn 118 = .ok (.iadd, 1) := by decide +kernel
theorem dX7_tryOn_119 : decode cX7_tryOn 119 = .ok (.putfield 49, 3) := by decide +kernel
theorem dX7_tryOn_122 : decode cX7_tryOn 122 = .ok (.goto (-107), 3) := by decide +kernel
theorem dX7_tryOn_125 : decode cX7_tryOn 125 = .ok (.return_, 1) := by decide +kernel
set_option maxRecDepth 20000 in
theorem ggX7_readCommand_X7_readVerb : GoodIn wsX7_readCommand wsX7_readVerb := goodIn_r _ [6, 7, 8, 9, 10, 11, 12, 5, 13, 14, 15, 16, 17, 18, 19, 20, 21, 22, 23, 24, 25, 26, 27, 28, 29, 30, 31, 32, 33, 34, 35, 36, 37, 38, 39, 40, 41, 42, 43, 44, 45, 46, 47, 48, 49, 50, 51, 52, 53, 54, 55, 56, 57, 58, 59, 60, 61, 62, 63, 64, 82, 83, 84, 85, 86, 87, 88, 89, 90] (by decide +kernel) (by decide +kernel)
set_option maxRecDepth 20000 in
theorem gX7_readCommand_X7_readVerb : GoodIn wsX7_readCommand (wsV RX7 60 RX7 yX7_readVerb wsX7_readVerb) := goodIn_app (goodIn_of _ (by decide +kernel)) ggX7_readCommand_X7_readVerb
set_option maxRecDepth 20000 in
theorem ggX7_readCommand_X7_readNumbers : GoodIn wsX7_readCommand wsX7_readNumbers := goodIn_r _ [68, 69, 70, 71, 72, 5, 73, 9, 14, 15, 74, 75, 76, 77, 78, 79, 80, 81, 82, 83, 84, 85, 86, 87, 88, 89, 90] (by decide +kernel) (by decide +kernel)
set_option maxRecDepth 20000 in
theorem gX7_readCommand_X7_readNumbers : GoodIn wsX7_readCommand (wsV RX7 65 RX7 yX7_readNumbers wsX7_readNumbers) := goodIn_app (goodIn_of _ (by decide +kernel)) ggX7_readCommand_X7_readNumbers
set_option maxRecDepth 20000 in
theorem ggX7_readCommand_X7_readSign : GoodIn wsX7_readCommand wsX7_readSign := goodIn_r _ [73, 9, 14, 15, 82, 83, 84, 85, 86, 87, 88, 89, 90] (by decide +kernel) (by decide +kernel)
set_option maxRecDepth 20000 in
theorem gX7_readCommand_X7_readSign : GoodIn wsX7_readCommand (wsV RX7 69 RX7 yX7_readSign wsX7_readSign) := goodIn_app (goodIn_of _ (by decide +kernel)) ggX7_readCommand_X7_readSign
theorem dX7_readCommand_0 : decode cX7_readCommand 0 = .ok (.aload_n 0, 1) := by decide +kernel
theorem dX7_readCommand_1 : decode cX7_readCommand 1 = .ok (.invokevirtual 60, 3) := by decide +kernel
theorem dX7_readCommand_4 : decode cX7_readCommand 4 = .ok (.astore_n 1, 1) := by decide +kernel
theorem dX7_readCommand_5 : decode cX7_readCommand 5 = .ok (.aload_n 1, 1) := by decide +kernel
theorem dX7_readCommand_6 : decode cX7_readCommand 6 = .ok (.ifnull 27, 3) := by decide +kernel
theorem dX7_readCommand_9 : decode cX7_readCommand 9 = .ok (.aload_n 0, 1) := by decide +kernel
theorem dX7_readCommand_10 : decode cX7_readCommand 10 = .ok (.aload_n 1, 1) := by decide +kernel
theorem dX7_readCommand_11 : decode cX7_readCommand 11 = .ok (.getfield 63, 3) := by decide +kernel
theorem dX7_readCommand_14 : decode cX7_readCommand 14 = .ok (.invokevirtual 65, 3) := by decide +kernel
theorem dX7_readCommand_17 : decode cX7_readCommand 17 = .ok (.ifCond .eq 16, 3) := by decide +kernel
theorem dX7_readCommand_20 : decode cX7_readCommand 20 = .ok (.aload_n 0, 1) := by decide +kernel
theorem dX7_readCommand_21 : decode cX7_readCommand 21 = .ok (.bipush 59, 2) := by decide +kernel
theorem dX7_readCommand_23 : decode cX7_readCommand 23 = .ok (.invokevirtual 69, 3) := by decide +kernel
theorem dX7_readCommand_26 : decode cX7_readCommand 26 = .ok (.ifCond .eq 7, 3) := by decide +kernel
theorem dX7_readCommand_29 : decode cX7_readCommand 29 = .ok (.iconst 1, 1) := by decide +kernel
theorem dX7_readCommand_30 : decode cX7_readCommand 30 = .ok (.goto 4, 3) := by decide +kernel
theorem dX7_readCommand_33 : decode cX7_readCommand 33 = .ok (.iconst 0, 1) := by decide +kernel
theorem dX7_readCommand_34 : decode cX7_readCommand 34 = .ok (.istore_n 2, 1) := by decide +kernel
theorem dX7_readCommand_35 : decode cX7_readCommand 35 = .ok (.iload_n 2, 1) := by decide +kernel
theorem dX7_readCommand_36 : decode cX7_readCommand 36 = .ok (.ifCond .eq 7, 3) := by decide +kernel
theorem dX7_readCommand_39 : decode cX7_readCommand 39 = .ok (.aload_n 1, 1) := by decide +kernel
theorem dX7_readCommand_40 : decode cX7_readCommand 40 = .ok (.goto 4, 3) := by decide +kernel
theorem dX7_readCommand_43 : decode cX7_readCommand 43 = .ok (.aconst_null, 1) := by decide +kernel
theorem dX7_readCommand_44 : decode cX7_readCommand 44 = .ok (.areturn, 1) := by decide +kernel
set_option maxRecDepth 20000 in
theorem ggX7_readVerb_X7_isAhead : GoodIn wsX7_readVerb wsX7_isAhead := goodIn_r _ [8, 3, 9, 10, 11, 12, 13, 14, 15, 16, 17, 18, 19, 20, 21, 22, 23, 24, 25, 26, 27, 28, 29, 30, 31, 32, 33, 34, 35, 36, 37, 38, 39, 40, 41, 42, 43, 44, 45, 46, 47, 48, 49, 50, 51, 52, 53, 54, 55, 56, 57, 58, 59, 60, 61, 62, 63, 64, 65, 66, 67, 68] (by decide +kernel) (by decide +kernel)
set_option maxRecDepth 20000 in
theorem gX7_readVerb_X7_isAhead : GoodIn wsX7_readVerb (wsV RX7 77 RX7 yX7_isAhead wsX7_isAhead) := goodIn_app (goodIn_of _ (by decide +kernel)) ggX7_readVerb_X7_isAhead
set_option maxRecDepth 20000 in
theorem ggX7_readVerb_J0_length_8abf5 : GoodIn wsX7_readVerb wsJ0_length_8abf5 := goodIn_r _ [15, 16, 17, 18, 19, 14, 20, 21, 22] (by decide +kernel) (by decide +kernel)
set_option maxRecDepth 20000 in
theorem gX7_readVerb_J0_length_8abf5 : GoodIn wsX7_readVerb (wsV RX7 81 RJ0 yJ0_length_8abf5 wsJ0_length_8abf5) := goodIn_app (goodIn_of _ (by decide +kernel)) ggX7_readVerb_J0_length_8abf5
theorem dX7_readVerb_0 : decode cX7_readVerb 0 = .ok (.aload_n 0, 1) := by decide +kernel
theorem dX7_readVerb_1 : decode cX7_readVerb 1 = .ok (.getfield 25, 3) := by decide +kernel
theorem dX7_readVerb_4 : decode cX7_readVerb 4 = .ok (.astore_n 1, 1) := by decide +kernel
theorem dX7_readVerb_5 : decode cX7_readVerb 5 = .ok (.aload_n 1, 1) := by decide +kernel
theorem dX7_readVerb_6 : decode cX7_readVerb 6 = .ok (.arraylength, 1) := by decide +kernel
theorem dX7_readVerb_7 : decode cX7_readVerb 7 = .ok (.istore_n 2, 1) := by decide +kernel
theorem dX7_readVerb_8 : decode cX7_readVerb 8 = .ok (.iconst 0, 1) := by decide +kernel
theorem dX7_readVerb_9 : decode cX7_readVerb 9 = .ok (.istore_n 3, 1) := by decide +kernel
theorem dX7_readVerb_10 : decode cX7_readVerb 10 = .ok (.iload_n 3, 1) := by decide +kernel
theorem dX7_readVerb_11 : decode cX7_readVerb 11 = .ok (.iload_n 2, 1) := by decide +kernel
theorem dX7_readVerb_12 : decode cX7_readVerb 12 = .ok (.if_icmp .ge 51, 3) := by decide +kernel
theorem dX7_readVerb_15 : decode cX7_readVerb 15 = .ok (.aload_n 1, 1) := by decide +kernel
theorem dX7_readVerb_16 : decode cX7_readVerb 16 = .ok (.iload_n 3, 1) := by decide +kernel
theorem dX7_readVerb_17 : decode cX7_readVerb 17 = .ok (.aaload, 1) := by decide +kernel
theorem dX7_readVerb_18 : decode cX7_readVerb 18 = .ok (.astore 4, 2) := by decide +kernel
theorem dX7_readVerb_20 : decode cX7_readVerb 20 = .ok (.aload 4, 2) := by decide +kernel
theorem dX7_readVerb_22 : decode cX7_readVerb 22 = .ok (.ifnull 35, 3) := by decide +kernel
theorem dX7_readVerb_25 : decode cX7_readVerb 25 = .ok (.aload_n 0, 1) := by decide +kernel
theorem dX7_readVerb_26 : decode cX7_readVerb 26 = .ok (.aload 4, 2) := by decide +kernel
theorem dX7_readVerb_28 : decode cX7_readVerb 28 = .ok (.getfield 73, 3) := by decide +kernel
theorem dX7_readVerb_31 : decode cX7_readVerb 31 = .ok (.invokevirtual 77, 3) := by decide +kernel
theorem dX7_readVerb_34 : decode cX7_readVerb 34 = .ok (.ifCond .eq 23, 3) := by decide +kernel
theorem dX7_readVerb_37 : decode cX7_readVerb 37 = .ok (.aload_n 0, 1) := by decide +kernel
theorem dX7_readVerb_38 : decode cX7_readVerb 38 = .ok (.dup, 1) := by decide +kernel
theorem dX7_readVerb_39 : decode cX7_readVerb 39 = .ok (.getfield 46, 3) := by decide +kernel
theorem dX7_readVerb_42 : decode cX7_readVerb 42 = .ok (.aload 4, 2) := by decide +kernel
theorem dX7_readVerb_44 : decode cX7_readVerb 44 = .ok (.getfield 73, 3) := by decide +kernel
theorem dX7_readVerb_47 : decode cX7_readVerb 47 = .ok (.invokevirtual 81, 3) := by decide +kernel
theorem dX7_readVerb_50 : decode cX7_readVerb 50 = .ok (.iadd, 1) := by decide +kernel
theorem dX7_readVerb_51 : decode cX7_readVerb 51 = .ok (.putfield 46, 3) := by decide +kernel
theorem dX7_readVerb_54 : decode cX7_readVerb 54 = .ok (.aload 4, 2) := by decide +kernel
theorem dX7_readVerb_56 : decode cX7_readVerb 56 = .ok (.areturn, 1) := by decide +kernel
theorem dX7_readVerb_57 : decode cX7_readVerb 57 = .ok (.iinc 3 1, 3) := by decide +kernel
theorem dX7_readVerb_60 : decode cX7_readVerb 60 = .ok (.goto (-50), 3) := by decide +kernel
theorem dX7_readVerb_63 : decode cX7_readVerb 63 = .ok (.aconst_null, 1) := by decide +kernel
theorem dX7_readVerb_64 : decode cX7_readVerb 64 = .ok (.areturn, 1) := by decide +kernel
set_option maxRecDepth 20000 in
theorem ggX7_isAhead_J0_length_8abf5 : GoodIn wsX7_isAhead wsJ0_length_8abf5 := goodIn_r _ [8, 9, 10, 11, 12, 7, 13, 14, 15] (by decide +kernel) (by decide +kernel)
set_option maxRecDepth 20000 in
theorem gX7_isAhead_J0_length_8abf5 : GoodIn wsX7_isAhead (wsV RX7 81 RJ0 yJ0_length_8abf5 wsJ0_length_8abf5) := goodIn_app (goodIn_of _ (by decide +kernel)) ggX7_isAhead_J0_length_8abf5
set_option maxRecDepth 20000 in
theorem ggX7_isAhead_J0_charAt_5068e : GoodIn wsX7_isAhead wsJ0_charAt_5068e := goodIn_r _ [19, 9, 20, 21, 22, 7, 23, 14, 15, 24, 25, 26, 27, 28, 29, 30, 31, 32, 33, 34, 35, 36, 37, 38, 39, 40, 41, 42, 43, 44, 45, 46, 47, 48, 49, 50, 51, 52] (by decide +kernel) (by decide +kernel)
set_option maxRecDepth 20000 in
theorem gX7_isAhead_J0_charAt_5068e : GoodIn wsX7_isAhead (wsV RX7 86 RJ0 yJ0_charAt_5068e wsJ0_charAt_5068e) := goodIn_app (goodIn_of _ (by decide +kernel)) ggX7_isAhead_J0_charAt_5068e
theorem dX7_isAhead_0 : decode cX7_isAhead 0 = .ok (.aload_n 0, 1) := by decide +kernel
theorem dX7_isAhead_1 : decode cX7_isAhead 1 = .ok (.getfield 46, 3) := by decide +kernel
theorem dX7_isAhead_4 : decode cX7_isAhead 4 = .ok (.aload_n 1, 1) := by decide +kernel
theorem dX7_isAhead_5 : decode cX7_isAhead 5 = .ok (.invokevirtual 81, 3) := by decide +kernel
theorem dX7_isAhead_8 : decode cX7_isAhead 8 = .ok (.iadd, 1) := by decide +kernel
theorem dX7_isAhead_9 : decode cX7_isAhead 9 = .ok (.aload_n 0, 1) := by decide +kernel
theorem dX7_isAhead_10 : decode cX7_isAhead 10 = .ok (.getfield 33, 3) := by decide +kernel
theorem dX7_isAhead_13 : decode cX7_isAhead 13 = .ok (.if_icmp .le 5, 3) := by decide +kernel
theorem dX7_isAhead_16 : decode cX7_isAhead 16 = .ok (.iconst 0, 1) := by decide +kernel
theorem dX7_isAhead_17 : decode cX7_isAhead 17 = .ok (.ireturn, 1) := by decide +kernel
theorem dX7_isAhead_18 : decode cX7_isAhead 18 = .ok (.iconst 0, 1) := by decide +kernel
theorem dX7_isAhead_19 : decode cX7_isAhead 19 = .ok (.istore_n 2, 1) := by decide +kernel
theorem dX7_isAhead_20 : decode cX7_isAhead 20 = .ok (.iload_n 2, 1) := by decide +kernel
theorem dX7_isAhead_21 : decode cX7_isAhead 21 = .ok (.aload_n 1, 1) := by decide +kernel
theorem dX7_isAhead_22 : decode cX7_isAhead 22 = .ok (.invokevirtual 81, 3) := by decide +kernel
theorem dX7_isAhead_25 : decode cX7_isAhead 25 = .ok (.if_icmp .ge 30, 3) := by decide +kernel
theorem dX7_isAhead_28 : decode cX7_isAhead 28 = .ok (.aload_n 0, 1) := by decide +kernel
theorem dX7_isAhead_29 : decode cX7_isAhead 29 = .ok (.getfield 15, 3) := by decide +kernel
theorem dX7_isAhead_32 : decode cX7_isAhead 32 = .ok (.aload_n 0, 1) := by decide +kernel
theorem dX7_isAhead_33 : decode cX7_isAhead 33 = .ok (.getfield 46, 3) := by decide +kernel
theorem dX7_isAhead_36 : decode cX7_isAhead 36 = .ok (.iload_n 2, 1) := by decide +kernel
theorem dX7_isAhead_37 : decode cX7_isAhead 37 = .ok (.iadd, 1) := by decide +kernel
theorem dX7_isAhead_38 : decode cX7_isAhead 38 = .ok (.caload, 1) := by decide +kernel
theorem dX7_isAhead_39 : decode cX7_isAhead 39 = .ok (.aload_n 1, 1) := by decide +kernel
theorem dX7_isAhead_40 : decode cX7_isAhead 40 = .ok (.iload_n 2, 1) := by decide +kernel
theorem dX7_isAhead_41 : decode cX7_isAhead 41 = .ok (.invokevirtual 86, 3) := by decide +kernel
theorem dX7_isAhead_44 : decode cX7_isAhead 44 = .ok (.if_icmp .eq 5, 3) := by decide +kernel
theorem dX7_isAhead_47 : decode cX7_isAhead 47 = .ok (.iconst 0, 1) := by decide +kernel
theorem dX7_isAhead_48 : decode cX7_isAhead 48 = .ok (.ireturn, 1) := by decide +kernel
theorem dX7_isAhead_49 : decode cX7_isAhead 49 = .ok (.iinc 2 1, 3) := by decide +kernel
theorem dX7_isAhead_52 : decode cX7_isAhead 52 = .ok (.goto (-32), 3) := by decide +kernel
theorem dX7_isAhead_55 : decode cX7_isAhead 55 = .ok (.iconst 1, 1) := by decide +kernel
theorem dX7_isAhead_56 : decode cX7_isAhead 56 = .ok (.ireturn, 1) := by decide +kernel
set_option maxRecDepth 20000 in
theorem ggX7_readNumbers_X7_readSign : GoodIn wsX7_readNumbers wsX7_readSign := goodIn_r _ [6, 7, 8, 9, 18, 19, 20, 21, 22, 23, 24, 25, 26] (by decide +kernel) (by decide +kernel)
set_option maxRecDepth 20000 in
theorem gX7_readNumbers_X7_readSign : GoodIn wsX7_readNumbers (wsV RX7 69 RX7 yX7_readSign wsX7_readSign) := goodIn_app (goodIn_of _ (by decide +kernel)) ggX7_readNumbers_X7_readSign
set_option maxRecDepth 20000 in
theorem ggX7_readNumbers_X7_isDigitAhead : GoodIn wsX7_readNumbers wsX7_isDigitAhead := goodIn_r _ [13, 7, 8, 9, 18, 19, 20, 21, 22, 23, 24, 25, 26] (by decide +kernel) (by decide +kernel)
set_option maxRecDepth 20000 in
theorem gX7_readNumbers_X7_isDigitAhead : GoodIn wsX7_readNumbers (wsV RX7 90 RX7 yX7_isDigitAhead wsX7_isDigitAhead) := goodIn_app (goodIn_of _ (by decide +kernel)) ggX7_readNumbers_X7_isDigitAhead
set_option maxRecDepth 20000 in
theorem ggX7_readNumbers_X7_readNumber : GoodIn wsX7_readNumbers wsX7_readNumber := goodIn_r _ [17, 9, 7, 10, 11, 12, 5, 13, 8, 18, 19, 20, 21, 22, 23, 24, 25, 26] (by decide +kernel) (by decide +kernel)
set_option maxRecDepth 20000 in
theorem gX7_readNumbers_X7_readNumber : GoodIn wsX7_readNumbers (wsV RX7 93 RX7 yX7_readNumber wsX7_readNumber) := goodIn_app (goodIn_of _ (by decide +kernel)) ggX7_readNumbers_X7_readNumber
theorem dX7_readNumbers_0 : decode cX7_readNumbers 0 = .ok (.iconst 0, 1) := by decide +kernel
theorem dX7_readNumbers_1 : decode cX7_readNumbers 1 = .ok (.istore_n 2, 1) := by decide +kernel
theorem dX7_readNumbers_2 : decode cX7_readNumbers 2 = .ok (.iload_n 2, 1) := by decide +kernel
theorem dX7_readNumbers_3 : decode cX7_readNumbers 3 = .ok (.iload_n 1, 1) := by decide +kernel
theorem dX7_readNumbers_4 : decode cX7_readNumbers 4 = .ok (.if_icmp .ge 46, 3) := by decide +kernel
theorem dX7_readNumbers_7 : decode cX7_readNumbers 7 = .ok (.iload_n 2, 1) := by decide +kernel
theorem dX7_readNumbers_8 : decode cX7_readNumbers 8 = .ok (.aload_n 0, 1) := by decide +kernel
theorem dX7_readNumbers_9 : decode cX7_readNumbers 9 = .ok (.getfield 29, 3) := by decide +kernel
theorem dX7_readNumbers_12 : decode cX7_readNumbers 12 = .ok (.arraylength, 1) := by decide +kernel
theorem dX7_readNumbers_13 : decode cX7_readNumbers 13 = .ok (.if_icmp .ge 37, 3) := by decide +kernel
theorem dX7_readNumbers_16 : decode cX7_readNumbers 16 = .ok (.aload_n 0, 1) := by decide +kernel
theorem dX7_readNumbers_17 : decode cX7_readNumbers 17 = .ok (.bipush 32, 2) := by decide +kernel
theorem dX7_readNumbers_19 : decode cX7_readNumbers 19 = .ok (.invokevirtual 69, 3) := by decide +kernel
theorem dX7_readNumbers_22 : decode cX7_readNumbers 22 = .ok (.ifCond .eq 10, 3) := by decide +kernel
theorem dX7_readNumbers_25 : decode cX7_readNumbers 25 = .ok (.aload_n 0, 1) := by decide +kernel
theorem dX7_readNumbers_26 : decode cX7_readNumbers 26 = .ok (.invokevirtual 90, 3) := by decide +kernel
theorem dX7_readNumbers_29 : decode cX7_readNumbers 29 = .ok (.ifCond .ne 5, 3) := by decide +kernel
theorem dX7_readNumbers_32 : decode cX7_readNumbers 32 = .ok (.iconst 0, 1) := by decide +kernel
theorem dX7_readNumbers_33 : decode cX7_readNumbers 33 = .ok (.ireturn, 1) := by decide +kernel
theorem dX7_readNumbers_34 : decode cX7_readNumbers 34 = .ok (.aload_n 0, 1) := by decide +kernel
theorem dX7_readNumbers_35 : decode cX7_readNumbers 35 = .ok (.getfield 29, 3) := by decide +kernel
theorem dX7_readNumbers_38 : decode cX7_readNumbers 38 = .ok (.iload_n 2, 1) := by decide +kernel
theorem dX7_readNumbers_39 : decode cX7_readNumbers 39 = .ok (.aload_n 0, 1) := by decide +kernel
theorem dX7_readNumbers_40 : decode cX7_readNumbers 40 = .ok (.invokevirtual 93, 3) := by decide +kernel
theorem dX7_readNumbers_43 : decode cX7_readNumbers 43 = .ok (.iastore, 1) := by decide +kernel
theorem dX7_readNumbers_44 : decode cX7_readNumbers 44 = .ok (.iinc 2 1, 3) := by decide +kernel
theorem dX7_readNumbers_47 : decode cX7_readNumbers 47 = .ok (.goto (-45), 3) := by decide +kernel
theorem dX7_readNumbers_50 : decode cX7_readNumbers 50 = .ok (.iconst 1, 1) := by decide +kernel
theorem dX7_readNumbers_51 : decode cX7_readNumbers 51 = .ok (.ireturn, 1) := by decide +kernel
set_option maxRecDepth 20000 in
theorem ggX7_readNumber_X7_isDigitAhead : GoodIn wsX7_readNumber wsX7_isDigitAhead := goodIn_r _ [7, 2, 8, 1, 9, 10, 11, 12, 13, 14, 15, 16, 17] (by decide +kernel) (by decide +kernel)
set_option maxRecDepth 20000 in
theorem gX7_readNumber_X7_isDigitAhead : GoodIn wsX7_readNumber (wsV RX7 90 RX7 yX7_isDigitAhead wsX7_isDigitAhead) := goodIn_app (goodIn_of _ (by decide +kernel)) ggX7_readNumber_X7_isDigitAhead
theorem dX7_readNumber_0 : decode cX7_readNumber 0 = .ok (.iconst 0, 1) := by decide +kernel
theorem dX7_readNumber_1 : decode cX7_readNumber 1 = .ok (.istore_n 1, 1) := by decide +kernel
theorem dX7_readNumber_2 : decode cX7_readNumber 2 = .ok (.iconst 0, 1) := by decide +kernel
theorem dX7_readNumber_3 : decode cX7_readNumber 3 = .ok (.istore_n 2, 1) := by decide +kernel
theorem dX7_readNumber_4 : decode cX7_readNumber 4 = .ok (.iload_n 2, 1) := by decide +kernel
theorem dX7_readNumber_5 : decode cX7_readNumber 5 = .ok (.iconst 3, 1) := by decide +kernel
theorem dX7_readNumber_6 : decode cX7_readNumber 6 = .ok (.if_icmp .ge 44, 3) := by decide +kernel
theorem dX7_readNumber_9 : decode cX7_readNumber 9 = .ok (.aload_n 0, 1) := by decide +kernel
theorem dX7_readNumber_10 : decode cX7_readNumber 10 = .ok (.invokevirtual 90, 3) := by decide +kernel
theorem dX7_readNumber_13 : decode cX7_readNumber 13 = .ok (.ifCond .eq 37, 3) := by decide +kernel
theorem dX7_readNumber_16 : decode cX7_readNumber 16 = .ok (.iload_n 1, 1) := by decide +kernel
theorem dX7_readNumber_17 : decode cX7_readNumber 17 = .ok (.bipush 10, 2) := by decide +kernel
theorem dX7_readNumber_19 : decode cX7_readNumber 19 = .ok (.imul, 1) := by decide +kernel
theorem dX7_readNumber_20 : decode cX7_readNumber 20 = .ok (.aload_n 0, 1) := by decide +kernel
theorem dX7_readNumber_21 : decode cX7_readNumber 21 = .ok (.getfield 15, 3) := by decide +kernel
theorem dX7_readNumber_24 : decode cX7_readNumber 24 = .ok (.aload_n 0, 1) := by decide +kernel
theorem dX7_readNumber_25 : decode cX7_readNumber 25 = .ok (.getfield 46, 3) := by decide +kernel
theorem dX7_readNumber_28 : decode cX7_readNumber 28 = .ok (.caload, 1) := by decide +kernel
theorem dX7_readNumber_29 : decode cX7_readNumber 29 = .ok (.iadd, 1) := by decide +kernel
theorem dX7_readNumber_30 : decode cX7_readNumber 30 = .ok (.bipush 48, 2) := by decide +kernel
theorem dX7_readNumber_32 : decode cX7_readNumber 32 = .ok (.isub, 1) := by decide +kernel
theorem dX7_readNumber_33 : decode cX7_readNumber 33 = .ok (.istore_n 1, 1) := by decide +kernel
theorem dX7_readNumber_34 : decode cX7_readNumber 34 = .ok (.aload_n 0, 1) := by decide +kernel
theorem dX7_readNumber_35 : decode cX7_readNumber 35 = .ok (.dup, 1) := by decide +kernel
theorem dX7_readNumber_36 : decode cX7_readNumber 36 = .ok (.getfield 46, 3) := by decide +kernel
theorem dX7_readNumber_39 : decode cX7_readNumber 39 = .ok (.iconst 1, 1) := by decide +kernel
theorem dX7_readNumber_40 : decode cX7_readNumber 40 = .ok (.iadd, 1) := by decide +kernel
theorem dX7_readNumber_41 : decode cX7_readNumber 41 = .ok (.putfield 46, 3) := by decide +kernel
theorem dX7_readNumber_44 : decode cX7_readNumber 44 = .ok (.iinc 2 1, 3) := by decide +kernel
theorem dX7_readNumber_47 : decode cX7_readNumber 47 = .ok (.goto (-43), 3) := by decide +kernel
theorem dX7_readNumber_50 : decode cX7_readNumber 50 = .ok (.iload_n 1, 1) := by decide +kernel
theorem dX7_readNumber_51 : decode cX7_readNumber 51 = .ok (.ireturn, 1) := by decide +kernel
theorem dX7_isDigitAhead_0 : decode cX7_isDigitAhead 0 = .ok (.aload_n 0, 1) := by decide +kernel
theorem dX7_isDigitAhead_1 : decode cX7_isDigitAhead 1 = .ok (.getfield 46, 3) := by decide +kernel
theorem dX7_isDigitAhead_4 : decode cX7_isDigitAhead 4 = .ok (.aload_n 0, 1) := by decide +kernel
theorem dX7_isDigitAhead_5 : decode cX7_isDigitAhead 5 = .ok (.getfield 33, 3) := by decide +kernel
theorem dX7_isDigitAhead_8 : decode cX7_isDigitAhead 8 = .ok (.if_icmp .ge 35, 3) := by decide +kernel
theorem dX7_isDigitAhead_11 : decode cX7_isDigitAhead 11 = .ok (.aload_n 0, 1) := by decide +kernel
theorem dX7_isDigitAhead_12 : decode cX7_isDigitAhead 12 = .ok (.getfield 15, 3) := by decide +kernel
theorem dX7_isDigitAhead_15 : decode cX7_isDigitAhead 15 = .ok (.aload_n 0, 1) := by decide +kernel
theorem dX7_isDigitAhead_16 : decode cX7_isDigitAhead 16 = .ok (.getfield 46, 3) := by decide +kernel
theorem dX7_isDigitAhead_19 : decode cX7_isDigitAhead 19 = .ok (.caload, 1) := by decide +kernel
theorem dX7_isDigitAhead_20 : decode cX7_isDigitAhead 20 = .ok (.bipush 48, 2) := by decide +kernel
theorem dX7_isDigitAhead_22 : decode cX7_isDigitAhead 22 = .ok (.if_icmp .lt 21, 3) := by decide +kernel
theorem dX7_isDigitAhead_25 : decode cX7_isDigitAhead 25 = .ok (.aload_n 0, 1) := by decide +kernel
theorem dX7_isDigitAhead_26 : decode cX7_isDigitAhead 26 = .ok (.getfield 15, 3) := by decide +kernel
theorem dX7_isDigitAhead_29 : decode cX7_isDigitAhead 29 = .ok (.aload_n 0, 1) := by decide +kernel
theorem dX7_isDigitAhead_30 : decode cX7_isDigitAhead 30 = .ok (.getfield 46, 3) := by decide +kernel
theorem dX7_isDigitAhead_33 : decode cX7_isDigitAhead 33 = .ok (.caload, 1) := by decide +kernel
theorem dX7_isDigitAhead_34 : decode cX7_isDigitAhead 34 = .ok (.bipush 57, 2) := by decide +kernel
theorem dX7_isDigitAhead_36 : decode cX7_isDigitAhead 36 = .ok (.if_icmp .gt 7, 3) := by decide +kernel
theorem dX7_isDigitAhead_39 : decode cX7_isDigitAhead 39 = .ok (.iconst 1, 1) := by decide +kernel
theorem dX7_isDigitAhead_40 : decode cX7_isDigitAhead 40 = .ok (.goto 4, 3) := by decide +kernel
theorem dX7_isDigitAhead_43 : decode cX7_isDigitAhead 43 = .ok (.iconst 0, 1) := by decide +kernel
theorem dX7_isDigitAhead_44 : decode cX7_isDigitAhead 44 = .ok (.ireturn, 1) := by decide +kernel
