set_option maxRecDepth 20000 in
theorem ggX11_calls_X11_report : GoodIn wsX11_calls wsX11_report := goodIn_r _ [78, 8, 79, 80, 81, 6, 82, 17, 18, 19, 20, 29, 30, 31, 32, 33, 34, 35, 83, 84, 85, 86, 146, 147, 148, 149, 150, 151, 152, 153, 154, 155, 156, 157, 158, 159] (by decide +kernel) (by decide +kernel)
set_option maxRecDepth 20000 in
theorem gX11_calls_X11_report : GoodIn wsX11_calls (wsV RX11 183 RX11 yX11_report wsX11_report) := goodIn_app (goodIn_of _ (by decide +kernel)) ggX11_calls_X11_report
set_option maxRecDepth 20000 in
theorem ggX11_calls_X11_take : GoodIn wsX11_calls wsX11_take := goodIn_r _ [90, 91, 92, 93, 6, 94, 8, 79, 80, 81, 82, 95, 96, 97, 98, 99, 100, 101, 102, 103, 104, 105, 106, 56, 57, 58, 59, 17, 18, 19, 20, 60, 61, 62, 107, 108, 109, 110, 29, 30, 31, 32, 33, 34, 35, 36, 37, 38, 39, 146, 147, 148, 149, 150, 151, 152, 153, 154, 155, 156, 157, 158, 159] (by decide +kernel) (by decide +kernel)
set_option maxRecDepth 20000 in
theorem gX11_calls_X11_take : GoodIn wsX11_calls (wsV RX11 186 RX11 yX11_take wsX11_take) := goodIn_app (goodIn_of _ (by decide +kernel)) ggX11_calls_X11_take
set_option maxRecDepth 20000 in
theorem ggX11_calls_X11_put : GoodIn wsX11_calls wsX11_put := goodIn_r _ [114, 91, 92, 93, 6, 94, 8, 79, 80, 81, 82, 95, 96, 97, 98, 99, 100, 101, 102, 107, 108, 109, 110, 17, 18, 19, 20, 48, 49, 50, 51, 52, 53, 54, 55, 56, 57, 58, 59, 60, 61, 62, 63, 64, 65, 66, 29, 30, 31, 32, 33, 34, 35, 36, 37, 38, 39, 103, 104, 105, 106, 146, 147, 148, 149, 150, 151, 152, 153, 154, 155, 156, 157, 158, 159] (by decide +kernel) (by decide +kernel)
set_option maxRecDepth 20000 in
theorem gX11_calls_X11_put : GoodIn wsX11_calls (wsV RX11 189 RX11 yX11_put wsX11_put) := goodIn_app (goodIn_of _ (by decide +kernel)) ggX11_calls_X11_put
set_option maxRecDepth 20000 in
theorem ggX11_calls_X11_go : GoodIn wsX11_calls wsX11_go := goodIn_r _ [118, 8, 91, 92, 93, 6, 94, 13, 14, 15, 16, 95, 96, 97, 98, 99, 100, 101, 102, 29, 30, 31, 32, 33, 34, 35, 119, 120, 121, 122, 63, 64, 65, 66, 146, 147, 148, 149, 150, 151, 152, 153, 154, 155, 156, 157, 158, 159] (by decide +kernel) (by decide +kernel)
set_option maxRecDepth 20000 in
theorem gX11_calls_X11_go : GoodIn wsX11_calls (wsV RX11 192 RX11 yX11_go wsX11_go) := goodIn_app (goodIn_of _ (by decide +kernel)) ggX11_calls_X11_go
set_option maxRecDepth 20000 in
theorem ggX11_calls_X11_mend : GoodIn wsX11_calls wsX11_mend := goodIn_r _ [126, 8, 91, 92, 93, 6, 94, 79, 80, 81, 82, 95, 96, 97, 98, 99, 100, 101, 102, 107, 108, 109, 110, 17, 18, 19, 20, 29, 30, 31, 32, 33, 34, 35, 36, 37, 38, 39, 146, 147, 148, 149, 150, 151, 152, 153, 154, 155, 156, 157, 158, 159] (by decide +kernel) (by decide +kernel)
set_option maxRecDepth 20000 in
theorem gX11_calls_X11_mend : GoodIn wsX11_calls (wsV RX11 195 RX11 yX11_mend wsX11_mend) := goodIn_app (goodIn_of _ (by decide +kernel)) ggX11_calls_X11_mend
set_option maxRecDepth 20000 in
theorem ggX11_calls_X11_pass : GoodIn wsX11_calls wsX11_pass := goodIn_r _ [130, 8, 9, 10, 11, 6, 12, 40, 41, 42, 43, 25, 26, 27, 28, 29, 30, 31, 32, 33, 34, 35, 146, 147, 148, 149, 150, 151, 152, 153, 154, 155, 156, 157, 158, 159] (by decide +kernel) (by decide +kernel)
set_option maxRecDepth 20000 in
theorem gX11_calls_X11_pass : GoodIn wsX11_calls (wsV RX11 198 RX11 yX11_pass wsX11_pass) := goodIn_app (goodIn_of _ (by decide +kernel)) ggX11_calls_X11_pass
set_option maxRecDepth 20000 in
theorem ggX11_calls_X11_pause : GoodIn wsX11_calls wsX11_pause := goodIn_r _ [134, 8, 135, 136, 6, 137, 29, 30, 31, 32, 33, 34, 35, 138, 139, 140, 141, 17, 18, 19, 20, 142, 143, 144, 145, 48, 49, 50, 51, 52, 53, 54, 55, 56, 57, 58, 59, 60, 61, 62, 63, 64, 65, 66, 36, 37, 38, 39, 146, 147, 148, 149, 150, 151, 152, 153, 154, 155, 156, 157, 158, 159] (by decide +kernel) (by decide +kernel)
set_option maxRecDepth 20000 in
theorem gX11_calls_X11_pause : GoodIn wsX11_calls (wsV RX11 201 RX11 yX11_pause wsX11_pause) := goodIn_app (goodIn_of _ (by decide +kernel)) ggX11_calls_X11_pause
theorem dX11_calls_0 : decode cX11_calls 0 = .ok (.aload_n 0, 1) := by decide +kernel
theorem dX11_calls_1 : decode cX11_calls 1 = .ok (.getfield 25, 3) := by decide +kernel
theorem dX11_calls_4 : decode cX11_calls 4 = .ok (.iconst 0, 1) := by decide +kernel
theorem dX11_calls_5 : decode cX11_calls 5 = .ok (.iaload, 1) := by decide +kernel
theorem dX11_calls_6 : decode cX11_calls 6 = .ok (.istore_n 1, 1) := by decide +kernel
theorem dX11_calls_7 : decode cX11_calls 7 = .ok (.aload_n 0, 1) := by decide +kernel
theorem dX11_calls_8 : decode cX11_calls 8 = .ok (.getfield 25, 3) := by decide +kernel
theorem dX11_calls_11 : decode cX11_calls 11 = .ok (.iconst 1, 1) := by decide +kernel
theorem dX11_calls_12 : decode cX11_calls 12 = .ok (.iaload, 1) := by decide +kernel
theorem dX11_calls_13 : decode cX11_calls 13 = .ok (.istore_n 2, 1) := by decide +kernel
theorem dX11_calls_14 : decode cX11_calls 14 = .ok (.aload_n 0, 1) := by decide +kernel
theorem dX11_calls_15 : decode cX11_calls 15 = .ok (.getfield 160, 3) := by decide +kernel
theorem dX11_calls_18 : decode cX11_calls 18 = .ok (.lookupswitch 143 #[(239, 123), (17076, 116), (66667, 89), (218508, 96), (431556, 130), (525939, 137), (595412, 82), (656741, 109), (6346132, 103)], 82) := by decide +kernel
theorem dX11_calls_100 : decode cX11_calls 100 = .ok (.aload_n 0, 1) := by decide +kernel
theorem dX11_calls_101 : decode cX11_calls 101 = .ok (.iload_n 1, 1) := by decide +kernel
theorem dX11_calls_102 : decode cX11_calls 102 = .ok (.iload_n 2, 1) := by decide +kernel
theorem dX11_calls_103 : decode cX11_calls 103 = .ok (.invokevirtual 174, 3) := by decide +kernel
theorem dX11_calls_106 : decode cX11_calls 106 = .ok (.ireturn, 1) := by decide +kernel
theorem dX11_calls_107 : decode cX11_calls 107 = .ok (.aload_n 0, 1) := by decide +kernel
theorem dX11_calls_108 : decode cX11_calls 108 = .ok (.iload_n 1, 1) := by decide +kernel
theorem dX11_calls_109 : decode cX11_calls 109 = .ok (.iload_n 2, 1) := by decide +kernel
theorem dX11_calls_110 : decode cX11_calls 110 = .ok (.invokevirtual 177, 3) := by decide +kernel
theorem dX11_calls_113 : decode cX11_calls 113 = .ok (.ireturn, 1) := by decide +kernel
theorem dX11_calls_114 : decode cX11_calls 114 = .ok (.aload_n 0, 1) := by decide +kernel
theorem dX11_calls_115 : decode cX11_calls 115 = .ok (.iload_n 1, 1) := by decide +kernel
theorem dX11_calls_116 : decode cX11_calls 116 = .ok (.iload_n 2, 1) := by decide +kernel
theorem dX11_calls_117 : decode cX11_calls 117 = .ok (.invokevirtual 180, 3) := by decide +kernel
theorem dX11_calls_120 : decode cX11_calls 120 = .ok (.ireturn, 1) := by decide +kernel
theorem dX11_calls_121 : decode cX11_calls 121 = .ok (.aload_n 0, 1) := by decide +kernel
theorem dX11_calls_122 : decode cX11_calls 122 = .ok (.iload_n 1, 1) := by decide +kernel
theorem dX11_calls_123 : decode cX11_calls 123 = .ok (.invokevirtual 183, 3) := by decide +kernel
theorem dX11_calls_126 : decode cX11_calls 126 = .ok (.ireturn, 1) := by decide +kernel
theorem dX11_calls_127 : decode cX11_calls 127 = .ok (.aload_n 0, 1) := by decide +kernel
theorem dX11_calls_128 : decode cX11_calls 128 = .ok (.iload_n 1, 1) := by decide +kernel
theorem dX11_calls_129 : decode cX11_calls 129 = .ok (.iload_n 2, 1) := by decide +kernel
theorem dX11_calls_130 : decode cX11_calls 130 = .ok (.invokevirtual 186, 3) := by decide +kernel
theorem dX11_calls_133 : decode cX11_calls 133 = .ok (.ireturn, 1) := by decide +kernel
theorem dX11_calls_134 : decode cX11_calls 134 = .ok (.aload_n 0, 1) := by decide +kernel
theorem dX11_calls_135 : decode cX11_calls 135 = .ok (.iload_n 1, 1) := by decide +kernel
theorem dX11_calls_136 : decode cX11_calls 136 = .ok (.iload_n 2, 1) := by decide +kernel
theorem dX11_calls_137 : decode cX11_calls 137 = .ok (.invokevirtual 189, 3) := by decide +kernel
theorem dX11_calls_140 : decode cX11_calls 140 = .ok (.ireturn, 1) := by decide +kernel
theorem dX11_calls_141 : decode cX11_calls 141 = .ok (.aload_n 0, 1) := by decide +kernel
theorem dX11_calls_142 : decode cX11_calls 142 = .ok (.iload_n 1, 1) := by decide +kernel
theorem dX11_calls_143 : decode cX11_calls 143 = .ok (.iload_n 2, 1) := by decide +kernel
theorem dX11_calls_144 : decode cX11_calls 144 = .ok (.invokevirtual 192, 3) := by decide +kernel
theorem dX11_calls_147 : decode cX11_calls 147 = .ok (.ireturn, 1) := by decide +kernel
theorem dX11_calls_148 : decode cX11_calls 148 = .ok (.aload_n 0, 1) := by decide +kernel
theorem dX11_calls_149 : decode cX11_calls 149 = .ok (.iload_n 1, 1) := by decide +kernel
theorem dX11_calls_150 : decode cX11_calls 150 = .ok (.iload_n 2, 1) := by decide +kernel
theorem dX11_calls_151 : decode cX11_calls 151 = .ok (.invokevirtual 195, 3) := by decide +kernel
theorem dX11_calls_154 : decode cX11_calls 154 = .ok (.ireturn, 1) := by decide +kernel
theorem dX11_calls_155 : decode cX11_calls 155 = .ok (.aload_n 0, 1) := by decide +kernel
theorem dX11_calls_156 : decode cX11_calls 156 = .ok (.iload_n 1, 1) := by decide +kernel
theorem dX11_calls_157 : decode cX11_calls 157 = .ok (.invokevirtual 198, 3) := by decide +kernel
theorem dX11_calls_160 : decode cX11_calls 160 = .ok (.ireturn, 1) := by decide +kernel
theorem dX11_calls_161 : decode cX11_calls 161 = .ok (.aload_n 0, 1) := by decide +kernel
theorem dX11_calls_162 : decode cX11_calls 162 = .ok (.iload_n 1, 1) := by decide +kernel
theorem dX11_calls_163 : decode cX11_calls 163 = .ok (.invokevirtual 201, 3) := by decide +kernel
theorem dX11_calls_166 : decode cX11_calls 166 = .ok (.ireturn, 1) := by decide +kernel
set_option maxRecDepth 20000 in
theorem ggX11_plays_X11_parses : GoodIn wsX11_plays wsX11_parses := goodIn_r _ [10, 2, 11, 12, 13, 14, 15, 16, 17, 18, 19, 20, 21, 22, 23, 9, 24, 4, 25, 26, 27, 28, 29, 30, 31, 32, 33, 34, 35, 36, 179, 180, 181, 182, 183, 184, 185, 186, 187, 188, 189, 190, 191, 192] (by decide +kernel) (by decide +kernel)
set_option maxRecDepth 20000 in
theorem gX11_plays_X11_parses : GoodIn wsX11_plays (wsV RX11 207 RX11 yX11_parses wsX11_parses) := goodIn_app (goodIn_of _ (by decide +kernel)) ggX11_plays_X11_parses
set_option maxRecDepth 20000 in
theorem ggX11_plays_X11_calls : GoodIn wsX11_plays wsX11_calls := goodIn_r _ [40, 32, 11, 41, 42, 43, 9, 44, 45, 46, 47, 48, 49, 50, 51, 52, 53, 54, 55, 56, 57, 58, 59, 60, 61, 62, 63, 64, 65, 66, 67, 68, 69, 1, 70, 71, 72, 73, 74, 75, 76, 77, 78, 79, 80, 81, 82, 83, 84, 85, 86, 87, 88, 89, 90, 91, 92, 93, 94, 95, 96, 97, 98, 99, 100, 101, 102, 103, 104, 105, 106, 107, 108, 109, 110, 111, 112, 113, 114, 115, 116, 117, 118, 119, 120, 121, 122, 123, 124, 125, 126, 127, 128, 129, 130, 131, 132, 133, 134, 135, 136, 137, 138, 139, 140, 141, 142, 143, 144, 145, 146, 147, 148, 149, 150, 151, 152, 153, 154, 155, 156, 157, 158, 159, 160, 161, 162, 163, 164, 165, 166, 167, 168, 169, 170, 25, 26, 27, 171, 172, 173, 174, 175, 176, 177, 178, 179, 180, 181, 182, 183, 184, 185, 186, 187, 188, 189, 190, 191, 192] (by decide +kernel) (by decide +kernel)
set_option maxRecDepth 20000 in
theorem gX11_plays_X11_calls : GoodIn wsX11_plays (wsV RX11 211 RX11 yX11_calls wsX11_calls) := goodIn_app (goodIn_of _ (by decide +kernel)) ggX11_plays_X11_calls
theorem dX11_plays_0 : decode cX11_plays 0 = .ok (.aload_n 0, 1) := by decide +kernel
theorem dX11_plays_1 : decode cX11_plays 1 = .ok (.iconst 1, 1) := by decide +kernel
theorem dX11_plays_2 : decode cX11_plays 2 = .ok (.putfield 28, 3) := by decide +kernel
theorem dX11_plays_5 : decode cX11_plays 5 = .ok (.aload_n 0, 1) := by decide +kernel
theorem dX11_plays_6 : decode cX11_plays 6 = .ok (.iconst 0, 1) := by decide +kernel
theorem dX11_plays_7 : decode cX11_plays 7 = .ok (.putfield 151, 3) := by decide +kernel
theorem dX11_plays_10 : decode cX11_plays 10 = .ok (.aload_n 0, 1) := by decide +kernel
theorem dX11_plays_11 : decode cX11_plays 11 = .ok (.iconst 0, 1) := by decide +kernel
theorem dX11_plays_12 : decode cX11_plays 12 = .ok (.putfield 204, 3) := by decide +kernel
theorem dX11_plays_15 : decode cX11_plays 15 = .ok (.iconst 0, 1) := by decide +kernel
theorem dX11_plays_16 : decode cX11_plays 16 = .ok (.istore_n 1, 1) := by decide +kernel
theorem dX11_plays_17 : decode cX11_plays 17 = .ok (.iconst 1, 1) := by decide +kernel
theorem dX11_plays_18 : decode cX11_plays 18 = .ok (.istore_n 2, 1) := by decide +kernel
theorem dX11_plays_19 : decode cX11_plays 19 = .ok (.aload_n 0, 1) := by decide +kernel
theorem dX11_plays_20 : decode cX11_plays 20 = .ok (.getfield 151, 3) := by decide +kernel
theorem dX11_plays_23 : decode cX11_plays 23 = .ok (.aload_n 0, 1) := by decide +kernel
theorem dX11_plays_24 : decode cX11_plays 24 = .ok (.getfield 138, 3) := by decide +kernel
theorem dX11_plays_27 : decode cX11_plays 27 = .ok (.if_icmp .ge 63, 3) := by decide +kernel
theorem dX11_plays_30 : decode cX11_plays 30 = .ok (.iload_n 2, 1) := by decide +kernel
theorem dX11_plays_31 : decode cX11_plays 31 = .ok (.ifCond .eq 59, 3) := by decide +kernel
theorem dX11_plays_34 : decode cX11_plays 34 = .ok (.aload_n 0, 1) := by decide +kernel
theorem dX11_plays_35 : decode cX11_plays 35 = .ok (.getfield 151, 3) := by decide +kernel
theorem dX11_plays_38 : decode cX11_plays 38 = .ok (.istore_n 1, 1) := by decide +kernel
theorem dX11_plays_39 : decode cX11_plays 39 = .ok (.aload_n 0, 1) := by decide +kernel
theorem dX11_plays_40 : decode cX11_plays 40 = .ok (.invokevirtual 207, 3) := by decide +kernel
theorem dX11_plays_43 : decode cX11_plays 43 = .ok (.istore_n 3, 1) := by decide +kernel
theorem dX11_plays_44 : decode cX11_plays 44 = .ok (.aload_n 0, 1) := by decide +kernel
theorem dX11_plays_45 : decode cX11_plays 45 = .ok (.iload_n 3, 1) := by decide +kernel
theorem dX11_plays_46 : decode cX11_plays 46 = .ok (.ifCond .eq 10, 3) := by decide +kernel
theorem dX11_plays_49 : decode cX11_plays 49 = .ok (.aload_n 0, 1) := by decide +kernel
theorem dX11_plays_50 : decode cX11_plays 50 = .ok (.invokevirtual 211, 3) := by decide +kernel
theorem dX11_plays_53 : decode cX11_plays 53 = .ok (.goto 4, 3) := by decide +kernel
theorem dX11_plays_56 : decode cX11_plays 56 = .ok (.iconst 0, 1) := by decide +kernel
theorem dX11_plays_57 : decode cX11_plays 57 = .ok (.putfield 214, 3) := by decide +kernel
theorem dX11_plays_60 : decode cX11_plays 60 = .ok (.iload_n 3, 1) := by decide +kernel
theorem dX11_plays_61 : decode cX11_plays 61 = .ok (.ifCond .eq 14, 3) := by decide +kernel
theorem dX11_plays_64 : decode cX11_plays 64 = .ok (.aload_n 0, 1) := by decide +kernel
theorem dX11_plays_65 : decode cX11_plays 65 = .ok (.getfield 214, 3) := by decide +kernel
theorem dX11_plays_68 : decode cX11_plays 68 = .ok (.ifCond .lt 7, 3) := by decide +kernel
theorem dX11_plays_71 : decode cX11_plays 71 = .ok (.iconst 1, 1) := by decide +kernel
theorem dX11_plays_72 : decode cX11_plays 72 = .ok (.goto 4, 3) := by decide +kernel
theorem dX11_plays_75 : decode cX11_plays 75 = .ok (.iconst 0, 1) := by decide +kernel
theorem dX11_plays_76 : decode cX11_plays 76 = .ok (.istore_n 2, 1) := by decide +kernel
theorem dX11_plays_77 : decode cX11_plays 77 = .ok (.aload_n 0, 1) := by decide +kernel
theorem dX11_plays_78 : decode cX11_plays 78 = .ok (.dup, 1) := by decide +kernel
theorem dX11_plays_79 : decode cX11_plays 79 = .ok (.getfield 204, 3) := by decide +kernel
theorem dX11_plays_82 : decode cX11_plays 82 = .ok (.iconst 1, 1) := by decide +kernel
theorem dX11_plays_83 : decode cX11_plays 83 = .ok (.iadd, 1) := by decide +kernel
theorem dX11_plays_84 : decode cX11_plays 84 = .ok (.putfield 204, 3) := by decide +kernel
theorem dX11_plays_87 : decode cX11_plays 87 = .ok (.goto (-68), 3) := by decide +kernel
theorem dX11_plays_90 : decode cX11_plays 90 = .ok (.aload_n 0, 1) := by decide +kernel
theorem dX11_plays_91 : decode cX11_plays 91 = .ok (.iconst 0, 1) := by decide +kernel
theorem dX11_plays_92 : decode cX11_plays 92 = .ok (.putfield 28, 3) := by decide +kernel
theorem dX11_plays_95 : decode cX11_plays 95 = .ok (.iload_n 2, 1) := by decide +kernel
theorem dX11_plays_96 : decode cX11_plays 96 = .ok (.ifCond .eq 8, 3) := by decide +kernel
theorem dX11_plays_99 : decode cX11_plays 99 = .ok (.bipush (-4), 2) := by decide +kernel
theorem dX11_plays_101 : decode cX11_plays 101 = .ok (.goto 4, 3) := by decide +kernel
theorem dX11_plays_104 : decode cX11_plays 104 = .ok (.iload_n 1, 1) := by decide +kernel
theorem dX11_plays_105 : decode cX11_plays 105 = .ok (.ireturn, 1) := by decide +kernel
set_option maxRecDepth 20000 in
theorem ggX11_fault_X11_in : GoodIn wsX11_fault wsX11_in := goodIn_r _ [7] (by decide +kernel) (by decide +kernel)
set_option maxRecDepth 20000 in
theorem gX11_fault_X11_in : GoodIn wsX11_fault (va_wsS RX11 53 yX11_in wsX11_in) := goodIn_app (goodIn_of _ (by decide +kernel)) ggX11_fault_X11_in
set_option maxRecDepth 20000 in
theorem ggX11_fault_X11_copies : GoodIn wsX11_fault wsX11_copies := goodIn_r _ [10] (by decide +kernel) (by decide +kernel)
set_option maxRecDepth 20000 in
theorem gX11_fault_X11_copies : GoodIn wsX11_fault (va_wsS RX11 147 yX11_copies wsX11_copies) := goodIn_app (goodIn_of _ (by decide +kernel)) ggX11_fault_X11_copies
set_option maxRecDepth 20000 in
theorem ggX11_fault_X11_plays : GoodIn wsX11_fault wsX11_plays := goodIn_r _ [14, 15, 16, 17, 18, 3, 19, 20, 21, 6, 22, 23, 24, 25, 26, 27, 28, 29, 30, 31, 32, 33, 34, 35, 36, 4, 5, 7, 37, 38, 39, 40, 41, 42, 43, 44, 45, 46, 47, 48, 49, 50, 51, 52, 53, 1, 54, 55, 56, 57, 58, 59, 60, 61, 62, 63, 64, 65, 66, 67, 68, 69, 70, 71, 72, 73, 74, 75, 76, 77, 78, 79, 80, 81, 82, 83, 84, 85, 86, 87, 88, 89, 90, 91, 92, 93, 94, 95, 96, 97, 98, 99, 100, 101, 102, 103, 104, 105, 106, 107, 108, 109, 110, 111, 112, 113, 114, 115, 116, 117, 118, 119, 120, 121, 122, 123, 124, 125, 126, 127, 128, 129, 130, 131, 132, 133, 134, 135, 136, 137, 138, 139, 140, 141, 142, 143, 144, 145, 146, 147, 148, 149, 150, 151, 152, 153, 154, 155, 156, 157, 158, 159, 160, 161, 162, 163, 164, 165, 166, 167, 168, 169, 170, 171, 172, 173, 174, 175, 176, 177, 178, 179, 180, 181, 182, 183, 184, 185, 186, 187, 188, 189, 190, 191, 192, 193, 194, 195, 196, 197, 198, 199, 200] (by decide +kernel) (by decide +kernel)
set_option maxRecDepth 20000 in
theorem gX11_fault_X11_plays : GoodIn wsX11_fault (wsV RX11 217 RX11 yX11_plays wsX11_plays) := goodIn_app (goodIn_of _ (by decide +kernel)) ggX11_fault_X11_plays
theorem dX11_fault_0 : decode cX11_fault 0 = .ok (.iload_n 1, 1) := by decide +kernel
theorem dX11_fault_1 : decode cX11_fault 1 = .ok (.iconst 0, 1) := by decide +kernel
theorem dX11_fault_2 : decode cX11_fault 2 = .ok (.iconst 2, 1) := by decide +kernel
theorem dX11_fault_3 : decode cX11_fault 3 = .ok (.invokestatic 53, 3) := by decide +kernel
theorem dX11_fault_6 : decode cX11_fault 6 = .ok (.ifCond .ne 5, 3) := by decide +kernel
theorem dX11_fault_9 : decode cX11_fault 9 = .ok (.iconst (-1), 1) := by decide +kernel
theorem dX11_fault_10 : decode cX11_fault 10 = .ok (.ireturn, 1) := by decide +kernel
theorem dX11_fault_11 : decode cX11_fault 11 = .ok (.aload_n 0, 1) := by decide +kernel
theorem dX11_fault_12 : decode cX11_fault 12 = .ok (.getfield 7, 3) := by decide +kernel
theorem dX11_fault_15 : decode cX11_fault 15 = .ok (.aload_n 0, 1) := by decide +kernel
theorem dX11_fault_16 : decode cX11_fault 16 = .ok (.getfield 16, 3) := by decide +kernel
theorem dX11_fault_19 : decode cX11_fault 19 = .ok (.invokestatic 147, 3) := by decide +kernel
theorem dX11_fault_22 : decode cX11_fault 22 = .ok (.aload_n 0, 1) := by decide +kernel
theorem dX11_fault_23 : decode cX11_fault 23 = .ok (.invokevirtual 217, 3) := by decide +kernel
theorem dX11_fault_26 : decode cX11_fault 26 = .ok (.istore_n 2, 1) := by decide +kernel
theorem dX11_fault_27 : decode cX11_fault 27 = .ok (.aload_n 0, 1) := by decide +kernel
theorem dX11_fault_28 : decode cX11_fault 28 = .ok (.getfield 16, 3) := by decide +kernel
theorem dX11_fault_31 : decode cX11_fault 31 = .ok (.aload_n 0, 1) := by decide +kernel
theorem dX11_fault_32 : decode cX11_fault 32 = .ok (.getfield 7, 3) := by decide +kernel
theorem dX11_fault_35 : decode cX11_fault 35 = .ok (.invokestatic 147, 3) := by decide +kernel
theorem dX11_fault_38 : decode cX11_fault 38 = .ok (.iload_n 2, 1) := by decide +kernel
theorem dX11_fault_39 : decode cX11_fault 39 = .ok (.bipush (-4), 2) := by decide +kernel
theorem dX11_fault_41 : decode cX11_fault 41 = .ok (.if_icmp .eq 7, 3) := by decide +kernel
theorem dX11_fault_44 : decode cX11_fault 44 = .ok (.iload_n 1, 1) := by decide +kernel
theorem dX11_fault_45 : decode cX11_fault 45 = .ok (.ifCond .ne 7, 3) := by decide +kernel
theorem dX11_fault_48 : decode cX11_fault 48 = .ok (.iload_n 2, 1) := by decide +kernel
theorem dX11_fault_49 : decode cX11_fault 49 = .ok (.goto 39, 3) := by decide +kernel
theorem dX11_fault_52 : decode cX11_fault 52 = .ok (.iload_n 1, 1) := by decide +kernel
theorem dX11_fault_53 : decode cX11_fault 53 = .ok (.iconst 1, 1) := by decide +kernel
theorem dX11_fault_54 : decode cX11_fault 54 = .ok (.if_icmp .ne 18, 3) := by decide +kernel
theorem dX11_fault_57 : decode cX11_fault 57 = .ok (.aload_n 0, 1) := by decide +kernel
theorem dX11_fault_58 : decode cX11_fault 58 = .ok (.getfield 214, 3) := by decide +kernel
theorem dX11_fault_61 : decode cX11_fault 61 = .ok (.ifCond .ne 7, 3) := by decide +kernel
theorem dX11_fault_64 : decode cX11_fault 64 = .ok (.iconst 1, 1) := by decide +kernel
theorem dX11_fault_65 : decode cX11_fault 65 = .ok (.goto 23, 3) := by decide +kernel
theorem dX11_fault_68 : decode cX11_fault 68 = .ok (.iconst 2, 1) := by decide +kernel
theorem dX11_fault_69 : decode cX11_fault 69 = .ok (.goto 19, 3) := by decide +kernel
theorem dX11_fault_72 : decode cX11_fault 72 = .ok (.aload_n 0, 1) := by decide +kernel
theorem dX11_fault_73 : decode cX11_fault 73 = .ok (.getfield 214, 3) := by decide +kernel
theorem dX11_fault_76 : decode cX11_fault 76 = .ok (.ifCond .ne 8, 3) := by decide +kernel
theorem dX11_fault_79 : decode cX11_fault 79 = .ok (.bipush (-4), 2) := by decide +kernel
theorem dX11_fault_81 : decode cX11_fault 81 = .ok (.goto 7, 3) := by decide +kernel
theorem dX11_fault_84 : decode cX11_fault 84 = .ok (.aload_n 0, 1) := by decide +kernel
theorem dX11_fault_85 : decode cX11_fault 85 = .ok (.getfield 214, 3) := by decide +kernel
theorem dX11_fault_88 : decode cX11_fault 88 = .ok (.ireturn, 1) := by decide +kernel
set_option maxRecDepth 20000 in
theorem ggX11_play_X11_copies : GoodIn wsX11_play wsX11_copies := goodIn_r _ [7] (by decide +kernel) (by decide +kernel)
set_option maxRecDepth 20000 in
theorem gX11_play_X11_copies : GoodIn wsX11_play (va_wsS RX11 147 yX11_copies wsX11_copies) := goodIn_app (goodIn_of _ (by decide +kernel)) ggX11_play_X11_copies
set_option maxRecDepth 20000 in
theorem ggX11_play_X11_plays : GoodIn wsX11_play wsX11_plays := goodIn_r _ [11, 12, 13, 3, 14, 15, 16, 17, 18, 6, 19, 20, 21, 22, 23, 24, 25, 26, 27, 28, 29, 30, 31, 32, 33, 34, 35, 36, 37, 38, 39, 40, 41, 42, 43, 44, 45, 46, 47, 48, 49, 50, 51, 52, 53, 1, 54, 55, 56, 57, 58, 59, 60, 61, 62, 63, 64, 65, 66, 67, 68, 69, 70, 71, 72, 73, 74, 75, 76, 77, 78, 79, 80, 81, 82, 83, 84, 85, 86, 87, 88, 89, 90, 91, 92, 93, 94, 95, 96, 97, 98, 99, 100, 101, 102, 103, 104, 105, 106, 107, 108, 109, 110, 111, 112, 113, 114, 115, 116, 117, 118, 119, 120, 121, 122, 123, 124, 125, 126, 127, 128, 129, 130, 131, 132, 133, 134, 135, 136, 137, 138, 139, 140, 141, 142, 143, 144, 145, 146, 147, 148, 149, 150, 151, 152, 153, 154, 155, 156, 157, 158, 159, 160, 161, 162, 163, 164, 165, 166, 167, 168, 169, 170, 171, 172, 173, 174, 175, 176, 177, 178, 179, 180, 181, 182, 183, 184, 185, 186, 187, 188, 189, 190, 191, 192, 193, 194, 195, 196, 197, 198, 199, 200] (by decide +kernel) (by decide +kernel)
set_option maxRecDepth 20000 in
theorem gX11_play_X11_plays : GoodIn wsX11_play (wsV RX11 217 RX11 yX11_plays wsX11_plays) := goodIn_app (goodIn_of _ (by decide +kernel)) ggX11_play_X11_plays
set_option maxRecDepth 20000 in
theorem ggX11_play_X11_changes : GoodIn wsX11_play wsX11_changes := goodIn_r _ [77, 12, 78, 79, 1, 187, 188, 189, 190, 191, 192, 193, 194, 195, 196, 197, 198, 199, 200] (by decide +kernel) (by decide +kernel)
set_option maxRecDepth 20000 in
theorem gX11_play_X11_changes : GoodIn wsX11_play (wsV RX11 57 RX11 yX11_changes wsX11_changes) := goodIn_app (goodIn_of _ (by decide +kernel)) ggX11_play_X11_changes
theorem dX11_play_0 : decode cX11_play 0 = .ok (.aload_n 0, 1) := by decide +kernel
theorem dX11_play_1 : decode cX11_play 1 = .ok (.getfield 7, 3) := by decide +kernel
theorem dX11_play_4 : decode cX11_play 4 = .ok (.aload_n 0, 1) := by decide +kernel
theorem dX11_play_5 : decode cX11_play 5 = .ok (.getfield 16, 3) := by decide +kernel
theorem dX11_play_8 : decode cX11_play 8 = .ok (.invokestatic 147, 3) := by decide +kernel
theorem dX11_play_11 : decode cX11_play 11 = .ok (.aload_n 0, 1) := by decide +kernel
theorem dX11_play_12 : decode cX11_play 12 = .ok (.invokevirtual 217, 3) := by decide +kernel
theorem dX11_play_15 : decode cX11_play 15 = .ok (.istore_n 1, 1) := by decide +kernel
theorem dX11_play_16 : decode cX11_play 16 = .ok (.aload_n 0, 1) := by decide +kernel
theorem dX11_play_17 : decode cX11_play 17 = .ok (.getfield 16, 3) := by decide +kernel
theorem dX11_play_20 : decode cX11_play 20 = .ok (.aload_n 0, 1) := by decide +kernel
theorem dX11_play_21 : decode cX11_play 21 = .ok (.getfield 7, 3) := by decide +kernel
theorem dX11_play_24 : decode cX11_play 24 = .ok (.invokestatic 147, 3) := by decide +kernel
theorem dX11_play_27 : decode cX11_play 27 = .ok (.iload_n 1, 1) := by decide +kernel
theorem dX11_play_28 : decode cX11_play 28 = .ok (.bipush (-4), 2) := by decide +kernel
theorem dX11_play_30 : decode cX11_play 30 = .ok (.if_icmp .eq 6, 3) := by decide +kernel
theorem dX11_play_33 : decode cX11_play 33 = .ok (.bipush (-2), 2) := by decide +kernel
theorem dX11_play_35 : decode cX11_play 35 = .ok (.ireturn, 1) := by decide +kernel
theorem dX11_play_36 : decode cX11_play 36 = .ok (.aload_n 0, 1) := by decide +kernel
theorem dX11_play_37 : decode cX11_play 37 = .ok (.invokevirtual 57, 3) := by decide +kernel
theorem dX11_play_40 : decode cX11_play 40 = .ok (.aload_n 0, 1) := by decide +kernel
theorem dX11_play_41 : decode cX11_play 41 = .ok (.invokevirtual 217, 3) := by decide +kernel
theorem dX11_play_44 : decode cX11_play 44 = .ok (.bipush (-4), 2) := by decide +kernel
theorem dX11_play_46 : decode cX11_play 46 = .ok (.if_icmp .ne 10, 3) := by decide +kernel
theorem dX11_play_49 : decode cX11_play 49 = .ok (.aload_n 0, 1) := by decide +kernel
theorem dX11_play_50 : decode cX11_play 50 = .ok (.getfield 204, 3) := by decide +kernel
theorem dX11_play_53 : decode cX11_play 53 = .ok (.goto 5, 3) := by decide +kernel
theorem dX11_play_56 : decode cX11_play 56 = .ok (.bipush (-4), 2) := by decide +kernel
theorem dX11_play_58 : decode cX11_play 58 = .ok (.ireturn, 1) := by decide +kernel
