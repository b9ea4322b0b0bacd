theorem dX11_full_53 : decode cX11_full 53 = .ok (.ishr, 1) := by decide +kernel
theorem dX11_full_54 : decode cX11_full 54 = .ok (.iconst 1, 1) := by decide +kernel
theorem dX11_full_55 : decode cX11_full 55 = .ok (.iand, 1) := by decide +kernel
theorem dX11_full_56 : decode cX11_full 56 = .ok (.iconst 1, 1) := by decide +kernel
theorem dX11_full_57 : decode cX11_full 57 = .ok (.if_icmp .ne 6, 3) := by decide +kernel
theorem dX11_full_60 : decode cX11_full 60 = .ok (.bipush (-2), 2) := by decide +kernel
theorem dX11_full_62 : decode cX11_full 62 = .ok (.ireturn, 1) := by decide +kernel
theorem dX11_full_63 : decode cX11_full 63 = .ok (.aload_n 0, 1) := by decide +kernel
theorem dX11_full_64 : decode cX11_full 64 = .ok (.invokevirtual 57, 3) := by decide +kernel
theorem dX11_full_67 : decode cX11_full 67 = .ok (.aload_n 0, 1) := by decide +kernel
theorem dX11_full_68 : decode cX11_full 68 = .ok (.getfield 7, 3) := by decide +kernel
theorem dX11_full_71 : decode cX11_full 71 = .ok (.iload_n 3, 1) := by decide +kernel
theorem dX11_full_72 : decode cX11_full 72 = .ok (.bipush 6, 2) := by decide +kernel
theorem dX11_full_74 : decode cX11_full 74 = .ok (.iadd, 1) := by decide +kernel
theorem dX11_full_75 : decode cX11_full 75 = .ok (.dup2, 1) := by decide +kernel
theorem dX11_full_76 : decode cX11_full 76 = .ok (.iaload, 1) := by decide +kernel
theorem dX11_full_77 : decode cX11_full 77 = .ok (.iconst 1, 1) := by decide +kernel
theorem dX11_full_78 : decode cX11_full 78 = .ok (.iload_n 2, 1) := by decide +kernel
theorem dX11_full_79 : decode cX11_full 79 = .ok (.ishl, 1) := by decide +kernel
theorem dX11_full_80 : decode cX11_full 80 = .ok (.ior, 1) := by decide +kernel
theorem dX11_full_81 : decode cX11_full 81 = .ok (.iastore, 1) := by decide +kernel
theorem dX11_full_82 : decode cX11_full 82 = .ok (.aload_n 0, 1) := by decide +kernel
theorem dX11_full_83 : decode cX11_full 83 = .ok (.getfield 7, 3) := by decide +kernel
theorem dX11_full_86 : decode cX11_full 86 = .ok (.iload_n 3, 1) := by decide +kernel
theorem dX11_full_87 : decode cX11_full 87 = .ok (.iconst 4, 1) := by decide +kernel
theorem dX11_full_88 : decode cX11_full 88 = .ok (.iadd, 1) := by decide +kernel
theorem dX11_full_89 : decode cX11_full 89 = .ok (.dup2, 1) := by decide +kernel
theorem dX11_full_90 : decode cX11_full 90 = .ok (.iaload, 1) := by decide +kernel
theorem dX11_full_91 : decode cX11_full 91 = .ok (.bipush 15, 2) := by decide +kernel
theorem dX11_full_93 : decode cX11_full 93 = .ok (.iadd, 1) := by decide +kernel
theorem dX11_full_94 : decode cX11_full 94 = .ok (.iastore, 1) := by decide +kernel
theorem dX11_full_95 : decode cX11_full 95 = .ok (.aload_n 0, 1) := by decide +kernel
theorem dX11_full_96 : decode cX11_full 96 = .ok (.getfield 7, 3) := by decide +kernel
theorem dX11_full_99 : decode cX11_full 99 = .ok (.iload_n 3, 1) := by decide +kernel
theorem dX11_full_100 : decode cX11_full 100 = .ok (.iconst 4, 1) := by decide +kernel
theorem dX11_full_101 : decode cX11_full 101 = .ok (.iadd, 1) := by decide +kernel
theorem dX11_full_102 : decode cX11_full 102 = .ok (.iaload, 1) := by decide +kernel
theorem dX11_full_103 : decode cX11_full 103 = .ok (.ireturn, 1) := by decide +kernel
set_option maxRecDepth 20000 in
theorem ggX11_faulty_X11_ofBicycle : GoodIn wsX11_faulty wsX11_ofBicycle := goodIn_r _ [6, 1, 7, 8, 9, 10, 11, 12, 13, 14, 15, 16, 17, 18, 19, 20] (by decide +kernel) (by decide +kernel)
set_option maxRecDepth 20000 in
theorem gX11_faulty_X11_ofBicycle : GoodIn wsX11_faulty (wsV RX11 36 RX11 yX11_ofBicycle wsX11_ofBicycle) := goodIn_app (goodIn_of _ (by decide +kernel)) ggX11_faulty_X11_ofBicycle
theorem dX11_faulty_0 : decode cX11_faulty 0 = .ok (.iconst 0, 1) := by decide +kernel
theorem dX11_faulty_1 : decode cX11_faulty 1 = .ok (.istore_n 1, 1) := by decide +kernel
theorem dX11_faulty_2 : decode cX11_faulty 2 = .ok (.iconst 0, 1) := by decide +kernel
theorem dX11_faulty_3 : decode cX11_faulty 3 = .ok (.istore_n 2, 1) := by decide +kernel
theorem dX11_faulty_4 : decode cX11_faulty 4 = .ok (.iload_n 2, 1) := by decide +kernel
theorem dX11_faulty_5 : decode cX11_faulty 5 = .ok (.aload_n 0, 1) := by decide +kernel
theorem dX11_faulty_6 : decode cX11_faulty 6 = .ok (.getfield 7, 3) := by decide +kernel
theorem dX11_faulty_9 : decode cX11_faulty 9 = .ok (.iconst 1, 1) := by decide +kernel
theorem dX11_faulty_10 : decode cX11_faulty 10 = .ok (.iaload, 1) := by decide +kernel
theorem dX11_faulty_11 : decode cX11_faulty 11 = .ok (.if_icmp .ge 18, 3) := by decide +kernel
theorem dX11_faulty_14 : decode cX11_faulty 14 = .ok (.iload_n 1, 1) := by decide +kernel
theorem dX11_faulty_15 : decode cX11_faulty 15 = .ok (.aload_n 0, 1) := by decide +kernel
theorem dX11_faulty_16 : decode cX11_faulty 16 = .ok (.iload_n 2, 1) := by decide +kernel
theorem dX11_faulty_17 : decode cX11_faulty 17 = .ok (.iconst 3, 1) := by decide +kernel
theorem dX11_faulty_18 : decode cX11_faulty 18 = .ok (.invokevirtual 36, 3) := by decide +kernel
theorem dX11_faulty_21 : decode cX11_faulty 21 = .ok (.iadd, 1) := by decide +kernel
theorem dX11_faulty_22 : decode cX11_faulty 22 = .ok (.istore_n 1, 1) := by decide +kernel
theorem dX11_faulty_23 : decode cX11_faulty 23 = .ok (.iinc 2 1, 3) := by decide +kernel
theorem dX11_faulty_26 : decode cX11_faulty 26 = .ok (.goto (-22), 3) := by decide +kernel
theorem dX11_faulty_29 : decode cX11_faulty 29 = .ok (.iload_n 1, 1) := by decide +kernel
theorem dX11_faulty_30 : decode cX11_faulty 30 = .ok (.ireturn, 1) := by decide +kernel
set_option maxRecDepth 20000 in
theorem ggX11_report_X11_isBicycle : GoodIn wsX11_report wsX11_isBicycle := goodIn_r _ [6, 1, 22, 23, 24, 25, 26, 27, 28, 29, 30, 31, 32, 33, 34, 35] (by decide +kernel) (by decide +kernel)
set_option maxRecDepth 20000 in
theorem gX11_report_X11_isBicycle : GoodIn wsX11_report (wsV RX11 86 RX11 yX11_isBicycle wsX11_isBicycle) := goodIn_app (goodIn_of _ (by decide +kernel)) ggX11_report_X11_isBicycle
set_option maxRecDepth 20000 in
theorem ggX11_report_X11_ofBicycle : GoodIn wsX11_report wsX11_ofBicycle := goodIn_r _ [10, 1, 22, 23, 24, 25, 26, 27, 28, 29, 30, 31, 32, 33, 34, 35] (by decide +kernel) (by decide +kernel)
set_option maxRecDepth 20000 in
theorem gX11_report_X11_ofBicycle : GoodIn wsX11_report (wsV RX11 36 RX11 yX11_ofBicycle wsX11_ofBicycle) := goodIn_app (goodIn_of _ (by decide +kernel)) ggX11_report_X11_ofBicycle
set_option maxRecDepth 20000 in
theorem ggX11_report_X11_changes : GoodIn wsX11_report wsX11_changes := goodIn_r _ [14, 15, 16, 17, 1, 22, 23, 24, 25, 26, 27, 28, 29, 30, 31, 32, 33, 34, 35] (by decide +kernel) (by decide +kernel)
set_option maxRecDepth 20000 in
theorem gX11_report_X11_changes : GoodIn wsX11_report (wsV RX11 57 RX11 yX11_changes wsX11_changes) := goodIn_app (goodIn_of _ (by decide +kernel)) ggX11_report_X11_changes
set_option maxRecDepth 20000 in
theorem ggX11_report_X11_faulty : GoodIn wsX11_report wsX11_faulty := goodIn_r _ [21, 1, 7, 8, 9, 5, 10, 22, 23, 24, 25, 26, 27, 28, 29, 30, 31, 32, 33, 34, 35] (by decide +kernel) (by decide +kernel)
set_option maxRecDepth 20000 in
theorem gX11_report_X11_faulty : GoodIn wsX11_report (wsV RX11 89 RX11 yX11_faulty wsX11_faulty) := goodIn_app (goodIn_of _ (by decide +kernel)) ggX11_report_X11_faulty
theorem dX11_report_0 : decode cX11_report 0 = .ok (.aload_n 0, 1) := by decide +kernel
theorem dX11_report_1 : decode cX11_report 1 = .ok (.iload_n 1, 1) := by decide +kernel
theorem dX11_report_2 : decode cX11_report 2 = .ok (.invokevirtual 86, 3) := by decide +kernel
theorem dX11_report_5 : decode cX11_report 5 = .ok (.ifCond .ne 5, 3) := by decide +kernel
theorem dX11_report_8 : decode cX11_report 8 = .ok (.iconst (-1), 1) := by decide +kernel
theorem dX11_report_9 : decode cX11_report 9 = .ok (.ireturn, 1) := by decide +kernel
theorem dX11_report_10 : decode cX11_report 10 = .ok (.aload_n 0, 1) := by decide +kernel
theorem dX11_report_11 : decode cX11_report 11 = .ok (.iload_n 1, 1) := by decide +kernel
theorem dX11_report_12 : decode cX11_report 12 = .ok (.iconst 0, 1) := by decide +kernel
theorem dX11_report_13 : decode cX11_report 13 = .ok (.invokevirtual 36, 3) := by decide +kernel
theorem dX11_report_16 : decode cX11_report 16 = .ok (.iconst 1, 1) := by decide +kernel
theorem dX11_report_17 : decode cX11_report 17 = .ok (.if_icmp .gt 13, 3) := by decide +kernel
theorem dX11_report_20 : decode cX11_report 20 = .ok (.aload_n 0, 1) := by decide +kernel
theorem dX11_report_21 : decode cX11_report 21 = .ok (.iload_n 1, 1) := by decide +kernel
theorem dX11_report_22 : decode cX11_report 22 = .ok (.iconst 3, 1) := by decide +kernel
theorem dX11_report_23 : decode cX11_report 23 = .ok (.invokevirtual 36, 3) := by decide +kernel
theorem dX11_report_26 : decode cX11_report 26 = .ok (.iconst 1, 1) := by decide +kernel
theorem dX11_report_27 : decode cX11_report 27 = .ok (.if_icmp .ne 6, 3) := by decide +kernel
theorem dX11_report_30 : decode cX11_report 30 = .ok (.bipush (-2), 2) := by decide +kernel
theorem dX11_report_32 : decode cX11_report 32 = .ok (.ireturn, 1) := by decide +kernel
theorem dX11_report_33 : decode cX11_report 33 = .ok (.aload_n 0, 1) := by decide +kernel
theorem dX11_report_34 : decode cX11_report 34 = .ok (.invokevirtual 57, 3) := by decide +kernel
theorem dX11_report_37 : decode cX11_report 37 = .ok (.aload_n 0, 1) := by decide +kernel
theorem dX11_report_38 : decode cX11_report 38 = .ok (.getfield 7, 3) := by decide +kernel
theorem dX11_report_41 : decode cX11_report 41 = .ok (.bipush 32, 2) := by decide +kernel
theorem dX11_report_43 : decode cX11_report 43 = .ok (.bipush 6, 2) := by decide +kernel
theorem dX11_report_45 : decode cX11_report 45 = .ok (.iload_n 1, 1) := by decide +kernel
theorem dX11_report_46 : decode cX11_report 46 = .ok (.imul, 1) := by decide +kernel
theorem dX11_report_47 : decode cX11_report 47 = .ok (.iadd, 1) := by decide +kernel
theorem dX11_report_48 : decode cX11_report 48 = .ok (.iconst 3, 1) := by decide +kernel
theorem dX11_report_49 : decode cX11_report 49 = .ok (.iadd, 1) := by decide +kernel
theorem dX11_report_50 : decode cX11_report 50 = .ok (.iconst 1, 1) := by decide +kernel
theorem dX11_report_51 : decode cX11_report 51 = .ok (.iastore, 1) := by decide +kernel
theorem dX11_report_52 : decode cX11_report 52 = .ok (.aload_n 0, 1) := by decide +kernel
theorem dX11_report_53 : decode cX11_report 53 = .ok (.invokevirtual 89, 3) := by decide +kernel
theorem dX11_report_56 : decode cX11_report 56 = .ok (.ireturn, 1) := by decide +kernel
set_option maxRecDepth 20000 in
theorem ggX11_isUnderWay_X11_ofVan : GoodIn wsX11_isUnderWay wsX11_ofVan := goodIn_r _ [6, 1, 7, 8, 9, 10, 11, 12, 13, 14, 15, 16, 17, 18, 19, 20] (by decide +kernel) (by decide +kernel)
set_option maxRecDepth 20000 in
theorem gX11_isUnderWay_X11_ofVan : GoodIn wsX11_isUnderWay (wsV RX11 93 RX11 yX11_ofVan wsX11_ofVan) := goodIn_app (goodIn_of _ (by decide +kernel)) ggX11_isUnderWay_X11_ofVan
theorem dX11_isUnderWay_0 : decode cX11_isUnderWay 0 = .ok (.aload_n 0, 1) := by decide +kernel
theorem dX11_isUnderWay_1 : decode cX11_isUnderWay 1 = .ok (.iload_n 1, 1) := by decide +kernel
theorem dX11_isUnderWay_2 : decode cX11_isUnderWay 2 = .ok (.iconst 2, 1) := by decide +kernel
theorem dX11_isUnderWay_3 : decode cX11_isUnderWay 3 = .ok (.invokevirtual 93, 3) := by decide +kernel
theorem dX11_isUnderWay_6 : decode cX11_isUnderWay 6 = .ok (.aload_n 0, 1) := by decide +kernel
theorem dX11_isUnderWay_7 : decode cX11_isUnderWay 7 = .ok (.getfield 7, 3) := by decide +kernel
theorem dX11_isUnderWay_10 : decode cX11_isUnderWay 10 = .ok (.iconst 4, 1) := by decide +kernel
theorem dX11_isUnderWay_11 : decode cX11_isUnderWay 11 = .ok (.iaload, 1) := by decide +kernel
theorem dX11_isUnderWay_12 : decode cX11_isUnderWay 12 = .ok (.if_icmp .le 7, 3) := by decide +kernel
theorem dX11_isUnderWay_15 : decode cX11_isUnderWay 15 = .ok (.iconst 1, 1) := by decide +kernel
theorem dX11_isUnderWay_16 : decode cX11_isUnderWay 16 = .ok (.goto 4, 3) := by decide +kernel
theorem dX11_isUnderWay_19 : decode cX11_isUnderWay 19 = .ok (.iconst 0, 1) := by decide +kernel
theorem dX11_isUnderWay_20 : decode cX11_isUnderWay 20 = .ok (.ireturn, 1) := by decide +kernel
set_option maxRecDepth 20000 in
theorem ggX11_isAt_X11_ofBicycle : GoodIn wsX11_isAt wsX11_ofBicycle := goodIn_r _ [5, 6, 7, 8, 9, 10, 11, 12, 13, 14, 15, 16, 17, 18, 19, 20] (by decide +kernel) (by decide +kernel)
set_option maxRecDepth 20000 in
theorem gX11_isAt_X11_ofBicycle : GoodIn wsX11_isAt (wsV RX11 36 RX11 yX11_ofBicycle wsX11_ofBicycle) := goodIn_app (goodIn_of _ (by decide +kernel)) ggX11_isAt_X11_ofBicycle
theorem dX11_isAt_0 : decode cX11_isAt 0 = .ok (.aload_n 0, 1) := by decide +kernel
theorem dX11_isAt_1 : decode cX11_isAt 1 = .ok (.iload_n 1, 1) := by decide +kernel
theorem dX11_isAt_2 : decode cX11_isAt 2 = .ok (.iconst 0, 1) := by decide +kernel
theorem dX11_isAt_3 : decode cX11_isAt 3 = .ok (.invokevirtual 36, 3) := by decide +kernel
theorem dX11_isAt_6 : decode cX11_isAt 6 = .ok (.iload_n 2, 1) := by decide +kernel
theorem dX11_isAt_7 : decode cX11_isAt 7 = .ok (.if_icmp .ne 17, 3) := by decide +kernel
theorem dX11_isAt_10 : decode cX11_isAt 10 = .ok (.aload_n 0, 1) := by decide +kernel
theorem dX11_isAt_11 : decode cX11_isAt 11 = .ok (.iload_n 1, 1) := by decide +kernel
theorem dX11_isAt_12 : decode cX11_isAt 12 = .ok (.iconst 1, 1) := by decide +kernel
theorem dX11_isAt_13 : decode cX11_isAt 13 = .ok (.invokevirtual 36, 3) := by decide +kernel
theorem dX11_isAt_16 : decode cX11_isAt 16 = .ok (.iload_n 3, 1) := by decide +kernel
theorem dX11_isAt_17 : decode cX11_isAt 17 = .ok (.if_icmp .ne 7, 3) := by decide +kernel
theorem dX11_isAt_20 : decode cX11_isAt 20 = .ok (.iconst 1, 1) := by decide +kernel
theorem dX11_isAt_21 : decode cX11_isAt 21 = .ok (.goto 4, 3) := by decide +kernel
theorem dX11_isAt_24 : decode cX11_isAt 24 = .ok (.iconst 0, 1) := by decide +kernel
theorem dX11_isAt_25 : decode cX11_isAt 25 = .ok (.ireturn, 1) := by decide +kernel
set_option maxRecDepth 20000 in
theorem ggX11_carried_X11_those : GoodIn wsX11_carried wsX11_those := goodIn_r _ [5, 6, 7, 8, 9, 4, 10, 14, 15, 16, 17, 18, 19, 20, 21, 22, 23, 24, 25, 26, 27] (by decide +kernel) (by decide +kernel)
set_option maxRecDepth 20000 in
theorem gX11_carried_X11_those : GoodIn wsX11_carried (wsV RX11 40 RX11 yX11_those wsX11_those) := goodIn_app (goodIn_of _ (by decide +kernel)) ggX11_carried_X11_those
set_option maxRecDepth 20000 in
theorem ggX11_carried_X11_ones : GoodIn wsX11_carried wsX11_ones := goodIn_r _ [13] (by decide +kernel) (by decide +kernel)
set_option maxRecDepth 20000 in
theorem gX11_carried_X11_ones : GoodIn wsX11_carried (va_wsS RX11 43 yX11_ones wsX11_ones) := goodIn_app (goodIn_of _ (by decide +kernel)) ggX11_carried_X11_ones
theorem dX11_carried_0 : decode cX11_carried 0 = .ok (.aload_n 0, 1) := by decide +kernel
theorem dX11_carried_1 : decode cX11_carried 1 = .ok (.iconst 2, 1) := by decide +kernel
theorem dX11_carried_2 : decode cX11_carried 2 = .ok (.iload_n 1, 1) := by decide +kernel
theorem dX11_carried_3 : decode cX11_carried 3 = .ok (.invokevirtual 40, 3) := by decide +kernel
theorem dX11_carried_6 : decode cX11_carried 6 = .ok (.invokestatic 43, 3) := by decide +kernel
theorem dX11_carried_9 : decode cX11_carried 9 = .ok (.ireturn, 1) := by decide +kernel
set_option maxRecDepth 20000 in
theorem ggX11_take_X11_isVan : GoodIn wsX11_take wsX11_isVan := goodIn_r _ [5, 6, 49, 50, 51, 52, 53, 54, 55, 56, 57, 58, 59, 60, 61, 62] (by decide +kernel) (by decide +kernel)
set_option maxRecDepth 20000 in
theorem gX11_take_X11_isVan : GoodIn wsX11_take (wsV RX11 96 RX11 yX11_isVan wsX11_isVan) := goodIn_app (goodIn_of _ (by decide +kernel)) ggX11_take_X11_isVan
set_option maxRecDepth 20000 in
theorem ggX11_take_X11_isBicycle : GoodIn wsX11_take wsX11_isBicycle := goodIn_r _ [10, 6, 49, 50, 51, 52, 53, 54, 55, 56, 57, 58, 59, 60, 61, 62] (by decide +kernel) (by decide +kernel)
set_option maxRecDepth 20000 in
theorem gX11_take_X11_isBicycle : GoodIn wsX11_take (wsV RX11 86 RX11 yX11_isBicycle wsX11_isBicycle) := goodIn_app (goodIn_of _ (by decide +kernel)) ggX11_take_X11_isBicycle
set_option maxRecDepth 20000 in
theorem ggX11_take_X11_isUnderWay : GoodIn wsX11_take wsX11_isUnderWay := goodIn_r _ [14, 6, 15, 16, 17, 4, 18, 49, 50, 51, 52, 53, 54, 55, 56, 57, 58, 59, 60, 61, 62] (by decide +kernel) (by decide +kernel)
set_option maxRecDepth 20000 in
theorem gX11_take_X11_isUnderWay : GoodIn wsX11_take (wsV RX11 99 RX11 yX11_isUnderWay wsX11_isUnderWay) := goodIn_app (goodIn_of _ (by decide +kernel)) ggX11_take_X11_isUnderWay
set_option maxRecDepth 20000 in
theorem ggX11_take_X11_carried : GoodIn wsX11_take wsX11_carried := goodIn_r _ [22, 23, 24, 25, 4, 26, 6, 27, 28, 29, 30, 31, 32, 33, 49, 50, 51, 52, 53, 54, 55, 56, 57, 58, 59, 60, 61, 62] (by decide +kernel) (by decide +kernel)
set_option maxRecDepth 20000 in
theorem gX11_take_X11_carried : GoodIn wsX11_take (wsV RX11 102 RX11 yX11_carried wsX11_carried) := goodIn_app (goodIn_of _ (by decide +kernel)) ggX11_take_X11_carried
set_option maxRecDepth 20000 in
theorem ggX11_take_X11_ofVan : GoodIn wsX11_take wsX11_ofVan := goodIn_r _ [18, 6, 49, 50, 51, 52, 53, 54, 55, 56, 57, 58, 59, 60, 61, 62] (by decide +kernel) (by decide +kernel)
set_option maxRecDepth 20000 in
theorem gX11_take_X11_ofVan : GoodIn wsX11_take (wsV RX11 93 RX11 yX11_ofVan wsX11_ofVan) := goodIn_app (goodIn_of _ (by decide +kernel)) ggX11_take_X11_ofVan
set_option maxRecDepth 20000 in
theorem ggX11_take_X11_isAt : GoodIn wsX11_take wsX11_isAt := goodIn_r _ [37, 27, 28, 29, 4, 30, 6, 49, 50, 51, 52, 53, 54, 55, 56, 57, 58, 59, 60, 61, 62] (by decide +kernel) (by decide +kernel)
set_option maxRecDepth 20000 in
theorem gX11_take_X11_isAt : GoodIn wsX11_take (wsV RX11 105 RX11 yX11_isAt wsX11_isAt) := goodIn_app (goodIn_of _ (by decide +kernel)) ggX11_take_X11_isAt
set_option maxRecDepth 20000 in
theorem ggX11_take_X11_changes : GoodIn wsX11_take wsX11_changes := goodIn_r _ [41, 42, 43, 44, 6, 49, 50, 51, 52, 53, 54, 55, 56, 57, 58, 59, 60, 61, 62] (by decide +kernel) (by decide +kernel)
set_option maxRecDepth 20000 in
theorem gX11_take_X11_changes : GoodIn wsX11_take (wsV RX11 57 RX11 yX11_changes wsX11_changes) := goodIn_app (goodIn_of _ (by decide +kernel)) ggX11_take_X11_changes
set_option maxRecDepth 20000 in
theorem ggX11_take_X11_puts : GoodIn wsX11_take wsX11_puts := goodIn_r _ [48, 6, 49, 50, 51, 52, 53, 54, 55, 56, 57, 58, 59, 60, 61, 62] (by decide +kernel) (by decide +kernel)
set_option maxRecDepth 20000 in
theorem gX11_take_X11_puts : GoodIn wsX11_take (wsV RX11 67 RX11 yX11_puts wsX11_puts) := goodIn_app (goodIn_of _ (by decide +kernel)) ggX11_take_X11_puts
theorem dX11_take_0 : decode cX11_take 0 = .ok (.aload_n 0, 1) := by decide +kernel
theorem dX11_take_1 : decode cX11_take 1 = .ok (.iload_n 1, 1) := by decide +kernel
theorem dX11_take_2 : decode cX11_take 2 = .ok (.invokevirtual 96, 3) := by decide +kernel
theorem dX11_take_5 : decode cX11_take 5 = .ok (.ifCond .eq 11, 3) := by decide +kernel
theorem dX11_take_8 : decode cX11_take 8 = .ok (.aload_n 0, 1) := by decide +kernel
theorem dX11_take_9 : decode cX11_take 9 = .ok (.iload_n 2, 1) := by decide +kernel
theorem dX11_take_10 : decode cX11_take 10 = .ok (.invokevirtual 86, 3) := by decide +kernel
theorem dX11_take_13 : decode cX11_take 13 = .ok (.ifCond .ne 5, 3) := by decide +kernel
theorem dX11_take_16 : decode cX11_take 16 = .ok (.iconst (-1), 1) := by decide +kernel
theorem dX11_take_17 : decode cX11_take 17 = .ok (.ireturn, 1) := by decide +kernel
theorem dX11_take_18 : decode cX11_take 18 = .ok (.aload_n 0, 1) := by decide +kernel
theorem dX11_take_19 : decode cX11_take 19 = .ok (.iload_n 1, 1) := by decide +kernel
theorem dX11_take_20 : decode cX11_take 20 = .ok (.invokevirtual 99, 3) := by decide +kernel
theorem dX11_take_23 : decode cX11_take 23 = .ok (.ifCond .ne 32, 3) := by decide +kernel
theorem dX11_take_26 : decode cX11_take 26 = .ok (.aload_n 0, 1) := by decide +kernel
theorem dX11_take_27 : decode cX11_take 27 = .ok (.iload_n 1, 1) := by decide +kernel
theorem dX11_take_28 : decode cX11_take 28 = .ok (.invokevirtual 102, 3) := by decide +kernel
theorem dX11_take_31 : decode cX11_take 31 = .ok (.aload_n 0, 1) := by decide +kernel
theorem dX11_take_32 : decode cX11_take 32 = .ok (.iload_n 1, 1) := by decide +kernel
theorem dX11_take_33 : decode cX11_take 33 = .ok (.iconst 1, 1) := by decide +kernel
theorem dX11_take_34 : decode cX11_take 34 = .ok (.invokevirtual 93, 3) := by decide +kernel
theorem dX11_take_37 : decode cX11_take 37 = .ok (.if_icmp .eq 18, 3) := by decide +kernel
theorem dX11_take_40 : decode cX11_take 40 = .ok (.aload_n 0, 1) := by decide +kernel
theorem dX11_take_41 : decode cX11_take 41 = .ok (.iload_n 2, 1) := by decide +kernel
theorem dX11_take_42 : decode cX11_take 42 = .ok (.iconst 0, 1) := by decide +kernel
theorem dX11_take_43 : decode cX11_take 43 = .ok (.aload_n 0, 1) := by decide +kernel
theorem dX11_take_44 : decode cX11_take 44 = .ok (.iload_n 1, 1) := by decide +kernel
theorem dX11_take_45 : decode cX11_take 45 = .ok (.iconst 0, 1) := by decide +kernel
theorem dX11_take_46 : decode cX11_take 46 = .ok (.invokevirtual 93, 3) := by decide +kernel
theorem dX11_take_49 : decode cX11_take 49 = .ok (.invokevirtual 105, 3) := by decide +kernel
theorem dX11_take_52 : decode cX11_take 52 = .ok (.ifCond .ne 6, 3) := by decide +kernel
theorem dX11_take_55 : decode cX11_take 55 = .ok (.bipush (-2), 2) := by decide +kernel
theorem dX11_take_57 : decode cX11_take 57 = .ok (.ireturn, 1) := by decide +kernel
theorem dX11_take_58 : decode cX11_take 58 = .ok (.aload_n 0, 1) := by decide +kernel
theorem dX11_take_59 : decode cX11_take 59 = .ok (.invokevirtual 57, 3) := by decide +kernel
theorem dX11_take_62 : decode cX11_take 62 = .ok (.aload_n 0, 1) := by decide +kernel
theorem dX11_take_63 : decode cX11_take 63 = .ok (.iload_n 2, 1) := by decide +kernel
theorem dX11_take_64 : decode cX11_take 64 = .ok (.iconst 2, 1) := by decide +kernel
theorem dX11_take_65 : decode cX11_take 65 = .ok (.iload_n 1, 1) := by decide +kernel
theorem dX11_take_66 : decode cX11_take 66 = .ok (.invokevirtual 67, 3) := by decide +kernel
theorem dX11_take_69 : decode cX11_take 69 = .ok (.aload_n 0, 1) := by decide +kernel
theorem dX11_take_70 : decode cX11_take 70 = .ok (.iload_n 1, 1) := by decide +kernel
theorem dX11_take_71 : decode cX11_take 71 = .ok (.invokevirtual 102, 3) := by decide +kernel
theorem dX11_take_74 : decode cX11_take 74 = .ok (.ireturn, 1) := by decide +kernel
set_option maxRecDepth 20000 in
theorem ggX11_put_X11_isVan : GoodIn wsX11_put wsX11_isVan := goodIn_r _ [5, 6, 61, 62, 63, 64, 65, 66, 67, 68, 69, 70, 71, 72, 73, 74] (by decide +kernel) (by decide +kernel)
set_option maxRecDepth 20000 in
theorem gX11_put_X11_isVan : GoodIn wsX11_put (wsV RX11 96 RX11 yX11_isVan wsX11_isVan) := goodIn_app (goodIn_of _ (by decide +kernel)) ggX11_put_X11_isVan
set_option maxRecDepth 20000 in
theorem ggX11_put_X11_isBicycle : GoodIn wsX11_put wsX11_isBicycle := goodIn_r _ [10, 6, 61, 62, 63, 64, 65, 66, 67, 68, 69, 70, 71, 72, 73, 74] (by decide +kernel) (by decide +kernel)
set_option maxRecDepth 20000 in
theorem gX11_put_X11_isBicycle : GoodIn wsX11_put (wsV RX11 86 RX11 yX11_isBicycle wsX11_isBicycle) := goodIn_app (goodIn_of _ (by decide +kernel)) ggX11_put_X11_isBicycle
set_option maxRecDepth 20000 in
theorem ggX11_put_X11_isUnderWay : GoodIn wsX11_put wsX11_isUnderWay := goodIn_r _ [14, 6, 15, 16, 17, 4, 18, 61, 62, 63, 64, 65, 66, 67, 68, 69, 70, 71, 72, 73, 74] (by decide +kernel) (by decide +kernel)
set_option maxRecDepth 20000 in
theorem gX11_put_X11_isUnderWay : GoodIn wsX11_put (wsV RX11 99 RX11 yX11_isUnderWay wsX11_isUnderWay) := goodIn_app (goodIn_of _ (by decide +kernel)) ggX11_put_X11_isUnderWay
set_option maxRecDepth 20000 in
theorem ggX11_put_X11_isAt : GoodIn wsX11_put wsX11_isAt := goodIn_r _ [22, 23, 24, 25, 4, 26, 6, 61, 62, 63, 64, 65, 66, 67, 68, 69, 70, 71, 72, 73, 74] (by decide +kernel) (by decide +kernel)
set_option maxRecDepth 20000 in
theorem gX11_put_X11_isAt : GoodIn wsX11_put (wsV RX11 105 RX11 yX11_isAt wsX11_isAt) := goodIn_app (goodIn_of _ (by decide +kernel)) ggX11_put_X11_isAt
set_option maxRecDepth 20000 in
theorem ggX11_put_X11_ofVan : GoodIn wsX11_put wsX11_ofVan := goodIn_r _ [18, 6, 61, 62, 63, 64, 65, 66, 67, 68, 69, 70, 71, 72, 73, 74] (by decide +kernel) (by decide +kernel)
set_option maxRecDepth 20000 in
theorem gX11_put_X11_ofVan : GoodIn wsX11_put (wsV RX11 93 RX11 yX11_ofVan wsX11_ofVan) := goodIn_app (goodIn_of _ (by decide +kernel)) ggX11_put_X11_ofVan
set_option maxRecDepth 20000 in
theorem ggX11_put_X11_isFree : GoodIn wsX11_put wsX11_isFree := goodIn_r _ [30, 31, 32, 33, 4, 34, 35, 36, 37, 38, 6, 23, 24, 25, 26, 39, 40, 41, 42, 43, 44, 45, 61, 62, 63, 64, 65, 66, 67, 68, 69, 70, 71, 72, 73, 74] (by decide +kernel) (by decide +kernel)
set_option maxRecDepth 20000 in
theorem gX11_put_X11_isFree : GoodIn wsX11_put (wsV RX11 64 RX11 yX11_isFree wsX11_isFree) := goodIn_app (goodIn_of _ (by decide +kernel)) ggX11_put_X11_isFree
set_option maxRecDepth 20000 in
theorem ggX11_put_X11_changes : GoodIn wsX11_put wsX11_changes := goodIn_r _ [49, 50, 51, 52, 6, 61, 62, 63, 64, 65, 66, 67, 68, 69, 70, 71, 72, 73, 74] (by decide +kernel) (by decide +kernel)
set_option maxRecDepth 20000 in
theorem gX11_put_X11_changes : GoodIn wsX11_put (wsV RX11 57 RX11 yX11_changes wsX11_changes) := goodIn_app (goodIn_of _ (by decide +kernel)) ggX11_put_X11_changes
set_option maxRecDepth 20000 in
theorem ggX11_put_X11_puts : GoodIn wsX11_put wsX11_puts := goodIn_r _ [56, 6, 61, 62, 63, 64, 65, 66, 67, 68, 69, 70, 71, 72, 73, 74] (by decide +kernel) (by decide +kernel)
set_option maxRecDepth 20000 in
theorem gX11_put_X11_puts : GoodIn wsX11_put (wsV RX11 67 RX11 yX11_puts wsX11_puts) := goodIn_app (goodIn_of _ (by decide +kernel)) ggX11_put_X11_puts
set_option maxRecDepth 20000 in
theorem ggX11_put_X11_carried : GoodIn wsX11_put wsX11_carried := goodIn_r _ [60, 35, 36, 37, 4, 38, 6, 23, 24, 25, 26, 39, 40, 41, 61, 62, 63, 64, 65, 66, 67, 68, 69, 70, 71, 72, 73, 74] (by decide +kernel) (by decide +kernel)
set_option maxRecDepth 20000 in
theorem gX11_put_X11_carried : GoodIn wsX11_put (wsV RX11 102 RX11 yX11_carried wsX11_carried) := goodIn_app (goodIn_of _ (by decide +kernel)) ggX11_put_X11_carried
theorem dX11_put_0 : decode cX11_put 0 = .ok (.aload_n 0, 1) := by decide +kernel
theorem dX11_put_1 : decode cX11_put 1 = .ok (.iload_n 1, 1) := by decide +kernel
theorem dX11_put_2 : decode cX11_put 2 = .ok (.invokevirtual 96, 3) := by decide +kernel
theorem dX11_put_5 : decode cX11_put 5 = .ok (.ifCond .eq 11, 3) := by decide +kernel
theorem dX11_put_8 : decode cX11_put 8 = .ok (.aload_n 0, 1) := by decide +kernel
theorem dX11_put_9 : decode cX11_put 9 = .ok (.iload_n 2, 1) := by decide +kernel
theorem dX11_put_10 : decode cX11_put 10 = .ok (.invokevirtual 86, 3) := by decide +kernel
theorem dX11_put_13 : decode cX11_put 13 = .ok (.ifCond .ne 5, 3) := by decide +kernel
theorem dX11_put_16 : decode cX11_put 16 = .ok (.iconst (-1), 1) := by decide +kernel
theorem dX11_put_17 : decode cX11_put 17 = .ok (.ireturn, 1) := by decide +kernel
theorem dX11_put_18 : decode cX11_put 18 = .ok (.aload_n 0, 1) := by decide +kernel
theorem dX11_put_19 : decode cX11_put 19 = .ok (.iload_n 1, 1) := by decide +kernel
theorem dX11_put_20 : decode cX11_put 20 = .ok (.invokevirtual 99, 3) := by decide +kernel
theorem dX11_put_23 : decode cX11_put 23 = .ok (.ifCond .ne 26, 3) := by decide +kernel
theorem dX11_put_26 : decode cX11_put 26 = .ok (.aload_n 0, 1) := by decide +kernel
theorem dX11_put_27 : decode cX11_put 27 = .ok (.iload_n 2, 1) := by decide +kernel
theorem dX11_put_28 : decode cX11_put 28 = .ok (.iconst 2, 1) := by decide +kernel
theorem dX11_put_29 : decode cX11_put 29 = .ok (.iload_n 1, 1) := by decide +kernel
theorem dX11_put_30 : decode cX11_put 30 = .ok (.invokevirtual 105, 3) := by decide +kernel
theorem dX11_put_33 : decode cX11_put 33 = .ok (.ifCond .eq 16, 3) := by decide +kernel
theorem dX11_put_36 : decode cX11_put 36 = .ok (.aload_n 0, 1) := by decide +kernel
theorem dX11_put_37 : decode cX11_put 37 = .ok (.aload_n 0, 1) := by decide +kernel
theorem dX11_put_38 : decode cX11_put 38 = .ok (.iload_n 1, 1) := by decide +kernel
theorem dX11_put_39 : decode cX11_put 39 = .ok (.iconst 0, 1) := by decide +kernel
theorem dX11_put_40 : decode cX11_put 40 = .ok (.invokevirtual 93, 3) := by decide +kernel
theorem dX11_put_43 : decode cX11_put 43 = .ok (.invokevirtual 64, 3) := by decide +kernel
theorem dX11_put_46 : decode cX11_put 46 = .ok (.ifCond .ne 6, 3) := by decide +kernel
theorem dX11_put_49 : decode cX11_put 49 = .ok (.bipush (-2), 2) := by decide +kernel
theorem dX11_put_51 : decode cX11_put 51 = .ok (.ireturn, 1) := by decide +kernel
theorem dX11_put_52 : decode cX11_put 52 = .ok (.aload_n 0, 1) := by decide +kernel
theorem dX11_put_53 : decode cX11_put 53 = .ok (.invokevirtual 57, 3) := by decide +kernel
theorem dX11_put_56 : decode cX11_put 56 = .ok (.aload_n 0, 1) := by decide +kernel
theorem dX11_put_57 : decode cX11_put 57 = .ok (.iload_n 2, 1) := by decide +kernel
theorem dX11_put_58 : decode cX11_put 58 = .ok (.iconst 0, 1) := by decide +kernel
theorem dX11_put_59 : decode cX11_put 59 = .ok (.aload_n 0, 1) := by decide +kernel
theorem dX11_put_60 : decode cX11_put 60 = .ok (.iload_n 1, 1) := by decide +kernel
theorem dX11_put_61 : decode cX11_put 61 = .ok (.iconst 0, 1) := by decide +kernel
theorem dX11_put_62 : decode cX11_put 62 = .ok (.invokevirtual 93, 3) := by decide +kernel
theorem dX11_put_65 : decode cX11_put 65 = .ok (.invokevirtual 67, 3) := by decide +kernel
theorem dX11_put_68 : decode cX11_put 68 = .ok (.aload_n 0, 1) := by decide +kernel
theorem dX11_put_69 : decode cX11_put 69 = .ok (.iload_n 1, 1) := by decide +kernel
theorem dX11_put_70 : decode cX11_put 70 = .ok (.invokevirtual 102, 3) := by decide +kernel
theorem dX11_put_73 : decode cX11_put 73 = .ok (.ireturn, 1) := by decide +kernel
set_option maxRecDepth 20000 in
theorem ggX11_way_X11_ofStation : GoodIn wsX11_way wsX11_ofStation := goodIn_r _ [5, 6, 7, 8, 9, 10, 11, 12, 13, 14, 15, 16, 17, 18, 19, 20] (by decide +kernel) (by decide +kernel)
set_option maxRecDepth 20000 in
theorem gX11_way_X11_ofStation : GoodIn wsX11_way (wsV RX11 50 RX11 yX11_ofStation wsX11_ofStation) := goodIn_app (goodIn_of _ (by decide +kernel)) ggX11_way_X11_ofStation
theorem dX11_way_0 : decode cX11_way 0 = .ok (.aload_n 0, 1) := by decide +kernel
theorem dX11_way_1 : decode cX11_way 1 = .ok (.iload_n 1, 1) := by decide +kernel
theorem dX11_way_2 : decode cX11_way 2 = .ok (.iconst 0, 1) := by decide +kernel
theorem dX11_way_3 : decode cX11_way 3 = .ok (.invokevirtual 50, 3) := by decide +kernel
theorem dX11_way_6 : decode cX11_way 6 = .ok (.aload_n 0, 1) := by decide +kernel
theorem dX11_way_7 : decode cX11_way 7 = .ok (.iload_n 2, 1) := by decide +kernel
theorem dX11_way_8 : decode cX11_way 8 = .ok (.iconst 0, 1) := by decide +kernel
theorem dX11_way_9 : decode cX11_way 9 = .ok (.invokevirtual 50, 3) := by decide +kernel
theorem dX11_way_12 : decode cX11_way 12 = .ok (.isub, 1) := by decide +kernel
theorem dX11_way_13 : decode cX11_way 13 = .ok (.istore_n 3, 1) := by decide +kernel
theorem dX11_way_14 : decode cX11_way 14 = .ok (.iload_n 3, 1) := by decide +kernel
theorem dX11_way_15 : decode cX11_way 15 = .ok (.ifCond .ge 8, 3) := by decide +kernel
theorem dX11_way_18 : decode cX11_way 18 = .ok (.iload_n 3, 1) := by decide +kernel
theorem dX11_way_19 : decode cX11_way 19 = .ok (.ineg, 1) := by decide +kernel
theorem dX11_way_20 : decode cX11_way 20 = .ok (.goto 4, 3) := by decide +kernel
theorem dX11_way_23 : decode cX11_way 23 = .ok (.iload_n 3, 1) := by decide +kernel
theorem dX11_way_24 : decode cX11_way 24 = .ok (.ireturn, 1) := by decide +kernel
set_option maxRecDepth 20000 in
theorem ggX11_go_X11_isVan : GoodIn wsX11_go wsX11_isVan := goodIn_r _ [6, 1, 34, 35, 36, 37, 38, 39, 40, 41, 42, 43, 44, 45, 46, 47] (by decide +kernel) (by decide +kernel)
set_option maxRecDepth 20000 in
theorem gX11_go_X11_isVan : GoodIn wsX11_go (wsV RX11 96 RX11 yX11_isVan wsX11_isVan) := goodIn_app (goodIn_of _ (by decide +kernel)) ggX11_go_X11_isVan
set_option maxRecDepth 20000 in
theorem ggX11_go_X11_isStation : GoodIn wsX11_go wsX11_isStation := goodIn_r _ [10, 1, 34, 35, 36, 37, 38, 39, 40, 41, 42, 43, 44, 45, 46, 47] (by decide +kernel) (by decide +kernel)
set_option maxRecDepth 20000 in
theorem gX11_go_X11_isStation : GoodIn wsX11_go (wsV RX11 60 RX11 yX11_isStation wsX11_isStation) := goodIn_app (goodIn_of _ (by decide +kernel)) ggX11_go_X11_isStation
set_option maxRecDepth 20000 in
theorem ggX11_go_X11_isUnderWay : GoodIn wsX11_go wsX11_isUnderWay := goodIn_r _ [14, 1, 15, 16, 17, 5, 18, 34, 35, 36, 37, 38, 39, 40, 41, 42, 43, 44, 45, 46, 47] (by decide +kernel) (by decide +kernel)
set_option maxRecDepth 20000 in
theorem gX11_go_X11_isUnderWay : GoodIn wsX11_go (wsV RX11 99 RX11 yX11_isUnderWay wsX11_isUnderWay) := goodIn_app (goodIn_of _ (by decide +kernel)) ggX11_go_X11_isUnderWay
set_option maxRecDepth 20000 in
theorem ggX11_go_X11_ofVan : GoodIn wsX11_go wsX11_ofVan := goodIn_r _ [18, 1, 34, 35, 36, 37, 38, 39, 40, 41, 42, 43, 44, 45, 46, 47] (by decide +kernel) (by decide +kernel)
set_option maxRecDepth 20000 in
theorem gX11_go_X11_ofVan : GoodIn wsX11_go (wsV RX11 93 RX11 yX11_ofVan wsX11_ofVan) := goodIn_app (goodIn_of _ (by decide +kernel)) ggX11_go_X11_ofVan
set_option maxRecDepth 20000 in
theorem ggX11_go_X11_changes : GoodIn wsX11_go wsX11_changes := goodIn_r _ [22, 23, 24, 25, 1, 34, 35, 36, 37, 38, 39, 40, 41, 42, 43, 44, 45, 46, 47] (by decide +kernel) (by decide +kernel)
set_option maxRecDepth 20000 in
theorem gX11_go_X11_changes : GoodIn wsX11_go (wsV RX11 57 RX11 yX11_changes wsX11_changes) := goodIn_app (goodIn_of _ (by decide +kernel)) ggX11_go_X11_changes
set_option maxRecDepth 20000 in
theorem ggX11_go_X11_way : GoodIn wsX11_go wsX11_way := goodIn_r _ [29, 30, 31, 32, 5, 33, 1, 34, 35, 36, 37, 38, 39, 40, 41, 42, 43, 44, 45, 46, 47] (by decide +kernel) (by decide +kernel)
set_option maxRecDepth 20000 in
theorem gX11_go_X11_way : GoodIn wsX11_go (wsV RX11 108 RX11 yX11_way wsX11_way) := goodIn_app (goodIn_of _ (by decide +kernel)) ggX11_go_X11_way
theorem dX11_go_0 : decode cX11_go 0 = .ok (.aload_n 0, 1) := by decide +kernel
theorem dX11_go_1 : decode cX11_go 1 = .ok (.iload_n 1, 1) := by decide +kernel
theorem dX11_go_2 : decode cX11_go 2 = .ok (.invokevirtual 96, 3) := by decide +kernel
theorem dX11_go_5 : decode cX11_go 5 = .ok (.ifCond .eq 11, 3) := by decide +kernel
theorem dX11_go_8 : decode cX11_go 8 = .ok (.aload_n 0, 1) := by decide +kernel
theorem dX11_go_9 : decode cX11_go 9 = .ok (.iload_n 2, 1) := by decide +kernel
theorem dX11_go_10 : decode cX11_go 10 = .ok (.invokevirtual 60, 3) := by decide +kernel
theorem dX11_go_13 : decode cX11_go 13 = .ok (.ifCond .ne 5, 3) := by decide +kernel
theorem dX11_go_16 : decode cX11_go 16 = .ok (.iconst (-1), 1) := by decide +kernel
theorem dX11_go_17 : decode cX11_go 17 = .ok (.ireturn, 1) := by decide +kernel
theorem dX11_go_18 : decode cX11_go 18 = .ok (.aload_n 0, 1) := by decide +kernel
theorem dX11_go_19 : decode cX11_go 19 = .ok (.iload_n 1, 1) := by decide +kernel
theorem dX11_go_20 : decode cX11_go 20 = .ok (.invokevirtual 99, 3) := by decide +kernel
theorem dX11_go_23 : decode cX11_go 23 = .ok (.ifCond .ne 13, 3) := by decide +kernel
theorem dX11_go_26 : decode cX11_go 26 = .ok (.aload_n 0, 1) := by decide +kernel
theorem dX11_go_27 : decode cX11_go 27 = .ok (.iload_n 1, 1) := by decide +kernel
theorem dX11_go_28 : decode cX11_go 28 = .ok (.iconst 0, 1) := by decide +kernel
theorem dX11_go_29 : decode cX11_go 29 = .ok (.invokevirtual 93, 3) := by decide +kernel
theorem dX11_go_32 : decode cX11_go 32 = .ok (.iload_n 2, 1) := by decide +kernel
theorem dX11_go_33 : decode cX11_go 33 = .ok (.if_icmp .ne 6, 3) := by decide +kernel
theorem dX11_go_36 : decode cX11_go 36 = .ok (.bipush (-2), 2) := by decide +kernel
theorem dX11_go_38 : decode cX11_go 38 = .ok (.ireturn, 1) := by decide +kernel
theorem dX11_go_39 : decode cX11_go 39 = .ok (.aload_n 0, 1) := by decide +kernel
theorem dX11_go_40 : decode cX11_go 40 = .ok (.invokevirtual 57, 3) := by decide +kernel
theorem dX11_go_43 : decode cX11_go 43 = .ok (.aload_n 0, 1) := by decide +kernel
theorem dX11_go_44 : decode cX11_go 44 = .ok (.getfield 7, 3) := by decide +kernel
theorem dX11_go_47 : decode cX11_go 47 = .ok (.sipush 200, 3) := by decide +kernel
theorem dX11_go_50 : decode cX11_go 50 = .ok (.iconst 3, 1) := by decide +kernel
theorem dX11_go_51 : decode cX11_go 51 = .ok (.iload_n 1, 1) := by decide +kernel
theorem dX11_go_52 : decode cX11_go 52 = .ok (.imul, 1) := by decide +kernel
theorem dX11_go_53 : decode cX11_go 53 = .ok (.iadd, 1) := by decide +kernel
theorem dX11_go_54 : decode cX11_go 54 = .ok (.iconst 2, 1) := by decide +kernel
theorem dX11_go_55 : decode cX11_go 55 = .ok (.iadd, 1) := by decide +kernel
theorem dX11_go_56 : decode cX11_go 56 = .ok (.aload_n 0, 1) := by decide +kernel
theorem dX11_go_57 : decode cX11_go 57 = .ok (.getfield 7, 3) := by decide +kernel
theorem dX11_go_60 : decode cX11_go 60 = .ok (.iconst 4, 1) := by decide +kernel
theorem dX11_go_61 : decode cX11_go 61 = .ok (.iaload, 1) := by decide +kernel
theorem dX11_go_62 : decode cX11_go 62 = .ok (.aload_n 0, 1) := by decide +kernel
theorem dX11_go_63 : decode cX11_go 63 = .ok (.aload_n 0, 1) := by decide +kernel
theorem dX11_go_64 : decode cX11_go 64 = .ok (.iload_n 1, 1) := by decide +kernel
theorem dX11_go_65 : decode cX11_go 65 = .ok (.iconst 0, 1) := by decide +kernel
theorem dX11_go_66 : decode cX11_go 66 = .ok (.invokevirtual 93, 3) := by decide +kernel
theorem dX11_go_69 : decode cX11_go 69 = .ok (.iload_n 2, 1) := by decide +kernel
theorem dX11_go_70 : decode cX11_go 70 = .ok (.invokevirtual 108, 3) := by decide +kernel
theorem dX11_go_73 : decode cX11_go 73 = .ok (.iconst 2, 1) := by decide +kernel
theorem dX11_go_74 : decode cX11_go 74 = .ok (.idiv, 1) := by decide +kernel
theorem dX11_go_75 : decode cX11_go 75 = .ok (.iadd, 1) := by decide +kernel
theorem dX11_go_76 : decode cX11_go 76 = .ok (.iconst 1, 1) := by decide +kernel
theorem dX11_go_77 : decode cX11_go 77 = .ok (.iadd, 1) := by decide +kernel
theorem dX11_go_78 : decode cX11_go 78 = .ok (.iastore, 1) := by decide +kernel
theorem dX11_go_79 : decode cX11_go 79 = .ok (.aload_n 0, 1) := by decide +kernel
theorem dX11_go_80 : decode cX11_go 80 = .ok (.getfield 7, 3) := by decide +kernel
theorem dX11_go_83 : decode cX11_go 83 = .ok (.sipush 200, 3) := by decide +kernel
theorem dX11_go_86 : decode cX11_go 86 = .ok (.iconst 3, 1) := by decide +kernel
theorem dX11_go_87 : decode cX11_go 87 = .ok (.iload_n 1, 1) := by decide +kernel
theorem dX11_go_88 : decode cX11_go 88 = .ok (.imul, 1) := by decide +kernel
theorem dX11_go_89 : decode cX11_go 89 = .ok (.iadd, 1) := by decide +kernel
theorem dX11_go_90 : decode cX11_go 90 = .ok (.iconst 0, 1) := by decide +kernel
theorem dX11_go_91 : decode cX11_go 91 = .ok (.iadd, 1) := by decide +kernel
theorem dX11_go_92 : decode cX11_go 92 = .ok (.iload_n 2, 1) := by decide +kernel
theorem dX11_go_93 : decode cX11_go 93 = .ok (.iastore, 1) := by decide +kernel
theorem dX11_go_94 : decode cX11_go 94 = .ok (.aload_n 0, 1) := by decide +kernel
theorem dX11_go_95 : decode cX11_go 95 = .ok (.iload_n 1, 1) := by decide +kernel
theorem dX11_go_96 : decode cX11_go 96 = .ok (.iconst 2, 1) := by decide +kernel
theorem dX11_go_97 : decode cX11_go 97 = .ok (.invokevirtual 93, 3) := by decide +kernel
theorem dX11_go_100 : decode cX11_go 100 = .ok (.ireturn, 1) := by decide +kernel
set_option maxRecDepth 20000 in
theorem ggX11_mend_X11_isVan : GoodIn wsX11_mend wsX11_isVan := goodIn_r _ [6, 1, 38, 39, 40, 41, 42, 43, 44, 45, 46, 47, 48, 49, 50, 51] (by decide +kernel) (by decide +kernel)
set_option maxRecDepth 20000 in
theorem gX11_mend_X11_isVan : GoodIn wsX11_mend (wsV RX11 96 RX11 yX11_isVan wsX11_isVan) := goodIn_app (goodIn_of _ (by decide +kernel)) ggX11_mend_X11_isVan
set_option maxRecDepth 20000 in
theorem ggX11_mend_X11_isBicycle : GoodIn wsX11_mend wsX11_isBicycle := goodIn_r _ [10, 1, 38, 39, 40, 41, 42, 43, 44, 45, 46, 47, 48, 49, 50, 51] (by decide +kernel) (by decide +kernel)
set_option maxRecDepth 20000 in
theorem gX11_mend_X11_isBicycle : GoodIn wsX11_mend (wsV RX11 86 RX11 yX11_isBicycle wsX11_isBicycle) := goodIn_app (goodIn_of _ (by decide +kernel)) ggX11_mend_X11_isBicycle
set_option maxRecDepth 20000 in
theorem ggX11_mend_X11_isUnderWay : GoodIn wsX11_mend wsX11_isUnderWay := goodIn_r _ [14, 1, 15, 16, 17, 5, 18, 38, 39, 40, 41, 42, 43, 44, 45, 46, 47, 48, 49, 50, 51] (by decide +kernel) (by decide +kernel)
set_option maxRecDepth 20000 in
theorem gX11_mend_X11_isUnderWay : GoodIn wsX11_mend (wsV RX11 99 RX11 yX11_isUnderWay wsX11_isUnderWay) := goodIn_app (goodIn_of _ (by decide +kernel)) ggX11_mend_X11_isUnderWay
set_option maxRecDepth 20000 in
theorem ggX11_mend_X11_ofVan : GoodIn wsX11_mend wsX11_ofVan := goodIn_r _ [18, 1, 38, 39, 40, 41, 42, 43, 44, 45, 46, 47, 48, 49, 50, 51] (by decide +kernel) (by decide +kernel)
set_option maxRecDepth 20000 in
theorem gX11_mend_X11_ofVan : GoodIn wsX11_mend (wsV RX11 93 RX11 yX11_ofVan wsX11_ofVan) := goodIn_app (goodIn_of _ (by decide +kernel)) ggX11_mend_X11_ofVan
set_option maxRecDepth 20000 in
theorem ggX11_mend_X11_isAt : GoodIn wsX11_mend wsX11_isAt := goodIn_r _ [22, 23, 24, 25, 5, 26, 1, 38, 39, 40, 41, 42, 43, 44, 45, 46, 47, 48, 49, 50, 51] (by decide +kernel) (by decide +kernel)
set_option maxRecDepth 20000 in
theorem gX11_mend_X11_isAt : GoodIn wsX11_mend (wsV RX11 105 RX11 yX11_isAt wsX11_isAt) := goodIn_app (goodIn_of _ (by decide +kernel)) ggX11_mend_X11_isAt
set_option maxRecDepth 20000 in
theorem ggX11_mend_X11_changes : GoodIn wsX11_mend wsX11_changes := goodIn_r _ [30, 31, 32, 33, 1, 38, 39, 40, 41, 42, 43, 44, 45, 46, 47, 48, 49, 50, 51] (by decide +kernel) (by decide +kernel)
set_option maxRecDepth 20000 in
theorem gX11_mend_X11_changes : GoodIn wsX11_mend (wsV RX11 57 RX11 yX11_changes wsX11_changes) := goodIn_app (goodIn_of _ (by decide +kernel)) ggX11_mend_X11_changes
set_option maxRecDepth 20000 in
theorem ggX11_mend_X11_puts : GoodIn wsX11_mend wsX11_puts := goodIn_r _ [37, 1, 38, 39, 40, 41, 42, 43, 44, 45, 46, 47, 48, 49, 50, 51] (by decide +kernel) (by decide +kernel)
set_option maxRecDepth 20000 in
theorem gX11_mend_X11_puts : GoodIn wsX11_mend (wsV RX11 67 RX11 yX11_puts wsX11_puts) := goodIn_app (goodIn_of _ (by decide +kernel)) ggX11_mend_X11_puts
set_option maxRecDepth 20000 in
theorem ggX11_mend_X11_ofBicycle : GoodIn wsX11_mend wsX11_ofBicycle := goodIn_r _ [26, 1, 38, 39, 40, 41, 42, 43, 44, 45, 46, 47, 48, 49, 50, 51] (by decide +kernel) (by decide +kernel)
set_option maxRecDepth 20000 in
theorem gX11_mend_X11_ofBicycle : GoodIn wsX11_mend (wsV RX11 36 RX11 yX11_ofBicycle wsX11_ofBicycle) := goodIn_app (goodIn_of _ (by decide +kernel)) ggX11_mend_X11_ofBicycle
theorem dX11_mend_0 : decode cX11_mend 0 = .ok (.aload_n 0, 1) := by decide +kernel
theorem dX11_mend_1 : decode cX11_mend 1 = .ok (.iload_n 1, 1) := by decide +kernel
theorem dX11_mend_2 : decode cX11_mend 2 = .ok (.invokevirtual 96, 3) := by decide +kernel
theorem dX11_mend_5 : decode cX11_mend 5 = .ok (.ifCond .eq 11, 3) := by decide +kernel
theorem dX11_mend_8 : decode cX11_mend 8 = .ok (.aload_n 0, 1) := by decide +kernel
theorem dX11_mend_9 : decode cX11_mend 9 = .ok (.iload_n 2, 1) := by decide +kernel
theorem dX11_mend_10 : decode cX11_mend 10 = .ok (.invokevirtual 86, 3) := by decide +kernel
theorem dX11_mend_13 : decode cX11_mend 13 = .ok (.ifCond .ne 5, 3) := by decide +kernel
theorem dX11_mend_16 : decode cX11_mend 16 = .ok (.iconst (-1), 1) := by decide +kernel
theorem dX11_mend_17 : decode cX11_mend 17 = .ok (.ireturn, 1) := by decide +kernel
theorem dX11_mend_18 : decode cX11_mend 18 = .ok (.aload_n 0, 1) := by decide +kernel
theorem dX11_mend_19 : decode cX11_mend 19 = .ok (.iload_n 1, 1) := by decide +kernel
theorem dX11_mend_20 : decode cX11_mend 20 = .ok (.invokevirtual 99, 3) := by decide +kernel
theorem dX11_mend_23 : decode cX11_mend 23 = .ok (.ifCond .ne 22, 3) := by decide +kernel
theorem dX11_mend_26 : decode cX11_mend 26 = .ok (.aload_n 0, 1) := by decide +kernel
theorem dX11_mend_27 : decode cX11_mend 27 = .ok (.iload_n 1, 1) := by decide +kernel
theorem dX11_mend_28 : decode cX11_mend 28 = .ok (.iconst 0, 1) := by decide +kernel
theorem dX11_mend_29 : decode cX11_mend 29 = .ok (.invokevirtual 93, 3) := by decide +kernel
theorem dX11_mend_32 : decode cX11_mend 32 = .ok (.ifCond .ne 13, 3) := by decide +kernel
theorem dX11_mend_35 : decode cX11_mend 35 = .ok (.aload_n 0, 1) := by decide +kernel
theorem dX11_mend_36 : decode cX11_mend 36 = .ok (.iload_n 2, 1) := by decide +kernel
theorem dX11_mend_37 : decode cX11_mend 37 = .ok (.iconst 2, 1) := by decide +kernel
theorem dX11_mend_38 : decode cX11_mend 38 = .ok (.iload_n 1, 1) := by decide +kernel
theorem dX11_mend_39 : decode cX11_mend 39 = .ok (.invokevirtual 105, 3) := by decide +kernel
theorem dX11_mend_42 : decode cX11_mend 42 = .ok (.ifCond .ne 6, 3) := by decide +kernel
theorem dX11_mend_45 : decode cX11_mend 45 = .ok (.bipush (-2), 2) := by decide +kernel
theorem dX11_mend_47 : decode cX11_mend 47 = .ok (.ireturn, 1) := by decide +kernel
theorem dX11_mend_48 : decode cX11_mend 48 = .ok (.aload_n 0, 1) := by decide +kernel
theorem dX11_mend_49 : decode cX11_mend 49 = .ok (.invokevirtual 57, 3) := by decide +kernel
theorem dX11_mend_52 : decode cX11_mend 52 = .ok (.aload_n 0, 1) := by decide +kernel
theorem dX11_mend_53 : decode cX11_mend 53 = .ok (.iload_n 2, 1) := by decide +kernel
theorem dX11_mend_54 : decode cX11_mend 54 = .ok (.iconst 3, 1) := by decide +kernel
theorem dX11_mend_55 : decode cX11_mend 55 = .ok (.bipush (-4), 2) := by decide +kernel
theorem dX11_mend_57 : decode cX11_mend 57 = .ok (.invokevirtual 67, 3) := by decide +kernel
theorem dX11_mend_60 : decode cX11_mend 60 = .ok (.aload_n 0, 1) := by decide +kernel
theorem dX11_mend_61 : decode cX11_mend 61 = .ok (.getfield 7, 3) := by decide +kernel
theorem dX11_mend_64 : decode cX11_mend 64 = .ok (.bipush 32, 2) := by decide +kernel
theorem dX11_mend_66 : decode cX11_mend 66 = .ok (.bipush 6, 2) := by decide +kernel
theorem dX11_mend_68 : decode cX11_mend 68 = .ok (.iload_n 2, 1) := by decide +kernel
theorem dX11_mend_69 : decode cX11_mend 69 = .ok (.imul, 1) := by decide +kernel
theorem dX11_mend_70 : decode cX11_mend 70 = .ok (.iadd, 1) := by decide +kernel
theorem dX11_mend_71 : decode cX11_mend 71 = .ok (.iconst 5, 1) := by decide +kernel
theorem dX11_mend_72 : decode cX11_mend 72 = .ok (.iadd, 1) := by decide +kernel
theorem dX11_mend_73 : decode cX11_mend 73 = .ok (.aload_n 0, 1) := by decide +kernel
theorem dX11_mend_74 : decode cX11_mend 74 = .ok (.getfield 7, 3) := by decide +kernel
theorem dX11_mend_77 : decode cX11_mend 77 = .ok (.iconst 4, 1) := by decide +kernel
theorem dX11_mend_78 : decode cX11_mend 78 = .ok (.iaload, 1) := by decide +kernel
theorem dX11_mend_79 : decode cX11_mend 79 = .ok (.aload_n 0, 1) := by decide +kernel
theorem dX11_mend_80 : decode cX11_mend 80 = .ok (.getfield 7, 3) := by decide +kernel
theorem dX11_mend_83 : decode cX11_mend 83 = .ok (.bipush 6, 2) := by decide +kernel
theorem dX11_mend_85 : decode cX11_mend 85 = .ok (.iaload, 1) := by decide +kernel
theorem dX11_mend_86 : decode cX11_mend 86 = .ok (.iadd, 1) := by decide +kernel
theorem dX11_mend_87 : decode cX11_mend 87 = .ok (.iastore, 1) := by decide +kernel
theorem dX11_mend_88 : decode cX11_mend 88 = .ok (.aload_n 0, 1) := by decide +kernel
theorem dX11_mend_89 : decode cX11_mend 89 = .ok (.iload_n 2, 1) := by decide +kernel
theorem dX11_mend_90 : decode cX11_mend 90 = .ok (.iconst 5, 1) := by decide +kernel
theorem dX11_mend_91 : decode cX11_mend 91 = .ok (.invokevirtual 36, 3) := by decide +kernel
theorem dX11_mend_94 : decode cX11_mend 94 = .ok (.ireturn, 1) := by decide +kernel
set_option maxRecDepth 20000 in
theorem ggX11_freeStation_X11_isFree : GoodIn wsX11_freeStation wsX11_isFree := goodIn_r _ [6, 7, 8, 9, 5, 10, 11, 12, 13, 14, 1, 15, 16, 17, 18, 19, 20, 21, 22, 23, 24, 25, 26, 27, 28, 29, 30, 31, 32, 33, 34, 35, 36, 37, 38, 39] (by decide +kernel) (by decide +kernel)
set_option maxRecDepth 20000 in
theorem gX11_freeStation_X11_isFree : GoodIn wsX11_freeStation (wsV RX11 64 RX11 yX11_isFree wsX11_isFree) := goodIn_app (goodIn_of _ (by decide +kernel)) ggX11_freeStation_X11_isFree
theorem dX11_freeStation_0 : decode cX11_freeStation 0 = .ok (.bipush (-4), 2) := by decide +kernel
theorem dX11_freeStation_2 : decode cX11_freeStation 2 = .ok (.istore_n 1, 1) := by decide +kernel
theorem dX11_freeStation_3 : decode cX11_freeStation 3 = .ok (.aload_n 0, 1) := by decide +kernel
theorem dX11_freeStation_4 : decode cX11_freeStation 4 = .ok (.getfield 7, 3) := by decide +kernel
theorem dX11_freeStation_7 : decode cX11_freeStation 7 = .ok (.iconst 0, 1) := by decide +kernel
theorem dX11_freeStation_8 : decode cX11_freeStation 8 = .ok (.iaload, 1) := by decide +kernel
theorem dX11_freeStation_9 : decode cX11_freeStation 9 = .ok (.iconst 1, 1) := by decide +kernel
theorem dX11_freeStation_10 : decode cX11_freeStation 10 = .ok (.isub, 1) := by decide +kernel
theorem dX11_freeStation_11 : decode cX11_freeStation 11 = .ok (.istore_n 2, 1) := by decide +kernel
theorem dX11_freeStation_12 : decode cX11_freeStation 12 = .ok (.iload_n 2, 1) := by decide +kernel
theorem dX11_freeStation_13 : decode cX11_freeStation 13 = .ok (.ifCond .lt 23, 3) := by decide +kernel
theorem dX11_freeStation_16 : decode cX11_freeStation 16 = .ok (.aload_n 0, 1) := by decide +kernel
theorem dX11_freeStation_17 : decode cX11_freeStation 17 = .ok (.iload_n 2, 1) := by decide +kernel
theorem dX11_freeStation_18 : decode cX11_freeStation 18 = .ok (.invokevirtual 64, 3) := by decide +kernel
theorem dX11_freeStation_21 : decode cX11_freeStation 21 = .ok (.ifCond .eq 7, 3) := by decide +kernel
theorem dX11_freeStation_24 : decode cX11_freeStation 24 = .ok (.iload_n 2, 1) := by decide +kernel
theorem dX11_freeStation_25 : decode cX11_freeStation 25 = .ok (.goto 4, 3) := by decide +kernel
theorem dX11_freeStation_28 : decode cX11_freeStation 28 = .ok (.iload_n 1, 1) := by decide +kernel
theorem dX11_freeStation_29 : decode cX11_freeStation 29 = .ok (.istore_n 1, 1) := by decide +kernel
theorem dX11_freeStation_30 : decode cX11_freeStation 30 = .ok (.iinc 2 (-1), 3) := by decide +kernel
theorem dX11_freeStation_33 : decode cX11_freeStation 33 = .ok (.goto (-21), 3) := by decide +kernel
theorem dX11_freeStation_36 : decode cX11_freeStation 36 = .ok (.iload_n 1, 1) := by decide +kernel
theorem dX11_freeStation_37 : decode cX11_freeStation 37 = .ok (.ireturn, 1) := by decide +kernel
set_option maxRecDepth 20000 in
theorem ggX11_minute_X11_ofBicycle : GoodIn wsX11_minute wsX11_ofBicycle := goodIn_r _ [6, 1, 34, 35, 36, 37, 38, 39, 40, 41, 42, 43, 44, 45, 46, 47] (by decide +kernel) (by decide +kernel)
set_option maxRecDepth 20000 in
theorem gX11_minute_X11_ofBicycle : GoodIn wsX11_minute (wsV RX11 36 RX11 yX11_ofBicycle wsX11_ofBicycle) := goodIn_app (goodIn_of _ (by decide +kernel)) ggX11_minute_X11_ofBicycle
set_option maxRecDepth 20000 in
theorem ggX11_minute_X11_freeStation : GoodIn wsX11_minute wsX11_freeStation := goodIn_r _ [10, 1, 11, 12, 13, 5, 14, 15, 16, 17, 18, 19, 20, 21, 22, 2, 3, 4, 6, 23, 24, 25, 26, 27, 28, 29, 34, 35, 36, 37, 38, 39, 40, 41, 42, 43, 44, 45, 46, 47] (by decide +kernel) (by decide +kernel)
set_option maxRecDepth 20000 in
theorem gX11_minute_X11_freeStation : GoodIn wsX11_minute (wsV RX11 111 RX11 yX11_freeStation wsX11_freeStation) := goodIn_app (goodIn_of _ (by decide +kernel)) ggX11_minute_X11_freeStation
set_option maxRecDepth 20000 in
theorem ggX11_minute_X11_puts : GoodIn wsX11_minute wsX11_puts := goodIn_r _ [33, 1, 34, 35, 36, 37, 38, 39, 40, 41, 42, 43, 44, 45, 46, 47] (by decide +kernel) (by decide +kernel)
set_option maxRecDepth 20000 in
theorem gX11_minute_X11_puts : GoodIn wsX11_minute (wsV RX11 67 RX11 yX11_puts wsX11_puts) := goodIn_app (goodIn_of _ (by decide +kernel)) ggX11_minute_X11_puts
theorem dX11_minute_0 : decode cX11_minute 0 = .ok (.aload_n 0, 1) := by decide +kernel
theorem dX11_minute_1 : decode cX11_minute 1 = .ok (.getfield 7, 3) := by decide +kernel
theorem dX11_minute_4 : decode cX11_minute 4 = .ok (.iconst 4, 1) := by decide +kernel
theorem dX11_minute_5 : decode cX11_minute 5 = .ok (.dup2, 1) := by decide +kernel
theorem dX11_minute_6 : decode cX11_minute 6 = .ok (.iaload, 1) := by decide +kernel
theorem dX11_minute_7 : decode cX11_minute 7 = .ok (.iconst 1, 1) := by decide +kernel
theorem dX11_minute_8 : decode cX11_minute 8 = .ok (.iadd, 1) := by decide +kernel
theorem dX11_minute_9 : decode cX11_minute 9 = .ok (.iastore, 1) := by decide +kernel
theorem dX11_minute_10 : decode cX11_minute 10 = .ok (.iconst 0, 1) := by decide +kernel
theorem dX11_minute_11 : decode cX11_minute 11 = .ok (.istore_n 1, 1) := by decide +kernel
theorem dX11_minute_12 : decode cX11_minute 12 = .ok (.iconst 0, 1) := by decide +kernel
theorem dX11_minute_13 : decode cX11_minute 13 = .ok (.istore_n 2, 1) := by decide +kernel
theorem dX11_minute_14 : decode cX11_minute 14 = .ok (.iload_n 2, 1) := by decide +kernel
theorem dX11_minute_15 : decode cX11_minute 15 = .ok (.aload_n 0, 1) := by decide +kernel
theorem dX11_minute_16 : decode cX11_minute 16 = .ok (.getfield 7, 3) := by decide +kernel
theorem dX11_minute_19 : decode cX11_minute 19 = .ok (.iconst 1, 1) := by decide +kernel
theorem dX11_minute_20 : decode cX11_minute 20 = .ok (.iaload, 1) := by decide +kernel
theorem dX11_minute_21 : decode cX11_minute 21 = .ok (.if_icmp .ge 83, 3) := by decide +kernel
theorem dX11_minute_24 : decode cX11_minute 24 = .ok (.aload_n 0, 1) := by decide +kernel
theorem dX11_minute_25 : decode cX11_minute 25 = .ok (.iload_n 2, 1) := by decide +kernel
theorem dX11_minute_26 : decode cX11_minute 26 = .ok (.iconst 0, 1) := by decide +kernel
theorem dX11_minute_27 : decode cX11_minute 27 = .ok (.invokevirtual 36, 3) := by decide +kernel
theorem dX11_minute_30 : decode cX11_minute 30 = .ok (.iconst 3, 1) := by decide +kernel
theorem dX11_minute_31 : decode cX11_minute 31 = .ok (.if_icmp .ne 67, 3) := by decide +kernel
theorem dX11_minute_34 : decode cX11_minute 34 = .ok (.aload_n 0, 1) := by decide +kernel
theorem dX11_minute_35 : decode cX11_minute 35 = .ok (.iload_n 2, 1) := by decide +kernel
theorem dX11_minute_36 : decode cX11_minute 36 = .ok (.iconst 5, 1) := by decide +kernel
theorem dX11_minute_37 : decode cX11_minute 37 = .ok (.invokevirtual 36, 3) := by decide +kernel
theorem dX11_minute_40 : decode cX11_minute 40 = .ok (.aload_n 0, 1) := by decide +kernel
theorem dX11_minute_41 : decode cX11_minute 41 = .ok (.getfield 7, 3) := by decide +kernel
theorem dX11_minute_44 : decode cX11_minute 44 = .ok (.iconst 4, 1) := by decide +kernel
theorem dX11_minute_45 : decode cX11_minute 45 = .ok (.iaload, 1) := by decide +kernel
theorem dX11_minute_46 : decode cX11_minute 46 = .ok (.if_icmp .gt 52, 3) := by decide +kernel
theorem dX11_minute_49 : decode cX11_minute 49 = .ok (.aload_n 0, 1) := by decide +kernel
theorem dX11_minute_50 : decode cX11_minute 50 = .ok (.getfield 7, 3) := by decide +kernel
theorem dX11_minute_53 : decode cX11_minute 53 = .ok (.bipush 32, 2) := by decide +kernel
theorem dX11_minute_55 : decode cX11_minute 55 = .ok (.bipush 6, 2) := by decide +kernel
theorem dX11_minute_57 : decode cX11_minute 57 = .ok (.iload_n 2, 1) := by decide +kernel
theorem dX11_minute_58 : decode cX11_minute 58 = .ok (.imul, 1) := by decide +kernel
theorem dX11_minute_59 : decode cX11_minute 59 = .ok (.iadd, 1) := by decide +kernel
theorem dX11_minute_60 : decode cX11_minute 60 = .ok (.iconst 3, 1) := by decide +kernel
theorem dX11_minute_61 : decode cX11_minute 61 = .ok (.iadd, 1) := by decide +kernel
theorem dX11_minute_62 : decode cX11_minute 62 = .ok (.iconst 0, 1) := by decide +kernel
theorem dX11_minute_63 : decode cX11_minute 63 = .ok (.iastore, 1) := by decide +kernel
theorem dX11_minute_64 : decode cX11_minute 64 = .ok (.aload_n 0, 1) := by decide +kernel
theorem dX11_minute_65 : decode cX11_minute 65 = .ok (.getfield 7, 3) := by decide +kernel
theorem dX11_minute_68 : decode cX11_minute 68 = .ok (.bipush 32, 2) := by decide +kernel
theorem dX11_minute_70 : decode cX11_minute 70 = .ok (.bipush 6, 2) := by decide +kernel
theorem dX11_minute_72 : decode cX11_minute 72 = .ok (.iload_n 2, 1) := by decide +kernel
theorem dX11_minute_73 : decode cX11_minute 73 = .ok (.imul, 1) := by decide +kernel
theorem dX11_minute_74 : decode cX11_minute 74 = .ok (.iadd, 1) := by decide +kernel
theorem dX11_minute_75 : decode cX11_minute 75 = .ok (.iconst 2, 1) := by decide +kernel
theorem dX11_minute_76 : decode cX11_minute 76 = .ok (.iadd, 1) := by decide +kernel
theorem dX11_minute_77 : decode cX11_minute 77 = .ok (.iconst 0, 1) := by decide +kernel
theorem dX11_minute_78 : decode cX11_minute 78 = .ok (.iastore, 1) := by decide +kernel
theorem dX11_minute_79 : decode cX11_minute 79 = .ok (.aload_n 0, 1) := by decide +kernel
theorem dX11_minute_80 : decode cX11_minute 80 = .ok (.invokevirtual 111, 3) := by decide +kernel
theorem dX11_minute_83 : decode cX11_minute 83 = .ok (.istore_n 3, 1) := by decide +kernel
theorem dX11_minute_84 : decode cX11_minute 84 = .ok (.iload_n 3, 1) := by decide +kernel
theorem dX11_minute_85 : decode cX11_minute 85 = .ok (.ifCond .lt 13, 3) := by decide +kernel
theorem dX11_minute_88 : decode cX11_minute 88 = .ok (.aload_n 0, 1) := by decide +kernel
theorem dX11_minute_89 : decode cX11_minute 89 = .ok (.iload_n 2, 1) := by decide +kernel
theorem dX11_minute_90 : decode cX11_minute 90 = .ok (.iconst 0, 1) := by decide +kernel
theorem dX11_minute_91 : decode cX11_minute 91 = .ok (.iload_n 3, 1) := by decide +kernel
theorem dX11_minute_92 : decode cX11_minute 92 = .ok (.invokevirtual 67, 3) := by decide +kernel
theorem dX11_minute_95 : decode cX11_minute 95 = .ok (.iinc 1 1, 3) := by decide +kernel
theorem dX11_minute_98 : decode cX11_minute 98 = .ok (.iinc 2 1, 3) := by decide +kernel
theorem dX11_minute_101 : decode cX11_minute 101 = .ok (.goto (-87), 3) := by decide +kernel
theorem dX11_minute_104 : decode cX11_minute 104 = .ok (.iload_n 1, 1) := by decide +kernel
theorem dX11_minute_105 : decode cX11_minute 105 = .ok (.ireturn, 1) := by decide +kernel
set_option maxRecDepth 20000 in
theorem ggX11_pause_X11_in : GoodIn wsX11_pause wsX11_in := goodIn_r _ [5] (by decide +kernel) (by decide +kernel)
set_option maxRecDepth 20000 in
theorem gX11_pause_X11_in : GoodIn wsX11_pause (va_wsS RX11 53 yX11_in wsX11_in) := goodIn_app (goodIn_of _ (by decide +kernel)) ggX11_pause_X11_in
set_option maxRecDepth 20000 in
theorem ggX11_pause_X11_changes : GoodIn wsX11_pause wsX11_changes := goodIn_r _ [9, 10, 11, 12, 1, 48, 49, 50, 51, 52, 53, 54, 55, 56, 57, 58, 59, 60, 61] (by decide +kernel) (by decide +kernel)
set_option maxRecDepth 20000 in
theorem gX11_pause_X11_changes : GoodIn wsX11_pause (wsV RX11 57 RX11 yX11_changes wsX11_changes) := goodIn_app (goodIn_of _ (by decide +kernel)) ggX11_pause_X11_changes
set_option maxRecDepth 20000 in
theorem ggX11_pause_X11_minute : GoodIn wsX11_pause wsX11_minute := goodIn_r _ [16, 1, 17, 18, 19, 4, 20, 21, 22, 23, 24, 25, 26, 27, 28, 29, 30, 31, 32, 33, 34, 35, 36, 37, 38, 39, 40, 41, 42, 43, 44, 45, 46, 47, 48, 49, 50, 51, 52, 53, 54, 55, 56, 57, 58, 59, 60, 61] (by decide +kernel) (by decide +kernel)
set_option maxRecDepth 20000 in
theorem gX11_pause_X11_minute : GoodIn wsX11_pause (wsV RX11 114 RX11 yX11_minute wsX11_minute) := goodIn_app (goodIn_of _ (by decide +kernel)) ggX11_pause_X11_minute
theorem dX11_pause_0 : decode cX11_pause 0 = .ok (.iload_n 1, 1) := by decide +kernel
theorem dX11_pause_1 : decode cX11_pause 1 = .ok (.iconst 1, 1) := by decide +kernel
theorem dX11_pause_2 : decode cX11_pause 2 = .ok (.sipush 200, 3) := by decide +kernel
theorem dX11_pause_5 : decode cX11_pause 5 = .ok (.invokestatic 53, 3) := by decide +kernel
theorem dX11_pause_8 : decode cX11_pause 8 = .ok (.ifCond .ne 5, 3) := by decide +kernel
theorem dX11_pause_11 : decode cX11_pause 11 = .ok (.iconst (-1), 1) := by decide +kernel
theorem dX11_pause_12 : decode cX11_pause 12 = .ok (.ireturn, 1) := by decide +kernel
theorem dX11_pause_13 : decode cX11_pause 13 = .ok (.aload_n 0, 1) := by decide +kernel
theorem dX11_pause_14 : decode cX11_pause 14 = .ok (.getfield 7, 3) := by decide +kernel
theorem dX11_pause_17 : decode cX11_pause 17 = .ok (.iconst 4, 1) := by decide +kernel
theorem dX11_pause_18 : decode cX11_pause 18 = .ok (.iaload, 1) := by decide +kernel
theorem dX11_pause_19 : decode cX11_pause 19 = .ok (.iload_n 1, 1) := by decide +kernel
theorem dX11_pause_20 : decode cX11_pause 20 = .ok (.iadd, 1) := by decide +kernel
theorem dX11_pause_21 : decode cX11_pause 21 = .ok (.sipush 9000, 3) := by decide +kernel
theorem dX11_pause_24 : decode cX11_pause 24 = .ok (.if_icmp .le 6, 3) := by decide +kernel
theorem dX11_pause_27 : decode cX11_pause 27 = .ok (.bipush (-3), 2) := by decide +kernel
theorem dX11_pause_29 : decode cX11_pause 29 = .ok (.ireturn, 1) := by decide +kernel
theorem dX11_pause_30 : decode cX11_pause 30 = .ok (.aload_n 0, 1) := by decide +kernel
theorem dX11_pause_31 : decode cX11_pause 31 = .ok (.invokevirtual 57, 3) := by decide +kernel
theorem dX11_pause_34 : decode cX11_pause 34 = .ok (.iconst 0, 1) := by decide +kernel
theorem dX11_pause_35 : decode cX11_pause 35 = .ok (.istore_n 2, 1) := by decide +kernel
theorem dX11_pause_36 : decode cX11_pause 36 = .ok (.iconst 0, 1) := by decide +kernel
theorem dX11_pause_37 : decode cX11_pause 37 = .ok (.istore_n 3, 1) := by decide +kernel
theorem dX11_pause_38 : decode cX11_pause 38 = .ok (.iload_n 3, 1) := by decide +kernel
theorem dX11_pause_39 : decode cX11_pause 39 = .ok (.iload_n 1, 1) := by decide +kernel
theorem dX11_pause_40 : decode cX11_pause 40 = .ok (.if_icmp .ge 16, 3) := by decide +kernel
theorem dX11_pause_43 : decode cX11_pause 43 = .ok (.iload_n 2, 1) := by decide +kernel
theorem dX11_pause_44 : decode cX11_pause 44 = .ok (.aload_n 0, 1) := by decide +kernel
theorem dX11_pause_45 : decode cX11_pause 45 = .ok (.invokevirtual 114, 3) := by decide +kernel
theorem dX11_pause_48 : decode cX11_pause 48 = .ok (.iadd, 1) := by decide +kernel
theorem dX11_pause_49 : decode cX11_pause 49 = .ok (.istore_n 2, 1) := by decide +kernel
theorem dX11_pause_50 : decode cX11_pause 50 = .ok (.iinc 3 1, 3) := by decide +kernel
theorem dX11_pause_53 : decode cX11_pause 53 = .ok (.goto (-15), 3) := by decide +kernel
theorem dX11_pause_56 : decode cX11_pause 56 = .ok (.iload_n 2, 1) := by decide +kernel
theorem dX11_pause_57 : decode cX11_pause 57 = .ok (.ireturn, 1) := by decide +kernel
set_option maxRecDepth 20000 in
theorem ggX11_set_X11_in : GoodIn wsX11_set wsX11_in := goodIn_r _ [5] (by decide +kernel) (by decide +kernel)
set_option maxRecDepth 20000 in
theorem gX11_set_X11_in : GoodIn wsX11_set (va_wsS RX11 53 yX11_in wsX11_in) := goodIn_app (goodIn_of _ (by decide +kernel)) ggX11_set_X11_in
set_option maxRecDepth 20000 in
theorem ggX11_set_X11_changes : GoodIn wsX11_set wsX11_changes := goodIn_r _ [9, 10, 11, 12, 1, 13, 14, 15, 16, 17, 18, 19, 20, 21, 22, 23, 24, 25, 26] (by decide +kernel) (by decide +kernel)
set_option maxRecDepth 20000 in
theorem gX11_set_X11_changes : GoodIn wsX11_set (wsV RX11 57 RX11 yX11_changes wsX11_changes) := goodIn_app (goodIn_of _ (by decide +kernel)) ggX11_set_X11_changes
theorem dX11_set_0 : decode cX11_set 0 = .ok (.iload_n 1, 1) := by decide +kernel
theorem dX11_set_1 : decode cX11_set 1 = .ok (.iconst 0, 1) := by decide +kernel
theorem dX11_set_2 : decode cX11_set 2 = .ok (.iconst 2, 1) := by decide +kernel
theorem dX11_set_3 : decode cX11_set 3 = .ok (.invokestatic 53, 3) := by decide +kernel
theorem dX11_set_6 : decode cX11_set 6 = .ok (.ifCond .eq 32, 3) := by decide +kernel
theorem dX11_set_9 : decode cX11_set 9 = .ok (.iload_n 2, 1) := by decide +kernel
theorem dX11_set_10 : decode cX11_set 10 = .ok (.iload_n 1, 1) := by decide +kernel
theorem dX11_set_11 : decode cX11_set 11 = .ok (.iconst 1, 1) := by decide +kernel
theorem dX11_set_12 : decode cX11_set 12 = .ok (.if_icmp .ne 7, 3) := by decide +kernel
theorem dX11_set_15 : decode cX11_set 15 = .ok (.iconst 1, 1) := by decide +kernel
theorem dX11_set_16 : decode cX11_set 16 = .ok (.goto 4, 3) := by decide +kernel
theorem dX11_set_19 : decode cX11_set 19 = .ok (.iconst 0, 1) := by decide +kernel
theorem dX11_set_20 : decode cX11_set 20 = .ok (.iload_n 1, 1) := by decide +kernel
theorem dX11_set_21 : decode cX11_set 21 = .ok (.ifCond .ne 8, 3) := by decide +kernel
theorem dX11_set_24 : decode cX11_set 24 = .ok (.bipush 99, 2) := by decide +kernel
theorem dX11_set_26 : decode cX11_set 26 = .ok (.goto 6, 3) := by decide +kernel
theorem dX11_set_29 : decode cX11_set 29 = .ok (.sipush 999, 3) := by decide +kernel
theorem dX11_set_32 : decode cX11_set 32 = .ok (.invokestatic 53, 3) := by decide +kernel
theorem dX11_set_35 : decode cX11_set 35 = .ok (.ifCond .ne 5, 3) := by decide +kernel
theorem dX11_set_38 : decode cX11_set 38 = .ok (.iconst (-1), 1) := by decide +kernel
theorem dX11_set_39 : decode cX11_set 39 = .ok (.ireturn, 1) := by decide +kernel
theorem dX11_set_40 : decode cX11_set 40 = .ok (.aload_n 0, 1) := by decide +kernel
theorem dX11_set_41 : decode cX11_set 41 = .ok (.invokevirtual 57, 3) := by decide +kernel
theorem dX11_set_44 : decode cX11_set 44 = .ok (.aload_n 0, 1) := by decide +kernel
theorem dX11_set_45 : decode cX11_set 45 = .ok (.getfield 7, 3) := by decide +kernel
theorem dX11_set_48 : decode cX11_set 48 = .ok (.iconst 5, 1) := by decide +kernel
theorem dX11_set_49 : decode cX11_set 49 = .ok (.iload_n 1, 1) := by decide +kernel
theorem dX11_set_50 : decode cX11_set 50 = .ok (.iadd, 1) := by decide +kernel
theorem dX11_set_51 : decode cX11_set 51 = .ok (.iaload, 1) := by decide +kernel
theorem dX11_set_52 : decode cX11_set 52 = .ok (.istore_n 3, 1) := by decide +kernel
theorem dX11_set_53 : decode cX11_set 53 = .ok (.aload_n 0, 1) := by decide +kernel
theorem dX11_set_54 : decode cX11_set 54 = .ok (.getfield 7, 3) := by decide +kernel
theorem dX11_set_57 : decode cX11_set 57 = .ok (.iconst 5, 1) := by decide +kernel
theorem dX11_set_58 : decode cX11_set 58 = .ok (.iload_n 1, 1) := by decide +kernel
theorem dX11_set_59 : decode cX11_set 59 = .ok (.iadd, 1) := by decide +kernel
theorem dX11_set_60 : decode cX11_set 60 = .ok (.iload_n 2, 1) := by decide +kernel
theorem dX11_set_61 : decode cX11_set 61 = .ok (.iastore, 1) := by decide +kernel
theorem dX11_set_62 : decode cX11_set 62 = .ok (.iload_n 3, 1) := by decide +kernel
theorem dX11_set_63 : decode cX11_set 63 = .ok (.ireturn, 1) := by decide +kernel
theorem dX11_uneven_0 : decode cX11_uneven 0 = .ok (.iconst 2, 1) := by decide +kernel
theorem dX11_uneven_1 : decode cX11_uneven 1 = .ok (.iload_n 0, 1) := by decide +kernel
theorem dX11_uneven_2 : decode cX11_uneven 2 = .ok (.imul, 1) := by decide +kernel
theorem dX11_uneven_3 : decode cX11_uneven 3 = .ok (.iload_n 1, 1) := by decide +kernel
theorem dX11_uneven_4 : decode cX11_uneven 4 = .ok (.isub, 1) := by decide +kernel
theorem dX11_uneven_5 : decode cX11_uneven 5 = .ok (.istore_n 2, 1) := by decide +kernel
theorem dX11_uneven_6 : decode cX11_uneven 6 = .ok (.iload_n 2, 1) := by decide +kernel
theorem dX11_uneven_7 : decode cX11_uneven 7 = .ok (.ifCond .ge 8, 3) := by decide +kernel
theorem dX11_uneven_10 : decode cX11_uneven 10 = .ok (.iload_n 2, 1) := by decide +kernel
theorem dX11_uneven_11 : decode cX11_uneven 11 = .ok (.ineg, 1) := by decide +kernel
theorem dX11_uneven_12 : decode cX11_uneven 12 = .ok (.goto 4, 3) := by decide +kernel
theorem dX11_uneven_15 : decode cX11_uneven 15 = .ok (.iload_n 2, 1) := by decide +kernel
theorem dX11_uneven_16 : decode cX11_uneven 16 = .ok (.ireturn, 1) := by decide +kernel
set_option maxRecDepth 20000 in
theorem ggX11_unevenNow_X11_docked : GoodIn wsX11_unevenNow wsX11_docked := goodIn_r _ [5, 6, 7, 8, 4, 9, 10, 11, 12, 13, 14, 15, 16, 17, 25, 26, 27, 28, 29, 30, 31, 32, 33, 34, 35, 36, 37, 38] (by decide +kernel) (by decide +kernel)
set_option maxRecDepth 20000 in
theorem gX11_unevenNow_X11_docked : GoodIn wsX11_unevenNow (wsV RX11 47 RX11 yX11_docked wsX11_docked) := goodIn_app (goodIn_of _ (by decide +kernel)) ggX11_unevenNow_X11_docked
set_option maxRecDepth 20000 in
theorem ggX11_unevenNow_X11_ofStation : GoodIn wsX11_unevenNow wsX11_ofStation := goodIn_r _ [21, 10, 25, 26, 27, 28, 29, 30, 31, 32, 33, 34, 35, 36, 37, 38] (by decide +kernel) (by decide +kernel)
set_option maxRecDepth 20000 in
theorem gX11_unevenNow_X11_ofStation : GoodIn wsX11_unevenNow (wsV RX11 50 RX11 yX11_ofStation wsX11_ofStation) := goodIn_app (goodIn_of _ (by decide +kernel)) ggX11_unevenNow_X11_ofStation
set_option maxRecDepth 20000 in
theorem ggX11_unevenNow_X11_uneven : GoodIn wsX11_unevenNow wsX11_uneven := goodIn_r _ [24] (by decide +kernel) (by decide +kernel)
set_option maxRecDepth 20000 in
theorem gX11_unevenNow_X11_uneven : GoodIn wsX11_unevenNow (va_wsS RX11 117 yX11_uneven wsX11_uneven) := goodIn_app (goodIn_of _ (by decide +kernel)) ggX11_unevenNow_X11_uneven
theorem dX11_unevenNow_0 : decode cX11_unevenNow 0 = .ok (.aload_n 0, 1) := by decide +kernel
theorem dX11_unevenNow_1 : decode cX11_unevenNow 1 = .ok (.iload_n 1, 1) := by decide +kernel
theorem dX11_unevenNow_2 : decode cX11_unevenNow 2 = .ok (.invokevirtual 47, 3) := by decide +kernel
theorem dX11_unevenNow_5 : decode cX11_unevenNow 5 = .ok (.aload_n 0, 1) := by decide +kernel
theorem dX11_unevenNow_6 : decode cX11_unevenNow 6 = .ok (.iload_n 1, 1) := by decide +kernel
theorem dX11_unevenNow_7 : decode cX11_unevenNow 7 = .ok (.iconst 1, 1) := by decide +kernel
theorem dX11_unevenNow_8 : decode cX11_unevenNow 8 = .ok (.invokevirtual 50, 3) := by decide +kernel
theorem dX11_unevenNow_11 : decode cX11_unevenNow 11 = .ok (.invokestatic 117, 3) := by decide +kernel
theorem dX11_unevenNow_14 : decode cX11_unevenNow 14 = .ok (.ireturn, 1) := by decide +kernel
set_option maxRecDepth 20000 in
theorem ggX11_allDocks_X11_ofStation : GoodIn wsX11_allDocks wsX11_ofStation := goodIn_r _ [6, 1, 7, 8, 9, 10, 11, 12, 13, 14, 15, 16, 17, 18, 19, 20] (by decide +kernel) (by decide +kernel)
set_option maxRecDepth 20000 in
theorem gX11_allDocks_X11_ofStation : GoodIn wsX11_allDocks (wsV RX11 50 RX11 yX11_ofStation wsX11_ofStation) := goodIn_app (goodIn_of _ (by decide +kernel)) ggX11_allDocks_X11_ofStation
theorem dX11_allDocks_0 : decode cX11_allDocks 0 = .ok (.iconst 0, 1) := by decide +kernel
theorem dX11_allDocks_1 : decode cX11_allDocks 1 = .ok (.istore_n 1, 1) := by decide +kernel
theorem dX11_allDocks_2 : decode cX11_allDocks 2 = .ok (.iconst 0, 1) := by decide +kernel
theorem dX11_allDocks_3 : decode cX11_allDocks 3 = .ok (.istore_n 2, 1) := by decide +kernel
theorem dX11_allDocks_4 : decode cX11_allDocks 4 = .ok (.iload_n 2, 1) := by decide +kernel
theorem dX11_allDocks_5 : decode cX11_allDocks 5 = .ok (.aload_n 0, 1) := by decide +kernel
theorem dX11_allDocks_6 : decode cX11_allDocks 6 = .ok (.getfield 7, 3) := by decide +kernel
theorem dX11_allDocks_9 : decode cX11_allDocks 9 = .ok (.iconst 0, 1) := by decide +kernel
theorem dX11_allDocks_10 : decode cX11_allDocks 10 = .ok (.iaload, 1) := by decide +kernel
theorem dX11_allDocks_11 : decode cX11_allDocks 11 = .ok (.if_icmp .ge 18, 3) := by decide +kernel
theorem dX11_allDocks_14 : decode cX11_allDocks 14 = .ok (.iload_n 1, 1) := by decide +kernel
theorem dX11_allDocks_15 : decode cX11_allDocks 15 = .ok (.aload_n 0, 1) := by decide +kernel
theorem dX11_allDocks_16 : decode cX11_allDocks 16 = .ok (.iload_n 2, 1) := by decide +kernel
theorem dX11_allDocks_17 : decode cX11_allDocks 17 = .ok (.iconst 1, 1) := by decide +kernel
theorem dX11_allDocks_18 : decode cX11_allDocks 18 = .ok (.invokevirtual 50, 3) := by decide +kernel
theorem dX11_allDocks_21 : decode cX11_allDocks 21 = .ok (.iadd, 1) := by decide +kernel
theorem dX11_allDocks_22 : decode cX11_allDocks 22 = .ok (.istore_n 1, 1) := by decide +kernel
theorem dX11_allDocks_23 : decode cX11_allDocks 23 = .ok (.iinc 2 1, 3) := by decide +kernel
theorem dX11_allDocks_26 : decode cX11_allDocks 26 = .ok (.goto (-22), 3) := by decide +kernel
theorem dX11_allDocks_29 : decode cX11_allDocks 29 = .ok (.iload_n 1, 1) := by decide +kernel
theorem dX11_allDocks_30 : decode cX11_allDocks 30 = .ok (.ireturn, 1) := by decide +kernel
set_option maxRecDepth 20000 in
theorem ggX11_inState_X11_ofBicycle : GoodIn wsX11_inState wsX11_ofBicycle := goodIn_r _ [6, 1, 7, 8, 9, 10, 11, 12, 13, 14, 15, 16, 17, 18, 19, 20] (by decide +kernel) (by decide +kernel)
set_option maxRecDepth 20000 in
theorem gX11_inState_X11_ofBicycle : GoodIn wsX11_inState (wsV RX11 36 RX11 yX11_ofBicycle wsX11_ofBicycle) := goodIn_app (goodIn_of _ (by decide +kernel)) ggX11_inState_X11_ofBicycle
theorem dX11_inState_0 : decode cX11_inState 0 = .ok (.iconst 0, 1) := by decide +kernel
theorem dX11_inState_1 : decode cX11_inState 1 = .ok (.istore_n 2, 1) := by decide +kernel
theorem dX11_inState_2 : decode cX11_inState 2 = .ok (.iconst 0, 1) := by decide +kernel
theorem dX11_inState_3 : decode cX11_inState 3 = .ok (.istore_n 3, 1) := by decide +kernel
theorem dX11_inState_4 : decode cX11_inState 4 = .ok (.iload_n 3, 1) := by decide +kernel
theorem dX11_inState_5 : decode cX11_inState 5 = .ok (.aload_n 0, 1) := by decide +kernel
theorem dX11_inState_6 : decode cX11_inState 6 = .ok (.getfield 7, 3) := by decide +kernel
theorem dX11_inState_9 : decode cX11_inState 9 = .ok (.iconst 1, 1) := by decide +kernel
theorem dX11_inState_10 : decode cX11_inState 10 = .ok (.iaload, 1) := by decide +kernel
theorem dX11_inState_11 : decode cX11_inState 11 = .ok (.if_icmp .ge 27, 3) := by decide +kernel
theorem dX11_inState_14 : decode cX11_inState 14 = .ok (.iload_n 2, 1) := by decide +kernel
theorem dX11_inState_15 : decode cX11_inState 15 = .ok (.aload_n 0, 1) := by decide +kernel
theorem dX11_inState_16 : decode cX11_inState 16 = .ok (.iload_n 3, 1) := by decide +kernel
theorem dX11_inState_17 : decode cX11_inState 17 = .ok (.iconst 0, 1) := by decide +kernel
theorem dX11_inState_18 : decode cX11_inState 18 = .ok (.invokevirtual 36, 3) := by decide +kernel
theorem dX11_inState_21 : decode cX11_inState 21 = .ok (.iload_n 1, 1) := by decide +kernel
theorem dX11_inState_22 : decode cX11_inState 22 = .ok (.if_icmp .ne 7, 3) := by decide +kernel
theorem dX11_inState_25 : decode cX11_inState 25 = .ok (.iconst 1, 1) := by decide +kernel
theorem dX11_inState_26 : decode cX11_inState 26 = .ok (.goto 4, 3) := by decide +kernel
theorem dX11_inState_29 : decode cX11_inState 29 = .ok (.iconst 0, 1) := by decide +kernel
theorem dX11_inState_30 : decode cX11_inState 30 = .ok (.iadd, 1) := by decide +kernel
theorem dX11_inState_31 : decode cX11_inState 31 = .ok (.istore_n 2, 1) := by decide +kernel
theorem dX11_inState_32 : decode cX11_inState 32 = .ok (.iinc 3 1, 3) := by decide +kernel
theorem dX11_inState_35 : decode cX11_inState 35 = .ok (.goto (-31), 3) := by decide +kernel
theorem dX11_inState_38 : decode cX11_inState 38 = .ok (.iload_n 2, 1) := by decide +kernel
theorem dX11_inState_39 : decode cX11_inState 39 = .ok (.ireturn, 1) := by decide +kernel
set_option maxRecDepth 20000 in
theorem ggX11_aim_X11_inState : GoodIn wsX11_aim wsX11_inState := goodIn_r _ [6, 1, 7, 8, 9, 5, 10, 19, 20, 21, 22, 23, 24, 25, 26, 27, 28, 29, 30, 31, 32] (by decide +kernel) (by decide +kernel)
set_option maxRecDepth 20000 in
theorem gX11_aim_X11_inState : GoodIn wsX11_aim (wsV RX11 120 RX11 yX11_inState wsX11_inState) := goodIn_app (goodIn_of _ (by decide +kernel)) ggX11_aim_X11_inState
set_option maxRecDepth 20000 in
theorem ggX11_aim_X11_allDocks : GoodIn wsX11_aim wsX11_allDocks := goodIn_r _ [14, 1, 15, 16, 17, 5, 18, 19, 20, 21, 22, 23, 24, 25, 26, 27, 28, 29, 30, 31, 32] (by decide +kernel) (by decide +kernel)
set_option maxRecDepth 20000 in
theorem gX11_aim_X11_allDocks : GoodIn wsX11_aim (wsV RX11 123 RX11 yX11_allDocks wsX11_allDocks) := goodIn_app (goodIn_of _ (by decide +kernel)) ggX11_aim_X11_allDocks
set_option maxRecDepth 20000 in
theorem ggX11_aim_X11_ofStation : GoodIn wsX11_aim wsX11_ofStation := goodIn_r _ [18, 1, 19, 20, 21, 22, 23, 24, 25, 26, 27, 28, 29, 30, 31, 32] (by decide +kernel) (by decide +kernel)
set_option maxRecDepth 20000 in
theorem gX11_aim_X11_ofStation : GoodIn wsX11_aim (wsV RX11 50 RX11 yX11_ofStation wsX11_ofStation) := goodIn_app (goodIn_of _ (by decide +kernel)) ggX11_aim_X11_ofStation
theorem dX11_aim_0 : decode cX11_aim 0 = .ok (.aload_n 0, 1) := by decide +kernel
theorem dX11_aim_1 : decode cX11_aim 1 = .ok (.iconst 0, 1) := by decide +kernel
theorem dX11_aim_2 : decode cX11_aim 2 = .ok (.invokevirtual 120, 3) := by decide +kernel
theorem dX11_aim_5 : decode cX11_aim 5 = .ok (.istore_n 2, 1) := by decide +kernel
theorem dX11_aim_6 : decode cX11_aim 6 = .ok (.aload_n 0, 1) := by decide +kernel
theorem dX11_aim_7 : decode cX11_aim 7 = .ok (.invokevirtual 123, 3) := by decide +kernel
theorem dX11_aim_10 : decode cX11_aim 10 = .ok (.istore_n 3, 1) := by decide +kernel
theorem dX11_aim_11 : decode cX11_aim 11 = .ok (.iload_n 2, 1) := by decide +kernel
theorem dX11_aim_12 : decode cX11_aim 12 = .ok (.istore 4, 2) := by decide +kernel
theorem dX11_aim_14 : decode cX11_aim 14 = .ok (.iconst 0, 1) := by decide +kernel
theorem dX11_aim_15 : decode cX11_aim 15 = .ok (.istore 5, 2) := by decide +kernel
theorem dX11_aim_17 : decode cX11_aim 17 = .ok (.iload 5, 2) := by decide +kernel
theorem dX11_aim_19 : decode cX11_aim 19 = .ok (.aload_n 0, 1) := by decide +kernel
theorem dX11_aim_20 : decode cX11_aim 20 = .ok (.getfield 7, 3) := by decide +kernel
theorem dX11_aim_23 : decode cX11_aim 23 = .ok (.iconst 0, 1) := by decide +kernel
theorem dX11_aim_24 : decode cX11_aim 24 = .ok (.iaload, 1) := by decide +kernel
theorem dX11_aim_25 : decode cX11_aim 25 = .ok (.if_icmp .ge 25, 3) := by decide +kernel
theorem dX11_aim_28 : decode cX11_aim 28 = .ok (.iload 4, 2) := by decide +kernel
theorem dX11_aim_30 : decode cX11_aim 30 = .ok (.aload_n 0, 1) := by decide +kernel
theorem dX11_aim_31 : decode cX11_aim 31 = .ok (.iload 5, 2) := by decide +kernel
theorem dX11_aim_33 : decode cX11_aim 33 = .ok (.iconst 1, 1) := by decide +kernel
theorem dX11_aim_34 : decode cX11_aim 34 = .ok (.invokevirtual 50, 3) := by decide +kernel
theorem dX11_aim_37 : decode cX11_aim 37 = .ok (.iload_n 2, 1) := by decide +kernel
theorem dX11_aim_38 : decode cX11_aim 38 = .ok (.imul, 1) := by decide +kernel
theorem dX11_aim_39 : decode cX11_aim 39 = .ok (.iload_n 3, 1) := by decide +kernel
theorem dX11_aim_40 : decode cX11_aim 40 = .ok (.idiv, 1) := by decide +kernel
theorem dX11_aim_41 : decode cX11_aim 41 = .ok (.isub, 1) := by decide +kernel
theorem dX11_aim_42 : decode cX11_aim 42 = .ok (.istore 4, 2) := by decide +kernel
theorem dX11_aim_44 : decode cX11_aim 44 = .ok (.iinc 5 1, 3) := by decide +kernel
theorem dX11_aim_47 : decode cX11_aim 47 = .ok (.goto (-30), 3) := by decide +kernel
theorem dX11_aim_50 : decode cX11_aim 50 = .ok (.aload_n 0, 1) := by decide +kernel
theorem dX11_aim_51 : decode cX11_aim 51 = .ok (.iload_n 1, 1) := by decide +kernel
theorem dX11_aim_52 : decode cX11_aim 52 = .ok (.iconst 1, 1) := by decide +kernel
theorem dX11_aim_53 : decode cX11_aim 53 = .ok (.invokevirtual 50, 3) := by decide +kernel
theorem dX11_aim_56 : decode cX11_aim 56 = .ok (.iload_n 2, 1) := by decide +kernel
theorem dX11_aim_57 : decode cX11_aim 57 = .ok (.imul, 1) := by decide +kernel
theorem dX11_aim_58 : decode cX11_aim 58 = .ok (.iload_n 3, 1) := by decide +kernel
theorem dX11_aim_59 : decode cX11_aim 59 = .ok (.idiv, 1) := by decide +kernel
theorem dX11_aim_60 : decode cX11_aim 60 = .ok (.iload_n 1, 1) := by decide +kernel
theorem dX11_aim_61 : decode cX11_aim 61 = .ok (.iload 4, 2) := by decide +kernel
theorem dX11_aim_63 : decode cX11_aim 63 = .ok (.if_icmp .ge 7, 3) := by decide +kernel
theorem dX11_aim_66 : decode cX11_aim 66 = .ok (.iconst 1, 1) := by decide +kernel
theorem dX11_aim_67 : decode cX11_aim 67 = .ok (.goto 4, 3) := by decide +kernel
theorem dX11_aim_70 : decode cX11_aim 70 = .ok (.iconst 0, 1) := by decide +kernel
theorem dX11_aim_71 : decode cX11_aim 71 = .ok (.iadd, 1) := by decide +kernel
theorem dX11_aim_72 : decode cX11_aim 72 = .ok (.ireturn, 1) := by decide +kernel
set_option maxRecDepth 20000 in
theorem ggX11_stationOf_X11_isStation : GoodIn wsX11_stationOf wsX11_isStation := goodIn_r _ [5, 6, 48, 49, 50, 51, 52, 53, 54, 55, 56, 57, 58, 59, 60, 61] (by decide +kernel) (by decide +kernel)
set_option maxRecDepth 20000 in
theorem gX11_stationOf_X11_isStation : GoodIn wsX11_stationOf (wsV RX11 60 RX11 yX11_isStation wsX11_isStation) := goodIn_app (goodIn_of _ (by decide +kernel)) ggX11_stationOf_X11_isStation
set_option maxRecDepth 20000 in
theorem ggX11_stationOf_X11_in : GoodIn wsX11_stationOf wsX11_in := goodIn_r _ [9] (by decide +kernel) (by decide +kernel)
set_option maxRecDepth 20000 in
theorem gX11_stationOf_X11_in : GoodIn wsX11_stationOf (va_wsS RX11 53 yX11_in wsX11_in) := goodIn_app (goodIn_of _ (by decide +kernel)) ggX11_stationOf_X11_in
set_option maxRecDepth 20000 in
theorem ggX11_stationOf_X11_ofStation : GoodIn wsX11_stationOf wsX11_ofStation := goodIn_r _ [13, 6, 48, 49, 50, 51, 52, 53, 54, 55, 56, 57, 58, 59, 60, 61] (by decide +kernel) (by decide +kernel)
set_option maxRecDepth 20000 in
theorem gX11_stationOf_X11_ofStation : GoodIn wsX11_stationOf (wsV RX11 50 RX11 yX11_ofStation wsX11_ofStation) := goodIn_app (goodIn_of _ (by decide +kernel)) ggX11_stationOf_X11_ofStation
set_option maxRecDepth 20000 in
theorem ggX11_stationOf_X11_those : GoodIn wsX11_stationOf wsX11_those := goodIn_r _ [17, 6, 18, 19, 20, 4, 21, 48, 49, 50, 51, 52, 53, 54, 55, 56, 57, 58, 59, 60, 61] (by decide +kernel) (by decide +kernel)
set_option maxRecDepth 20000 in
theorem gX11_stationOf_X11_those : GoodIn wsX11_stationOf (wsV RX11 40 RX11 yX11_those wsX11_those) := goodIn_app (goodIn_of _ (by decide +kernel)) ggX11_stationOf_X11_those
set_option maxRecDepth 20000 in
theorem ggX11_stationOf_X11_unevenNow : GoodIn wsX11_stationOf wsX11_unevenNow := goodIn_r _ [25, 26, 27, 28, 4, 29, 14, 15, 16, 17, 6, 18, 19, 20, 21, 30, 31, 32, 10, 11, 12, 13, 33, 34, 35, 48, 49, 50, 51, 52, 53, 54, 55, 56, 57, 58, 59, 60, 61] (by decide +kernel) (by decide +kernel)
set_option maxRecDepth 20000 in
theorem gX11_stationOf_X11_unevenNow : GoodIn wsX11_stationOf (wsV RX11 126 RX11 yX11_unevenNow wsX11_unevenNow) := goodIn_app (goodIn_of _ (by decide +kernel)) ggX11_stationOf_X11_unevenNow
set_option maxRecDepth 20000 in
theorem ggX11_stationOf_X11_aim : GoodIn wsX11_stationOf wsX11_aim := goodIn_r _ [39, 6, 40, 41, 42, 4, 43, 18, 19, 20, 21, 44, 45, 46, 47, 10, 11, 12, 13, 48, 49, 50, 51, 52, 53, 54, 55, 56, 57, 58, 59, 60, 61] (by decide +kernel) (by decide +kernel)
set_option maxRecDepth 20000 in
theorem gX11_stationOf_X11_aim : GoodIn wsX11_stationOf (wsV RX11 129 RX11 yX11_aim wsX11_aim) := goodIn_app (goodIn_of _ (by decide +kernel)) ggX11_stationOf_X11_aim
theorem dX11_stationOf_0 : decode cX11_stationOf 0 = .ok (.aload_n 0, 1) := by decide +kernel
theorem dX11_stationOf_1 : decode cX11_stationOf 1 = .ok (.iload_n 1, 1) := by decide +kernel
theorem dX11_stationOf_2 : decode cX11_stationOf 2 = .ok (.invokevirtual 60, 3) := by decide +kernel
theorem dX11_stationOf_5 : decode cX11_stationOf 5 = .ok (.ifCond .eq 13, 3) := by decide +kernel
theorem dX11_stationOf_8 : decode cX11_stationOf 8 = .ok (.iload_n 2, 1) := by decide +kernel
theorem dX11_stationOf_9 : decode cX11_stationOf 9 = .ok (.iconst 0, 1) := by decide +kernel
theorem dX11_stationOf_10 : decode cX11_stationOf 10 = .ok (.bipush 6, 2) := by decide +kernel
theorem dX11_stationOf_12 : decode cX11_stationOf 12 = .ok (.invokestatic 53, 3) := by decide +kernel
theorem dX11_stationOf_15 : decode cX11_stationOf 15 = .ok (.ifCond .ne 5, 3) := by decide +kernel
theorem dX11_stationOf_18 : decode cX11_stationOf 18 = .ok (.iconst (-1), 1) := by decide +kernel
theorem dX11_stationOf_19 : decode cX11_stationOf 19 = .ok (.ireturn, 1) := by decide +kernel
theorem dX11_stationOf_20 : decode cX11_stationOf 20 = .ok (.iload_n 2, 1) := by decide +kernel
theorem dX11_stationOf_21 : decode cX11_stationOf 21 = .ok (.tableswitch 61 0 4 #[35, 35, 42, 49, 55], 35) := by decide +kernel
theorem dX11_stationOf_56 : decode cX11_stationOf 56 = .ok (.aload_n 0, 1) := by decide +kernel
theorem dX11_stationOf_57 : decode cX11_stationOf 57 = .ok (.iload_n 1, 1) := by decide +kernel
theorem dX11_stationOf_58 : decode cX11_stationOf 58 = .ok (.iload_n 2, 1) := by decide +kernel
theorem dX11_stationOf_59 : decode cX11_stationOf 59 = .ok (.invokevirtual 50, 3) := by decide +kernel
theorem dX11_stationOf_62 : decode cX11_stationOf 62 = .ok (.ireturn, 1) := by decide +kernel
theorem dX11_stationOf_63 : decode cX11_stationOf 63 = .ok (.aload_n 0, 1) := by decide +kernel
theorem dX11_stationOf_64 : decode cX11_stationOf 64 = .ok (.iconst 0, 1) := by decide +kernel
theorem dX11_stationOf_65 : decode cX11_stationOf 65 = .ok (.iload_n 1, 1) := by decide +kernel
theorem dX11_stationOf_66 : decode cX11_stationOf 66 = .ok (.invokevirtual 40, 3) := by decide +kernel
theorem dX11_stationOf_69 : decode cX11_stationOf 69 = .ok (.ireturn, 1) := by decide +kernel
theorem dX11_stationOf_70 : decode cX11_stationOf 70 = .ok (.aload_n 0, 1) := by decide +kernel
theorem dX11_stationOf_71 : decode cX11_stationOf 71 = .ok (.iload_n 1, 1) := by decide +kernel
theorem dX11_stationOf_72 : decode cX11_stationOf 72 = .ok (.invokevirtual 126, 3) := by decide +kernel
theorem dX11_stationOf_75 : decode cX11_stationOf 75 = .ok (.ireturn, 1) := by decide +kernel
theorem dX11_stationOf_76 : decode cX11_stationOf 76 = .ok (.aload_n 0, 1) := by decide +kernel
theorem dX11_stationOf_77 : decode cX11_stationOf 77 = .ok (.iload_n 1, 1) := by decide +kernel
theorem dX11_stationOf_78 : decode cX11_stationOf 78 = .ok (.invokevirtual 129, 3) := by decide +kernel
theorem dX11_stationOf_81 : decode cX11_stationOf 81 = .ok (.ireturn, 1) := by decide +kernel
theorem dX11_stationOf_82 : decode cX11_stationOf 82 = .ok (.aload_n 0, 1) := by decide +kernel
theorem dX11_stationOf_83 : decode cX11_stationOf 83 = .ok (.iload_n 1, 1) := by decide +kernel
theorem dX11_stationOf_84 : decode cX11_stationOf 84 = .ok (.iload_n 2, 1) := by decide +kernel
theorem dX11_stationOf_85 : decode cX11_stationOf 85 = .ok (.iconst 3, 1) := by decide +kernel
theorem dX11_stationOf_86 : decode cX11_stationOf 86 = .ok (.isub, 1) := by decide +kernel
theorem dX11_stationOf_87 : decode cX11_stationOf 87 = .ok (.invokevirtual 50, 3) := by decide +kernel
theorem dX11_stationOf_90 : decode cX11_stationOf 90 = .ok (.ireturn, 1) := by decide +kernel
set_option maxRecDepth 20000 in
theorem ggX11_bicycleOf_X11_isBicycle : GoodIn wsX11_bicycleOf wsX11_isBicycle := goodIn_r _ [5, 6, 14, 15, 16, 17, 18, 19, 20, 21, 22, 23, 24, 25, 26, 27] (by decide +kernel) (by decide +kernel)
set_option maxRecDepth 20000 in
theorem gX11_bicycleOf_X11_isBicycle : GoodIn wsX11_bicycleOf (wsV RX11 86 RX11 yX11_isBicycle wsX11_isBicycle) := goodIn_app (goodIn_of _ (by decide +kernel)) ggX11_bicycleOf_X11_isBicycle
set_option maxRecDepth 20000 in
theorem ggX11_bicycleOf_X11_in : GoodIn wsX11_bicycleOf wsX11_in := goodIn_r _ [9] (by decide +kernel) (by decide +kernel)
set_option maxRecDepth 20000 in
theorem gX11_bicycleOf_X11_in : GoodIn wsX11_bicycleOf (va_wsS RX11 53 yX11_in wsX11_in) := goodIn_app (goodIn_of _ (by decide +kernel)) ggX11_bicycleOf_X11_in
set_option maxRecDepth 20000 in
theorem ggX11_bicycleOf_X11_ofBicycle : GoodIn wsX11_bicycleOf wsX11_ofBicycle := goodIn_r _ [13, 6, 14, 15, 16, 17, 18, 19, 20, 21, 22, 23, 24, 25, 26, 27] (by decide +kernel) (by decide +kernel)
set_option maxRecDepth 20000 in
theorem gX11_bicycleOf_X11_ofBicycle : GoodIn wsX11_bicycleOf (wsV RX11 36 RX11 yX11_ofBicycle wsX11_ofBicycle) := goodIn_app (goodIn_of _ (by decide +kernel)) ggX11_bicycleOf_X11_ofBicycle
theorem dX11_bicycleOf_0 : decode cX11_bicycleOf 0 = .ok (.aload_n 0, 1) := by decide +kernel
theorem dX11_bicycleOf_1 : decode cX11_bicycleOf 1 = .ok (.iload_n 1, 1) := by decide +kernel
theorem dX11_bicycleOf_2 : decode cX11_bicycleOf 2 = .ok (.invokevirtual 86, 3) := by decide +kernel
theorem dX11_bicycleOf_5 : decode cX11_bicycleOf 5 = .ok (.ifCond .eq 21, 3) := by decide +kernel
theorem dX11_bicycleOf_8 : decode cX11_bicycleOf 8 = .ok (.iload_n 2, 1) := by decide +kernel
theorem dX11_bicycleOf_9 : decode cX11_bicycleOf 9 = .ok (.iconst 0, 1) := by decide +kernel
theorem dX11_bicycleOf_10 : decode cX11_bicycleOf 10 = .ok (.iconst 4, 1) := by decide +kernel
theorem dX11_bicycleOf_11 : decode cX11_bicycleOf 11 = .ok (.invokestatic 53, 3) := by decide +kernel
theorem dX11_bicycleOf_14 : decode cX11_bicycleOf 14 = .ok (.ifCond .eq 12, 3) := by decide +kernel
theorem dX11_bicycleOf_17 : decode cX11_bicycleOf 17 = .ok (.aload_n 0, 1) := by decide +kernel
theorem dX11_bicycleOf_18 : decode cX11_bicycleOf 18 = .ok (.iload_n 1, 1) := by decide +kernel
theorem dX11_bicycleOf_19 : decode cX11_bicycleOf 19 = .ok (.iload_n 2, 1) := by decide +kernel
theorem dX11_bicycleOf_20 : decode cX11_bicycleOf 20 = .ok (.invokevirtual 36, 3) := by decide +kernel
theorem dX11_bicycleOf_23 : decode cX11_bicycleOf 23 = .ok (.goto 4, 3) := by decide +kernel
theorem dX11_bicycleOf_26 : decode cX11_bicycleOf 26 = .ok (.iconst (-1), 1) := by decide +kernel
theorem dX11_bicycleOf_27 : decode cX11_bicycleOf 27 = .ok (.ireturn, 1) := by decide +kernel
set_option maxRecDepth 20000 in
theorem ggX11_riderOf_X11_isRider : GoodIn wsX11_riderOf wsX11_isRider := goodIn_r _ [6, 1, 26, 27, 28, 29, 30, 31, 32, 33, 34, 35, 36, 37, 38, 39] (by decide +kernel) (by decide +kernel)
set_option maxRecDepth 20000 in
theorem gX11_riderOf_X11_isRider : GoodIn wsX11_riderOf (wsV RX11 74 RX11 yX11_isRider wsX11_isRider) := goodIn_app (goodIn_of _ (by decide +kernel)) ggX11_riderOf_X11_isRider
set_option maxRecDepth 20000 in
theorem ggX11_riderOf_X11_in : GoodIn wsX11_riderOf wsX11_in := goodIn_r _ [9] (by decide +kernel) (by decide +kernel)
set_option maxRecDepth 20000 in
theorem gX11_riderOf_X11_in : GoodIn wsX11_riderOf (va_wsS RX11 53 yX11_in wsX11_in) := goodIn_app (goodIn_of _ (by decide +kernel)) ggX11_riderOf_X11_in
set_option maxRecDepth 20000 in
theorem ggX11_riderOf_X11_ofRider : GoodIn wsX11_riderOf wsX11_ofRider := goodIn_r _ [13, 1, 26, 27, 28, 29, 30, 31, 32, 33, 34, 35, 36, 37, 38, 39] (by decide +kernel) (by decide +kernel)
set_option maxRecDepth 20000 in
theorem gX11_riderOf_X11_ofRider : GoodIn wsX11_riderOf (wsV RX11 71 RX11 yX11_ofRider wsX11_ofRider) := goodIn_app (goodIn_of _ (by decide +kernel)) ggX11_riderOf_X11_ofRider
set_option maxRecDepth 20000 in
theorem ggX11_riderOf_X11_hasPass : GoodIn wsX11_riderOf wsX11_hasPass := goodIn_r _ [17, 1, 10, 11, 12, 5, 13, 26, 27, 28, 29, 30, 31, 32, 33, 34, 35, 36, 37, 38, 39] (by decide +kernel) (by decide +kernel)
set_option maxRecDepth 20000 in
theorem gX11_riderOf_X11_hasPass : GoodIn wsX11_riderOf (wsV RX11 77 RX11 yX11_hasPass wsX11_hasPass) := goodIn_app (goodIn_of _ (by decide +kernel)) ggX11_riderOf_X11_hasPass
set_option maxRecDepth 20000 in
theorem ggX11_riderOf_X11_rides : GoodIn wsX11_riderOf wsX11_rides := goodIn_r _ [21, 10, 11, 12, 5, 13, 1, 26, 27, 28, 29, 30, 31, 32, 33, 34, 35, 36, 37, 38, 39] (by decide +kernel) (by decide +kernel)
set_option maxRecDepth 20000 in
theorem gX11_riderOf_X11_rides : GoodIn wsX11_riderOf (wsV RX11 80 RX11 yX11_rides wsX11_rides) := goodIn_app (goodIn_of _ (by decide +kernel)) ggX11_riderOf_X11_rides
set_option maxRecDepth 20000 in
theorem ggX11_riderOf_X11_fee : GoodIn wsX11_riderOf wsX11_fee := goodIn_r _ [25, 1, 10, 11, 12, 5, 13, 26, 27, 28, 29, 30, 31, 32, 33, 34, 35, 36, 37, 38, 39] (by decide +kernel) (by decide +kernel)
set_option maxRecDepth 20000 in
theorem gX11_riderOf_X11_fee : GoodIn wsX11_riderOf (wsV RX11 83 RX11 yX11_fee wsX11_fee) := goodIn_app (goodIn_of _ (by decide +kernel)) ggX11_riderOf_X11_fee
theorem dX11_riderOf_0 : decode cX11_riderOf 0 = .ok (.aload_n 0, 1) := by decide +kernel
theorem dX11_riderOf_1 : decode cX11_riderOf 1 = .ok (.iload_n 1, 1) := by decide +kernel
theorem dX11_riderOf_2 : decode cX11_riderOf 2 = .ok (.invokevirtual 74, 3) := by decide +kernel
theorem dX11_riderOf_5 : decode cX11_riderOf 5 = .ok (.ifCond .eq 13, 3) := by decide +kernel
theorem dX11_riderOf_8 : decode cX11_riderOf 8 = .ok (.iload_n 2, 1) := by decide +kernel
theorem dX11_riderOf_9 : decode cX11_riderOf 9 = .ok (.iconst 0, 1) := by decide +kernel
theorem dX11_riderOf_10 : decode cX11_riderOf 10 = .ok (.bipush 7, 2) := by decide +kernel
theorem dX11_riderOf_12 : decode cX11_riderOf 12 = .ok (.invokestatic 53, 3) := by decide +kernel
theorem dX11_riderOf_15 : decode cX11_riderOf 15 = .ok (.ifCond .ne 5, 3) := by decide +kernel
theorem dX11_riderOf_18 : decode cX11_riderOf 18 = .ok (.iconst (-1), 1) := by decide +kernel
theorem dX11_riderOf_19 : decode cX11_riderOf 19 = .ok (.ireturn, 1) := by decide +kernel
theorem dX11_riderOf_20 : decode cX11_riderOf 20 = .ok (.iload_n 2, 1) := by decide +kernel
theorem dX11_riderOf_21 : decode cX11_riderOf 21 = .ok (.ifCond .ne 10, 3) := by decide +kernel
theorem dX11_riderOf_24 : decode cX11_riderOf 24 = .ok (.aload_n 0, 1) := by decide +kernel
theorem dX11_riderOf_25 : decode cX11_riderOf 25 = .ok (.iload_n 1, 1) := by decide +kernel
theorem dX11_riderOf_26 : decode cX11_riderOf 26 = .ok (.iconst 0, 1) := by decide +kernel
theorem dX11_riderOf_27 : decode cX11_riderOf 27 = .ok (.invokevirtual 71, 3) := by decide +kernel
theorem dX11_riderOf_30 : decode cX11_riderOf 30 = .ok (.ireturn, 1) := by decide +kernel
theorem dX11_riderOf_31 : decode cX11_riderOf 31 = .ok (.iload_n 2, 1) := by decide +kernel
theorem dX11_riderOf_32 : decode cX11_riderOf 32 = .ok (.iconst 1, 1) := by decide +kernel
theorem dX11_riderOf_33 : decode cX11_riderOf 33 = .ok (.if_icmp .ne 29, 3) := by decide +kernel
theorem dX11_riderOf_36 : decode cX11_riderOf 36 = .ok (.aload_n 0, 1) := by decide +kernel
theorem dX11_riderOf_37 : decode cX11_riderOf 37 = .ok (.iload_n 1, 1) := by decide +kernel
theorem dX11_riderOf_38 : decode cX11_riderOf 38 = .ok (.invokevirtual 77, 3) := by decide +kernel
theorem dX11_riderOf_41 : decode cX11_riderOf 41 = .ok (.ifCond .eq 19, 3) := by decide +kernel
theorem dX11_riderOf_44 : decode cX11_riderOf 44 = .ok (.aload_n 0, 1) := by decide +kernel
theorem dX11_riderOf_45 : decode cX11_riderOf 45 = .ok (.iload_n 1, 1) := by decide +kernel
theorem dX11_riderOf_46 : decode cX11_riderOf 46 = .ok (.iconst 1, 1) := by decide +kernel
theorem dX11_riderOf_47 : decode cX11_riderOf 47 = .ok (.invokevirtual 71, 3) := by decide +kernel
theorem dX11_riderOf_50 : decode cX11_riderOf 50 = .ok (.aload_n 0, 1) := by decide +kernel
theorem dX11_riderOf_51 : decode cX11_riderOf 51 = .ok (.getfield 7, 3) := by decide +kernel
theorem dX11_riderOf_54 : decode cX11_riderOf 54 = .ok (.iconst 4, 1) := by decide +kernel
theorem dX11_riderOf_55 : decode cX11_riderOf 55 = .ok (.iaload, 1) := by decide +kernel
theorem dX11_riderOf_56 : decode cX11_riderOf 56 = .ok (.isub, 1) := by decide +kernel
theorem dX11_riderOf_57 : decode cX11_riderOf 57 = .ok (.goto 4, 3) := by decide +kernel
theorem dX11_riderOf_60 : decode cX11_riderOf 60 = .ok (.iconst 0, 1) := by decide +kernel
theorem dX11_riderOf_61 : decode cX11_riderOf 61 = .ok (.ireturn, 1) := by decide +kernel
theorem dX11_riderOf_62 : decode cX11_riderOf 62 = .ok (.iload_n 2, 1) := by decide +kernel
theorem dX11_riderOf_63 : decode cX11_riderOf 63 = .ok (.iconst 5, 1) := by decide +kernel
theorem dX11_riderOf_64 : decode cX11_riderOf 64 = .ok (.if_icmp .le 12, 3) := by decide +kernel
theorem dX11_riderOf_67 : decode cX11_riderOf 67 = .ok (.aload_n 0, 1) := by decide +kernel
theorem dX11_riderOf_68 : decode cX11_riderOf 68 = .ok (.iload_n 1, 1) := by decide +kernel
theorem dX11_riderOf_69 : decode cX11_riderOf 69 = .ok (.iload_n 2, 1) := by decide +kernel
theorem dX11_riderOf_70 : decode cX11_riderOf 70 = .ok (.iconst 1, 1) := by decide +kernel
theorem dX11_riderOf_71 : decode cX11_riderOf 71 = .ok (.iadd, 1) := by decide +kernel
theorem dX11_riderOf_72 : decode cX11_riderOf 72 = .ok (.invokevirtual 71, 3) := by decide +kernel
theorem dX11_riderOf_75 : decode cX11_riderOf 75 = .ok (.ireturn, 1) := by decide +kernel
theorem dX11_riderOf_76 : decode cX11_riderOf 76 = .ok (.aload_n 0, 1) := by decide +kernel
theorem dX11_riderOf_77 : decode cX11_riderOf 77 = .ok (.iload_n 1, 1) := by decide +kernel
theorem dX11_riderOf_78 : decode cX11_riderOf 78 = .ok (.invokevirtual 80, 3) := by decide +kernel
theorem dX11_riderOf_81 : decode cX11_riderOf 81 = .ok (.ifCond .ne 6, 3) := by decide +kernel
theorem dX11_riderOf_84 : decode cX11_riderOf 84 = .ok (.bipush (-4), 2) := by decide +kernel
theorem dX11_riderOf_86 : decode cX11_riderOf 86 = .ok (.ireturn, 1) := by decide +kernel
theorem dX11_riderOf_87 : decode cX11_riderOf 87 = .ok (.iload_n 2, 1) := by decide +kernel
theorem dX11_riderOf_88 : decode cX11_riderOf 88 = .ok (.iconst 2, 1) := by decide +kernel
theorem dX11_riderOf_89 : decode cX11_riderOf 89 = .ok (.if_icmp .ne 12, 3) := by decide +kernel
theorem dX11_riderOf_92 : decode cX11_riderOf 92 = .ok (.aload_n 0, 1) := by decide +kernel
theorem dX11_riderOf_93 : decode cX11_riderOf 93 = .ok (.iload_n 1, 1) := by decide +kernel
theorem dX11_riderOf_94 : decode cX11_riderOf 94 = .ok (.iconst 2, 1) := by decide +kernel
theorem dX11_riderOf_95 : decode cX11_riderOf 95 = .ok (.invokevirtual 71, 3) := by decide +kernel
theorem dX11_riderOf_98 : decode cX11_riderOf 98 = .ok (.goto 43, 3) := by decide +kernel
theorem dX11_riderOf_101 : decode cX11_riderOf 101 = .ok (.iload_n 2, 1) := by decide +kernel
theorem dX11_riderOf_102 : decode cX11_riderOf 102 = .ok (.iconst 3, 1) := by decide +kernel
theorem dX11_riderOf_103 : decode cX11_riderOf 103 = .ok (.if_icmp .ne 19, 3) := by decide +kernel
theorem dX11_riderOf_106 : decode cX11_riderOf 106 = .ok (.aload_n 0, 1) := by decide +kernel
theorem dX11_riderOf_107 : decode cX11_riderOf 107 = .ok (.getfield 7, 3) := by decide +kernel
theorem dX11_riderOf_110 : decode cX11_riderOf 110 = .ok (.iconst 4, 1) := by decide +kernel
theorem dX11_riderOf_111 : decode cX11_riderOf 111 = .ok (.iaload, 1) := by decide +kernel
theorem dX11_riderOf_112 : decode cX11_riderOf 112 = .ok (.aload_n 0, 1) := by decide +kernel
theorem dX11_riderOf_113 : decode cX11_riderOf 113 = .ok (.iload_n 1, 1) := by decide +kernel
theorem dX11_riderOf_114 : decode cX11_riderOf 114 = .ok (.iconst 3, 1) := by decide +kernel
theorem dX11_riderOf_115 : decode cX11_riderOf 115 = .ok (.invokevirtual 71, 3) := by decide +kernel
theorem dX11_riderOf_118 : decode cX11_riderOf 118 = .ok (.isub, 1) := by decide +kernel
theorem dX11_riderOf_119 : decode cX11_riderOf 119 = .ok (.goto 22, 3) := by decide +kernel
theorem dX11_riderOf_122 : decode cX11_riderOf 122 = .ok (.iload_n 2, 1) := by decide +kernel
theorem dX11_riderOf_123 : decode cX11_riderOf 123 = .ok (.iconst 4, 1) := by decide +kernel
theorem dX11_riderOf_124 : decode cX11_riderOf 124 = .ok (.if_icmp .ne 12, 3) := by decide +kernel
theorem dX11_riderOf_127 : decode cX11_riderOf 127 = .ok (.aload_n 0, 1) := by decide +kernel
theorem dX11_riderOf_128 : decode cX11_riderOf 128 = .ok (.iload_n 1, 1) := by decide +kernel
theorem dX11_riderOf_129 : decode cX11_riderOf 129 = .ok (.iconst 4, 1) := by decide +kernel
theorem dX11_riderOf_130 : decode cX11_riderOf 130 = .ok (.invokevirtual 71, 3) := by decide +kernel
theorem dX11_riderOf_133 : decode cX11_riderOf 133 = .ok (.goto 8, 3) := by decide +kernel
theorem dX11_riderOf_136 : decode cX11_riderOf 136 = .ok (.aload_n 0, 1) := by decide +kernel
theorem dX11_riderOf_137 : decode cX11_riderOf 137 = .ok (.iload_n 1, 1) := by decide +kernel
theorem dX11_riderOf_138 : decode cX11_riderOf 138 = .ok (.invokevirtual 83, 3) := by decide +kernel
theorem dX11_riderOf_141 : decode cX11_riderOf 141 = .ok (.ireturn, 1) := by decide +kernel
set_option maxRecDepth 20000 in
theorem ggX11_vanOf_X11_isVan : GoodIn wsX11_vanOf wsX11_isVan := goodIn_r _ [6, 1, 26, 27, 28, 29, 30, 31, 32, 33, 34, 35, 36, 37, 38, 39] (by decide +kernel) (by decide +kernel)
set_option maxRecDepth 20000 in
theorem gX11_vanOf_X11_isVan : GoodIn wsX11_vanOf (wsV RX11 96 RX11 yX11_isVan wsX11_isVan) := goodIn_app (goodIn_of _ (by decide +kernel)) ggX11_vanOf_X11_isVan
set_option maxRecDepth 20000 in
theorem ggX11_vanOf_X11_in : GoodIn wsX11_vanOf wsX11_in := goodIn_r _ [9] (by decide +kernel) (by decide +kernel)
set_option maxRecDepth 20000 in
theorem gX11_vanOf_X11_in : GoodIn wsX11_vanOf (va_wsS RX11 53 yX11_in wsX11_in) := goodIn_app (goodIn_of _ (by decide +kernel)) ggX11_vanOf_X11_in
set_option maxRecDepth 20000 in
theorem ggX11_vanOf_X11_ofVan : GoodIn wsX11_vanOf wsX11_ofVan := goodIn_r _ [13, 1, 26, 27, 28, 29, 30, 31, 32, 33, 34, 35, 36, 37, 38, 39] (by decide +kernel) (by decide +kernel)
set_option maxRecDepth 20000 in
theorem gX11_vanOf_X11_ofVan : GoodIn wsX11_vanOf (wsV RX11 93 RX11 yX11_ofVan wsX11_ofVan) := goodIn_app (goodIn_of _ (by decide +kernel)) ggX11_vanOf_X11_ofVan
set_option maxRecDepth 20000 in
theorem ggX11_vanOf_X11_those : GoodIn wsX11_vanOf wsX11_those := goodIn_r _ [17, 1, 18, 19, 20, 5, 21, 26, 27, 28, 29, 30, 31, 32, 33, 34, 35, 36, 37, 38, 39] (by decide +kernel) (by decide +kernel)
set_option maxRecDepth 20000 in
theorem gX11_vanOf_X11_those : GoodIn wsX11_vanOf (wsV RX11 40 RX11 yX11_those wsX11_those) := goodIn_app (goodIn_of _ (by decide +kernel)) ggX11_vanOf_X11_those
set_option maxRecDepth 20000 in
theorem ggX11_vanOf_X11_isUnderWay : GoodIn wsX11_vanOf wsX11_isUnderWay := goodIn_r _ [25, 1, 10, 11, 12, 5, 13, 26, 27, 28, 29, 30, 31, 32, 33, 34, 35, 36, 37, 38, 39] (by decide +kernel) (by decide +kernel)
set_option maxRecDepth 20000 in
theorem gX11_vanOf_X11_isUnderWay : GoodIn wsX11_vanOf (wsV RX11 99 RX11 yX11_isUnderWay wsX11_isUnderWay) := goodIn_app (goodIn_of _ (by decide +kernel)) ggX11_vanOf_X11_isUnderWay
theorem dX11_vanOf_0 : decode cX11_vanOf 0 = .ok (.aload_n 0, 1) := by decide +kernel
theorem dX11_vanOf_1 : decode cX11_vanOf 1 = .ok (.iload_n 1, 1) := by decide +kernel
theorem dX11_vanOf_2 : decode cX11_vanOf 2 = .ok (.invokevirtual 96, 3) := by decide +kernel
theorem dX11_vanOf_5 : decode cX11_vanOf 5 = .ok (.ifCond .eq 12, 3) := by decide +kernel
theorem dX11_vanOf_8 : decode cX11_vanOf 8 = .ok (.iload_n 2, 1) := by decide +kernel
theorem dX11_vanOf_9 : decode cX11_vanOf 9 = .ok (.iconst 0, 1) := by decide +kernel
theorem dX11_vanOf_10 : decode cX11_vanOf 10 = .ok (.iconst 3, 1) := by decide +kernel
theorem dX11_vanOf_11 : decode cX11_vanOf 11 = .ok (.invokestatic 53, 3) := by decide +kernel
theorem dX11_vanOf_14 : decode cX11_vanOf 14 = .ok (.ifCond .ne 5, 3) := by decide +kernel
theorem dX11_vanOf_17 : decode cX11_vanOf 17 = .ok (.iconst (-1), 1) := by decide +kernel
theorem dX11_vanOf_18 : decode cX11_vanOf 18 = .ok (.ireturn, 1) := by decide +kernel
theorem dX11_vanOf_19 : decode cX11_vanOf 19 = .ok (.iload_n 2, 1) := by decide +kernel
theorem dX11_vanOf_20 : decode cX11_vanOf 20 = .ok (.iconst 2, 1) := by decide +kernel
theorem dX11_vanOf_21 : decode cX11_vanOf 21 = .ok (.if_icmp .ge 12, 3) := by decide +kernel
theorem dX11_vanOf_24 : decode cX11_vanOf 24 = .ok (.aload_n 0, 1) := by decide +kernel
theorem dX11_vanOf_25 : decode cX11_vanOf 25 = .ok (.iload_n 1, 1) := by decide +kernel
theorem dX11_vanOf_26 : decode cX11_vanOf 26 = .ok (.iload_n 2, 1) := by decide +kernel
theorem dX11_vanOf_27 : decode cX11_vanOf 27 = .ok (.invokevirtual 93, 3) := by decide +kernel
theorem dX11_vanOf_30 : decode cX11_vanOf 30 = .ok (.goto 42, 3) := by decide +kernel
theorem dX11_vanOf_33 : decode cX11_vanOf 33 = .ok (.iload_n 2, 1) := by decide +kernel
theorem dX11_vanOf_34 : decode cX11_vanOf 34 = .ok (.iconst 2, 1) := by decide +kernel
theorem dX11_vanOf_35 : decode cX11_vanOf 35 = .ok (.if_icmp .ne 12, 3) := by decide +kernel
theorem dX11_vanOf_38 : decode cX11_vanOf 38 = .ok (.aload_n 0, 1) := by decide +kernel
theorem dX11_vanOf_39 : decode cX11_vanOf 39 = .ok (.iconst 2, 1) := by decide +kernel
theorem dX11_vanOf_40 : decode cX11_vanOf 40 = .ok (.iload_n 1, 1) := by decide +kernel
theorem dX11_vanOf_41 : decode cX11_vanOf 41 = .ok (.invokevirtual 40, 3) := by decide +kernel
theorem dX11_vanOf_44 : decode cX11_vanOf 44 = .ok (.goto 28, 3) := by decide +kernel
theorem dX11_vanOf_47 : decode cX11_vanOf 47 = .ok (.aload_n 0, 1) := by decide +kernel
theorem dX11_vanOf_48 : decode cX11_vanOf 48 = .ok (.iload_n 1, 1) := by decide +kernel
theorem dX11_vanOf_49 : decode cX11_vanOf 49 = .ok (.invokevirtual 99, 3) := by decide +kernel
theorem dX11_vanOf_52 : decode cX11_vanOf 52 = .ok (.ifCond .eq 19, 3) := by decide +kernel
theorem dX11_vanOf_55 : decode cX11_vanOf 55 = .ok (.aload_n 0, 1) := by decide +kernel
theorem dX11_vanOf_56 : decode cX11_vanOf 56 = .ok (.iload_n 1, 1) := by decide +kernel
theorem dX11_vanOf_57 : decode cX11_vanOf 57 = .ok (.iconst 2, 1) := by decide +kernel
theorem dX11_vanOf_58 : decode cX11_vanOf 58 = .ok (.invokevirtual 93, 3) := by decide +kernel
theorem dX11_vanOf_61 : decode cX11_vanOf 61 = .ok (.aload_n 0, 1) := by decide +kernel
theorem dX11_vanOf_62 : decode cX11_vanOf 62 = .ok (.getfield 7, 3) := by decide +kernel
theorem dX11_vanOf_65 : decode cX11_vanOf 65 = .ok (.iconst 4, 1) := by decide +kernel
theorem dX11_vanOf_66 : decode cX11_vanOf 66 = .ok (.iaload, 1) := by decide +kernel
theorem dX11_vanOf_67 : decode cX11_vanOf 67 = .ok (.isub, 1) := by decide +kernel
theorem dX11_vanOf_68 : decode cX11_vanOf 68 = .ok (.goto 4, 3) := by decide +kernel
theorem dX11_vanOf_71 : decode cX11_vanOf 71 = .ok (.iconst 0, 1) := by decide +kernel
theorem dX11_vanOf_72 : decode cX11_vanOf 72 = .ok (.ireturn, 1) := by decide +kernel
set_option maxRecDepth 20000 in
theorem ggX11_owed_X11_ofRider : GoodIn wsX11_owed wsX11_ofRider := goodIn_r _ [6, 1, 7, 8, 9, 10, 11, 12, 13, 14, 15, 16, 17, 18, 19, 20] (by decide +kernel) (by decide +kernel)
set_option maxRecDepth 20000 in
theorem gX11_owed_X11_ofRider : GoodIn wsX11_owed (wsV RX11 71 RX11 yX11_ofRider wsX11_ofRider) := goodIn_app (goodIn_of _ (by decide +kernel)) ggX11_owed_X11_ofRider
theorem dX11_owed_0 : decode cX11_owed 0 = .ok (.iconst 0, 1) := by decide +kernel
theorem dX11_owed_1 : decode cX11_owed 1 = .ok (.istore_n 1, 1) := by decide +kernel
theorem dX11_owed_2 : decode cX11_owed 2 = .ok (.iconst 0, 1) := by decide +kernel
theorem dX11_owed_3 : decode cX11_owed 3 = .ok (.istore_n 2, 1) := by decide +kernel
theorem dX11_owed_4 : decode cX11_owed 4 = .ok (.iload_n 2, 1) := by decide +kernel
theorem dX11_owed_5 : decode cX11_owed 5 = .ok (.aload_n 0, 1) := by decide +kernel
theorem dX11_owed_6 : decode cX11_owed 6 = .ok (.getfield 7, 3) := by decide +kernel
theorem dX11_owed_9 : decode cX11_owed 9 = .ok (.iconst 2, 1) := by decide +kernel
theorem dX11_owed_10 : decode cX11_owed 10 = .ok (.iaload, 1) := by decide +kernel
theorem dX11_owed_11 : decode cX11_owed 11 = .ok (.if_icmp .ge 18, 3) := by decide +kernel
theorem dX11_owed_14 : decode cX11_owed 14 = .ok (.iload_n 1, 1) := by decide +kernel
theorem dX11_owed_15 : decode cX11_owed 15 = .ok (.aload_n 0, 1) := by decide +kernel
theorem dX11_owed_16 : decode cX11_owed 16 = .ok (.iload_n 2, 1) := by decide +kernel
theorem dX11_owed_17 : decode cX11_owed 17 = .ok (.iconst 0, 1) := by decide +kernel
theorem dX11_owed_18 : decode cX11_owed 18 = .ok (.invokevirtual 71, 3) := by decide +kernel
theorem dX11_owed_21 : decode cX11_owed 21 = .ok (.iadd, 1) := by decide +kernel
theorem dX11_owed_22 : decode cX11_owed 22 = .ok (.istore_n 1, 1) := by decide +kernel
theorem dX11_owed_23 : decode cX11_owed 23 = .ok (.iinc 2 1, 3) := by decide +kernel
theorem dX11_owed_26 : decode cX11_owed 26 = .ok (.goto (-22), 3) := by decide +kernel
theorem dX11_owed_29 : decode cX11_owed 29 = .ok (.iload_n 1, 1) := by decide +kernel
theorem dX11_owed_30 : decode cX11_owed 30 = .ok (.ireturn, 1) := by decide +kernel
set_option maxRecDepth 20000 in
theorem ggX11_unevenAll_X11_unevenNow : GoodIn wsX11_unevenAll wsX11_unevenNow := goodIn_r _ [6, 7, 8, 9, 5, 10, 11, 12, 13, 14, 1, 15, 16, 17, 18, 19, 20, 21, 22, 23, 24, 25, 26, 27, 28, 29, 30, 31, 32, 33, 34, 35, 36, 37, 38, 39, 40, 41, 42] (by decide +kernel) (by decide +kernel)
set_option maxRecDepth 20000 in
theorem gX11_unevenAll_X11_unevenNow : GoodIn wsX11_unevenAll (wsV RX11 126 RX11 yX11_unevenNow wsX11_unevenNow) := goodIn_app (goodIn_of _ (by decide +kernel)) ggX11_unevenAll_X11_unevenNow
theorem dX11_unevenAll_0 : decode cX11_unevenAll 0 = .ok (.iconst 0, 1) := by decide +kernel
theorem dX11_unevenAll_1 : decode cX11_unevenAll 1 = .ok (.istore_n 1, 1) := by decide +kernel
theorem dX11_unevenAll_2 : decode cX11_unevenAll 2 = .ok (.iconst 0, 1) := by decide +kernel
theorem dX11_unevenAll_3 : decode cX11_unevenAll 3 = .ok (.istore_n 2, 1) := by decide +kernel
theorem dX11_unevenAll_4 : decode cX11_unevenAll 4 = .ok (.iload_n 2, 1) := by decide +kernel
theorem dX11_unevenAll_5 : decode cX11_unevenAll 5 = .ok (.aload_n 0, 1) := by decide +kernel
theorem dX11_unevenAll_6 : decode cX11_unevenAll 6 = .ok (.getfield 7, 3) := by decide +kernel
theorem dX11_unevenAll_9 : decode cX11_unevenAll 9 = .ok (.iconst 0, 1) := by decide +kernel
theorem dX11_unevenAll_10 : decode cX11_unevenAll 10 = .ok (.iaload, 1) := by decide +kernel
theorem dX11_unevenAll_11 : decode cX11_unevenAll 11 = .ok (.if_icmp .ge 17, 3) := by decide +kernel
theorem dX11_unevenAll_14 : decode cX11_unevenAll 14 = .ok (.iload_n 1, 1) := by decide +kernel
theorem dX11_unevenAll_15 : decode cX11_unevenAll 15 = .ok (.aload_n 0, 1) := by decide +kernel
theorem dX11_unevenAll_16 : decode cX11_unevenAll 16 = .ok (.iload_n 2, 1) := by decide +kernel
theorem dX11_unevenAll_17 : decode cX11_unevenAll 17 = .ok (.invokevirtual 126, 3) := by decide +kernel
theorem dX11_unevenAll_20 : decode cX11_unevenAll 20 = .ok (.iadd, 1) := by decide +kernel
theorem dX11_unevenAll_21 : decode cX11_unevenAll 21 = .ok (.istore_n 1, 1) := by decide +kernel
theorem dX11_unevenAll_22 : decode cX11_unevenAll 22 = .ok (.iinc 2 1, 3) := by decide +kernel
theorem dX11_unevenAll_25 : decode cX11_unevenAll 25 = .ok (.goto (-21), 3) := by decide +kernel
theorem dX11_unevenAll_28 : decode cX11_unevenAll 28 = .ok (.iload_n 1, 1) := by decide +kernel
theorem dX11_unevenAll_29 : decode cX11_unevenAll 29 = .ok (.ireturn, 1) := by decide +kernel
set_option maxRecDepth 20000 in
theorem ggX11_count_X11_inState : GoodIn wsX11_count wsX11_inState := goodIn_r _ [9, 1, 10, 11, 12, 8, 13, 59, 60, 61, 62, 63, 64, 65, 66, 67, 68, 69, 70, 71, 72] (by decide +kernel) (by decide +kernel)
set_option maxRecDepth 20000 in
theorem gX11_count_X11_inState : GoodIn wsX11_count (wsV RX11 120 RX11 yX11_inState wsX11_inState) := goodIn_app (goodIn_of _ (by decide +kernel)) ggX11_count_X11_inState
set_option maxRecDepth 20000 in
theorem ggX11_count_X11_faulty : GoodIn wsX11_count wsX11_faulty := goodIn_r _ [17, 1, 10, 11, 12, 8, 13, 59, 60, 61, 62, 63, 64, 65, 66, 67, 68, 69, 70, 71, 72] (by decide +kernel) (by decide +kernel)
set_option maxRecDepth 20000 in
theorem gX11_count_X11_faulty : GoodIn wsX11_count (wsV RX11 89 RX11 yX11_faulty wsX11_faulty) := goodIn_app (goodIn_of _ (by decide +kernel)) ggX11_count_X11_faulty
set_option maxRecDepth 20000 in
theorem ggX11_count_X11_allDocks : GoodIn wsX11_count wsX11_allDocks := goodIn_r _ [21, 1, 22, 23, 24, 8, 25, 59, 60, 61, 62, 63, 64, 65, 66, 67, 68, 69, 70, 71, 72] (by decide +kernel) (by decide +kernel)
set_option maxRecDepth 20000 in
theorem gX11_count_X11_allDocks : GoodIn wsX11_count (wsV RX11 123 RX11 yX11_allDocks wsX11_allDocks) := goodIn_app (goodIn_of _ (by decide +kernel)) ggX11_count_X11_allDocks
set_option maxRecDepth 20000 in
theorem ggX11_count_X11_owed : GoodIn wsX11_count wsX11_owed := goodIn_r _ [29, 1, 30, 31, 32, 8, 33, 59, 60, 61, 62, 63, 64, 65, 66, 67, 68, 69, 70, 71, 72] (by decide +kernel) (by decide +kernel)
set_option maxRecDepth 20000 in
theorem gX11_count_X11_owed : GoodIn wsX11_count (wsV RX11 132 RX11 yX11_owed wsX11_owed) := goodIn_app (goodIn_of _ (by decide +kernel)) ggX11_count_X11_owed
set_option maxRecDepth 20000 in
theorem ggX11_count_X11_unevenAll : GoodIn wsX11_count wsX11_unevenAll := goodIn_r _ [37, 1, 38, 39, 40, 8, 41, 42, 43, 44, 45, 46, 47, 48, 49, 10, 11, 12, 13, 50, 51, 52, 22, 23, 24, 25, 53, 54, 55, 59, 60, 61, 62, 63, 64, 65, 66, 67, 68, 69, 70, 71, 72] (by decide +kernel) (by decide +kernel)
set_option maxRecDepth 20000 in
theorem gX11_count_X11_unevenAll : GoodIn wsX11_count (wsV RX11 135 RX11 yX11_unevenAll wsX11_unevenAll) := goodIn_app (goodIn_of _ (by decide +kernel)) ggX11_count_X11_unevenAll
set_option maxRecDepth 20000 in
theorem ggX11_count_X11_in : GoodIn wsX11_count wsX11_in := goodIn_r _ [58] (by decide +kernel) (by decide +kernel)
set_option maxRecDepth 20000 in
theorem gX11_count_X11_in : GoodIn wsX11_count (va_wsS RX11 53 yX11_in wsX11_in) := goodIn_app (goodIn_of _ (by decide +kernel)) ggX11_count_X11_in
theorem dX11_count_0 : decode cX11_count 0 = .ok (.iload_n 1, 1) := by decide +kernel
theorem dX11_count_1 : decode cX11_count 1 = .ok (.tableswitch 137 0 15 #[79, 79, 79, 79, 79, 86, 86, 86, 86, 94, 99, 104, 109, 114, 119, 124], 79) := by decide +kernel
theorem dX11_count_80 : decode cX11_count 80 = .ok (.aload_n 0, 1) := by decide +kernel
theorem dX11_count_81 : decode cX11_count 81 = .ok (.getfield 7, 3) := by decide +kernel
theorem dX11_count_84 : decode cX11_count 84 = .ok (.iload_n 1, 1) := by decide +kernel
theorem dX11_count_85 : decode cX11_count 85 = .ok (.iaload, 1) := by decide +kernel
theorem dX11_count_86 : decode cX11_count 86 = .ok (.ireturn, 1) := by decide +kernel
theorem dX11_count_87 : decode cX11_count 87 = .ok (.aload_n 0, 1) := by decide +kernel
theorem dX11_count_88 : decode cX11_count 88 = .ok (.iload_n 1, 1) := by decide +kernel
theorem dX11_count_89 : decode cX11_count 89 = .ok (.iconst 5, 1) := by decide +kernel
theorem dX11_count_90 : decode cX11_count 90 = .ok (.isub, 1) := by decide +kernel
theorem dX11_count_91 : decode cX11_count 91 = .ok (.invokevirtual 120, 3) := by decide +kernel
theorem dX11_count_94 : decode cX11_count 94 = .ok (.ireturn, 1) := by decide +kernel
theorem dX11_count_95 : decode cX11_count 95 = .ok (.aload_n 0, 1) := by decide +kernel
theorem dX11_count_96 : decode cX11_count 96 = .ok (.invokevirtual 89, 3) := by decide +kernel
theorem dX11_count_99 : decode cX11_count 99 = .ok (.ireturn, 1) := by decide +kernel
theorem dX11_count_100 : decode cX11_count 100 = .ok (.aload_n 0, 1) := by decide +kernel
theorem dX11_count_101 : decode cX11_count 101 = .ok (.invokevirtual 123, 3) := by decide +kernel
theorem dX11_count_104 : decode cX11_count 104 = .ok (.ireturn, 1) := by decide +kernel
theorem dX11_count_105 : decode cX11_count 105 = .ok (.aload_n 0, 1) := by decide +kernel
theorem dX11_count_106 : decode cX11_count 106 = .ok (.invokevirtual 132, 3) := by decide +kernel
theorem dX11_count_109 : decode cX11_count 109 = .ok (.ireturn, 1) := by decide +kernel
theorem dX11_count_110 : decode cX11_count 110 = .ok (.aload_n 0, 1) := by decide +kernel
theorem dX11_count_111 : decode cX11_count 111 = .ok (.invokevirtual 135, 3) := by decide +kernel
theorem dX11_count_114 : decode cX11_count 114 = .ok (.ireturn, 1) := by decide +kernel
theorem dX11_count_115 : decode cX11_count 115 = .ok (.aload_n 0, 1) := by decide +kernel
theorem dX11_count_116 : decode cX11_count 116 = .ok (.getfield 32, 3) := by decide +kernel
theorem dX11_count_119 : decode cX11_count 119 = .ok (.ireturn, 1) := by decide +kernel
theorem dX11_count_120 : decode cX11_count 120 = .ok (.aload_n 0, 1) := by decide +kernel
theorem dX11_count_121 : decode cX11_count 121 = .ok (.getfield 138, 3) := by decide +kernel
theorem dX11_count_124 : decode cX11_count 124 = .ok (.ireturn, 1) := by decide +kernel
theorem dX11_count_125 : decode cX11_count 125 = .ok (.aload_n 0, 1) := by decide +kernel
theorem dX11_count_126 : decode cX11_count 126 = .ok (.getfield 141, 3) := by decide +kernel
theorem dX11_count_129 : decode cX11_count 129 = .ok (.ifCond .eq 7, 3) := by decide +kernel
theorem dX11_count_132 : decode cX11_count 132 = .ok (.iconst 1, 1) := by decide +kernel
theorem dX11_count_133 : decode cX11_count 133 = .ok (.goto 4, 3) := by decide +kernel
theorem dX11_count_136 : decode cX11_count 136 = .ok (.iconst 0, 1) := by decide +kernel
theorem dX11_count_137 : decode cX11_count 137 = .ok (.ireturn, 1) := by decide +kernel
theorem dX11_count_138 : decode cX11_count 138 = .ok (.iload_n 1, 1) := by decide +kernel
theorem dX11_count_139 : decode cX11_count 139 = .ok (.bipush 20, 2) := by decide +kernel
theorem dX11_count_141 : decode cX11_count 141 = .ok (.bipush 22, 2) := by decide +kernel
theorem dX11_count_143 : decode cX11_count 143 = .ok (.invokestatic 53, 3) := by decide +kernel
theorem dX11_count_146 : decode cX11_count 146 = .ok (.ifCond .eq 17, 3) := by decide +kernel
theorem dX11_count_149 : decode cX11_count 149 = .ok (.aload_n 0, 1) := by decide +kernel
theorem dX11_count_150 : decode cX11_count 150 = .ok (.getfield 7, 3) := by decide +kernel
theorem dX11_count_153 : decode cX11_count 153 = .ok (.iconst 5, 1) := by decide +kernel
theorem dX11_count_154 : decode cX11_count 154 = .ok (.iload_n 1, 1) := by decide +kernel
theorem dX11_count_155 : decode cX11_count 155 = .ok (.iadd, 1) := by decide +kernel
theorem dX11_count_156 : decode cX11_count 156 = .ok (.bipush 20, 2) := by decide +kernel
theorem dX11_count_158 : decode cX11_count 158 = .ok (.isub, 1) := by decide +kernel
theorem dX11_count_159 : decode cX11_count 159 = .ok (.iaload, 1) := by decide +kernel
theorem dX11_count_160 : decode cX11_count 160 = .ok (.goto 4, 3) := by decide +kernel
theorem dX11_count_163 : decode cX11_count 163 = .ok (.iconst (-1), 1) := by decide +kernel
theorem dX11_count_164 : decode cX11_count 164 = .ok (.ireturn, 1) := by decide +kernel
set_option maxRecDepth 20000 in
theorem ggX11_help_X11_docked : GoodIn wsX11_help wsX11_docked := goodIn_r _ [5, 6, 7, 8, 4, 9, 10, 11, 12, 13, 14, 15, 16, 17, 25, 26, 27, 28, 29, 30, 31, 32, 33, 34, 35, 36, 37, 38] (by decide +kernel) (by decide +kernel)
set_option maxRecDepth 20000 in
theorem gX11_help_X11_docked : GoodIn wsX11_help (wsV RX11 47 RX11 yX11_docked wsX11_docked) := goodIn_app (goodIn_of _ (by decide +kernel)) ggX11_help_X11_docked
set_option maxRecDepth 20000 in
theorem ggX11_help_X11_ofStation : GoodIn wsX11_help wsX11_ofStation := goodIn_r _ [21, 10, 25, 26, 27, 28, 29, 30, 31, 32, 33, 34, 35, 36, 37, 38] (by decide +kernel) (by decide +kernel)
set_option maxRecDepth 20000 in
theorem gX11_help_X11_ofStation : GoodIn wsX11_help (wsV RX11 50 RX11 yX11_ofStation wsX11_ofStation) := goodIn_app (goodIn_of _ (by decide +kernel)) ggX11_help_X11_ofStation
set_option maxRecDepth 20000 in
theorem ggX11_help_X11_uneven : GoodIn wsX11_help wsX11_uneven := goodIn_r _ [24] (by decide +kernel) (by decide +kernel)
set_option maxRecDepth 20000 in
theorem gX11_help_X11_uneven : GoodIn wsX11_help (va_wsS RX11 117 yX11_uneven wsX11_uneven) := goodIn_app (goodIn_of _ (by decide +kernel)) ggX11_help_X11_uneven
theorem dX11_help_0 : decode cX11_help 0 = .ok (.aload_n 0, 1) := by decide +kernel
theorem dX11_help_1 : decode cX11_help 1 = .ok (.iload_n 1, 1) := by decide +kernel
theorem dX11_help_2 : decode cX11_help 2 = .ok (.invokevirtual 47, 3) := by decide +kernel
theorem dX11_help_5 : decode cX11_help 5 = .ok (.istore_n 3, 1) := by decide +kernel
theorem dX11_help_6 : decode cX11_help 6 = .ok (.aload_n 0, 1) := by decide +kernel
theorem dX11_help_7 : decode cX11_help 7 = .ok (.iload_n 2, 1) := by decide +kernel
theorem dX11_help_8 : decode cX11_help 8 = .ok (.invokevirtual 47, 3) := by decide +kernel
theorem dX11_help_11 : decode cX11_help 11 = .ok (.istore 4, 2) := by decide +kernel
theorem dX11_help_13 : decode cX11_help 13 = .ok (.aload_n 0, 1) := by decide +kernel
theorem dX11_help_14 : decode cX11_help 14 = .ok (.iload_n 1, 1) := by decide +kernel
theorem dX11_help_15 : decode cX11_help 15 = .ok (.iconst 1, 1) := by decide +kernel
theorem dX11_help_16 : decode cX11_help 16 = .ok (.invokevirtual 50, 3) := by decide +kernel
theorem dX11_help_19 : decode cX11_help 19 = .ok (.istore 5, 2) := by decide +kernel
theorem dX11_help_21 : decode cX11_help 21 = .ok (.aload_n 0, 1) := by decide +kernel
theorem dX11_help_22 : decode cX11_help 22 = .ok (.iload_n 2, 1) := by decide +kernel
theorem dX11_help_23 : decode cX11_help 23 = .ok (.iconst 1, 1) := by decide +kernel
theorem dX11_help_24 : decode cX11_help 24 = .ok (.invokevirtual 50, 3) := by decide +kernel
theorem dX11_help_27 : decode cX11_help 27 = .ok (.istore 6, 2) := by decide +kernel
theorem dX11_help_29 : decode cX11_help 29 = .ok (.iload_n 1, 1) := by decide +kernel
theorem dX11_help_30 : decode cX11_help 30 = .ok (.iload_n 2, 1) := by decide +kernel
theorem dX11_help_31 : decode cX11_help 31 = .ok (.if_icmp .eq 14, 3) := by decide +kernel
theorem dX11_help_34 : decode cX11_help 34 = .ok (.iload_n 3, 1) := by decide +kernel
theorem dX11_help_35 : decode cX11_help 35 = .ok (.ifCond .eq 10, 3) := by decide +kernel
theorem dX11_help_38 : decode cX11_help 38 = .ok (.iload 4, 2) := by decide +kernel
theorem dX11_help_40 : decode cX11_help 40 = .ok (.iload 6, 2) := by decide +kernel
theorem dX11_help_42 : decode cX11_help 42 = .ok (.if_icmp .ne 7, 3) := by decide +kernel
