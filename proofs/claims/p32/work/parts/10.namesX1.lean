theorem dX5_load_89 : decode cX5_load 89 = .ok (.iload_n 1, 1) := by decide +kernel
theorem dX5_load_90 : decode cX5_load 90 = .ok (.invokevirtual 121, 3) := by decide +kernel
theorem dX5_load_93 : decode cX5_load 93 = .ok (.iload_n 3, 1) := by decide +kernel
theorem dX5_load_94 : decode cX5_load 94 = .ok (.iconst 1, 1) := by decide +kernel
theorem dX5_load_95 : decode cX5_load 95 = .ok (.iadd, 1) := by decide +kernel
theorem dX5_load_96 : decode cX5_load 96 = .ok (.ireturn, 1) := by decide +kernel
set_option maxRecDepth 20000 in
theorem ggX5_unload_X8_has : GoodIn wsX5_unload wsX8_has := goodIn_r _ [8, 9, 64, 65, 66, 67] (by decide +kernel) (by decide +kernel)
set_option maxRecDepth 20000 in
theorem gX5_unload_X8_has : GoodIn wsX5_unload (wsV RX5 153 RX8 yX8_has wsX8_has) := goodIn_app (goodIn_of _ (by decide +kernel)) ggX5_unload_X8_has
set_option maxRecDepth 20000 in
theorem ggX5_unload_X1_has : GoodIn wsX5_unload wsX1_has := goodIn_r _ [14, 15, 68, 69, 70, 71, 72, 73, 74] (by decide +kernel) (by decide +kernel)
set_option maxRecDepth 20000 in
theorem gX5_unload_X1_has : GoodIn wsX5_unload (wsV RX5 105 RX1 yX1_has wsX1_has) := goodIn_app (goodIn_of _ (by decide +kernel)) ggX5_unload_X1_has
set_option maxRecDepth 20000 in
theorem ggX5_unload_X5_canHandOut : GoodIn wsX5_unload wsX5_canHandOut := goodIn_r _ [20, 2, 21, 22, 23, 19, 24, 1, 25, 26, 4, 5, 6, 7, 8, 9, 27, 28, 29, 13, 30, 31, 32, 33, 11, 12, 14, 15, 58, 59, 60, 61, 62, 63, 64, 65, 66, 67, 68, 69, 70, 71, 72, 73, 74] (by decide +kernel) (by decide +kernel)
set_option maxRecDepth 20000 in
theorem gX5_unload_X5_canHandOut : GoodIn wsX5_unload (wsV RX5 170 RX5 yX5_canHandOut wsX5_canHandOut) := goodIn_app (goodIn_of _ (by decide +kernel)) ggX5_unload_X5_canHandOut
set_option maxRecDepth 20000 in
theorem ggX5_unload_X5_hasFreeDock : GoodIn wsX5_unload wsX5_hasFreeDock := goodIn_r _ [37, 38, 39, 40, 41, 42, 43, 44, 45, 46, 47, 48, 19, 49, 2, 50, 51, 52, 13, 53, 15, 31, 32, 58, 59, 60, 61, 62, 63, 75, 76, 77, 78, 79, 68, 69, 70, 71, 72, 73, 74] (by decide +kernel) (by decide +kernel)
set_option maxRecDepth 20000 in
theorem gX5_unload_X5_hasFreeDock : GoodIn wsX5_unload (wsV RX5 74 RX5 yX5_hasFreeDock wsX5_hasFreeDock) := goodIn_app (goodIn_of _ (by decide +kernel)) ggX5_unload_X5_hasFreeDock
set_option maxRecDepth 20000 in
theorem ggX5_unload_X1_bring : GoodIn wsX5_unload wsX1_bring := goodIn_r _ [57, 31, 32, 33, 11, 12, 13, 14, 15, 68, 69, 70, 71, 72, 73, 74] (by decide +kernel) (by decide +kernel)
set_option maxRecDepth 20000 in
theorem gX5_unload_X1_bring : GoodIn wsX5_unload (wsV RX5 121 RX1 yX1_bring wsX1_bring) := goodIn_app (goodIn_of _ (by decide +kernel)) ggX5_unload_X1_bring
set_option maxRecDepth 20000 in
theorem ggX5_unload_X1_countAt : GoodIn wsX5_unload wsX1_countAt := goodIn_r _ [53, 15, 31, 32, 68, 69, 70, 71, 72, 73, 74] (by decide +kernel) (by decide +kernel)
set_option maxRecDepth 20000 in
theorem gX5_unload_X1_countAt : GoodIn wsX5_unload (wsV RX5 154 RX1 yX1_countAt wsX1_countAt) := goodIn_app (goodIn_of _ (by decide +kernel)) ggX5_unload_X1_countAt
theorem dX5_unload_0 : decode cX5_unload 0 = .ok (.aload_n 0, 1) := by decide +kernel
theorem dX5_unload_1 : decode cX5_unload 1 = .ok (.getfield 35, 3) := by decide +kernel
theorem dX5_unload_4 : decode cX5_unload 4 = .ok (.iload_n 1, 1) := by decide +kernel
theorem dX5_unload_5 : decode cX5_unload 5 = .ok (.invokevirtual 153, 3) := by decide +kernel
theorem dX5_unload_8 : decode cX5_unload 8 = .ok (.ifCond .eq 14, 3) := by decide +kernel
theorem dX5_unload_11 : decode cX5_unload 11 = .ok (.aload_n 0, 1) := by decide +kernel
theorem dX5_unload_12 : decode cX5_unload 12 = .ok (.getfield 21, 3) := by decide +kernel
theorem dX5_unload_15 : decode cX5_unload 15 = .ok (.iload_n 2, 1) := by decide +kernel
theorem dX5_unload_16 : decode cX5_unload 16 = .ok (.invokevirtual 105, 3) := by decide +kernel
theorem dX5_unload_19 : decode cX5_unload 19 = .ok (.ifCond .ne 5, 3) := by decide +kernel
theorem dX5_unload_22 : decode cX5_unload 22 = .ok (.iconst (-1), 1) := by decide +kernel
theorem dX5_unload_23 : decode cX5_unload 23 = .ok (.ireturn, 1) := by decide +kernel
theorem dX5_unload_24 : decode cX5_unload 24 = .ok (.aload_n 0, 1) := by decide +kernel
theorem dX5_unload_25 : decode cX5_unload 25 = .ok (.getfield 35, 3) := by decide +kernel
theorem dX5_unload_28 : decode cX5_unload 28 = .ok (.getfield 157, 3) := by decide +kernel
theorem dX5_unload_31 : decode cX5_unload 31 = .ok (.iload_n 1, 1) := by decide +kernel
theorem dX5_unload_32 : decode cX5_unload 32 = .ok (.iaload, 1) := by decide +kernel
theorem dX5_unload_33 : decode cX5_unload 33 = .ok (.istore_n 3, 1) := by decide +kernel
theorem dX5_unload_34 : decode cX5_unload 34 = .ok (.aload_n 0, 1) := by decide +kernel
theorem dX5_unload_35 : decode cX5_unload 35 = .ok (.iload_n 1, 1) := by decide +kernel
theorem dX5_unload_36 : decode cX5_unload 36 = .ok (.iload_n 2, 1) := by decide +kernel
theorem dX5_unload_37 : decode cX5_unload 37 = .ok (.invokevirtual 170, 3) := by decide +kernel
theorem dX5_unload_40 : decode cX5_unload 40 = .ok (.ifCond .eq 11, 3) := by decide +kernel
theorem dX5_unload_43 : decode cX5_unload 43 = .ok (.aload_n 0, 1) := by decide +kernel
theorem dX5_unload_44 : decode cX5_unload 44 = .ok (.iload_n 3, 1) := by decide +kernel
theorem dX5_unload_45 : decode cX5_unload 45 = .ok (.invokevirtual 74, 3) := by decide +kernel
theorem dX5_unload_48 : decode cX5_unload 48 = .ok (.ifCond .ne 6, 3) := by decide +kernel
theorem dX5_unload_51 : decode cX5_unload 51 = .ok (.bipush (-2), 2) := by decide +kernel
theorem dX5_unload_53 : decode cX5_unload 53 = .ok (.ireturn, 1) := by decide +kernel
theorem dX5_unload_54 : decode cX5_unload 54 = .ok (.aload_n 0, 1) := by decide +kernel
theorem dX5_unload_55 : decode cX5_unload 55 = .ok (.getfield 21, 3) := by decide +kernel
theorem dX5_unload_58 : decode cX5_unload 58 = .ok (.iload_n 2, 1) := by decide +kernel
theorem dX5_unload_59 : decode cX5_unload 59 = .ok (.iconst 0, 1) := by decide +kernel
theorem dX5_unload_60 : decode cX5_unload 60 = .ok (.iload_n 3, 1) := by decide +kernel
theorem dX5_unload_61 : decode cX5_unload 61 = .ok (.invokevirtual 121, 3) := by decide +kernel
theorem dX5_unload_64 : decode cX5_unload 64 = .ok (.aload_n 0, 1) := by decide +kernel
theorem dX5_unload_65 : decode cX5_unload 65 = .ok (.getfield 21, 3) := by decide +kernel
theorem dX5_unload_68 : decode cX5_unload 68 = .ok (.iconst 2, 1) := by decide +kernel
theorem dX5_unload_69 : decode cX5_unload 69 = .ok (.iload_n 1, 1) := by decide +kernel
theorem dX5_unload_70 : decode cX5_unload 70 = .ok (.invokevirtual 154, 3) := by decide +kernel
theorem dX5_unload_73 : decode cX5_unload 73 = .ok (.ireturn, 1) := by decide +kernel
set_option maxRecDepth 20000 in
theorem ggX5_sendVan_X8_has : GoodIn wsX5_sendVan wsX8_has := goodIn_r _ [10, 11, 39, 40, 41, 42] (by decide +kernel) (by decide +kernel)
set_option maxRecDepth 20000 in
theorem gX5_sendVan_X8_has : GoodIn wsX5_sendVan (wsV RX5 153 RX8 yX8_has wsX8_has) := goodIn_app (goodIn_of _ (by decide +kernel)) ggX5_sendVan_X8_has
set_option maxRecDepth 20000 in
theorem ggX5_sendVan_X6_has : GoodIn wsX5_sendVan wsX6_has := goodIn_r _ [16, 17, 43, 44, 45, 46, 47] (by decide +kernel) (by decide +kernel)
set_option maxRecDepth 20000 in
theorem gX5_sendVan_X6_has : GoodIn wsX5_sendVan (wsV RX5 70 RX6 yX6_has wsX6_has) := goodIn_app (goodIn_of _ (by decide +kernel)) ggX5_sendVan_X6_has
set_option maxRecDepth 20000 in
theorem ggX5_sendVan_X5_isUnderWay : GoodIn wsX5_sendVan wsX5_isUnderWay := goodIn_r _ [22, 1, 5, 4, 6, 7, 8, 9, 10, 11, 33, 34, 35, 36, 37, 38, 39, 40, 41, 42] (by decide +kernel) (by decide +kernel)
set_option maxRecDepth 20000 in
theorem gX5_sendVan_X5_isUnderWay : GoodIn wsX5_sendVan (wsV RX5 164 RX5 yX5_isUnderWay wsX5_isUnderWay) := goodIn_app (goodIn_of _ (by decide +kernel)) ggX5_sendVan_X5_isUnderWay
set_option maxRecDepth 20000 in
theorem ggX5_sendVan_X6_way : GoodIn wsX5_sendVan wsX6_way := goodIn_r _ [26, 27, 28, 29, 30, 31, 32, 13, 14, 15, 16, 17, 43, 44, 45, 46, 47] (by decide +kernel) (by decide +kernel)
set_option maxRecDepth 20000 in
theorem gX5_sendVan_X6_way : GoodIn wsX5_sendVan (wsV RX5 174 RX6 yX6_way wsX6_way) := goodIn_app (goodIn_of _ (by decide +kernel)) ggX5_sendVan_X6_way
theorem dX5_sendVan_0 : decode cX5_sendVan 0 = .ok (.aload_n 0, 1) := by decide +kernel
theorem dX5_sendVan_1 : decode cX5_sendVan 1 = .ok (.getfield 35, 3) := by decide +kernel
theorem dX5_sendVan_4 : decode cX5_sendVan 4 = .ok (.iload_n 1, 1) := by decide +kernel
theorem dX5_sendVan_5 : decode cX5_sendVan 5 = .ok (.invokevirtual 153, 3) := by decide +kernel
theorem dX5_sendVan_8 : decode cX5_sendVan 8 = .ok (.ifCond .eq 14, 3) := by decide +kernel
theorem dX5_sendVan_11 : decode cX5_sendVan 11 = .ok (.aload_n 0, 1) := by decide +kernel
theorem dX5_sendVan_12 : decode cX5_sendVan 12 = .ok (.getfield 12, 3) := by decide +kernel
theorem dX5_sendVan_15 : decode cX5_sendVan 15 = .ok (.iload_n 2, 1) := by decide +kernel
theorem dX5_sendVan_16 : decode cX5_sendVan 16 = .ok (.invokevirtual 70, 3) := by decide +kernel
theorem dX5_sendVan_19 : decode cX5_sendVan 19 = .ok (.ifCond .ne 5, 3) := by decide +kernel
theorem dX5_sendVan_22 : decode cX5_sendVan 22 = .ok (.iconst (-1), 1) := by decide +kernel
theorem dX5_sendVan_23 : decode cX5_sendVan 23 = .ok (.ireturn, 1) := by decide +kernel
theorem dX5_sendVan_24 : decode cX5_sendVan 24 = .ok (.aload_n 0, 1) := by decide +kernel
theorem dX5_sendVan_25 : decode cX5_sendVan 25 = .ok (.iload_n 1, 1) := by decide +kernel
theorem dX5_sendVan_26 : decode cX5_sendVan 26 = .ok (.invokevirtual 164, 3) := by decide +kernel
theorem dX5_sendVan_29 : decode cX5_sendVan 29 = .ok (.ifCond .ne 16, 3) := by decide +kernel
theorem dX5_sendVan_32 : decode cX5_sendVan 32 = .ok (.aload_n 0, 1) := by decide +kernel
theorem dX5_sendVan_33 : decode cX5_sendVan 33 = .ok (.getfield 35, 3) := by decide +kernel
theorem dX5_sendVan_36 : decode cX5_sendVan 36 = .ok (.getfield 157, 3) := by decide +kernel
theorem dX5_sendVan_39 : decode cX5_sendVan 39 = .ok (.iload_n 1, 1) := by decide +kernel
theorem dX5_sendVan_40 : decode cX5_sendVan 40 = .ok (.iaload, 1) := by decide +kernel
theorem dX5_sendVan_41 : decode cX5_sendVan 41 = .ok (.iload_n 2, 1) := by decide +kernel
theorem dX5_sendVan_42 : decode cX5_sendVan 42 = .ok (.if_icmp .ne 6, 3) := by decide +kernel
theorem dX5_sendVan_45 : decode cX5_sendVan 45 = .ok (.bipush (-2), 2) := by decide +kernel
theorem dX5_sendVan_47 : decode cX5_sendVan 47 = .ok (.ireturn, 1) := by decide +kernel
theorem dX5_sendVan_48 : decode cX5_sendVan 48 = .ok (.aload_n 0, 1) := by decide +kernel
theorem dX5_sendVan_49 : decode cX5_sendVan 49 = .ok (.getfield 62, 3) := by decide +kernel
theorem dX5_sendVan_52 : decode cX5_sendVan 52 = .ok (.aload_n 0, 1) := by decide +kernel
theorem dX5_sendVan_53 : decode cX5_sendVan 53 = .ok (.getfield 12, 3) := by decide +kernel
theorem dX5_sendVan_56 : decode cX5_sendVan 56 = .ok (.aload_n 0, 1) := by decide +kernel
theorem dX5_sendVan_57 : decode cX5_sendVan 57 = .ok (.getfield 35, 3) := by decide +kernel
theorem dX5_sendVan_60 : decode cX5_sendVan 60 = .ok (.getfield 157, 3) := by decide +kernel
theorem dX5_sendVan_63 : decode cX5_sendVan 63 = .ok (.iload_n 1, 1) := by decide +kernel
theorem dX5_sendVan_64 : decode cX5_sendVan 64 = .ok (.iaload, 1) := by decide +kernel
theorem dX5_sendVan_65 : decode cX5_sendVan 65 = .ok (.iload_n 2, 1) := by decide +kernel
theorem dX5_sendVan_66 : decode cX5_sendVan 66 = .ok (.invokevirtual 174, 3) := by decide +kernel
theorem dX5_sendVan_69 : decode cX5_sendVan 69 = .ok (.iconst 2, 1) := by decide +kernel
theorem dX5_sendVan_70 : decode cX5_sendVan 70 = .ok (.idiv, 1) := by decide +kernel
theorem dX5_sendVan_71 : decode cX5_sendVan 71 = .ok (.iadd, 1) := by decide +kernel
theorem dX5_sendVan_72 : decode cX5_sendVan 72 = .ok (.iconst 1, 1) := by decide +kernel
theorem dX5_sendVan_73 : decode cX5_sendVan 73 = .ok (.iadd, 1) := by decide +kernel
theorem dX5_sendVan_74 : decode cX5_sendVan 74 = .ok (.istore_n 3, 1) := by decide +kernel
theorem dX5_sendVan_75 : decode cX5_sendVan 75 = .ok (.aload_n 0, 1) := by decide +kernel
theorem dX5_sendVan_76 : decode cX5_sendVan 76 = .ok (.getfield 35, 3) := by decide +kernel
theorem dX5_sendVan_79 : decode cX5_sendVan 79 = .ok (.getfield 157, 3) := by decide +kernel
theorem dX5_sendVan_82 : decode cX5_sendVan 82 = .ok (.iload_n 1, 1) := by decide +kernel
theorem dX5_sendVan_83 : decode cX5_sendVan 83 = .ok (.iload_n 2, 1) := by decide +kernel
theorem dX5_sendVan_84 : decode cX5_sendVan 84 = .ok (.iastore, 1) := by decide +kernel
theorem dX5_sendVan_85 : decode cX5_sendVan 85 = .ok (.aload_n 0, 1) := by decide +kernel
theorem dX5_sendVan_86 : decode cX5_sendVan 86 = .ok (.getfield 35, 3) := by decide +kernel
theorem dX5_sendVan_89 : decode cX5_sendVan 89 = .ok (.getfield 177, 3) := by decide +kernel
theorem dX5_sendVan_92 : decode cX5_sendVan 92 = .ok (.iload_n 1, 1) := by decide +kernel
theorem dX5_sendVan_93 : decode cX5_sendVan 93 = .ok (.iload_n 3, 1) := by decide +kernel
theorem dX5_sendVan_94 : decode cX5_sendVan 94 = .ok (.iastore, 1) := by decide +kernel
theorem dX5_sendVan_95 : decode cX5_sendVan 95 = .ok (.iload_n 3, 1) := by decide +kernel
theorem dX5_sendVan_96 : decode cX5_sendVan 96 = .ok (.ireturn, 1) := by decide +kernel
set_option maxRecDepth 20000 in
theorem ggX5_handOver_X8_has : GoodIn wsX5_handOver wsX8_has := goodIn_r _ [11, 12, 46, 47, 48, 49] (by decide +kernel) (by decide +kernel)
set_option maxRecDepth 20000 in
theorem gX5_handOver_X8_has : GoodIn wsX5_handOver (wsV RX5 153 RX8 yX8_has wsX8_has) := goodIn_app (goodIn_of _ (by decide +kernel)) ggX5_handOver_X8_has
set_option maxRecDepth 20000 in
theorem ggX5_handOver_X1_has : GoodIn wsX5_handOver wsX1_has := goodIn_r _ [17, 18, 50, 51, 52, 53, 54, 55, 56] (by decide +kernel) (by decide +kernel)
set_option maxRecDepth 20000 in
theorem gX5_handOver_X1_has : GoodIn wsX5_handOver (wsV RX5 105 RX1 yX1_has wsX1_has) := goodIn_app (goodIn_of _ (by decide +kernel)) ggX5_handOver_X1_has
set_option maxRecDepth 20000 in
theorem ggX5_handOver_X5_canHandOut : GoodIn wsX5_handOver wsX5_canHandOut := goodIn_r _ [23, 2, 24, 25, 26, 22, 27, 1, 28, 5, 7, 8, 9, 10, 11, 12, 29, 30, 31, 16, 32, 33, 34, 35, 14, 15, 17, 18, 40, 41, 42, 43, 44, 45, 46, 47, 48, 49, 50, 51, 52, 53, 54, 55, 56] (by decide +kernel) (by decide +kernel)
set_option maxRecDepth 20000 in
theorem gX5_handOver_X5_canHandOut : GoodIn wsX5_handOver (wsV RX5 170 RX5 yX5_canHandOut wsX5_canHandOut) := goodIn_app (goodIn_of _ (by decide +kernel)) ggX5_handOver_X5_canHandOut
set_option maxRecDepth 20000 in
theorem ggX5_handOver_X1_bring : GoodIn wsX5_handOver wsX1_bring := goodIn_r _ [39, 33, 34, 35, 14, 15, 16, 17, 18, 50, 51, 52, 53, 54, 55, 56] (by decide +kernel) (by decide +kernel)
set_option maxRecDepth 20000 in
theorem gX5_handOver_X1_bring : GoodIn wsX5_handOver (wsV RX5 121 RX1 yX1_bring wsX1_bring) := goodIn_app (goodIn_of _ (by decide +kernel)) ggX5_handOver_X1_bring
theorem dX5_handOver_0 : decode cX5_handOver 0 = .ok (.aload_n 0, 1) := by decide +kernel
theorem dX5_handOver_1 : decode cX5_handOver 1 = .ok (.getfield 35, 3) := by decide +kernel
theorem dX5_handOver_4 : decode cX5_handOver 4 = .ok (.iload_n 1, 1) := by decide +kernel
theorem dX5_handOver_5 : decode cX5_handOver 5 = .ok (.invokevirtual 153, 3) := by decide +kernel
theorem dX5_handOver_8 : decode cX5_handOver 8 = .ok (.ifCond .eq 14, 3) := by decide +kernel
theorem dX5_handOver_11 : decode cX5_handOver 11 = .ok (.aload_n 0, 1) := by decide +kernel
theorem dX5_handOver_12 : decode cX5_handOver 12 = .ok (.getfield 21, 3) := by decide +kernel
theorem dX5_handOver_15 : decode cX5_handOver 15 = .ok (.iload_n 2, 1) := by decide +kernel
theorem dX5_handOver_16 : decode cX5_handOver 16 = .ok (.invokevirtual 105, 3) := by decide +kernel
theorem dX5_handOver_19 : decode cX5_handOver 19 = .ok (.ifCond .ne 5, 3) := by decide +kernel
theorem dX5_handOver_22 : decode cX5_handOver 22 = .ok (.iconst (-1), 1) := by decide +kernel
theorem dX5_handOver_23 : decode cX5_handOver 23 = .ok (.ireturn, 1) := by decide +kernel
theorem dX5_handOver_24 : decode cX5_handOver 24 = .ok (.aload_n 0, 1) := by decide +kernel
theorem dX5_handOver_25 : decode cX5_handOver 25 = .ok (.iload_n 1, 1) := by decide +kernel
theorem dX5_handOver_26 : decode cX5_handOver 26 = .ok (.iload_n 2, 1) := by decide +kernel
theorem dX5_handOver_27 : decode cX5_handOver 27 = .ok (.invokevirtual 170, 3) := by decide +kernel
theorem dX5_handOver_30 : decode cX5_handOver 30 = .ok (.ifCond .eq 15, 3) := by decide +kernel
theorem dX5_handOver_33 : decode cX5_handOver 33 = .ok (.aload_n 0, 1) := by decide +kernel
theorem dX5_handOver_34 : decode cX5_handOver 34 = .ok (.getfield 35, 3) := by decide +kernel
theorem dX5_handOver_37 : decode cX5_handOver 37 = .ok (.getfield 157, 3) := by decide +kernel
theorem dX5_handOver_40 : decode cX5_handOver 40 = .ok (.iload_n 1, 1) := by decide +kernel
theorem dX5_handOver_41 : decode cX5_handOver 41 = .ok (.iaload, 1) := by decide +kernel
theorem dX5_handOver_42 : decode cX5_handOver 42 = .ok (.ifCond .eq 6, 3) := by decide +kernel
theorem dX5_handOver_45 : decode cX5_handOver 45 = .ok (.bipush (-2), 2) := by decide +kernel
theorem dX5_handOver_47 : decode cX5_handOver 47 = .ok (.ireturn, 1) := by decide +kernel
theorem dX5_handOver_48 : decode cX5_handOver 48 = .ok (.aload_n 0, 1) := by decide +kernel
theorem dX5_handOver_49 : decode cX5_handOver 49 = .ok (.getfield 21, 3) := by decide +kernel
theorem dX5_handOver_52 : decode cX5_handOver 52 = .ok (.iload_n 2, 1) := by decide +kernel
theorem dX5_handOver_53 : decode cX5_handOver 53 = .ok (.iconst 3, 1) := by decide +kernel
theorem dX5_handOver_54 : decode cX5_handOver 54 = .ok (.iconst (-1), 1) := by decide +kernel
theorem dX5_handOver_55 : decode cX5_handOver 55 = .ok (.invokevirtual 121, 3) := by decide +kernel
theorem dX5_handOver_58 : decode cX5_handOver 58 = .ok (.aload_n 0, 1) := by decide +kernel
theorem dX5_handOver_59 : decode cX5_handOver 59 = .ok (.getfield 21, 3) := by decide +kernel
theorem dX5_handOver_62 : decode cX5_handOver 62 = .ok (.getfield 180, 3) := by decide +kernel
theorem dX5_handOver_65 : decode cX5_handOver 65 = .ok (.iload_n 2, 1) := by decide +kernel
theorem dX5_handOver_66 : decode cX5_handOver 66 = .ok (.aload_n 0, 1) := by decide +kernel
theorem dX5_handOver_67 : decode cX5_handOver 67 = .ok (.getfield 62, 3) := by decide +kernel
theorem dX5_handOver_70 : decode cX5_handOver 70 = .ok (.aload_n 0, 1) := by decide +kernel
theorem dX5_handOver_71 : decode cX5_handOver 71 = .ok (.getfield 39, 3) := by decide +kernel
theorem dX5_handOver_74 : decode cX5_handOver 74 = .ok (.iconst 1, 1) := by decide +kernel
theorem dX5_handOver_75 : decode cX5_handOver 75 = .ok (.iaload, 1) := by decide +kernel
theorem dX5_handOver_76 : decode cX5_handOver 76 = .ok (.iadd, 1) := by decide +kernel
theorem dX5_handOver_77 : decode cX5_handOver 77 = .ok (.iastore, 1) := by decide +kernel
theorem dX5_handOver_78 : decode cX5_handOver 78 = .ok (.aload_n 0, 1) := by decide +kernel
theorem dX5_handOver_79 : decode cX5_handOver 79 = .ok (.getfield 21, 3) := by decide +kernel
theorem dX5_handOver_82 : decode cX5_handOver 82 = .ok (.getfield 180, 3) := by decide +kernel
theorem dX5_handOver_85 : decode cX5_handOver 85 = .ok (.iload_n 2, 1) := by decide +kernel
theorem dX5_handOver_86 : decode cX5_handOver 86 = .ok (.iaload, 1) := by decide +kernel
theorem dX5_handOver_87 : decode cX5_handOver 87 = .ok (.ireturn, 1) := by decide +kernel
set_option maxRecDepth 20000 in
theorem ggX5_letGoBy_X5_dockReadyBicycles : GoodIn wsX5_letGoBy wsX5_dockReadyBicycles := goodIn_r _ [6, 7, 8, 1, 9, 10, 11, 12, 13, 14, 15, 16, 17, 18, 19, 20, 21, 22, 23, 24, 25, 26, 27, 28, 29, 5, 30, 31, 32, 33, 34, 35, 36, 37, 38, 39, 40, 41, 42, 43, 44, 45, 46, 47, 48, 49, 50, 51, 52, 53, 54, 55, 56, 57, 58, 59, 60] (by decide +kernel) (by decide +kernel)
set_option maxRecDepth 20000 in
theorem gX5_letGoBy_X5_dockReadyBicycles : GoodIn wsX5_letGoBy (wsV RX5 183 RX5 yX5_dockReadyBicycles wsX5_dockReadyBicycles) := goodIn_app (goodIn_of _ (by decide +kernel)) ggX5_letGoBy_X5_dockReadyBicycles
theorem dX5_letGoBy_0 : decode cX5_letGoBy 0 = .ok (.iload_n 1, 1) := by decide +kernel
theorem dX5_letGoBy_1 : decode cX5_letGoBy 1 = .ok (.iconst 1, 1) := by decide +kernel
theorem dX5_letGoBy_2 : decode cX5_letGoBy 2 = .ok (.if_icmp .lt 10, 3) := by decide +kernel
theorem dX5_letGoBy_5 : decode cX5_letGoBy 5 = .ok (.iload_n 1, 1) := by decide +kernel
theorem dX5_letGoBy_6 : decode cX5_letGoBy 6 = .ok (.sipush 200, 3) := by decide +kernel
theorem dX5_letGoBy_9 : decode cX5_letGoBy 9 = .ok (.if_icmp .le 5, 3) := by decide +kernel
theorem dX5_letGoBy_12 : decode cX5_letGoBy 12 = .ok (.iconst (-1), 1) := by decide +kernel
theorem dX5_letGoBy_13 : decode cX5_letGoBy 13 = .ok (.ireturn, 1) := by decide +kernel
theorem dX5_letGoBy_14 : decode cX5_letGoBy 14 = .ok (.aload_n 0, 1) := by decide +kernel
theorem dX5_letGoBy_15 : decode cX5_letGoBy 15 = .ok (.getfield 62, 3) := by decide +kernel
theorem dX5_letGoBy_18 : decode cX5_letGoBy 18 = .ok (.iload_n 1, 1) := by decide +kernel
theorem dX5_letGoBy_19 : decode cX5_letGoBy 19 = .ok (.iadd, 1) := by decide +kernel
theorem dX5_letGoBy_20 : decode cX5_letGoBy 20 = .ok (.sipush 9000, 3) := by decide +kernel
theorem dX5_letGoBy_23 : decode cX5_letGoBy 23 = .ok (.if_icmp .le 6, 3) := by decide +kernel
theorem dX5_letGoBy_26 : decode cX5_letGoBy 26 = .ok (.bipush (-3), 2) := by decide +kernel
theorem dX5_letGoBy_28 : decode cX5_letGoBy 28 = .ok (.ireturn, 1) := by decide +kernel
theorem dX5_letGoBy_29 : decode cX5_letGoBy 29 = .ok (.iconst 0, 1) := by decide +kernel
theorem dX5_letGoBy_30 : decode cX5_letGoBy 30 = .ok (.istore_n 2, 1) := by decide +kernel
theorem dX5_letGoBy_31 : decode cX5_letGoBy 31 = .ok (.iconst 0, 1) := by decide +kernel
theorem dX5_letGoBy_32 : decode cX5_letGoBy 32 = .ok (.istore_n 3, 1) := by decide +kernel
theorem dX5_letGoBy_33 : decode cX5_letGoBy 33 = .ok (.iload_n 3, 1) := by decide +kernel
theorem dX5_letGoBy_34 : decode cX5_letGoBy 34 = .ok (.iload_n 1, 1) := by decide +kernel
theorem dX5_letGoBy_35 : decode cX5_letGoBy 35 = .ok (.if_icmp .ge 26, 3) := by decide +kernel
theorem dX5_letGoBy_38 : decode cX5_letGoBy 38 = .ok (.aload_n 0, 1) := by decide +kernel
theorem dX5_letGoBy_39 : decode cX5_letGoBy 39 = .ok (.dup, 1) := by decide +kernel
theorem dX5_letGoBy_40 : decode cX5_letGoBy 40 = .ok (.getfield 62, 3) := by decide +kernel
theorem dX5_letGoBy_43 : decode cX5_letGoBy 43 = .ok (.iconst 1, 1) := by decide +kernel
theorem dX5_letGoBy_44 : decode cX5_letGoBy 44 = .ok (.iadd, 1) := by decide +kernel
theorem dX5_letGoBy_45 : decode cX5_letGoBy 45 = .ok (.putfield 62, 3) := by decide +kernel
theorem dX5_letGoBy_48 : decode cX5_letGoBy 48 = .ok (.iload_n 2, 1) := by decide +kernel
theorem dX5_letGoBy_49 : decode cX5_letGoBy 49 = .ok (.aload_n 0, 1) := by decide +kernel
theorem dX5_letGoBy_50 : decode cX5_letGoBy 50 = .ok (.invokevirtual 183, 3) := by decide +kernel
theorem dX5_letGoBy_53 : decode cX5_letGoBy 53 = .ok (.iadd, 1) := by decide +kernel
theorem dX5_letGoBy_54 : decode cX5_letGoBy 54 = .ok (.istore_n 2, 1) := by decide +kernel
theorem dX5_letGoBy_55 : decode cX5_letGoBy 55 = .ok (.iinc 3 1, 3) := by decide +kernel
theorem dX5_letGoBy_58 : decode cX5_letGoBy 58 = .ok (.goto (-25), 3) := by decide +kernel
theorem dX5_letGoBy_61 : decode cX5_letGoBy 61 = .ok (.iload_n 2, 1) := by decide +kernel
theorem dX5_letGoBy_62 : decode cX5_letGoBy 62 = .ok (.ireturn, 1) := by decide +kernel
set_option maxRecDepth 20000 in
theorem ggX5_changeSetting_X5_isSetting : GoodIn wsX5_changeSetting wsX5_isSetting := goodIn_r _ [6] (by decide +kernel) (by decide +kernel)
set_option maxRecDepth 20000 in
theorem gX5_changeSetting_X5_isSetting : GoodIn wsX5_changeSetting (wsV RX5 186 RX5 yX5_isSetting wsX5_isSetting) := goodIn_app (goodIn_of _ (by decide +kernel)) ggX5_changeSetting_X5_isSetting
theorem dX5_changeSetting_0 : decode cX5_changeSetting 0 = .ok (.aload_n 0, 1) := by decide +kernel
theorem dX5_changeSetting_1 : decode cX5_changeSetting 1 = .ok (.iload_n 1, 1) := by decide +kernel
theorem dX5_changeSetting_2 : decode cX5_changeSetting 2 = .ok (.invokevirtual 186, 3) := by decide +kernel
theorem dX5_changeSetting_5 : decode cX5_changeSetting 5 = .ok (.ifCond .ne 5, 3) := by decide +kernel
theorem dX5_changeSetting_8 : decode cX5_changeSetting 8 = .ok (.iconst (-1), 1) := by decide +kernel
theorem dX5_changeSetting_9 : decode cX5_changeSetting 9 = .ok (.ireturn, 1) := by decide +kernel
theorem dX5_changeSetting_10 : decode cX5_changeSetting 10 = .ok (.iload_n 1, 1) := by decide +kernel
theorem dX5_changeSetting_11 : decode cX5_changeSetting 11 = .ok (.iconst 1, 1) := by decide +kernel
theorem dX5_changeSetting_12 : decode cX5_changeSetting 12 = .ok (.if_icmp .ne 7, 3) := by decide +kernel
theorem dX5_changeSetting_15 : decode cX5_changeSetting 15 = .ok (.iconst 1, 1) := by decide +kernel
theorem dX5_changeSetting_16 : decode cX5_changeSetting 16 = .ok (.goto 4, 3) := by decide +kernel
theorem dX5_changeSetting_19 : decode cX5_changeSetting 19 = .ok (.iconst 0, 1) := by decide +kernel
theorem dX5_changeSetting_20 : decode cX5_changeSetting 20 = .ok (.istore_n 3, 1) := by decide +kernel
theorem dX5_changeSetting_21 : decode cX5_changeSetting 21 = .ok (.iload_n 1, 1) := by decide +kernel
theorem dX5_changeSetting_22 : decode cX5_changeSetting 22 = .ok (.ifCond .ne 8, 3) := by decide +kernel
theorem dX5_changeSetting_25 : decode cX5_changeSetting 25 = .ok (.bipush 99, 2) := by decide +kernel
theorem dX5_changeSetting_27 : decode cX5_changeSetting 27 = .ok (.goto 6, 3) := by decide +kernel
theorem dX5_changeSetting_30 : decode cX5_changeSetting 30 = .ok (.sipush 999, 3) := by decide +kernel
theorem dX5_changeSetting_33 : decode cX5_changeSetting 33 = .ok (.istore 4, 2) := by decide +kernel
theorem dX5_changeSetting_35 : decode cX5_changeSetting 35 = .ok (.iload_n 2, 1) := by decide +kernel
theorem dX5_changeSetting_36 : decode cX5_changeSetting 36 = .ok (.iload_n 3, 1) := by decide +kernel
theorem dX5_changeSetting_37 : decode cX5_changeSetting 37 = .ok (.if_icmp .lt 9, 3) := by decide +kernel
theorem dX5_changeSetting_40 : decode cX5_changeSetting 40 = .ok (.iload_n 2, 1) := by decide +kernel
theorem dX5_changeSetting_41 : decode cX5_changeSetting 41 = .ok (.iload 4, 2) := by decide +kernel
theorem dX5_changeSetting_43 : decode cX5_changeSetting 43 = .ok (.if_icmp .le 5, 3) := by decide +kernel
theorem dX5_changeSetting_46 : decode cX5_changeSetting 46 = .ok (.iconst (-1), 1) := by decide +kernel
theorem dX5_changeSetting_47 : decode cX5_changeSetting 47 = .ok (.ireturn, 1) := by decide +kernel
theorem dX5_changeSetting_48 : decode cX5_changeSetting 48 = .ok (.aload_n 0, 1) := by decide +kernel
theorem dX5_changeSetting_49 : decode cX5_changeSetting 49 = .ok (.getfield 39, 3) := by decide +kernel
theorem dX5_changeSetting_52 : decode cX5_changeSetting 52 = .ok (.iload_n 1, 1) := by decide +kernel
theorem dX5_changeSetting_53 : decode cX5_changeSetting 53 = .ok (.iaload, 1) := by decide +kernel
theorem dX5_changeSetting_54 : decode cX5_changeSetting 54 = .ok (.istore 5, 2) := by decide +kernel
theorem dX5_changeSetting_56 : decode cX5_changeSetting 56 = .ok (.aload_n 0, 1) := by decide +kernel
theorem dX5_changeSetting_57 : decode cX5_changeSetting 57 = .ok (.getfield 39, 3) := by decide +kernel
theorem dX5_changeSetting_60 : decode cX5_changeSetting 60 = .ok (.iload_n 1, 1) := by decide +kernel
theorem dX5_changeSetting_61 : decode cX5_changeSetting 61 = .ok (.iload_n 2, 1) := by decide +kernel
theorem dX5_changeSetting_62 : decode cX5_changeSetting 62 = .ok (.iastore, 1) := by decide +kernel
theorem dX5_changeSetting_63 : decode cX5_changeSetting 63 = .ok (.iload 5, 2) := by decide +kernel
theorem dX5_changeSetting_65 : decode cX5_changeSetting 65 = .ok (.ireturn, 1) := by decide +kernel
theorem dX5_isSetting_0 : decode cX5_isSetting 0 = .ok (.iload_n 1, 1) := by decide +kernel
theorem dX5_isSetting_1 : decode cX5_isSetting 1 = .ok (.ifCond .lt 12, 3) := by decide +kernel
theorem dX5_isSetting_4 : decode cX5_isSetting 4 = .ok (.iload_n 1, 1) := by decide +kernel
theorem dX5_isSetting_5 : decode cX5_isSetting 5 = .ok (.iconst 3, 1) := by decide +kernel
theorem dX5_isSetting_6 : decode cX5_isSetting 6 = .ok (.if_icmp .ge 7, 3) := by decide +kernel
theorem dX5_isSetting_9 : decode cX5_isSetting 9 = .ok (.iconst 1, 1) := by decide +kernel
theorem dX5_isSetting_10 : decode cX5_isSetting 10 = .ok (.goto 4, 3) := by decide +kernel
theorem dX5_isSetting_13 : decode cX5_isSetting 13 = .ok (.iconst 0, 1) := by decide +kernel
theorem dX5_isSetting_14 : decode cX5_isSetting 14 = .ok (.ireturn, 1) := by decide +kernel
set_option maxRecDepth 20000 in
theorem ggX5_docked_X1_countAt : GoodIn wsX5_docked wsX1_countAt := goodIn_r _ [6, 7, 8, 9, 16, 17, 18, 19, 20, 21, 22] (by decide +kernel) (by decide +kernel)
set_option maxRecDepth 20000 in
theorem gX5_docked_X1_countAt : GoodIn wsX5_docked (wsV RX5 154 RX1 yX1_countAt wsX1_countAt) := goodIn_app (goodIn_of _ (by decide +kernel)) ggX5_docked_X1_countAt
theorem dX5_docked_0 : decode cX5_docked 0 = .ok (.aload_n 0, 1) := by decide +kernel
theorem dX5_docked_1 : decode cX5_docked 1 = .ok (.getfield 21, 3) := by decide +kernel
theorem dX5_docked_4 : decode cX5_docked 4 = .ok (.iconst 0, 1) := by decide +kernel
theorem dX5_docked_5 : decode cX5_docked 5 = .ok (.iload_n 1, 1) := by decide +kernel
theorem dX5_docked_6 : decode cX5_docked 6 = .ok (.invokevirtual 154, 3) := by decide +kernel
theorem dX5_docked_9 : decode cX5_docked 9 = .ok (.ireturn, 1) := by decide +kernel
set_option maxRecDepth 20000 in
theorem ggX5_hasFreeDock_X6_has : GoodIn wsX5_hasFreeDock wsX6_has := goodIn_r _ [7, 8, 29, 30, 31, 32, 33] (by decide +kernel) (by decide +kernel)
set_option maxRecDepth 20000 in
theorem gX5_hasFreeDock_X6_has : GoodIn wsX5_hasFreeDock (wsV RX5 70 RX6 yX6_has wsX6_has) := goodIn_app (goodIn_of _ (by decide +kernel)) ggX5_hasFreeDock_X6_has
set_option maxRecDepth 20000 in
theorem ggX5_hasFreeDock_X5_docked : GoodIn wsX5_hasFreeDock wsX5_docked := goodIn_r _ [13, 14, 15, 16, 17, 18, 19, 20, 21, 22, 23, 24, 25, 26, 27, 28, 34, 35, 36, 37, 38, 39, 40] (by decide +kernel) (by decide +kernel)
set_option maxRecDepth 20000 in
theorem gX5_hasFreeDock_X5_docked : GoodIn wsX5_hasFreeDock (wsV RX5 189 RX5 yX5_docked wsX5_docked) := goodIn_app (goodIn_of _ (by decide +kernel)) ggX5_hasFreeDock_X5_docked
theorem dX5_hasFreeDock_0 : decode cX5_hasFreeDock 0 = .ok (.aload_n 0, 1) := by decide +kernel
theorem dX5_hasFreeDock_1 : decode cX5_hasFreeDock 1 = .ok (.getfield 12, 3) := by decide +kernel
theorem dX5_hasFreeDock_4 : decode cX5_hasFreeDock 4 = .ok (.iload_n 1, 1) := by decide +kernel
theorem dX5_hasFreeDock_5 : decode cX5_hasFreeDock 5 = .ok (.invokevirtual 70, 3) := by decide +kernel
theorem dX5_hasFreeDock_8 : decode cX5_hasFreeDock 8 = .ok (.ifCond .eq 24, 3) := by decide +kernel
theorem dX5_hasFreeDock_11 : decode cX5_hasFreeDock 11 = .ok (.aload_n 0, 1) := by decide +kernel
theorem dX5_hasFreeDock_12 : decode cX5_hasFreeDock 12 = .ok (.iload_n 1, 1) := by decide +kernel
theorem dX5_hasFreeDock_13 : decode cX5_hasFreeDock 13 = .ok (.invokevirtual 189, 3) := by decide +kernel
theorem dX5_hasFreeDock_16 : decode cX5_hasFreeDock 16 = .ok (.aload_n 0, 1) := by decide +kernel
theorem dX5_hasFreeDock_17 : decode cX5_hasFreeDock 17 = .ok (.getfield 12, 3) := by decide +kernel
theorem dX5_hasFreeDock_20 : decode cX5_hasFreeDock 20 = .ok (.getfield 192, 3) := by decide +kernel
theorem dX5_hasFreeDock_23 : decode cX5_hasFreeDock 23 = .ok (.iload_n 1, 1) := by decide +kernel
theorem dX5_hasFreeDock_24 : decode cX5_hasFreeDock 24 = .ok (.iaload, 1) := by decide +kernel
theorem dX5_hasFreeDock_25 : decode cX5_hasFreeDock 25 = .ok (.if_icmp .ge 7, 3) := by decide +kernel
theorem dX5_hasFreeDock_28 : decode cX5_hasFreeDock 28 = .ok (.iconst 1, 1) := by decide +kernel
theorem dX5_hasFreeDock_29 : decode cX5_hasFreeDock 29 = .ok (.goto 4, 3) := by decide +kernel
theorem dX5_hasFreeDock_32 : decode cX5_hasFreeDock 32 = .ok (.iconst 0, 1) := by decide +kernel
theorem dX5_hasFreeDock_33 : decode cX5_hasFreeDock 33 = .ok (.ireturn, 1) := by decide +kernel
set_option maxRecDepth 20000 in
theorem ggX5_unevenness_X6_has : GoodIn wsX5_unevenness wsX6_has := goodIn_r _ [11, 12, 33, 34, 35, 36, 37] (by decide +kernel) (by decide +kernel)
set_option maxRecDepth 20000 in
theorem gX5_unevenness_X6_has : GoodIn wsX5_unevenness (wsV RX5 70 RX6 yX6_has wsX6_has) := goodIn_app (goodIn_of _ (by decide +kernel)) ggX5_unevenness_X6_has
set_option maxRecDepth 20000 in
theorem ggX5_unevenness_X5_docked : GoodIn wsX5_unevenness wsX5_docked := goodIn_r _ [17, 18, 19, 20, 21, 22, 23, 24, 25, 26, 27, 28, 29, 30, 31, 32, 38, 39, 40, 41, 42, 43, 44] (by decide +kernel) (by decide +kernel)
set_option maxRecDepth 20000 in
theorem gX5_unevenness_X5_docked : GoodIn wsX5_unevenness (wsV RX5 189 RX5 yX5_docked wsX5_docked) := goodIn_app (goodIn_of _ (by decide +kernel)) ggX5_unevenness_X5_docked
theorem dX5_unevenness_0 : decode cX5_unevenness 0 = .ok (.aload_n 0, 1) := by decide +kernel
theorem dX5_unevenness_1 : decode cX5_unevenness 1 = .ok (.getfield 12, 3) := by decide +kernel
theorem dX5_unevenness_4 : decode cX5_unevenness 4 = .ok (.iload_n 1, 1) := by decide +kernel
theorem dX5_unevenness_5 : decode cX5_unevenness 5 = .ok (.invokevirtual 70, 3) := by decide +kernel
theorem dX5_unevenness_8 : decode cX5_unevenness 8 = .ok (.ifCond .eq 26, 3) := by decide +kernel
theorem dX5_unevenness_11 : decode cX5_unevenness 11 = .ok (.iconst 2, 1) := by decide +kernel
theorem dX5_unevenness_12 : decode cX5_unevenness 12 = .ok (.aload_n 0, 1) := by decide +kernel
theorem dX5_unevenness_13 : decode cX5_unevenness 13 = .ok (.iload_n 1, 1) := by decide +kernel
theorem dX5_unevenness_14 : decode cX5_unevenness 14 = .ok (.invokevirtual 189, 3) := by decide +kernel
theorem dX5_unevenness_17 : decode cX5_unevenness 17 = .ok (.imul, 1) := by decide +kernel
theorem dX5_unevenness_18 : decode cX5_unevenness 18 = .ok (.aload_n 0, 1) := by decide +kernel
theorem dX5_unevenness_19 : decode cX5_unevenness 19 = .ok (.getfield 12, 3) := by decide +kernel
theorem dX5_unevenness_22 : decode cX5_unevenness 22 = .ok (.getfield 192, 3) := by decide +kernel
theorem dX5_unevenness_25 : decode cX5_unevenness 25 = .ok (.iload_n 1, 1) := by decide +kernel
theorem dX5_unevenness_26 : decode cX5_unevenness 26 = .ok (.iaload, 1) := by decide +kernel
theorem dX5_unevenness_27 : decode cX5_unevenness 27 = .ok (.isub, 1) := by decide +kernel
theorem dX5_unevenness_28 : decode cX5_unevenness 28 = .ok (.invokestatic 195, 3) := by decide +kernel
theorem dX5_unevenness_31 : decode cX5_unevenness 31 = .ok (.goto 4, 3) := by decide +kernel
theorem dX5_unevenness_34 : decode cX5_unevenness 34 = .ok (.iconst 0, 1) := by decide +kernel
theorem dX5_unevenness_35 : decode cX5_unevenness 35 = .ok (.ireturn, 1) := by decide +kernel
set_option maxRecDepth 20000 in
theorem ggX5_allUnevenness_X5_unevenness : GoodIn wsX5_allUnevenness wsX5_unevenness := goodIn_r _ [7, 1, 8, 9, 10, 11, 12, 13, 14, 15, 16, 17, 18, 19, 20, 21, 6, 22, 23, 24, 25, 26, 27, 28, 29, 30, 31, 32, 33, 34, 35, 36, 37, 38, 39, 40, 41, 42, 43, 44, 45, 46, 47, 48, 49] (by decide +kernel) (by decide +kernel)
set_option maxRecDepth 20000 in
theorem gX5_allUnevenness_X5_unevenness : GoodIn wsX5_allUnevenness (wsV RX5 201 RX5 yX5_unevenness wsX5_unevenness) := goodIn_app (goodIn_of _ (by decide +kernel)) ggX5_allUnevenness_X5_unevenness
theorem dX5_allUnevenness_0 : decode cX5_allUnevenness 0 = .ok (.iconst 0, 1) := by decide +kernel
theorem dX5_allUnevenness_1 : decode cX5_allUnevenness 1 = .ok (.istore_n 1, 1) := by decide +kernel
theorem dX5_allUnevenness_2 : decode cX5_allUnevenness 2 = .ok (.iconst 0, 1) := by decide +kernel
theorem dX5_allUnevenness_3 : decode cX5_allUnevenness 3 = .ok (.istore_n 2, 1) := by decide +kernel
theorem dX5_allUnevenness_4 : decode cX5_allUnevenness 4 = .ok (.iload_n 2, 1) := by decide +kernel
theorem dX5_allUnevenness_5 : decode cX5_allUnevenness 5 = .ok (.aload_n 0, 1) := by decide +kernel
theorem dX5_allUnevenness_6 : decode cX5_allUnevenness 6 = .ok (.getfield 12, 3) := by decide +kernel
theorem dX5_allUnevenness_9 : decode cX5_allUnevenness 9 = .ok (.getfield 198, 3) := by decide +kernel
theorem dX5_allUnevenness_12 : decode cX5_allUnevenness 12 = .ok (.if_icmp .ge 17, 3) := by decide +kernel
theorem dX5_allUnevenness_15 : decode cX5_allUnevenness 15 = .ok (.iload_n 1, 1) := by decide +kernel
theorem dX5_allUnevenness_16 : decode cX5_allUnevenness 16 = .ok (.aload_n 0, 1) := by decide +kernel
theorem dX5_allUnevenness_17 : decode cX5_allUnevenness 17 = .ok (.iload_n 2, 1) := by decide +kernel
theorem dX5_allUnevenness_18 : decode cX5_allUnevenness 18 = .ok (.invokevirtual 201, 3) := by decide +kernel
theorem dX5_allUnevenness_21 : decode cX5_allUnevenness 21 = .ok (.iadd, 1) := by decide +kernel
theorem dX5_allUnevenness_22 : decode cX5_allUnevenness 22 = .ok (.istore_n 1, 1) := by decide +kernel
theorem dX5_allUnevenness_23 : decode cX5_allUnevenness 23 = .ok (.iinc 2 1, 3) := by decide +kernel
theorem dX5_allUnevenness_26 : decode cX5_allUnevenness 26 = .ok (.goto (-22), 3) := by decide +kernel
theorem dX5_allUnevenness_29 : decode cX5_allUnevenness 29 = .ok (.iload_n 1, 1) := by decide +kernel
theorem dX5_allUnevenness_30 : decode cX5_allUnevenness 30 = .ok (.ireturn, 1) := by decide +kernel
set_option maxRecDepth 20000 in
theorem ggX5_isUnderWay_X8_has : GoodIn wsX5_isUnderWay wsX8_has := goodIn_r _ [8, 9, 16, 17, 18, 19] (by decide +kernel) (by decide +kernel)
set_option maxRecDepth 20000 in
theorem gX5_isUnderWay_X8_has : GoodIn wsX5_isUnderWay (wsV RX5 153 RX8 yX8_has wsX8_has) := goodIn_app (goodIn_of _ (by decide +kernel)) ggX5_isUnderWay_X8_has
theorem dX5_isUnderWay_0 : decode cX5_isUnderWay 0 = .ok (.aload_n 0, 1) := by decide +kernel
theorem dX5_isUnderWay_1 : decode cX5_isUnderWay 1 = .ok (.getfield 35, 3) := by decide +kernel
theorem dX5_isUnderWay_4 : decode cX5_isUnderWay 4 = .ok (.iload_n 1, 1) := by decide +kernel
theorem dX5_isUnderWay_5 : decode cX5_isUnderWay 5 = .ok (.invokevirtual 153, 3) := by decide +kernel
theorem dX5_isUnderWay_8 : decode cX5_isUnderWay 8 = .ok (.ifCond .eq 23, 3) := by decide +kernel
theorem dX5_isUnderWay_11 : decode cX5_isUnderWay 11 = .ok (.aload_n 0, 1) := by decide +kernel
theorem dX5_isUnderWay_12 : decode cX5_isUnderWay 12 = .ok (.getfield 35, 3) := by decide +kernel
theorem dX5_isUnderWay_15 : decode cX5_isUnderWay 15 = .ok (.getfield 177, 3) := by decide +kernel
theorem dX5_isUnderWay_18 : decode cX5_isUnderWay 18 = .ok (.iload_n 1, 1) := by decide +kernel
theorem dX5_isUnderWay_19 : decode cX5_isUnderWay 19 = .ok (.iaload, 1) := by decide +kernel
theorem dX5_isUnderWay_20 : decode cX5_isUnderWay 20 = .ok (.aload_n 0, 1) := by decide +kernel
theorem dX5_isUnderWay_21 : decode cX5_isUnderWay 21 = .ok (.getfield 62, 3) := by decide +kernel
theorem dX5_isUnderWay_24 : decode cX5_isUnderWay 24 = .ok (.if_icmp .le 7, 3) := by decide +kernel
theorem dX5_isUnderWay_27 : decode cX5_isUnderWay 27 = .ok (.iconst 1, 1) := by decide +kernel
theorem dX5_isUnderWay_28 : decode cX5_isUnderWay 28 = .ok (.goto 4, 3) := by decide +kernel
theorem dX5_isUnderWay_31 : decode cX5_isUnderWay 31 = .ok (.iconst 0, 1) := by decide +kernel
theorem dX5_isUnderWay_32 : decode cX5_isUnderWay 32 = .ok (.ireturn, 1) := by decide +kernel
set_option maxRecDepth 20000 in
theorem ggX5_canHandOut_X5_isUnderWay : GoodIn wsX5_canHandOut wsX5_isUnderWay := goodIn_r _ [6, 7, 8, 9, 10, 11, 12, 13, 14, 15, 28, 29, 30, 31, 32, 33, 34, 35, 36, 37] (by decide +kernel) (by decide +kernel)
set_option maxRecDepth 20000 in
theorem gX5_canHandOut_X5_isUnderWay : GoodIn wsX5_canHandOut (wsV RX5 164 RX5 yX5_isUnderWay wsX5_isUnderWay) := goodIn_app (goodIn_of _ (by decide +kernel)) ggX5_canHandOut_X5_isUnderWay
set_option maxRecDepth 20000 in
theorem ggX5_canHandOut_X1_isAt : GoodIn wsX5_canHandOut wsX1_isAt := goodIn_r _ [20, 21, 22, 23, 24, 25, 19, 26, 27, 38, 39, 40, 41, 42, 43, 44] (by decide +kernel) (by decide +kernel)
set_option maxRecDepth 20000 in
theorem gX5_canHandOut_X1_isAt : GoodIn wsX5_canHandOut (wsV RX5 160 RX1 yX1_isAt wsX1_isAt) := goodIn_app (goodIn_of _ (by decide +kernel)) ggX5_canHandOut_X1_isAt
theorem dX5_canHandOut_0 : decode cX5_canHandOut 0 = .ok (.aload_n 0, 1) := by decide +kernel
theorem dX5_canHandOut_1 : decode cX5_canHandOut 1 = .ok (.iload_n 1, 1) := by decide +kernel
theorem dX5_canHandOut_2 : decode cX5_canHandOut 2 = .ok (.invokevirtual 164, 3) := by decide +kernel
theorem dX5_canHandOut_5 : decode cX5_canHandOut 5 = .ok (.ifCond .ne 20, 3) := by decide +kernel
theorem dX5_canHandOut_8 : decode cX5_canHandOut 8 = .ok (.aload_n 0, 1) := by decide +kernel
theorem dX5_canHandOut_9 : decode cX5_canHandOut 9 = .ok (.getfield 21, 3) := by decide +kernel
theorem dX5_canHandOut_12 : decode cX5_canHandOut 12 = .ok (.iload_n 2, 1) := by decide +kernel
theorem dX5_canHandOut_13 : decode cX5_canHandOut 13 = .ok (.iconst 2, 1) := by decide +kernel
theorem dX5_canHandOut_14 : decode cX5_canHandOut 14 = .ok (.iload_n 1, 1) := by decide +kernel
theorem dX5_canHandOut_15 : decode cX5_canHandOut 15 = .ok (.invokevirtual 160, 3) := by decide +kernel
theorem dX5_canHandOut_18 : decode cX5_canHandOut 18 = .ok (.ifCond .eq 7, 3) := by decide +kernel
theorem dX5_canHandOut_21 : decode cX5_canHandOut 21 = .ok (.iconst 1, 1) := by decide +kernel
theorem dX5_canHandOut_22 : decode cX5_canHandOut 22 = .ok (.goto 4, 3) := by decide +kernel
theorem dX5_canHandOut_25 : decode cX5_canHandOut 25 = .ok (.iconst 0, 1) := by decide +kernel
theorem dX5_canHandOut_26 : decode cX5_canHandOut 26 = .ok (.ireturn, 1) := by decide +kernel
set_option maxRecDepth 20000 in
theorem ggX5_dockReadyBicycles_X1_isReady : GoodIn wsX5_dockReadyBicycles wsX1_isReady := goodIn_r _ [8, 9, 10, 11, 12, 13, 7, 14, 15, 45, 46, 47, 48, 49, 50, 51] (by decide +kernel) (by decide +kernel)
set_option maxRecDepth 20000 in
theorem gX5_dockReadyBicycles_X1_isReady : GoodIn wsX5_dockReadyBicycles (wsV RX5 205 RX1 yX1_isReady wsX1_isReady) := goodIn_app (goodIn_of _ (by decide +kernel)) ggX5_dockReadyBicycles_X1_isReady
set_option maxRecDepth 20000 in
theorem ggX5_dockReadyBicycles_X1_renew : GoodIn wsX5_dockReadyBicycles wsX1_renew := goodIn_r _ [19, 20, 21, 11, 12, 13, 7, 14, 15, 45, 46, 47, 48, 49, 50, 51] (by decide +kernel) (by decide +kernel)
set_option maxRecDepth 20000 in
theorem gX5_dockReadyBicycles_X1_renew : GoodIn wsX5_dockReadyBicycles (wsV RX5 208 RX1 yX1_renew wsX1_renew) := goodIn_app (goodIn_of _ (by decide +kernel)) ggX5_dockReadyBicycles_X1_renew
set_option maxRecDepth 20000 in
theorem ggX5_dockReadyBicycles_X5_firstWithFreeDock : GoodIn wsX5_dockReadyBicycles wsX5_firstWithFreeDock := goodIn_r _ [26, 27, 28, 1, 29, 30, 31, 32, 7, 33, 15, 9, 34, 39, 40, 41, 42, 43, 44, 52, 53, 54, 55, 56, 45, 46, 47, 48, 49, 50, 51] (by decide +kernel) (by decide +kernel)
set_option maxRecDepth 20000 in
theorem gX5_dockReadyBicycles_X5_firstWithFreeDock : GoodIn wsX5_dockReadyBicycles (wsV RX5 212 RX5 yX5_firstWithFreeDock wsX5_firstWithFreeDock) := goodIn_app (goodIn_of _ (by decide +kernel)) ggX5_dockReadyBicycles_X5_firstWithFreeDock
set_option maxRecDepth 20000 in
theorem ggX5_dockReadyBicycles_X1_bring : GoodIn wsX5_dockReadyBicycles wsX1_bring := goodIn_r _ [38, 9, 34, 11, 12, 13, 7, 14, 15, 45, 46, 47, 48, 49, 50, 51] (by decide +kernel) (by decide +kernel)
set_option maxRecDepth 20000 in
theorem gX5_dockReadyBicycles_X1_bring : GoodIn wsX5_dockReadyBicycles (wsV RX5 121 RX1 yX1_bring wsX1_bring) := goodIn_app (goodIn_of _ (by decide +kernel)) ggX5_dockReadyBicycles_X1_bring
theorem dX5_dockReadyBicycles_0 : decode cX5_dockReadyBicycles 0 = .ok (.iconst 0, 1) := by decide +kernel
theorem dX5_dockReadyBicycles_1 : decode cX5_dockReadyBicycles 1 = .ok (.istore_n 1, 1) := by decide +kernel
theorem dX5_dockReadyBicycles_2 : decode cX5_dockReadyBicycles 2 = .ok (.iconst 0, 1) := by decide +kernel
theorem dX5_dockReadyBicycles_3 : decode cX5_dockReadyBicycles 3 = .ok (.istore_n 2, 1) := by decide +kernel
theorem dX5_dockReadyBicycles_4 : decode cX5_dockReadyBicycles 4 = .ok (.iload_n 2, 1) := by decide +kernel
theorem dX5_dockReadyBicycles_5 : decode cX5_dockReadyBicycles 5 = .ok (.aload_n 0, 1) := by decide +kernel
theorem dX5_dockReadyBicycles_6 : decode cX5_dockReadyBicycles 6 = .ok (.getfield 21, 3) := by decide +kernel
theorem dX5_dockReadyBicycles_9 : decode cX5_dockReadyBicycles 9 = .ok (.getfield 204, 3) := by decide +kernel
theorem dX5_dockReadyBicycles_12 : decode cX5_dockReadyBicycles 12 = .ok (.if_icmp .ge 54, 3) := by decide +kernel
theorem dX5_dockReadyBicycles_15 : decode cX5_dockReadyBicycles 15 = .ok (.aload_n 0, 1) := by decide +kernel
theorem dX5_dockReadyBicycles_16 : decode cX5_dockReadyBicycles 16 = .ok (.getfield 21, 3) := by decide +kernel
theorem dX5_dockReadyBicycles_19 : decode cX5_dockReadyBicycles 19 = .ok (.iload_n 2, 1) := by decide +kernel
theorem dX5_dockReadyBicycles_20 : decode cX5_dockReadyBicycles 20 = .ok (.aload_n 0, 1) := by decide +kernel
theorem dX5_dockReadyBicycles_21 : decode cX5_dockReadyBicycles 21 = .ok (.getfield 62, 3) := by decide +kernel
theorem dX5_dockReadyBicycles_24 : decode cX5_dockReadyBicycles 24 = .ok (.invokevirtual 205, 3) := by decide +kernel
theorem dX5_dockReadyBicycles_27 : decode cX5_dockReadyBicycles 27 = .ok (.ifCond .eq 33, 3) := by decide +kernel
theorem dX5_dockReadyBicycles_30 : decode cX5_dockReadyBicycles 30 = .ok (.aload_n 0, 1) := by decide +kernel
theorem dX5_dockReadyBicycles_31 : decode cX5_dockReadyBicycles 31 = .ok (.getfield 21, 3) := by decide +kernel
theorem dX5_dockReadyBicycles_34 : decode cX5_dockReadyBicycles 34 = .ok (.iload_n 2, 1) := by decide +kernel
theorem dX5_dockReadyBicycles_35 : decode cX5_dockReadyBicycles 35 = .ok (.invokevirtual 208, 3) := by decide +kernel
theorem dX5_dockReadyBicycles_38 : decode cX5_dockReadyBicycles 38 = .ok (.aload_n 0, 1) := by decide +kernel
theorem dX5_dockReadyBicycles_39 : decode cX5_dockReadyBicycles 39 = .ok (.invokevirtual 212, 3) := by decide +kernel
theorem dX5_dockReadyBicycles_42 : decode cX5_dockReadyBicycles 42 = .ok (.istore_n 3, 1) := by decide +kernel
theorem dX5_dockReadyBicycles_43 : decode cX5_dockReadyBicycles 43 = .ok (.iload_n 3, 1) := by decide +kernel
theorem dX5_dockReadyBicycles_44 : decode cX5_dockReadyBicycles 44 = .ok (.ifCond .lt 16, 3) := by decide +kernel
theorem dX5_dockReadyBicycles_47 : decode cX5_dockReadyBicycles 47 = .ok (.aload_n 0, 1) := by decide +kernel
theorem dX5_dockReadyBicycles_48 : decode cX5_dockReadyBicycles 48 = .ok (.getfield 21, 3) := by decide +kernel
theorem dX5_dockReadyBicycles_51 : decode cX5_dockReadyBicycles 51 = .ok (.iload_n 2, 1) := by decide +kernel
theorem dX5_dockReadyBicycles_52 : decode cX5_dockReadyBicycles 52 = .ok (.iconst 0, 1) := by decide +kernel
theorem dX5_dockReadyBicycles_53 : decode cX5_dockReadyBicycles 53 = .ok (.iload_n 3, 1) := by decide +kernel
theorem dX5_dockReadyBicycles_54 : decode cX5_dockReadyBicycles 54 = .ok (.invokevirtual 121, 3) := by decide +kernel
theorem dX5_dockReadyBicycles_57 : decode cX5_dockReadyBicycles 57 = .ok (.iinc 1 1, 3) := by decide +kernel
theorem dX5_dockReadyBicycles_60 : decode cX5_dockReadyBicycles 60 = .ok (.iinc 2 1, 3) := by decide +kernel
theorem dX5_dockReadyBicycles_63 : decode cX5_dockReadyBicycles 63 = .ok (.goto (-59), 3) := by decide +kernel
theorem dX5_dockReadyBicycles_66 : decode cX5_dockReadyBicycles 66 = .ok (.iload_n 1, 1) := by decide +kernel
theorem dX5_dockReadyBicycles_67 : decode cX5_dockReadyBicycles 67 = .ok (.ireturn, 1) := by decide +kernel
set_option maxRecDepth 20000 in
theorem ggX5_firstWithFreeDock_X1_countAt : GoodIn wsX5_firstWithFreeDock wsX1_countAt := goodIn_r _ [9, 10, 11, 12, 24, 25, 26, 27, 28, 29, 30] (by decide +kernel) (by decide +kernel)
set_option maxRecDepth 20000 in
theorem gX5_firstWithFreeDock_X1_countAt : GoodIn wsX5_firstWithFreeDock (wsV RX5 154 RX1 yX1_countAt wsX1_countAt) := goodIn_app (goodIn_of _ (by decide +kernel)) ggX5_firstWithFreeDock_X1_countAt
theorem dX5_firstWithFreeDock_0 : decode cX5_firstWithFreeDock 0 = .ok (.iconst 0, 1) := by decide +kernel
theorem dX5_firstWithFreeDock_1 : decode cX5_firstWithFreeDock 1 = .ok (.istore_n 1, 1) := by decide +kernel
theorem dX5_firstWithFreeDock_2 : decode cX5_firstWithFreeDock 2 = .ok (.iload_n 1, 1) := by decide +kernel
theorem dX5_firstWithFreeDock_3 : decode cX5_firstWithFreeDock 3 = .ok (.aload_n 0, 1) := by decide +kernel
theorem dX5_firstWithFreeDock_4 : decode cX5_firstWithFreeDock 4 = .ok (.getfield 12, 3) := by decide +kernel
theorem dX5_firstWithFreeDock_7 : decode cX5_firstWithFreeDock 7 = .ok (.getfield 198, 3) := by decide +kernel
theorem dX5_firstWithFreeDock_10 : decode cX5_firstWithFreeDock 10 = .ok (.if_icmp .ge 32, 3) := by decide +kernel
theorem dX5_firstWithFreeDock_13 : decode cX5_firstWithFreeDock 13 = .ok (.aload_n 0, 1) := by decide +kernel
theorem dX5_firstWithFreeDock_14 : decode cX5_firstWithFreeDock 14 = .ok (.getfield 21, 3) := by decide +kernel
theorem dX5_firstWithFreeDock_17 : decode cX5_firstWithFreeDock 17 = .ok (.iconst 0, 1) := by decide +kernel
theorem dX5_firstWithFreeDock_18 : decode cX5_firstWithFreeDock 18 = .ok (.iload_n 1, 1) := by decide +kernel
theorem dX5_firstWithFreeDock_19 : decode cX5_firstWithFreeDock 19 = .ok (.invokevirtual 154, 3) := by decide +kernel
theorem dX5_firstWithFreeDock_22 : decode cX5_firstWithFreeDock 22 = .ok (.aload_n 0, 1) := by decide +kernel
theorem dX5_firstWithFreeDock_23 : decode cX5_firstWithFreeDock 23 = .ok (.getfield 12, 3) := by decide +kernel
theorem dX5_firstWithFreeDock_26 : decode cX5_firstWithFreeDock 26 = .ok (.getfield 192, 3) := by decide +kernel
theorem dX5_firstWithFreeDock_29 : decode cX5_firstWithFreeDock 29 = .ok (.iload_n 1, 1) := by decide +kernel
theorem dX5_firstWithFreeDock_30 : decode cX5_firstWithFreeDock 30 = .ok (.iaload, 1) := by decide +kernel
theorem dX5_firstWithFreeDock_31 : decode cX5_firstWithFreeDock 31 = .ok (.if_icmp .ge 5, 3) := by decide +kernel
theorem dX5_firstWithFreeDock_34 : decode cX5_firstWithFreeDock 34 = .ok (.iload_n 1, 1) := by decide +kernel
theorem dX5_firstWithFreeDock_35 : decode cX5_firstWithFreeDock 35 = .ok (.ireturn, 1) := by decide +kernel
theorem dX5_firstWithFreeDock_36 : decode cX5_firstWithFreeDock 36 = .ok (.iinc 1 1, 3) := by decide +kernel
theorem dX5_firstWithFreeDock_39 : decode cX5_firstWithFreeDock 39 = .ok (.goto (-37), 3) := by decide +kernel
theorem dX5_firstWithFreeDock_42 : decode cX5_firstWithFreeDock 42 = .ok (.iconst (-1), 1) := by decide +kernel
theorem dX5_firstWithFreeDock_43 : decode cX5_firstWithFreeDock 43 = .ok (.ireturn, 1) := by decide +kernel
theorem dX6_init_0 : decode cX6_init 0 = .ok (.aload_n 0, 1) := by decide +kernel
theorem dX6_init_1 : decode cX6_init 1 = .ok (.invokespecial 3, 3) := by decide +kernel
theorem dX6_init_4 : decode cX6_init 4 = .ok (.aload_n 0, 1) := by decide +kernel
theorem dX6_init_5 : decode cX6_init 5 = .ok (.bipush 6, 2) := by decide +kernel
theorem dX6_init_7 : decode cX6_init 7 = .ok (.newarray .int, 2) := by decide +kernel
theorem dX6_init_9 : decode cX6_init 9 = .ok (.putfield 11, 3) := by decide +kernel
theorem dX6_init_12 : decode cX6_init 12 = .ok (.aload_n 0, 1) := by decide +kernel
theorem dX6_init_13 : decode cX6_init 13 = .ok (.bipush 6, 2) := by decide +kernel
theorem dX6_init_15 : decode cX6_init 15 = .ok (.newarray .int, 2) := by decide +kernel
theorem dX6_init_17 : decode cX6_init 17 = .ok (.putfield 15, 3) := by decide +kernel
theorem dX6_init_20 : decode cX6_init 20 = .ok (.aload_n 0, 1) := by decide +kernel
theorem dX6_init_21 : decode cX6_init 21 = .ok (.bipush 6, 2) := by decide +kernel
theorem dX6_init_23 : decode cX6_init 23 = .ok (.newarray .int, 2) := by decide +kernel
theorem dX6_init_25 : decode cX6_init 25 = .ok (.putfield 18, 3) := by decide +kernel
theorem dX6_init_28 : decode cX6_init 28 = .ok (.aload_n 0, 1) := by decide +kernel
theorem dX6_init_29 : decode cX6_init 29 = .ok (.bipush 6, 2) := by decide +kernel
theorem dX6_init_31 : decode cX6_init 31 = .ok (.newarray .int, 2) := by decide +kernel
theorem dX6_init_33 : decode cX6_init 33 = .ok (.putfield 21, 3) := by decide +kernel
theorem dX6_init_36 : decode cX6_init 36 = .ok (.return_, 1) := by decide +kernel
theorem dX6_copy_0 : decode cX6_copy 0 = .ok (.aload_n 0, 1) := by decide +kernel
theorem dX6_copy_1 : decode cX6_copy 1 = .ok (.aload_n 1, 1) := by decide +kernel
theorem dX6_copy_2 : decode cX6_copy 2 = .ok (.getfield 24, 3) := by decide +kernel
theorem dX6_copy_5 : decode cX6_copy 5 = .ok (.putfield 24, 3) := by decide +kernel
theorem dX6_copy_8 : decode cX6_copy 8 = .ok (.aload_n 1, 1) := by decide +kernel
theorem dX6_copy_9 : decode cX6_copy 9 = .ok (.getfield 11, 3) := by decide +kernel
theorem dX6_copy_12 : decode cX6_copy 12 = .ok (.iconst 0, 1) := by decide +kernel
theorem dX6_copy_13 : decode cX6_copy 13 = .ok (.aload_n 0, 1) := by decide +kernel
theorem dX6_copy_14 : decode cX6_copy 14 = .ok (.getfield 11, 3) := by decide +kernel
theorem dX6_copy_17 : decode cX6_copy 17 = .ok (.iconst 0, 1) := by decide +kernel
theorem dX6_copy_18 : decode cX6_copy 18 = .ok (.bipush 6, 2) := by decide +kernel
theorem dX6_copy_20 : decode cX6_copy 20 = .ok (.invokestatic 28, 3) := by decide +kernel
theorem dX6_copy_23 : decode cX6_copy 23 = .ok (.aload_n 1, 1) := by decide +kernel
theorem dX6_copy_24 : decode cX6_copy 24 = .ok (.getfield 15, 3) := by decide +kernel
theorem dX6_copy_27 : decode cX6_copy 27 = .ok (.iconst 0, 1) := by decide +kernel
theorem dX6_copy_28 : decode cX6_copy 28 = .ok (.aload_n 0, 1) := by decide +kernel
theorem dX6_copy_29 : decode cX6_copy 29 = .ok (.getfield 15, 3) := by decide +kernel
theorem dX6_copy_32 : decode cX6_copy 32 = .ok (.iconst 0, 1) := by decide +kernel
theorem dX6_copy_33 : decode cX6_copy 33 = .ok (.bipush 6, 2) := by decide +kernel
theorem dX6_copy_35 : decode cX6_copy 35 = .ok (.invokestatic 28, 3) := by decide +kernel
theorem dX6_copy_38 : decode cX6_copy 38 = .ok (.aload_n 1, 1) := by decide +kernel
theorem dX6_copy_39 : decode cX6_copy 39 = .ok (.getfield 18, 3) := by decide +kernel
theorem dX6_copy_42 : decode cX6_copy 42 = .ok (.iconst 0, 1) := by decide +kernel
theorem dX6_copy_43 : decode cX6_copy 43 = .ok (.aload_n 0, 1) := by decide +kernel
theorem dX6_copy_44 : decode cX6_copy 44 = .ok (.getfield 18, 3) := by decide +kernel
theorem dX6_copy_47 : decode cX6_copy 47 = .ok (.iconst 0, 1) := by decide +kernel
theorem dX6_copy_48 : decode cX6_copy 48 = .ok (.bipush 6, 2) := by decide +kernel
theorem dX6_copy_50 : decode cX6_copy 50 = .ok (.invokestatic 28, 3) := by decide +kernel
theorem dX6_copy_53 : decode cX6_copy 53 = .ok (.aload_n 1, 1) := by decide +kernel
theorem dX6_copy_54 : decode cX6_copy 54 = .ok (.getfield 21, 3) := by decide +kernel
theorem dX6_copy_57 : decode cX6_copy 57 = .ok (.iconst 0, 1) := by decide +kernel
theorem dX6_copy_58 : decode cX6_copy 58 = .ok (.aload_n 0, 1) := by decide +kernel
theorem dX6_copy_59 : decode cX6_copy 59 = .ok (.getfield 21, 3) := by decide +kernel
theorem dX6_copy_62 : decode cX6_copy 62 = .ok (.iconst 0, 1) := by decide +kernel
theorem dX6_copy_63 : decode cX6_copy 63 = .ok (.bipush 6, 2) := by decide +kernel
theorem dX6_copy_65 : decode cX6_copy 65 = .ok (.invokestatic 28, 3) := by decide +kernel
theorem dX6_copy_68 : decode cX6_copy 68 = .ok (.return_, 1) := by decide +kernel
theorem dX6_has_0 : decode cX6_has 0 = .ok (.iload_n 1, 1) := by decide +kernel
theorem dX6_has_1 : decode cX6_has 1 = .ok (.ifCond .lt 15, 3) := by decide +kernel
theorem dX6_has_4 : decode cX6_has 4 = .ok (.iload_n 1, 1) := by decide +kernel
theorem dX6_has_5 : decode cX6_has 5 = .ok (.aload_n 0, 1) := by decide +kernel
theorem dX6_has_6 : decode cX6_has 6 = .ok (.getfield 24, 3) := by decide +kernel
theorem dX6_has_9 : decode cX6_has 9 = .ok (.if_icmp .ge 7, 3) := by decide +kernel
theorem dX6_has_12 : decode cX6_has 12 = .ok (.iconst 1, 1) := by decide +kernel
theorem dX6_has_13 : decode cX6_has 13 = .ok (.goto 4, 3) := by decide +kernel
theorem dX6_has_16 : decode cX6_has 16 = .ok (.iconst 0, 1) := by decide +kernel
theorem dX6_has_17 : decode cX6_has 17 = .ok (.ireturn, 1) := by decide +kernel
theorem dX6_add_0 : decode cX6_add 0 = .ok (.aload_n 0, 1) := by decide +kernel
theorem dX6_add_1 : decode cX6_add 1 = .ok (.getfield 24, 3) := by decide +kernel
theorem dX6_add_4 : decode cX6_add 4 = .ok (.bipush 6, 2) := by decide +kernel
theorem dX6_add_6 : decode cX6_add 6 = .ok (.if_icmp .lt 6, 3) := by decide +kernel
theorem dX6_add_9 : decode cX6_add 9 = .ok (.bipush (-3), 2) := by decide +kernel
theorem dX6_add_11 : decode cX6_add 11 = .ok (.ireturn, 1) := by decide +kernel
theorem dX6_add_12 : decode cX6_add 12 = .ok (.aload_n 0, 1) := by decide +kernel
theorem dX6_add_13 : decode cX6_add 13 = .ok (.getfield 11, 3) := by decide +kernel
theorem dX6_add_16 : decode cX6_add 16 = .ok (.aload_n 0, 1) := by decide +kernel
theorem dX6_add_17 : decode cX6_add 17 = .ok (.getfield 24, 3) := by decide +kernel
theorem dX6_add_20 : decode cX6_add 20 = .ok (.iload_n 1, 1) := by decide +kernel
theorem dX6_add_21 : decode cX6_add 21 = .ok (.iastore, 1) := by decide +kernel
theorem dX6_add_22 : decode cX6_add 22 = .ok (.aload_n 0, 1) := by decide +kernel
theorem dX6_add_23 : decode cX6_add 23 = .ok (.getfield 15, 3) := by decide +kernel
theorem dX6_add_26 : decode cX6_add 26 = .ok (.aload_n 0, 1) := by decide +kernel
theorem dX6_add_27 : decode cX6_add 27 = .ok (.getfield 24, 3) := by decide +kernel
theorem dX6_add_30 : decode cX6_add 30 = .ok (.iload_n 2, 1) := by decide +kernel
theorem dX6_add_31 : decode cX6_add 31 = .ok (.iastore, 1) := by decide +kernel
theorem dX6_add_32 : decode cX6_add 32 = .ok (.aload_n 0, 1) := by decide +kernel
theorem dX6_add_33 : decode cX6_add 33 = .ok (.dup, 1) := by decide +kernel
theorem dX6_add_34 : decode cX6_add 34 = .ok (.getfield 24, 3) := by decide +kernel
theorem dX6_add_37 : decode cX6_add 37 = .ok (.iconst 1, 1) := by decide +kernel
theorem dX6_add_38 : decode cX6_add 38 = .ok (.iadd, 1) := by decide +kernel
theorem dX6_add_39 : decode cX6_add 39 = .ok (.putfield 24, 3) := by decide +kernel
theorem dX6_add_42 : decode cX6_add 42 = .ok (.aload_n 0, 1) := by decide +kernel
theorem dX6_add_43 : decode cX6_add 43 = .ok (.getfield 24, 3) := by decide +kernel
theorem dX6_add_46 : decode cX6_add 46 = .ok (.iconst 1, 1) := by decide +kernel
theorem dX6_add_47 : decode cX6_add 47 = .ok (.isub, 1) := by decide +kernel
theorem dX6_add_48 : decode cX6_add 48 = .ok (.ireturn, 1) := by decide +kernel
set_option maxRecDepth 20000 in
theorem ggX6_way_X6_has : GoodIn wsX6_way wsX6_has := goodIn_r _ [10, 11, 12, 13, 14, 15, 16] (by decide +kernel) (by decide +kernel)
set_option maxRecDepth 20000 in
theorem gX6_way_X6_has : GoodIn wsX6_way (wsV RX6 34 RX6 yX6_has wsX6_has) := goodIn_app (goodIn_of _ (by decide +kernel)) ggX6_way_X6_has
theorem dX6_way_0 : decode cX6_way 0 = .ok (.aload_n 0, 1) := by decide +kernel
theorem dX6_way_1 : decode cX6_way 1 = .ok (.iload_n 1, 1) := by decide +kernel
theorem dX6_way_2 : decode cX6_way 2 = .ok (.invokevirtual 34, 3) := by decide +kernel
theorem dX6_way_5 : decode cX6_way 5 = .ok (.ifCond .eq 30, 3) := by decide +kernel
theorem dX6_way_8 : decode cX6_way 8 = .ok (.aload_n 0, 1) := by decide +kernel
theorem dX6_way_9 : decode cX6_way 9 = .ok (.iload_n 2, 1) := by decide +kernel
theorem dX6_way_10 : decode cX6_way 10 = .ok (.invokevirtual 34, 3) := by decide +kernel
theorem dX6_way_13 : decode cX6_way 13 = .ok (.ifCond .eq 22, 3) := by decide +kernel
theorem dX6_way_16 : decode cX6_way 16 = .ok (.aload_n 0, 1) := by decide +kernel
theorem dX6_way_17 : decode cX6_way 17 = .ok (.getfield 11, 3) := by decide +kernel
theorem dX6_way_20 : decode cX6_way 20 = .ok (.iload_n 1, 1) := by decide +kernel
theorem dX6_way_21 : decode cX6_way 21 = .ok (.iaload, 1) := by decide +kernel
theorem dX6_way_22 : decode cX6_way 22 = .ok (.aload_n 0, 1) := by decide +kernel
theorem dX6_way_23 : decode cX6_way 23 = .ok (.getfield 11, 3) := by decide +kernel
theorem dX6_way_26 : decode cX6_way 26 = .ok (.iload_n 2, 1) := by decide +kernel
theorem dX6_way_27 : decode cX6_way 27 = .ok (.iaload, 1) := by decide +kernel
theorem dX6_way_28 : decode cX6_way 28 = .ok (.isub, 1) := by decide +kernel
theorem dX6_way_29 : decode cX6_way 29 = .ok (.invokestatic 38, 3) := by decide +kernel
theorem dX6_way_32 : decode cX6_way 32 = .ok (.goto 4, 3) := by decide +kernel
theorem dX6_way_35 : decode cX6_way 35 = .ok (.iconst 0, 1) := by decide +kernel
theorem dX6_way_36 : decode cX6_way 36 = .ok (.ireturn, 1) := by decide +kernel
theorem dX6_allDocks_0 : decode cX6_allDocks 0 = .ok (.iconst 0, 1) := by decide +kernel
theorem dX6_allDocks_1 : decode cX6_allDocks 1 = .ok (.istore_n 1, 1) := by decide +kernel
theorem dX6_allDocks_2 : decode cX6_allDocks 2 = .ok (.iconst 0, 1) := by decide +kernel
theorem dX6_allDocks_3 : decode cX6_allDocks 3 = .ok (.istore_n 2, 1) := by decide +kernel
theorem dX6_allDocks_4 : decode cX6_allDocks 4 = .ok (.iload_n 2, 1) := by decide +kernel
theorem dX6_allDocks_5 : decode cX6_allDocks 5 = .ok (.aload_n 0, 1) := by decide +kernel
theorem dX6_allDocks_6 : decode cX6_allDocks 6 = .ok (.getfield 24, 3) := by decide +kernel
theorem dX6_allDocks_9 : decode cX6_allDocks 9 = .ok (.if_icmp .ge 18, 3) := by decide +kernel
theorem dX6_allDocks_12 : decode cX6_allDocks 12 = .ok (.iload_n 1, 1) := by decide +kernel
theorem dX6_allDocks_13 : decode cX6_allDocks 13 = .ok (.aload_n 0, 1) := by decide +kernel
theorem dX6_allDocks_14 : decode cX6_allDocks 14 = .ok (.getfield 15, 3) := by decide +kernel
theorem dX6_allDocks_17 : decode cX6_allDocks 17 = .ok (.iload_n 2, 1) := by decide +kernel
theorem dX6_allDocks_18 : decode cX6_allDocks 18 = .ok (.iaload, 1) := by decide +kernel
theorem dX6_allDocks_19 : decode cX6_allDocks 19 = .ok (.iadd, 1) := by decide +kernel
theorem dX6_allDocks_20 : decode cX6_allDocks 20 = .ok (.istore_n 1, 1) := by decide +kernel
theorem dX6_allDocks_21 : decode cX6_allDocks 21 = .ok (.iinc 2 1, 3) := by decide +kernel
theorem dX6_allDocks_24 : decode cX6_allDocks 24 = .ok (.goto (-20), 3) := by decide +kernel
theorem dX6_allDocks_27 : decode cX6_allDocks 27 = .ok (.iload_n 1, 1) := by decide +kernel
theorem dX6_allDocks_28 : decode cX6_allDocks 28 = .ok (.ireturn, 1) := by decide +kernel
set_option maxRecDepth 20000 in
theorem ggX7_init_X9_values : GoodIn wsX7_init wsX9_values := goodIn_r _ [13, 14, 15, 16, 17, 18, 19, 20] (by decide +kernel) (by decide +kernel)
set_option maxRecDepth 20000 in
theorem gX7_init_X9_values : GoodIn wsX7_init (va_wsS RX7 19 yX9_values wsX9_values) := goodIn_app (goodIn_of _ (by decide +kernel)) ggX7_init_X9_values
theorem dX7_init_0 : decode cX7_init 0 = .ok (.aload_n 0, 1) := by decide +kernel
theorem dX7_init_1 : decode cX7_init 1 = .ok (.invokespecial 3, 3) := by decide +kernel
theorem dX7_init_4 : decode cX7_init 4 = .ok (.aload_n 0, 1) := by decide +kernel
theorem dX7_init_5 : decode cX7_init 5 = .ok (.iconst (-1), 1) := by decide +kernel
theorem dX7_init_6 : decode cX7_init 6 = .ok (.putfield 11, 3) := by decide +kernel
theorem dX7_init_9 : decode cX7_init 9 = .ok (.aload_n 0, 1) := by decide +kernel
theorem dX7_init_10 : decode cX7_init 10 = .ok (.bipush 60, 2) := by decide +kernel
theorem dX7_init_12 : decode cX7_init 12 = .ok (.newarray .char, 2) := by decide +kernel
theorem dX7_init_14 : decode cX7_init 14 = .ok (.putfield 15, 3) := by decide +kernel
theorem dX7_init_17 : decode cX7_init 17 = .ok (.aload_n 0, 1) := by decide +kernel
theorem dX7_init_18 : decode cX7_init 18 = .ok (.invokestatic 19, 3) := by decide +kernel
theorem dX7_init_21 : decode cX7_init 21 = .ok (.putfield 25, 3) := by decide +kernel
theorem dX7_init_24 : decode cX7_init 24 = .ok (.aload_n 0, 1) := by decide +kernel
theorem dX7_init_25 : decode cX7_init 25 = .ok (.iconst 2, 1) := by decide +kernel
theorem dX7_init_26 : decode cX7_init 26 = .ok (.newarray .int, 2) := by decide +kernel
theorem dX7_init_28 : decode cX7_init 28 = .ok (.putfield 29, 3) := by decide +kernel
theorem dX7_init_31 : decode cX7_init 31 = .ok (.return_, 1) := by decide +kernel
theorem dX8_init_0 : decode cX8_init 0 = .ok (.aload_n 0, 1) := by decide +kernel
theorem dX8_init_1 : decode cX8_init 1 = .ok (.invokespecial 3, 3) := by decide +kernel
theorem dX8_init_4 : decode cX8_init 4 = .ok (.aload_n 0, 1) := by decide +kernel
theorem dX8_init_5 : decode cX8_init 5 = .ok (.iconst 2, 1) := by decide +kernel
theorem dX8_init_6 : decode cX8_init 6 = .ok (.newarray .int, 2) := by decide +kernel
theorem dX8_init_8 : decode cX8_init 8 = .ok (.putfield 11, 3) := by decide +kernel
theorem dX8_init_11 : decode cX8_init 11 = .ok (.aload_n 0, 1) := by decide +kernel
theorem dX8_init_12 : decode cX8_init 12 = .ok (.iconst 2, 1) := by decide +kernel
theorem dX8_init_13 : decode cX8_init 13 = .ok (.newarray .int, 2) := by decide +kernel
theorem dX8_init_15 : decode cX8_init 15 = .ok (.putfield 15, 3) := by decide +kernel
theorem dX8_init_18 : decode cX8_init 18 = .ok (.aload_n 0, 1) := by decide +kernel
theorem dX8_init_19 : decode cX8_init 19 = .ok (.iconst 2, 1) := by decide +kernel
theorem dX8_init_20 : decode cX8_init 20 = .ok (.newarray .int, 2) := by decide +kernel
theorem dX8_init_22 : decode cX8_init 22 = .ok (.putfield 18, 3) := by decide +kernel
theorem dX8_init_25 : decode cX8_init 25 = .ok (.return_, 1) := by decide +kernel
theorem dX8_copy_0 : decode cX8_copy 0 = .ok (.aload_n 0, 1) := by decide +kernel
theorem dX8_copy_1 : decode cX8_copy 1 = .ok (.aload_n 1, 1) := by decide +kernel
theorem dX8_copy_2 : decode cX8_copy 2 = .ok (.getfield 21, 3) := by decide +kernel
theorem dX8_copy_5 : decode cX8_copy 5 = .ok (.putfield 21, 3) := by decide +kernel
theorem dX8_copy_8 : decode cX8_copy 8 = .ok (.aload_n 1, 1) := by decide +kernel
theorem dX8_copy_9 : decode cX8_copy 9 = .ok (.getfield 11, 3) := by decide +kernel
theorem dX8_copy_12 : decode cX8_copy 12 = .ok (.iconst 0, 1) := by decide +kernel
theorem dX8_copy_13 : decode cX8_copy 13 = .ok (.aload_n 0, 1) := by decide +kernel
theorem dX8_copy_14 : decode cX8_copy 14 = .ok (.getfield 11, 3) := by decide +kernel
theorem dX8_copy_17 : decode cX8_copy 17 = .ok (.iconst 0, 1) := by decide +kernel
theorem dX8_copy_18 : decode cX8_copy 18 = .ok (.iconst 2, 1) := by decide +kernel
theorem dX8_copy_19 : decode cX8_copy 19 = .ok (.invokestatic 25, 3) := by decide +kernel
theorem dX8_copy_22 : decode cX8_copy 22 = .ok (.aload_n 1, 1) := by decide +kernel
theorem dX8_copy_23 : decode cX8_copy 23 = .ok (.getfield 15, 3) := by decide +kernel
theorem dX8_copy_26 : decode cX8_copy 26 = .ok (.iconst 0, 1) := by decide +kernel
theorem dX8_copy_27 : decode cX8_copy 27 = .ok (.aload_n 0, 1) := by decide +kernel
theorem dX8_copy_28 : decode cX8_copy 28 = .ok (.getfield 15, 3) := by decide +kernel
theorem dX8_copy_31 : decode cX8_copy 31 = .ok (.iconst 0, 1) := by decide +kernel
theorem dX8_copy_32 : decode cX8_copy 32 = .ok (.iconst 2, 1) := by decide +kernel
theorem dX8_copy_33 : decode cX8_copy 33 = .ok (.invokestatic 25, 3) := by decide +kernel
theorem dX8_copy_36 : decode cX8_copy 36 = .ok (.aload_n 1, 1) := by decide +kernel
theorem dX8_copy_37 : decode cX8_copy 37 = .ok (.getfield 18, 3) := by decide +kernel
theorem dX8_copy_40 : decode cX8_copy 40 = .ok (.iconst 0, 1) := by decide +kernel
theorem dX8_copy_41 : decode cX8_copy 41 = .ok (.aload_n 0, 1) := by decide +kernel
theorem dX8_copy_42 : decode cX8_copy 42 = .ok (.getfield 18, 3) := by decide +kernel
theorem dX8_copy_45 : decode cX8_copy 45 = .ok (.iconst 0, 1) := by decide +kernel
theorem dX8_copy_46 : decode cX8_copy 46 = .ok (.iconst 2, 1) := by decide +kernel
theorem dX8_copy_47 : decode cX8_copy 47 = .ok (.invokestatic 25, 3) := by decide +kernel
theorem dX8_copy_50 : decode cX8_copy 50 = .ok (.return_, 1) := by decide +kernel
theorem dX8_has_0 : decode cX8_has 0 = .ok (.iload_n 1, 1) := by decide +kernel
theorem dX8_has_1 : decode cX8_has 1 = .ok (.ifCond .lt 15, 3) := by decide +kernel
theorem dX8_has_4 : decode cX8_has 4 = .ok (.iload_n 1, 1) := by decide +kernel
theorem dX8_has_5 : decode cX8_has 5 = .ok (.aload_n 0, 1) := by decide +kernel
theorem dX8_has_6 : decode cX8_has 6 = .ok (.getfield 21, 3) := by decide +kernel
theorem dX8_has_9 : decode cX8_has 9 = .ok (.if_icmp .ge 7, 3) := by decide +kernel
theorem dX8_has_12 : decode cX8_has 12 = .ok (.iconst 1, 1) := by decide +kernel
theorem dX8_has_13 : decode cX8_has 13 = .ok (.goto 4, 3) := by decide +kernel
theorem dX8_has_16 : decode cX8_has 16 = .ok (.iconst 0, 1) := by decide +kernel
theorem dX8_has_17 : decode cX8_has 17 = .ok (.ireturn, 1) := by decide +kernel
theorem dX8_add_0 : decode cX8_add 0 = .ok (.aload_n 0, 1) := by decide +kernel
theorem dX8_add_1 : decode cX8_add 1 = .ok (.getfield 21, 3) := by decide +kernel
theorem dX8_add_4 : decode cX8_add 4 = .ok (.iconst 2, 1) := by decide +kernel
theorem dX8_add_5 : decode cX8_add 5 = .ok (.if_icmp .lt 6, 3) := by decide +kernel
theorem dX8_add_8 : decode cX8_add 8 = .ok (.bipush (-3), 2) := by decide +kernel
theorem dX8_add_10 : decode cX8_add 10 = .ok (.ireturn, 1) := by decide +kernel
theorem dX8_add_11 : decode cX8_add 11 = .ok (.aload_n 0, 1) := by decide +kernel
theorem dX8_add_12 : decode cX8_add 12 = .ok (.getfield 11, 3) := by decide +kernel
theorem dX8_add_15 : decode cX8_add 15 = .ok (.aload_n 0, 1) := by decide +kernel
theorem dX8_add_16 : decode cX8_add 16 = .ok (.getfield 21, 3) := by decide +kernel
theorem dX8_add_19 : decode cX8_add 19 = .ok (.iload_n 1, 1) := by decide +kernel
theorem dX8_add_20 : decode cX8_add 20 = .ok (.iastore, 1) := by decide +kernel
theorem dX8_add_21 : decode cX8_add 21 = .ok (.aload_n 0, 1) := by decide +kernel
theorem dX8_add_22 : decode cX8_add 22 = .ok (.getfield 15, 3) := by decide +kernel
theorem dX8_add_25 : decode cX8_add 25 = .ok (.aload_n 0, 1) := by decide +kernel
theorem dX8_add_26 : decode cX8_add 26 = .ok (.getfield 21, 3) := by decide +kernel
theorem dX8_add_29 : decode cX8_add 29 = .ok (.iload_n 2, 1) := by decide +kernel
theorem dX8_add_30 : decode cX8_add 30 = .ok (.iastore, 1) := by decide +kernel
theorem dX8_add_31 : decode cX8_add 31 = .ok (.aload_n 0, 1) := by decide +kernel
theorem dX8_add_32 : decode cX8_add 32 = .ok (.dup, 1) := by decide +kernel
theorem dX8_add_33 : decode cX8_add 33 = .ok (.getfield 21, 3) := by decide +kernel
theorem dX8_add_36 : decode cX8_add 36 = .ok (.iconst 1, 1) := by decide +kernel
theorem dX8_add_37 : decode cX8_add 37 = .ok (.iadd, 1) := by decide +kernel
theorem dX8_add_38 : decode cX8_add 38 = .ok (.putfield 21, 3) := by decide +kernel
theorem dX8_add_41 : decode cX8_add 41 = .ok (.aload_n 0, 1) := by decide +kernel
theorem dX8_add_42 : decode cX8_add 42 = .ok (.getfield 21, 3) := by decide +kernel
theorem dX8_add_45 : decode cX8_add 45 = .ok (.iconst 1, 1) := by decide +kernel
theorem dX8_add_46 : decode cX8_add 46 = .ok (.isub, 1) := by decide +kernel
theorem dX8_add_47 : decode cX8_add 47 = .ok (.ireturn, 1) := by decide +kernel
set_option maxRecDepth 20000 in
theorem ggX8_minutesLeft_X8_has : GoodIn wsX8_minutesLeft wsX8_has := goodIn_r _ [10, 11, 12, 13, 14, 15] (by decide +kernel) (by decide +kernel)
set_option maxRecDepth 20000 in
theorem gX8_minutesLeft_X8_has : GoodIn wsX8_minutesLeft (wsV RX8 31 RX8 yX8_has wsX8_has) := goodIn_app (goodIn_of _ (by decide +kernel)) ggX8_minutesLeft_X8_has
theorem dX8_minutesLeft_0 : decode cX8_minutesLeft 0 = .ok (.aload_n 0, 1) := by decide +kernel
theorem dX8_minutesLeft_1 : decode cX8_minutesLeft 1 = .ok (.iload_n 1, 1) := by decide +kernel
theorem dX8_minutesLeft_2 : decode cX8_minutesLeft 2 = .ok (.invokevirtual 31, 3) := by decide +kernel
theorem dX8_minutesLeft_5 : decode cX8_minutesLeft 5 = .ok (.ifCond .eq 18, 3) := by decide +kernel
theorem dX8_minutesLeft_8 : decode cX8_minutesLeft 8 = .ok (.iconst 0, 1) := by decide +kernel
theorem dX8_minutesLeft_9 : decode cX8_minutesLeft 9 = .ok (.aload_n 0, 1) := by decide +kernel
theorem dX8_minutesLeft_10 : decode cX8_minutesLeft 10 = .ok (.getfield 18, 3) := by decide +kernel
theorem dX8_minutesLeft_13 : decode cX8_minutesLeft 13 = .ok (.iload_n 1, 1) := by decide +kernel
theorem dX8_minutesLeft_14 : decode cX8_minutesLeft 14 = .ok (.iaload, 1) := by decide +kernel
theorem dX8_minutesLeft_15 : decode cX8_minutesLeft 15 = .ok (.iload_n 2, 1) := by decide +kernel
theorem dX8_minutesLeft_16 : decode cX8_minutesLeft 16 = .ok (.isub, 1) := by decide +kernel
theorem dX8_minutesLeft_17 : decode cX8_minutesLeft 17 = .ok (.invokestatic 35, 3) := by decide +kernel
theorem dX8_minutesLeft_20 : decode cX8_minutesLeft 20 = .ok (.goto 4, 3) := by decide +kernel
theorem dX8_minutesLeft_23 : decode cX8_minutesLeft 23 = .ok (.iconst 0, 1) := by decide +kernel
theorem dX8_minutesLeft_24 : decode cX8_minutesLeft 24 = .ok (.ireturn, 1) := by decide +kernel
theorem dX9_values_0 : decode cX9_values 0 = .ok (.getstatic 34, 3) := by decide +kernel
theorem dX9_values_3 : decode cX9_values 3 = .ok (.invokevirtual 38, 3) := by decide +kernel
theorem dX9_values_6 : decode cX9_values 6 = .ok (.checkcast 39, 3) := by decide +kernel
theorem dX9_values_9 : decode cX9_values 9 = .ok (.areturn, 1) := by decide +kernel
set_option maxRecDepth 20000 in
theorem ggX10_init_X5_init : GoodIn wsX10_init wsX5_init := goodIn_r _ [23, 24, 2, 3, 25, 26, 27, 28, 29, 30, 31, 32, 33, 34, 35, 36, 37, 38, 39, 40, 41, 42, 43, 44, 45, 46, 47, 48, 49, 50, 51, 52, 53, 54, 55, 56, 57, 58, 59, 60, 61, 62, 63, 64, 65, 66, 67, 68, 69, 70, 71, 72, 73, 74, 75, 76, 137, 138, 139, 140, 141, 106, 107, 108, 109, 110, 111, 142, 143, 144, 145, 146, 147, 148, 149, 150, 151, 152, 153, 154, 155, 156, 157, 158, 159, 160, 161, 162] (by decide +kernel) (by decide +kernel)
set_option maxRecDepth 20000 in
theorem gX10_init_X5_init_n9 : GoodIn wsX10_init (wsX5_init) := ggX10_init_X5_init
set_option maxRecDepth 20000 in
theorem ggX10_init_X3_init : GoodIn wsX10_init wsX3_init := goodIn_r _ [78, 79, 2, 3, 80, 5, 6, 81, 22, 23, 24, 25, 26, 27, 28, 29, 30, 31, 32, 33, 34, 35, 36, 37, 38, 39, 40, 41, 42, 43, 44, 45, 46, 47, 48, 49, 50, 51, 52, 53, 54, 55, 56, 57, 58, 59, 60, 61, 62, 63, 64, 65, 66, 67, 68, 69, 70, 71, 72, 73, 74, 75, 76, 106, 107, 108, 109, 110, 111, 119, 120, 121, 137, 138, 139, 140, 141, 142, 143, 144, 145, 146, 147, 148, 149, 150, 151, 152, 153, 154, 155, 156, 157, 158, 159, 160, 161, 162] (by decide +kernel) (by decide +kernel)
set_option maxRecDepth 20000 in
theorem gX10_init_X3_init_n24 : GoodIn wsX10_init (wsX3_init) := ggX10_init_X3_init
set_option maxRecDepth 20000 in
theorem ggX10_init_X2_init : GoodIn wsX10_init wsX2_init := goodIn_r _ [83, 84, 2, 3, 41, 85, 86, 122, 123, 124, 125, 126, 127] (by decide +kernel) (by decide +kernel)
set_option maxRecDepth 20000 in
theorem gX10_init_X2_init_n31 : GoodIn wsX10_init (wsX2_init) := ggX10_init_X2_init
set_option maxRecDepth 20000 in
theorem ggX10_init_X7_init : GoodIn wsX10_init wsX7_init := goodIn_r _ [88, 89, 2, 3, 90, 91, 92, 93, 41, 94, 95, 96, 97, 98, 99, 100, 101, 102, 103, 104, 105, 128, 129, 130, 131, 132, 133, 134, 135, 136] (by decide +kernel) (by decide +kernel)
set_option maxRecDepth 20000 in
theorem gX10_init_X7_init_n38 : GoodIn wsX10_init (wsX7_init) := ggX10_init_X7_init
theorem dX10_init_0 : decode cX10_init 0 = .ok (.aload_n 0, 1) := by decide +kernel
theorem dX10_init_1 : decode cX10_init 1 = .ok (.invokespecial 1, 3) := by decide +kernel
theorem dX10_init_4 : decode cX10_init 4 = .ok (.aload_n 0, 1) := by decide +kernel
theorem dX10_init_5 : decode cX10_init 5 = .ok (.new 7, 3) := by decide +kernel
theorem dX10_init_8 : decode cX10_init 8 = .ok (.dup, 1) := by decide +kernel
theorem dX10_init_9 : decode cX10_init 9 = .ok (.invokespecial 9, 3) := by decide +kernel
theorem dX10_init_12 : decode cX10_init 12 = .ok (.putfield 10, 3) := by decide +kernel
theorem dX10_init_15 : decode cX10_init 15 = .ok (.aload_n 0, 1) := by decide +kernel
theorem dX10_init_16 : decode cX10_init 16 = .ok (.new 7, 3) := by decide +kernel
theorem dX10_init_19 : decode cX10_init 19 = .ok (.dup, 1) := by decide +kernel
theorem dX10_init_20 : decode cX10_init 20 = .ok (.invokespecial 9, 3) := by decide +kernel
theorem dX10_init_23 : decode cX10_init 23 = .ok (.putfield 16, 3) := by decide +kernel
theorem dX10_init_26 : decode cX10_init 26 = .ok (.aload_n 0, 1) := by decide +kernel
theorem dX10_init_27 : decode cX10_init 27 = .ok (.new 7, 3) := by decide +kernel
theorem dX10_init_30 : decode cX10_init 30 = .ok (.dup, 1) := by decide +kernel
theorem dX10_init_31 : decode cX10_init 31 = .ok (.invokespecial 9, 3) := by decide +kernel
theorem dX10_init_34 : decode cX10_init 34 = .ok (.putfield 19, 3) := by decide +kernel
theorem dX10_init_37 : decode cX10_init 37 = .ok (.aload_n 0, 1) := by decide +kernel
theorem dX10_init_38 : decode cX10_init 38 = .ok (.new 22, 3) := by decide +kernel
theorem dX10_init_41 : decode cX10_init 41 = .ok (.dup, 1) := by decide +kernel
theorem dX10_init_42 : decode cX10_init 42 = .ok (.invokespecial 24, 3) := by decide +kernel
theorem dX10_init_45 : decode cX10_init 45 = .ok (.putfield 25, 3) := by decide +kernel
theorem dX10_init_48 : decode cX10_init 48 = .ok (.aload_n 0, 1) := by decide +kernel
theorem dX10_init_49 : decode cX10_init 49 = .ok (.new 29, 3) := by decide +kernel
theorem dX10_init_52 : decode cX10_init 52 = .ok (.dup, 1) := by decide +kernel
theorem dX10_init_53 : decode cX10_init 53 = .ok (.invokespecial 31, 3) := by decide +kernel
theorem dX10_init_56 : decode cX10_init 56 = .ok (.putfield 32, 3) := by decide +kernel
theorem dX10_init_59 : decode cX10_init 59 = .ok (.aload_n 0, 1) := by decide +kernel
theorem dX10_init_60 : decode cX10_init 60 = .ok (.new 36, 3) := by decide +kernel
theorem dX10_init_63 : decode cX10_init 63 = .ok (.dup, 1) := by decide +kernel
theorem dX10_init_64 : decode cX10_init 64 = .ok (.invokespecial 38, 3) := by decide +kernel
theorem dX10_init_67 : decode cX10_init 67 = .ok (.putfield 39, 3) := by decide +kernel
theorem dX10_init_70 : decode cX10_init 70 = .ok (.return_, 1) := by decide +kernel
set_option maxRecDepth 20000 in
theorem ggX10_station_X10_freshDraft : GoodIn wsX10_station wsX10_freshDraft := goodIn_r _ [5, 6, 7, 8, 9, 10, 11, 12, 13, 14, 15, 16, 17, 18, 19, 20, 21, 22, 23, 24, 25, 26, 27, 28, 29, 30, 31, 32, 33, 34, 35, 36, 37, 38, 39, 40, 41, 42, 43, 44, 45, 46, 47, 48, 49, 50, 51, 52, 53, 54, 55, 56, 57, 58, 59, 60, 61, 62, 63, 64, 65, 66, 67, 68, 69, 70, 71, 72, 95, 96, 97, 98, 99, 100, 101, 102, 103, 104, 105, 106, 107, 108, 109, 110, 111, 112, 113, 114, 115, 116, 117, 118, 119, 120, 121, 122, 123, 124, 125, 126, 127, 128, 129, 130, 131, 132, 133] (by decide +kernel) (by decide +kernel)
set_option maxRecDepth 20000 in
theorem gX10_station_X10_freshDraft : GoodIn wsX10_station (wsV RX10 43 RX10 yX10_freshDraft wsX10_freshDraft) := goodIn_app (goodIn_of _ (by decide +kernel)) ggX10_station_X10_freshDraft
set_option maxRecDepth 20000 in
theorem ggX10_station_X5_addStation : GoodIn wsX10_station wsX5_addStation := goodIn_r _ [76, 13, 77, 78, 79, 26, 80, 28, 29, 31, 102, 103, 104, 105, 106, 107, 108, 109, 110, 111, 112] (by decide +kernel) (by decide +kernel)
set_option maxRecDepth 20000 in
theorem gX10_station_X5_addStation : GoodIn wsX10_station (wsV RX10 47 RX5 yX5_addStation wsX5_addStation) := goodIn_app (goodIn_of _ (by decide +kernel)) ggX10_station_X5_addStation
set_option maxRecDepth 20000 in
theorem ggX10_station_X10_settle : GoodIn wsX10_station wsX10_settle := goodIn_r _ [84, 85, 7, 6, 86, 87, 88, 89, 90, 91, 92, 93, 94, 9, 10, 11, 12, 13, 14, 15, 16, 17, 18, 19, 20, 21, 22, 23, 24, 25, 26, 27, 28, 29, 30, 31, 32, 33, 34, 35, 36, 37, 38, 39, 40, 41, 42, 43, 44, 45, 46, 47, 48, 49, 50, 51, 52, 53, 54, 55, 56, 57, 58, 59, 60, 61, 62, 63, 64, 65, 66, 67, 68, 69, 70, 71, 72, 8, 95, 96, 97, 98, 99, 100, 101, 134, 135, 136, 102, 103, 104, 105, 106, 107, 108, 109, 110, 111, 112, 113, 114, 115, 116, 117, 118, 119, 120, 121, 122, 123, 124, 125, 126, 127, 128, 129, 130, 131, 132, 133] (by decide +kernel) (by decide +kernel)
set_option maxRecDepth 20000 in
theorem gX10_station_X10_settle : GoodIn wsX10_station (wsV RX10 51 RX10 yX10_settle wsX10_settle) := goodIn_app (goodIn_of _ (by decide +kernel)) ggX10_station_X10_settle
theorem dX10_station_0 : decode cX10_station 0 = .ok (.aload_n 0, 1) := by decide +kernel
theorem dX10_station_1 : decode cX10_station 1 = .ok (.aload_n 0, 1) := by decide +kernel
theorem dX10_station_2 : decode cX10_station 2 = .ok (.invokevirtual 43, 3) := by decide +kernel
theorem dX10_station_5 : decode cX10_station 5 = .ok (.iload_n 1, 1) := by decide +kernel
theorem dX10_station_6 : decode cX10_station 6 = .ok (.iload_n 2, 1) := by decide +kernel
theorem dX10_station_7 : decode cX10_station 7 = .ok (.invokevirtual 47, 3) := by decide +kernel
theorem dX10_station_10 : decode cX10_station 10 = .ok (.invokevirtual 51, 3) := by decide +kernel
theorem dX10_station_13 : decode cX10_station 13 = .ok (.ireturn, 1) := by decide +kernel
set_option maxRecDepth 20000 in
theorem ggX10_bicycle_X10_freshDraft : GoodIn wsX10_bicycle wsX10_freshDraft := goodIn_r _ [5, 6, 7, 8, 9, 10, 11, 12, 13, 14, 15, 16, 17, 18, 19, 20, 21, 22, 23, 24, 25, 26, 27, 28, 29, 30, 31, 32, 33, 34, 35, 36, 37, 38, 39, 40, 41, 42, 43, 44, 45, 46, 47, 48, 49, 50, 51, 52, 53, 54, 55, 56, 57, 58, 59, 60, 61, 62, 63, 64, 65, 66, 67, 68, 69, 70, 71, 72, 112, 113, 114, 115, 116, 117, 118, 119, 120, 121, 122, 123, 124, 125, 126, 127, 128, 129, 130, 131, 132, 133, 134, 135, 136, 137, 138, 139, 140, 141, 142, 143, 144, 145, 146, 147, 148, 149, 150] (by decide +kernel) (by decide +kernel)
set_option maxRecDepth 20000 in
theorem gX10_bicycle_X10_freshDraft : GoodIn wsX10_bicycle (wsV RX10 43 RX10 yX10_freshDraft wsX10_freshDraft) := goodIn_app (goodIn_of _ (by decide +kernel)) ggX10_bicycle_X10_freshDraft
set_option maxRecDepth 20000 in
theorem ggX10_bicycle_X5_addBicycle : GoodIn wsX10_bicycle wsX5_addBicycle := goodIn_r _ [76, 13, 14, 77, 78, 79, 26, 80, 28, 81, 82, 83, 11, 84, 85, 86, 87, 88, 89, 90, 91, 92, 37, 93, 39, 40, 42, 94, 95, 96, 97, 119, 120, 121, 122, 123, 124, 125, 126, 127, 128, 129, 130, 131, 132, 133, 134, 135, 136] (by decide +kernel) (by decide +kernel)
set_option maxRecDepth 20000 in
theorem gX10_bicycle_X5_addBicycle : GoodIn wsX10_bicycle (wsV RX10 55 RX5 yX5_addBicycle wsX5_addBicycle) := goodIn_app (goodIn_of _ (by decide +kernel)) ggX10_bicycle_X5_addBicycle
set_option maxRecDepth 20000 in
theorem ggX10_bicycle_X10_settle : GoodIn wsX10_bicycle wsX10_settle := goodIn_r _ [101, 102, 7, 6, 103, 104, 105, 106, 107, 108, 109, 110, 111, 9, 10, 11, 12, 13, 14, 15, 16, 17, 18, 19, 20, 21, 22, 23, 24, 25, 26, 27, 28, 29, 30, 31, 32, 33, 34, 35, 36, 37, 38, 39, 40, 41, 42, 43, 44, 45, 46, 47, 48, 49, 50, 51, 52, 53, 54, 55, 56, 57, 58, 59, 60, 61, 62, 63, 64, 65, 66, 67, 68, 69, 70, 71, 72, 8, 112, 113, 114, 115, 116, 117, 118, 151, 152, 153, 119, 120, 121, 122, 123, 124, 125, 126, 127, 128, 129, 130, 131, 132, 133, 134, 135, 136, 137, 138, 139, 140, 141, 142, 143, 144, 145, 146, 147, 148, 149, 150] (by decide +kernel) (by decide +kernel)
set_option maxRecDepth 20000 in
theorem gX10_bicycle_X10_settle : GoodIn wsX10_bicycle (wsV RX10 51 RX10 yX10_settle wsX10_settle) := goodIn_app (goodIn_of _ (by decide +kernel)) ggX10_bicycle_X10_settle
theorem dX10_bicycle_0 : decode cX10_bicycle 0 = .ok (.aload_n 0, 1) := by decide +kernel
theorem dX10_bicycle_1 : decode cX10_bicycle 1 = .ok (.aload_n 0, 1) := by decide +kernel
theorem dX10_bicycle_2 : decode cX10_bicycle 2 = .ok (.invokevirtual 43, 3) := by decide +kernel
theorem dX10_bicycle_5 : decode cX10_bicycle 5 = .ok (.iload_n 1, 1) := by decide +kernel
theorem dX10_bicycle_6 : decode cX10_bicycle 6 = .ok (.invokevirtual 55, 3) := by decide +kernel
theorem dX10_bicycle_9 : decode cX10_bicycle 9 = .ok (.invokevirtual 51, 3) := by decide +kernel
theorem dX10_bicycle_12 : decode cX10_bicycle 12 = .ok (.ireturn, 1) := by decide +kernel
set_option maxRecDepth 20000 in
theorem ggX10_rider_X10_freshDraft : GoodIn wsX10_rider wsX10_freshDraft := goodIn_r _ [5, 6, 7, 8, 9, 10, 11, 12, 13, 14, 15, 16, 17, 18, 19, 20, 21, 22, 23, 24, 25, 26, 27, 28, 29, 30, 31, 32, 33, 34, 35, 36, 37, 38, 39, 40, 41, 42, 43, 44, 45, 46, 47, 48, 49, 50, 51, 52, 53, 54, 55, 56, 57, 58, 59, 60, 61, 62, 63, 64, 65, 66, 67, 68, 69, 70, 71, 72, 95, 96, 97, 98, 99, 100, 101, 102, 103, 104, 105, 106, 107, 108, 109, 110, 111, 112, 113, 114, 115, 116, 117, 118, 119, 120, 121, 122, 123, 124, 125, 126, 127, 128, 129, 130, 131, 132, 133] (by decide +kernel) (by decide +kernel)
set_option maxRecDepth 20000 in
theorem gX10_rider_X10_freshDraft : GoodIn wsX10_rider (wsV RX10 43 RX10 yX10_freshDraft wsX10_freshDraft) := goodIn_app (goodIn_of _ (by decide +kernel)) ggX10_rider_X10_freshDraft
set_option maxRecDepth 20000 in
theorem ggX10_rider_X5_addRider : GoodIn wsX10_rider wsX5_addRider := goodIn_r _ [76, 15, 77, 78, 79, 50, 80, 52, 58, 102, 103, 104, 105, 106, 107, 120, 121, 122, 123, 124, 125, 126, 127, 128, 129] (by decide +kernel) (by decide +kernel)
set_option maxRecDepth 20000 in
theorem gX10_rider_X5_addRider : GoodIn wsX10_rider (wsV RX10 58 RX5 yX5_addRider wsX5_addRider) := goodIn_app (goodIn_of _ (by decide +kernel)) ggX10_rider_X5_addRider
set_option maxRecDepth 20000 in
theorem ggX10_rider_X10_settle : GoodIn wsX10_rider wsX10_settle := goodIn_r _ [84, 85, 7, 6, 86, 87, 88, 89, 90, 91, 92, 93, 94, 9, 10, 11, 12, 13, 14, 15, 16, 17, 18, 19, 20, 21, 22, 23, 24, 25, 26, 27, 28, 29, 30, 31, 32, 33, 34, 35, 36, 37, 38, 39, 40, 41, 42, 43, 44, 45, 46, 47, 48, 49, 50, 51, 52, 53, 54, 55, 56, 57, 58, 59, 60, 61, 62, 63, 64, 65, 66, 67, 68, 69, 70, 71, 72, 8, 95, 96, 97, 98, 99, 100, 101, 134, 135, 136, 102, 103, 104, 105, 106, 107, 108, 109, 110, 111, 112, 113, 114, 115, 116, 117, 118, 119, 120, 121, 122, 123, 124, 125, 126, 127, 128, 129, 130, 131, 132, 133] (by decide +kernel) (by decide +kernel)
set_option maxRecDepth 20000 in
theorem gX10_rider_X10_settle : GoodIn wsX10_rider (wsV RX10 51 RX10 yX10_settle wsX10_settle) := goodIn_app (goodIn_of _ (by decide +kernel)) ggX10_rider_X10_settle
theorem dX10_rider_0 : decode cX10_rider 0 = .ok (.aload_n 0, 1) := by decide +kernel
theorem dX10_rider_1 : decode cX10_rider 1 = .ok (.aload_n 0, 1) := by decide +kernel
theorem dX10_rider_2 : decode cX10_rider 2 = .ok (.invokevirtual 43, 3) := by decide +kernel
theorem dX10_rider_5 : decode cX10_rider 5 = .ok (.invokevirtual 58, 3) := by decide +kernel
theorem dX10_rider_8 : decode cX10_rider 8 = .ok (.invokevirtual 51, 3) := by decide +kernel
theorem dX10_rider_11 : decode cX10_rider 11 = .ok (.ireturn, 1) := by decide +kernel
set_option maxRecDepth 20000 in
theorem ggX10_van_X10_freshDraft : GoodIn wsX10_van wsX10_freshDraft := goodIn_r _ [5, 6, 7, 8, 9, 10, 11, 12, 13, 14, 15, 16, 17, 18, 19, 20, 21, 22, 23, 24, 25, 26, 27, 28, 29, 30, 31, 32, 33, 34, 35, 36, 37, 38, 39, 40, 41, 42, 43, 44, 45, 46, 47, 48, 49, 50, 51, 52, 53, 54, 55, 56, 57, 58, 59, 60, 61, 62, 63, 64, 65, 66, 67, 68, 69, 70, 71, 72, 99, 100, 101, 102, 103, 104, 105, 106, 107, 108, 109, 110, 111, 112, 113, 114, 115, 116, 117, 118, 119, 120, 121, 122, 123, 124, 125, 126, 127, 128, 129, 130, 131, 132, 133, 134, 135, 136, 137] (by decide +kernel) (by decide +kernel)
set_option maxRecDepth 20000 in
theorem gX10_van_X10_freshDraft : GoodIn wsX10_van (wsV RX10 43 RX10 yX10_freshDraft wsX10_freshDraft) := goodIn_app (goodIn_of _ (by decide +kernel)) ggX10_van_X10_freshDraft
set_option maxRecDepth 20000 in
theorem ggX10_van_X5_addVan : GoodIn wsX10_van wsX5_addVan := goodIn_r _ [76, 13, 16, 77, 78, 79, 26, 80, 28, 81, 82, 83, 66, 84, 68, 69, 71, 106, 107, 108, 109, 110, 111, 112, 113, 114, 115, 116, 134, 135, 136, 137] (by decide +kernel) (by decide +kernel)
set_option maxRecDepth 20000 in
theorem gX10_van_X5_addVan : GoodIn wsX10_van (wsV RX10 62 RX5 yX5_addVan wsX5_addVan) := goodIn_app (goodIn_of _ (by decide +kernel)) ggX10_van_X5_addVan
set_option maxRecDepth 20000 in
theorem ggX10_van_X10_settle : GoodIn wsX10_van wsX10_settle := goodIn_r _ [88, 89, 7, 6, 90, 91, 92, 93, 94, 95, 96, 97, 98, 9, 10, 11, 12, 13, 14, 15, 16, 17, 18, 19, 20, 21, 22, 23, 24, 25, 26, 27, 28, 29, 30, 31, 32, 33, 34, 35, 36, 37, 38, 39, 40, 41, 42, 43, 44, 45, 46, 47, 48, 49, 50, 51, 52, 53, 54, 55, 56, 57, 58, 59, 60, 61, 62, 63, 64, 65, 66, 67, 68, 69, 70, 71, 72, 8, 99, 100, 101, 102, 103, 104, 105, 138, 139, 140, 106, 107, 108, 109, 110, 111, 112, 113, 114, 115, 116, 117, 118, 119, 120, 121, 122, 123, 124, 125, 126, 127, 128, 129, 130, 131, 132, 133, 134, 135, 136, 137] (by decide +kernel) (by decide +kernel)
set_option maxRecDepth 20000 in
theorem gX10_van_X10_settle : GoodIn wsX10_van (wsV RX10 51 RX10 yX10_settle wsX10_settle) := goodIn_app (goodIn_of _ (by decide +kernel)) ggX10_van_X10_settle
theorem dX10_van_0 : decode cX10_van 0 = .ok (.aload_n 0, 1) := by decide +kernel
theorem dX10_van_1 : decode cX10_van 1 = .ok (.aload_n 0, 1) := by decide +kernel
theorem dX10_van_2 : decode cX10_van 2 = .ok (.invokevirtual 43, 3) := by decide +kernel
theorem dX10_van_5 : decode cX10_van 5 = .ok (.iload_n 1, 1) := by decide +kernel
theorem dX10_van_6 : decode cX10_van 6 = .ok (.iload_n 2, 1) := by decide +kernel
theorem dX10_van_7 : decode cX10_van 7 = .ok (.invokevirtual 62, 3) := by decide +kernel
theorem dX10_van_10 : decode cX10_van 10 = .ok (.invokevirtual 51, 3) := by decide +kernel
theorem dX10_van_13 : decode cX10_van 13 = .ok (.ireturn, 1) := by decide +kernel
set_option maxRecDepth 20000 in
theorem ggX10_pass_X10_freshDraft : GoodIn wsX10_pass wsX10_freshDraft := goodIn_r _ [5, 6, 7, 8, 9, 10, 11, 12, 13, 14, 15, 16, 17, 18, 19, 20, 21, 22, 23, 24, 25, 26, 27, 28, 29, 30, 31, 32, 33, 34, 35, 36, 37, 38, 39, 40, 41, 42, 43, 44, 45, 46, 47, 48, 49, 50, 51, 52, 53, 54, 55, 56, 57, 58, 59, 60, 61, 62, 63, 64, 65, 66, 67, 68, 69, 70, 71, 72, 102, 103, 104, 105, 106, 107, 108, 109, 110, 111, 112, 113, 114, 115, 116, 117, 118, 119, 120, 121, 122, 123, 124, 125, 126, 127, 128, 129, 130, 131, 132, 133, 134, 135, 136, 137, 138, 139, 140] (by decide +kernel) (by decide +kernel)
set_option maxRecDepth 20000 in
theorem gX10_pass_X10_freshDraft : GoodIn wsX10_pass (wsV RX10 43 RX10 yX10_freshDraft wsX10_freshDraft) := goodIn_app (goodIn_of _ (by decide +kernel)) ggX10_pass_X10_freshDraft
set_option maxRecDepth 20000 in
theorem ggX10_pass_X5_sellPass : GoodIn wsX10_pass wsX5_sellPass := goodIn_r _ [76, 15, 22, 77, 78, 79, 80, 81, 82, 17, 83, 84, 85, 86, 50, 87, 52, 109, 110, 111, 112, 113, 114, 127, 128, 129, 130, 131, 132, 133, 134, 135, 136] (by decide +kernel) (by decide +kernel)
set_option maxRecDepth 20000 in
theorem gX10_pass_X5_sellPass : GoodIn wsX10_pass (wsV RX10 65 RX5 yX5_sellPass wsX5_sellPass) := goodIn_app (goodIn_of _ (by decide +kernel)) ggX10_pass_X5_sellPass
set_option maxRecDepth 20000 in
theorem ggX10_pass_X10_settle : GoodIn wsX10_pass wsX10_settle := goodIn_r _ [91, 92, 7, 6, 93, 94, 95, 96, 97, 98, 99, 100, 101, 9, 10, 11, 12, 13, 14, 15, 16, 17, 18, 19, 20, 21, 22, 23, 24, 25, 26, 27, 28, 29, 30, 31, 32, 33, 34, 35, 36, 37, 38, 39, 40, 41, 42, 43, 44, 45, 46, 47, 48, 49, 50, 51, 52, 53, 54, 55, 56, 57, 58, 59, 60, 61, 62, 63, 64, 65, 66, 67, 68, 69, 70, 71, 72, 8, 102, 103, 104, 105, 106, 107, 108, 141, 142, 143, 109, 110, 111, 112, 113, 114, 115, 116, 117, 118, 119, 120, 121, 122, 123, 124, 125, 126, 127, 128, 129, 130, 131, 132, 133, 134, 135, 136, 137, 138, 139, 140] (by decide +kernel) (by decide +kernel)
set_option maxRecDepth 20000 in
theorem gX10_pass_X10_settle : GoodIn wsX10_pass (wsV RX10 51 RX10 yX10_settle wsX10_settle) := goodIn_app (goodIn_of _ (by decide +kernel)) ggX10_pass_X10_settle
theorem dX10_pass_0 : decode cX10_pass 0 = .ok (.aload_n 0, 1) := by decide +kernel
theorem dX10_pass_1 : decode cX10_pass 1 = .ok (.aload_n 0, 1) := by decide +kernel
theorem dX10_pass_2 : decode cX10_pass 2 = .ok (.invokevirtual 43, 3) := by decide +kernel
theorem dX10_pass_5 : decode cX10_pass 5 = .ok (.iload_n 1, 1) := by decide +kernel
theorem dX10_pass_6 : decode cX10_pass 6 = .ok (.invokevirtual 65, 3) := by decide +kernel
theorem dX10_pass_9 : decode cX10_pass 9 = .ok (.invokevirtual 51, 3) := by decide +kernel
theorem dX10_pass_12 : decode cX10_pass 12 = .ok (.ireturn, 1) := by decide +kernel
set_option maxRecDepth 20000 in
theorem ggX10_rent_X10_freshDraft : GoodIn wsX10_rent wsX10_freshDraft := goodIn_r _ [5, 6, 7, 8, 9, 10, 11, 12, 13, 14, 15, 16, 17, 18, 19, 20, 21, 22, 23, 24, 25, 26, 27, 28, 29, 30, 31, 32, 33, 34, 35, 36, 37, 38, 39, 40, 41, 42, 43, 44, 45, 46, 47, 48, 49, 50, 51, 52, 53, 54, 55, 56, 57, 58, 59, 60, 61, 62, 63, 64, 65, 66, 67, 68, 69, 70, 71, 72, 128, 129, 130, 131, 132, 133, 134, 135, 136, 137, 138, 139, 140, 141, 142, 143, 144, 145, 146, 147, 148, 149, 150, 151, 152, 153, 154, 155, 156, 157, 158, 159, 160, 161, 162, 163, 164, 165, 166] (by decide +kernel) (by decide +kernel)
set_option maxRecDepth 20000 in
theorem gX10_rent_X10_freshDraft : GoodIn wsX10_rent (wsV RX10 43 RX10 yX10_freshDraft wsX10_freshDraft) := goodIn_app (goodIn_of _ (by decide +kernel)) ggX10_rent_X10_freshDraft
set_option maxRecDepth 20000 in
theorem ggX10_rent_X5_beginRide : GoodIn wsX10_rent wsX5_beginRide := goodIn_r _ [76, 15, 13, 14, 22, 77, 78, 79, 80, 17, 81, 82, 83, 84, 85, 86, 50, 87, 52, 88, 89, 90, 26, 91, 28, 92, 93, 94, 37, 95, 39, 44, 43, 96, 97, 98, 99, 40, 42, 100, 101, 102, 103, 104, 105, 106, 107, 58, 108, 109, 110, 111, 112, 113, 135, 136, 137, 138, 139, 140, 153, 154, 155, 156, 157, 158, 159, 160, 161, 162, 141, 142, 143, 144, 145, 146, 147, 148, 149, 150, 151, 152] (by decide +kernel) (by decide +kernel)
set_option maxRecDepth 20000 in
theorem gX10_rent_X5_beginRide : GoodIn wsX10_rent (wsV RX10 68 RX5 yX5_beginRide wsX5_beginRide) := goodIn_app (goodIn_of _ (by decide +kernel)) ggX10_rent_X5_beginRide
set_option maxRecDepth 20000 in
theorem ggX10_rent_X10_settle : GoodIn wsX10_rent wsX10_settle := goodIn_r _ [117, 118, 7, 6, 119, 120, 121, 122, 123, 124, 125, 126, 127, 9, 10, 11, 12, 13, 14, 15, 16, 17, 18, 19, 20, 21, 22, 23, 24, 25, 26, 27, 28, 29, 30, 31, 32, 33, 34, 35, 36, 37, 38, 39, 40, 41, 42, 43, 44, 45, 46, 47, 48, 49, 50, 51, 52, 53, 54, 55, 56, 57, 58, 59, 60, 61, 62, 63, 64, 65, 66, 67, 68, 69, 70, 71, 72, 8, 128, 129, 130, 131, 132, 133, 134, 167, 168, 169, 135, 136, 137, 138, 139, 140, 141, 142, 143, 144, 145, 146, 147, 148, 149, 150, 151, 152, 153, 154, 155, 156, 157, 158, 159, 160, 161, 162, 163, 164, 165, 166] (by decide +kernel) (by decide +kernel)
set_option maxRecDepth 20000 in
theorem gX10_rent_X10_settle : GoodIn wsX10_rent (wsV RX10 51 RX10 yX10_settle wsX10_settle) := goodIn_app (goodIn_of _ (by decide +kernel)) ggX10_rent_X10_settle
theorem dX10_rent_0 : decode cX10_rent 0 = .ok (.aload_n 0, 1) := by decide +kernel
theorem dX10_rent_1 : decode cX10_rent 1 = .ok (.aload_n 0, 1) := by decide +kernel
theorem dX10_rent_2 : decode cX10_rent 2 = .ok (.invokevirtual 43, 3) := by decide +kernel
theorem dX10_rent_5 : decode cX10_rent 5 = .ok (.iload_n 1, 1) := by decide +kernel
theorem dX10_rent_6 : decode cX10_rent 6 = .ok (.iload_n 2, 1) := by decide +kernel
theorem dX10_rent_7 : decode cX10_rent 7 = .ok (.invokevirtual 68, 3) := by decide +kernel
theorem dX10_rent_10 : decode cX10_rent 10 = .ok (.invokevirtual 51, 3) := by decide +kernel
theorem dX10_rent_13 : decode cX10_rent 13 = .ok (.ireturn, 1) := by decide +kernel
set_option maxRecDepth 20000 in
theorem ggX10_back_X10_freshDraft : GoodIn wsX10_back wsX10_freshDraft := goodIn_r _ [5, 6, 7, 8, 9, 10, 11, 12, 13, 14, 15, 16, 17, 18, 19, 20, 21, 22, 23, 24, 25, 26, 27, 28, 29, 30, 31, 32, 33, 34, 35, 36, 37, 38, 39, 40, 41, 42, 43, 44, 45, 46, 47, 48, 49, 50, 51, 52, 53, 54, 55, 56, 57, 58, 59, 60, 61, 62, 63, 64, 65, 66, 67, 68, 69, 70, 71, 72, 145, 146, 147, 148, 149, 150, 151, 152, 153, 154, 155, 156, 157, 158, 159, 160, 161, 162, 163, 164, 165, 166, 167, 168, 169, 170, 171, 172, 173, 174, 175, 176, 177, 178, 179, 180, 181, 182, 183] (by decide +kernel) (by decide +kernel)
set_option maxRecDepth 20000 in
theorem gX10_back_X10_freshDraft : GoodIn wsX10_back (wsV RX10 43 RX10 yX10_freshDraft wsX10_freshDraft) := goodIn_app (goodIn_of _ (by decide +kernel)) ggX10_back_X10_freshDraft
set_option maxRecDepth 20000 in
theorem ggX10_back_X5_endRide : GoodIn wsX10_back wsX5_endRide := goodIn_r _ [76, 15, 13, 77, 14, 22, 78, 79, 80, 81, 82, 83, 84, 85, 50, 86, 52, 87, 88, 89, 26, 90, 28, 91, 92, 93, 37, 94, 39, 95, 96, 97, 11, 98, 99, 100, 101, 102, 103, 104, 105, 106, 107, 40, 42, 108, 109, 110, 111, 60, 112, 113, 114, 115, 61, 116, 117, 118, 119, 58, 120, 121, 122, 123, 124, 59, 125, 126, 127, 128, 129, 130, 152, 153, 154, 155, 156, 157, 170, 171, 172, 173, 174, 175, 176, 177, 178, 179, 163, 164, 165, 166, 167, 168, 169, 158, 159, 160, 161, 162] (by decide +kernel) (by decide +kernel)
set_option maxRecDepth 20000 in
theorem gX10_back_X5_endRide : GoodIn wsX10_back (wsV RX10 71 RX5 yX5_endRide wsX5_endRide) := goodIn_app (goodIn_of _ (by decide +kernel)) ggX10_back_X5_endRide
set_option maxRecDepth 20000 in
theorem ggX10_back_X10_settle : GoodIn wsX10_back wsX10_settle := goodIn_r _ [134, 135, 7, 6, 136, 137, 138, 139, 140, 141, 142, 143, 144, 9, 10, 11, 12, 13, 14, 15, 16, 17, 18, 19, 20, 21, 22, 23, 24, 25, 26, 27, 28, 29, 30, 31, 32, 33, 34, 35, 36, 37, 38, 39, 40, 41, 42, 43, 44, 45, 46, 47, 48, 49, 50, 51, 52, 53, 54, 55, 56, 57, 58, 59, 60, 61, 62, 63, 64, 65, 66, 67, 68, 69, 70, 71, 72, 8, 145, 146, 147, 148, 149, 150, 151, 184, 185, 186, 152, 153, 154, 155, 156, 157, 158, 159, 160, 161, 162, 163, 164, 165, 166, 167, 168, 169, 170, 171, 172, 173, 174, 175, 176, 177, 178, 179, 180, 181, 182, 183] (by decide +kernel) (by decide +kernel)
set_option maxRecDepth 20000 in
theorem gX10_back_X10_settle : GoodIn wsX10_back (wsV RX10 51 RX10 yX10_settle wsX10_settle) := goodIn_app (goodIn_of _ (by decide +kernel)) ggX10_back_X10_settle
theorem dX10_back_0 : decode cX10_back 0 = .ok (.aload_n 0, 1) := by decide +kernel
theorem dX10_back_1 : decode cX10_back 1 = .ok (.aload_n 0, 1) := by decide +kernel
theorem dX10_back_2 : decode cX10_back 2 = .ok (.invokevirtual 43, 3) := by decide +kernel
theorem dX10_back_5 : decode cX10_back 5 = .ok (.iload_n 1, 1) := by decide +kernel
theorem dX10_back_6 : decode cX10_back 6 = .ok (.iload_n 2, 1) := by decide +kernel
theorem dX10_back_7 : decode cX10_back 7 = .ok (.invokevirtual 71, 3) := by decide +kernel
theorem dX10_back_10 : decode cX10_back 10 = .ok (.invokevirtual 51, 3) := by decide +kernel
theorem dX10_back_13 : decode cX10_back 13 = .ok (.ireturn, 1) := by decide +kernel
set_option maxRecDepth 20000 in
theorem ggX10_full_X10_freshDraft : GoodIn wsX10_full wsX10_freshDraft := goodIn_r _ [5, 6, 7, 8, 9, 10, 11, 12, 13, 14, 15, 16, 17, 18, 19, 20, 21, 22, 23, 24, 25, 26, 27, 28, 29, 30, 31, 32, 33, 34, 35, 36, 37, 38, 39, 40, 41, 42, 43, 44, 45, 46, 47, 48, 49, 50, 51, 52, 53, 54, 55, 56, 57, 58, 59, 60, 61, 62, 63, 64, 65, 66, 67, 68, 69, 70, 71, 72, 119, 120, 121, 122, 123, 124, 125, 126, 127, 128, 129, 130, 131, 132, 133, 134, 135, 136, 137, 138, 139, 140, 141, 142, 143, 144, 145, 146, 147, 148, 149, 150, 151, 152, 153, 154, 155, 156, 157] (by decide +kernel) (by decide +kernel)
set_option maxRecDepth 20000 in
theorem gX10_full_X10_freshDraft : GoodIn wsX10_full (wsV RX10 43 RX10 yX10_freshDraft wsX10_freshDraft) := goodIn_app (goodIn_of _ (by decide +kernel)) ggX10_full_X10_freshDraft
set_option maxRecDepth 20000 in
theorem ggX10_full_X5_tellFull : GoodIn wsX10_full wsX5_tellFull := goodIn_r _ [76, 15, 13, 77, 78, 79, 80, 81, 50, 82, 52, 83, 84, 85, 26, 86, 28, 87, 88, 89, 90, 58, 91, 92, 93, 94, 11, 95, 96, 97, 98, 99, 100, 14, 101, 102, 103, 37, 104, 39, 40, 42, 126, 127, 128, 129, 130, 131, 144, 145, 146, 147, 148, 149, 150, 151, 152, 153, 132, 133, 134, 135, 136, 137, 138, 139, 140, 141, 142, 143] (by decide +kernel) (by decide +kernel)
set_option maxRecDepth 20000 in
theorem gX10_full_X5_tellFull : GoodIn wsX10_full (wsV RX10 74 RX5 yX5_tellFull wsX5_tellFull) := goodIn_app (goodIn_of _ (by decide +kernel)) ggX10_full_X5_tellFull
set_option maxRecDepth 20000 in
theorem ggX10_full_X10_settle : GoodIn wsX10_full wsX10_settle := goodIn_r _ [108, 109, 7, 6, 110, 111, 112, 113, 114, 115, 116, 117, 118, 9, 10, 11, 12, 13, 14, 15, 16, 17, 18, 19, 20, 21, 22, 23, 24, 25, 26, 27, 28, 29, 30, 31, 32, 33, 34, 35, 36, 37, 38, 39, 40, 41, 42, 43, 44, 45, 46, 47, 48, 49, 50, 51, 52, 53, 54, 55, 56, 57, 58, 59, 60, 61, 62, 63, 64, 65, 66, 67, 68, 69, 70, 71, 72, 8, 119, 120, 121, 122, 123, 124, 125, 158, 159, 160, 126, 127, 128, 129, 130, 131, 132, 133, 134, 135, 136, 137, 138, 139, 140, 141, 142, 143, 144, 145, 146, 147, 148, 149, 150, 151, 152, 153, 154, 155, 156, 157] (by decide +kernel) (by decide +kernel)
set_option maxRecDepth 20000 in
theorem gX10_full_X10_settle : GoodIn wsX10_full (wsV RX10 51 RX10 yX10_settle wsX10_settle) := goodIn_app (goodIn_of _ (by decide +kernel)) ggX10_full_X10_settle
theorem dX10_full_0 : decode cX10_full 0 = .ok (.aload_n 0, 1) := by decide +kernel
theorem dX10_full_1 : decode cX10_full 1 = .ok (.aload_n 0, 1) := by decide +kernel
theorem dX10_full_2 : decode cX10_full 2 = .ok (.invokevirtual 43, 3) := by decide +kernel
theorem dX10_full_5 : decode cX10_full 5 = .ok (.iload_n 1, 1) := by decide +kernel
theorem dX10_full_6 : decode cX10_full 6 = .ok (.iload_n 2, 1) := by decide +kernel
theorem dX10_full_7 : decode cX10_full 7 = .ok (.invokevirtual 74, 3) := by decide +kernel
theorem dX10_full_10 : decode cX10_full 10 = .ok (.invokevirtual 51, 3) := by decide +kernel
theorem dX10_full_13 : decode cX10_full 13 = .ok (.ireturn, 1) := by decide +kernel
set_option maxRecDepth 20000 in
theorem ggX10_report_X10_freshDraft : GoodIn wsX10_report wsX10_freshDraft := goodIn_r _ [5, 6, 7, 8, 9, 10, 11, 12, 13, 14, 15, 16, 17, 18, 19, 20, 21, 22, 23, 24, 25, 26, 27, 28, 29, 30, 31, 32, 33, 34, 35, 36, 37, 38, 39, 40, 41, 42, 43, 44, 45, 46, 47, 48, 49, 50, 51, 52, 53, 54, 55, 56, 57, 58, 59, 60, 61, 62, 63, 64, 65, 66, 67, 68, 69, 70, 71, 72, 101, 102, 103, 104, 105, 106, 107, 108, 109, 110, 111, 112, 113, 114, 115, 116, 117, 118, 119, 120, 121, 122, 123, 124, 125, 126, 127, 128, 129, 130, 131, 132, 133, 134, 135, 136, 137, 138, 139] (by decide +kernel) (by decide +kernel)
set_option maxRecDepth 20000 in
theorem gX10_report_X10_freshDraft : GoodIn wsX10_report (wsV RX10 43 RX10 yX10_freshDraft wsX10_freshDraft) := goodIn_app (goodIn_of _ (by decide +kernel)) ggX10_report_X10_freshDraft
set_option maxRecDepth 20000 in
theorem ggX10_report_X5_tellFaulty : GoodIn wsX10_report wsX5_tellFaulty := goodIn_r _ [76, 14, 77, 78, 79, 80, 81, 37, 82, 39, 83, 84, 85, 86, 44, 108, 109, 110, 111, 112, 113, 119, 120, 121, 122, 123, 124, 125] (by decide +kernel) (by decide +kernel)
set_option maxRecDepth 20000 in
theorem gX10_report_X5_tellFaulty : GoodIn wsX10_report (wsV RX10 77 RX5 yX5_tellFaulty wsX5_tellFaulty) := goodIn_app (goodIn_of _ (by decide +kernel)) ggX10_report_X5_tellFaulty
set_option maxRecDepth 20000 in
theorem ggX10_report_X10_settle : GoodIn wsX10_report wsX10_settle := goodIn_r _ [90, 91, 7, 6, 92, 93, 94, 95, 96, 97, 98, 99, 100, 9, 10, 11, 12, 13, 14, 15, 16, 17, 18, 19, 20, 21, 22, 23, 24, 25, 26, 27, 28, 29, 30, 31, 32, 33, 34, 35, 36, 37, 38, 39, 40, 41, 42, 43, 44, 45, 46, 47, 48, 49, 50, 51, 52, 53, 54, 55, 56, 57, 58, 59, 60, 61, 62, 63, 64, 65, 66, 67, 68, 69, 70, 71, 72, 8, 101, 102, 103, 104, 105, 106, 107, 140, 141, 142, 108, 109, 110, 111, 112, 113, 114, 115, 116, 117, 118, 119, 120, 121, 122, 123, 124, 125, 126, 127, 128, 129, 130, 131, 132, 133, 134, 135, 136, 137, 138, 139] (by decide +kernel) (by decide +kernel)
set_option maxRecDepth 20000 in
theorem gX10_report_X10_settle : GoodIn wsX10_report (wsV RX10 51 RX10 yX10_settle wsX10_settle) := goodIn_app (goodIn_of _ (by decide +kernel)) ggX10_report_X10_settle
theorem dX10_report_0 : decode cX10_report 0 = .ok (.aload_n 0, 1) := by decide +kernel
theorem dX10_report_1 : decode cX10_report 1 = .ok (.aload_n 0, 1) := by decide +kernel
theorem dX10_report_2 : decode cX10_report 2 = .ok (.invokevirtual 43, 3) := by decide +kernel
theorem dX10_report_5 : decode cX10_report 5 = .ok (.iload_n 1, 1) := by decide +kernel
theorem dX10_report_6 : decode cX10_report 6 = .ok (.invokevirtual 77, 3) := by decide +kernel
theorem dX10_report_9 : decode cX10_report 9 = .ok (.invokevirtual 51, 3) := by decide +kernel
theorem dX10_report_12 : decode cX10_report 12 = .ok (.ireturn, 1) := by decide +kernel
set_option maxRecDepth 20000 in
theorem ggX10_take_X10_freshDraft : GoodIn wsX10_take wsX10_freshDraft := goodIn_r _ [5, 6, 7, 8, 9, 10, 11, 12, 13, 14, 15, 16, 17, 18, 19, 20, 21, 22, 23, 24, 25, 26, 27, 28, 29, 30, 31, 32, 33, 34, 35, 36, 37, 38, 39, 40, 41, 42, 43, 44, 45, 46, 47, 48, 49, 50, 51, 52, 53, 54, 55, 56, 57, 58, 59, 60, 61, 62, 63, 64, 65, 66, 67, 68, 69, 70, 71, 72, 119, 120, 121, 122, 123, 124, 125, 126, 127, 128, 129, 130, 131, 132, 133, 134, 135, 136, 137, 138, 139, 140, 141, 142, 143, 144, 145, 146, 147, 148, 149, 150, 151, 152, 153, 154, 155, 156, 157] (by decide +kernel) (by decide +kernel)
set_option maxRecDepth 20000 in
theorem gX10_take_X10_freshDraft : GoodIn wsX10_take (wsV RX10 43 RX10 yX10_freshDraft wsX10_freshDraft) := goodIn_app (goodIn_of _ (by decide +kernel)) ggX10_take_X10_freshDraft
set_option maxRecDepth 20000 in
theorem ggX10_take_X5_load : GoodIn wsX10_take wsX5_load := goodIn_r _ [76, 16, 14, 77, 78, 79, 80, 81, 66, 82, 68, 83, 84, 85, 37, 86, 39, 87, 88, 89, 90, 40, 42, 91, 92, 93, 94, 95, 96, 97, 98, 11, 99, 100, 22, 101, 102, 103, 104, 126, 127, 128, 129, 130, 131, 154, 155, 156, 157, 137, 138, 139, 140, 141, 142, 143] (by decide +kernel) (by decide +kernel)
set_option maxRecDepth 20000 in
theorem gX10_take_X5_load : GoodIn wsX10_take (wsV RX10 80 RX5 yX5_load wsX5_load) := goodIn_app (goodIn_of _ (by decide +kernel)) ggX10_take_X5_load
set_option maxRecDepth 20000 in
theorem ggX10_take_X10_settle : GoodIn wsX10_take wsX10_settle := goodIn_r _ [108, 109, 7, 6, 110, 111, 112, 113, 114, 115, 116, 117, 118, 9, 10, 11, 12, 13, 14, 15, 16, 17, 18, 19, 20, 21, 22, 23, 24, 25, 26, 27, 28, 29, 30, 31, 32, 33, 34, 35, 36, 37, 38, 39, 40, 41, 42, 43, 44, 45, 46, 47, 48, 49, 50, 51, 52, 53, 54, 55, 56, 57, 58, 59, 60, 61, 62, 63, 64, 65, 66, 67, 68, 69, 70, 71, 72, 8, 119, 120, 121, 122, 123, 124, 125, 158, 159, 160, 126, 127, 128, 129, 130, 131, 132, 133, 134, 135, 136, 137, 138, 139, 140, 141, 142, 143, 144, 145, 146, 147, 148, 149, 150, 151, 152, 153, 154, 155, 156, 157] (by decide +kernel) (by decide +kernel)
set_option maxRecDepth 20000 in
theorem gX10_take_X10_settle : GoodIn wsX10_take (wsV RX10 51 RX10 yX10_settle wsX10_settle) := goodIn_app (goodIn_of _ (by decide +kernel)) ggX10_take_X10_settle
theorem dX10_take_0 : decode cX10_take 0 = .ok (.aload_n 0, 1) := by decide +kernel
theorem dX10_take_1 : decode cX10_take 1 = .ok (.aload_n 0, 1) := by decide +kernel
theorem dX10_take_2 : decode cX10_take 2 = .ok (.invokevirtual 43, 3) := by decide +kernel
theorem dX10_take_5 : decode cX10_take 5 = .ok (.iload_n 1, 1) := by decide +kernel
theorem dX10_take_6 : decode cX10_take 6 = .ok (.iload_n 2, 1) := by decide +kernel
theorem dX10_take_7 : decode cX10_take 7 = .ok (.invokevirtual 80, 3) := by decide +kernel
theorem dX10_take_10 : decode cX10_take 10 = .ok (.invokevirtual 51, 3) := by decide +kernel
theorem dX10_take_13 : decode cX10_take 13 = .ok (.ireturn, 1) := by decide +kernel
set_option maxRecDepth 20000 in
theorem ggX10_put_X10_freshDraft : GoodIn wsX10_put wsX10_freshDraft := goodIn_r _ [5, 6, 7, 8, 9, 10, 11, 12, 13, 14, 15, 16, 17, 18, 19, 20, 21, 22, 23, 24, 25, 26, 27, 28, 29, 30, 31, 32, 33, 34, 35, 36, 37, 38, 39, 40, 41, 42, 43, 44, 45, 46, 47, 48, 49, 50, 51, 52, 53, 54, 55, 56, 57, 58, 59, 60, 61, 62, 63, 64, 65, 66, 67, 68, 69, 70, 71, 72, 135, 136, 137, 138, 139, 140, 141, 142, 143, 144, 145, 146, 147, 148, 149, 150, 151, 152, 153, 154, 155, 156, 157, 158, 159, 160, 161, 162, 163, 164, 165, 166, 167, 168, 169, 170, 171, 172, 173] (by decide +kernel) (by decide +kernel)
set_option maxRecDepth 20000 in
theorem gX10_put_X10_freshDraft : GoodIn wsX10_put (wsV RX10 43 RX10 yX10_freshDraft wsX10_freshDraft) := goodIn_app (goodIn_of _ (by decide +kernel)) ggX10_put_X10_freshDraft
set_option maxRecDepth 20000 in
theorem ggX10_put_X5_unload : GoodIn wsX10_put wsX5_unload := goodIn_r _ [76, 16, 14, 77, 78, 79, 80, 66, 81, 68, 82, 83, 84, 37, 85, 39, 86, 87, 88, 11, 89, 90, 91, 92, 93, 94, 22, 95, 96, 97, 98, 40, 42, 99, 100, 101, 102, 103, 13, 104, 105, 106, 107, 26, 108, 28, 109, 110, 111, 112, 113, 114, 115, 116, 117, 118, 119, 120, 142, 143, 144, 145, 146, 147, 170, 171, 172, 173, 153, 154, 155, 156, 157, 158, 159, 148, 149, 150, 151, 152] (by decide +kernel) (by decide +kernel)
set_option maxRecDepth 20000 in
theorem gX10_put_X5_unload : GoodIn wsX10_put (wsV RX10 83 RX5 yX5_unload wsX5_unload) := goodIn_app (goodIn_of _ (by decide +kernel)) ggX10_put_X5_unload
set_option maxRecDepth 20000 in
theorem ggX10_put_X10_settle : GoodIn wsX10_put wsX10_settle := goodIn_r _ [124, 125, 7, 6, 126, 127, 128, 129, 130, 131, 132, 133, 134, 9, 10, 11, 12, 13, 14, 15, 16, 17, 18, 19, 20, 21, 22, 23, 24, 25, 26, 27, 28, 29, 30, 31, 32, 33, 34, 35, 36, 37, 38, 39, 40, 41, 42, 43, 44, 45, 46, 47, 48, 49, 50, 51, 52, 53, 54, 55, 56, 57, 58, 59, 60, 61, 62, 63, 64, 65, 66, 67, 68, 69, 70, 71, 72, 8, 135, 136, 137, 138, 139, 140, 141, 174, 175, 176, 142, 143, 144, 145, 146, 147, 148, 149, 150, 151, 152, 153, 154, 155, 156, 157, 158, 159, 160, 161, 162, 163, 164, 165, 166, 167, 168, 169, 170, 171, 172, 173] (by decide +kernel) (by decide +kernel)
set_option maxRecDepth 20000 in
theorem gX10_put_X10_settle : GoodIn wsX10_put (wsV RX10 51 RX10 yX10_settle wsX10_settle) := goodIn_app (goodIn_of _ (by decide +kernel)) ggX10_put_X10_settle
theorem dX10_put_0 : decode cX10_put 0 = .ok (.aload_n 0, 1) := by decide +kernel
theorem dX10_put_1 : decode cX10_put 1 = .ok (.aload_n 0, 1) := by decide +kernel
theorem dX10_put_2 : decode cX10_put 2 = .ok (.invokevirtual 43, 3) := by decide +kernel
theorem dX10_put_5 : decode cX10_put 5 = .ok (.iload_n 1, 1) := by decide +kernel
theorem dX10_put_6 : decode cX10_put 6 = .ok (.iload_n 2, 1) := by decide +kernel
theorem dX10_put_7 : decode cX10_put 7 = .ok (.invokevirtual 83, 3) := by decide +kernel
theorem dX10_put_10 : decode cX10_put 10 = .ok (.invokevirtual 51, 3) := by decide +kernel
theorem dX10_put_13 : decode cX10_put 13 = .ok (.ireturn, 1) := by decide +kernel
set_option maxRecDepth 20000 in
theorem ggX10_go_X10_freshDraft : GoodIn wsX10_go wsX10_freshDraft := goodIn_r _ [5, 6, 7, 8, 9, 10, 11, 12, 13, 14, 15, 16, 17, 18, 19, 20, 21, 22, 23, 24, 25, 26, 27, 28, 29, 30, 31, 32, 33, 34, 35, 36, 37, 38, 39, 40, 41, 42, 43, 44, 45, 46, 47, 48, 49, 50, 51, 52, 53, 54, 55, 56, 57, 58, 59, 60, 61, 62, 63, 64, 65, 66, 67, 68, 69, 70, 71, 72, 114, 115, 116, 117, 118, 119, 120, 121, 122, 123, 124, 125, 126, 127, 128, 129, 130, 131, 132, 133, 134, 135, 136, 137, 138, 139, 140, 141, 142, 143, 144, 145, 146, 147, 148, 149, 150, 151, 152] (by decide +kernel) (by decide +kernel)
set_option maxRecDepth 20000 in
theorem gX10_go_X10_freshDraft : GoodIn wsX10_go (wsV RX10 43 RX10 yX10_freshDraft wsX10_freshDraft) := goodIn_app (goodIn_of _ (by decide +kernel)) ggX10_go_X10_freshDraft
set_option maxRecDepth 20000 in
theorem ggX10_go_X5_sendVan : GoodIn wsX10_go wsX5_sendVan := goodIn_r _ [76, 16, 13, 77, 22, 78, 79, 80, 81, 66, 82, 68, 83, 84, 85, 26, 86, 28, 87, 88, 89, 11, 90, 91, 92, 93, 94, 29, 95, 96, 97, 98, 99, 121, 122, 123, 124, 125, 126, 149, 150, 151, 152, 127, 128, 129, 130, 131] (by decide +kernel) (by decide +kernel)
set_option maxRecDepth 20000 in
theorem gX10_go_X5_sendVan : GoodIn wsX10_go (wsV RX10 86 RX5 yX5_sendVan wsX5_sendVan) := goodIn_app (goodIn_of _ (by decide +kernel)) ggX10_go_X5_sendVan
set_option maxRecDepth 20000 in
theorem ggX10_go_X10_settle : GoodIn wsX10_go wsX10_settle := goodIn_r _ [103, 104, 7, 6, 105, 106, 107, 108, 109, 110, 111, 112, 113, 9, 10, 11, 12, 13, 14, 15, 16, 17, 18, 19, 20, 21, 22, 23, 24, 25, 26, 27, 28, 29, 30, 31, 32, 33, 34, 35, 36, 37, 38, 39, 40, 41, 42, 43, 44, 45, 46, 47, 48, 49, 50, 51, 52, 53, 54, 55, 56, 57, 58, 59, 60, 61, 62, 63, 64, 65, 66, 67, 68, 69, 70, 71, 72, 8, 114, 115, 116, 117, 118, 119, 120, 153, 154, 155, 121, 122, 123, 124, 125, 126, 127, 128, 129, 130, 131, 132, 133, 134, 135, 136, 137, 138, 139, 140, 141, 142, 143, 144, 145, 146, 147, 148, 149, 150, 151, 152] (by decide +kernel) (by decide +kernel)
set_option maxRecDepth 20000 in
theorem gX10_go_X10_settle : GoodIn wsX10_go (wsV RX10 51 RX10 yX10_settle wsX10_settle) := goodIn_app (goodIn_of _ (by decide +kernel)) ggX10_go_X10_settle
theorem dX10_go_0 : decode cX10_go 0 = .ok (.aload_n 0, 1) := by decide +kernel
theorem dX10_go_1 : decode cX10_go 1 = .ok (.aload_n 0, 1) := by decide +kernel
theorem dX10_go_2 : decode cX10_go 2 = .ok (.invokevirtual 43, 3) := by decide +kernel
theorem dX10_go_5 : decode cX10_go 5 = .ok (.iload_n 1, 1) := by decide +kernel
theorem dX10_go_6 : decode cX10_go 6 = .ok (.iload_n 2, 1) := by decide +kernel
theorem dX10_go_7 : decode cX10_go 7 = .ok (.invokevirtual 86, 3) := by decide +kernel
theorem dX10_go_10 : decode cX10_go 10 = .ok (.invokevirtual 51, 3) := by decide +kernel
theorem dX10_go_13 : decode cX10_go 13 = .ok (.ireturn, 1) := by decide +kernel
set_option maxRecDepth 20000 in
theorem ggX10_mend_X10_freshDraft : GoodIn wsX10_mend wsX10_freshDraft := goodIn_r _ [5, 6, 7, 8, 9, 10, 11, 12, 13, 14, 15, 16, 17, 18, 19, 20, 21, 22, 23, 24, 25, 26, 27, 28, 29, 30, 31, 32, 33, 34, 35, 36, 37, 38, 39, 40, 41, 42, 43, 44, 45, 46, 47, 48, 49, 50, 51, 52, 53, 54, 55, 56, 57, 58, 59, 60, 61, 62, 63, 64, 65, 66, 67, 68, 69, 70, 71, 72, 119, 120, 121, 122, 123, 124, 125, 126, 127, 128, 129, 130, 131, 132, 133, 134, 135, 136, 137, 138, 139, 140, 141, 142, 143, 144, 145, 146, 147, 148, 149, 150, 151, 152, 153, 154, 155, 156, 157] (by decide +kernel) (by decide +kernel)
set_option maxRecDepth 20000 in
theorem gX10_mend_X10_freshDraft : GoodIn wsX10_mend (wsV RX10 43 RX10 yX10_freshDraft wsX10_freshDraft) := goodIn_app (goodIn_of _ (by decide +kernel)) ggX10_mend_X10_freshDraft
set_option maxRecDepth 20000 in
theorem ggX10_mend_X5_handOver : GoodIn wsX10_mend wsX5_handOver := goodIn_r _ [76, 16, 14, 77, 78, 22, 17, 79, 80, 81, 66, 82, 68, 83, 84, 85, 37, 86, 39, 87, 88, 89, 11, 90, 91, 92, 93, 94, 95, 96, 97, 98, 99, 40, 42, 100, 101, 102, 103, 104, 126, 127, 128, 129, 130, 131, 154, 155, 156, 157, 137, 138, 139, 140, 141, 142, 143] (by decide +kernel) (by decide +kernel)
set_option maxRecDepth 20000 in
theorem gX10_mend_X5_handOver : GoodIn wsX10_mend (wsV RX10 89 RX5 yX5_handOver wsX5_handOver) := goodIn_app (goodIn_of _ (by decide +kernel)) ggX10_mend_X5_handOver
set_option maxRecDepth 20000 in
theorem ggX10_mend_X10_settle : GoodIn wsX10_mend wsX10_settle := goodIn_r _ [108, 109, 7, 6, 110, 111, 112, 113, 114, 115, 116, 117, 118, 9, 10, 11, 12, 13, 14, 15, 16, 17, 18, 19, 20, 21, 22, 23, 24, 25, 26, 27, 28, 29, 30, 31, 32, 33, 34, 35, 36, 37, 38, 39, 40, 41, 42, 43, 44, 45, 46, 47, 48, 49, 50, 51, 52, 53, 54, 55, 56, 57, 58, 59, 60, 61, 62, 63, 64, 65, 66, 67, 68, 69, 70, 71, 72, 8, 119, 120, 121, 122, 123, 124, 125, 158, 159, 160, 126, 127, 128, 129, 130, 131, 132, 133, 134, 135, 136, 137, 138, 139, 140, 141, 142, 143, 144, 145, 146, 147, 148, 149, 150, 151, 152, 153, 154, 155, 156, 157] (by decide +kernel) (by decide +kernel)
set_option maxRecDepth 20000 in
theorem gX10_mend_X10_settle : GoodIn wsX10_mend (wsV RX10 51 RX10 yX10_settle wsX10_settle) := goodIn_app (goodIn_of _ (by decide +kernel)) ggX10_mend_X10_settle
theorem dX10_mend_0 : decode cX10_mend 0 = .ok (.aload_n 0, 1) := by decide +kernel
theorem dX10_mend_1 : decode cX10_mend 1 = .ok (.aload_n 0, 1) := by decide +kernel
theorem dX10_mend_2 : decode cX10_mend 2 = .ok (.invokevirtual 43, 3) := by decide +kernel
theorem dX10_mend_5 : decode cX10_mend 5 = .ok (.iload_n 1, 1) := by decide +kernel
theorem dX10_mend_6 : decode cX10_mend 6 = .ok (.iload_n 2, 1) := by decide +kernel
theorem dX10_mend_7 : decode cX10_mend 7 = .ok (.invokevirtual 89, 3) := by decide +kernel
theorem dX10_mend_10 : decode cX10_mend 10 = .ok (.invokevirtual 51, 3) := by decide +kernel
theorem dX10_mend_13 : decode cX10_mend 13 = .ok (.ireturn, 1) := by decide +kernel
set_option maxRecDepth 20000 in
theorem ggX10_pause_X10_freshDraft : GoodIn wsX10_pause wsX10_freshDraft := goodIn_r _ [5, 6, 7, 8, 9, 10, 11, 12, 13, 14, 15, 16, 17, 18, 19, 20, 21, 22, 23, 24, 25, 26, 27, 28, 29, 30, 31, 32, 33, 34, 35, 36, 37, 38, 39, 40, 41, 42, 43, 44, 45, 46, 47, 48, 49, 50, 51, 52, 53, 54, 55, 56, 57, 58, 59, 60, 61, 62, 63, 64, 65, 66, 67, 68, 69, 70, 71, 72, 122, 123, 124, 125, 126, 127, 128, 129, 130, 131, 132, 133, 134, 135, 136, 137, 138, 139, 140, 141, 142, 143, 144, 145, 146, 147, 148, 149, 150, 151, 152, 153, 154, 155, 156, 157, 158, 159, 160] (by decide +kernel) (by decide +kernel)
set_option maxRecDepth 20000 in
theorem gX10_pause_X10_freshDraft : GoodIn wsX10_pause (wsV RX10 43 RX10 yX10_freshDraft wsX10_freshDraft) := goodIn_app (goodIn_of _ (by decide +kernel)) ggX10_pause_X10_freshDraft
set_option maxRecDepth 20000 in
theorem ggX10_pause_X5_letGoBy : GoodIn wsX10_pause wsX5_letGoBy := goodIn_r _ [76, 22, 77, 78, 79, 11, 80, 14, 81, 82, 83, 84, 37, 85, 40, 46, 86, 87, 88, 89, 39, 90, 91, 92, 93, 44, 43, 94, 95, 96, 97, 13, 98, 99, 100, 101, 102, 103, 42, 104, 105, 106, 107, 129, 130, 131, 132, 133, 134, 140, 141, 142, 143, 144, 145, 146, 135, 136, 137, 138, 139] (by decide +kernel) (by decide +kernel)
set_option maxRecDepth 20000 in
theorem gX10_pause_X5_letGoBy : GoodIn wsX10_pause (wsV RX10 92 RX5 yX5_letGoBy wsX5_letGoBy) := goodIn_app (goodIn_of _ (by decide +kernel)) ggX10_pause_X5_letGoBy
set_option maxRecDepth 20000 in
theorem ggX10_pause_X10_settle : GoodIn wsX10_pause wsX10_settle := goodIn_r _ [111, 112, 7, 6, 113, 114, 115, 116, 117, 118, 119, 120, 121, 9, 10, 11, 12, 13, 14, 15, 16, 17, 18, 19, 20, 21, 22, 23, 24, 25, 26, 27, 28, 29, 30, 31, 32, 33, 34, 35, 36, 37, 38, 39, 40, 41, 42, 43, 44, 45, 46, 47, 48, 49, 50, 51, 52, 53, 54, 55, 56, 57, 58, 59, 60, 61, 62, 63, 64, 65, 66, 67, 68, 69, 70, 71, 72, 8, 122, 123, 124, 125, 126, 127, 128, 161, 162, 163, 129, 130, 131, 132, 133, 134, 135, 136, 137, 138, 139, 140, 141, 142, 143, 144, 145, 146, 147, 148, 149, 150, 151, 152, 153, 154, 155, 156, 157, 158, 159, 160] (by decide +kernel) (by decide +kernel)
set_option maxRecDepth 20000 in
theorem gX10_pause_X10_settle : GoodIn wsX10_pause (wsV RX10 51 RX10 yX10_settle wsX10_settle) := goodIn_app (goodIn_of _ (by decide +kernel)) ggX10_pause_X10_settle
theorem dX10_pause_0 : decode cX10_pause 0 = .ok (.aload_n 0, 1) := by decide +kernel
theorem dX10_pause_1 : decode cX10_pause 1 = .ok (.aload_n 0, 1) := by decide +kernel
theorem dX10_pause_2 : decode cX10_pause 2 = .ok (.invokevirtual 43, 3) := by decide +kernel
theorem dX10_pause_5 : decode cX10_pause 5 = .ok (.iload_n 1, 1) := by decide +kernel
theorem dX10_pause_6 : decode cX10_pause 6 = .ok (.invokevirtual 92, 3) := by decide +kernel
theorem dX10_pause_9 : decode cX10_pause 9 = .ok (.invokevirtual 51, 3) := by decide +kernel
theorem dX10_pause_12 : decode cX10_pause 12 = .ok (.ireturn, 1) := by decide +kernel
set_option maxRecDepth 20000 in
theorem ggX10_set_X10_freshDraft : GoodIn wsX10_set wsX10_freshDraft := goodIn_r _ [5, 6, 7, 8, 9, 10, 11, 12, 13, 14, 15, 16, 17, 18, 19, 20, 21, 22, 23, 24, 25, 26, 27, 28, 29, 30, 31, 32, 33, 34, 35, 36, 37, 38, 39, 40, 41, 42, 43, 44, 45, 46, 47, 48, 49, 50, 51, 52, 53, 54, 55, 56, 57, 58, 59, 60, 61, 62, 63, 64, 65, 66, 67, 68, 69, 70, 71, 72, 95, 96, 97, 98, 99, 100, 101, 102, 103, 104, 105, 106, 107, 108, 109, 110, 111, 112, 113, 114, 115, 116, 117, 118, 119, 120, 121, 122, 123, 124, 125, 126, 127, 128, 129, 130, 131, 132, 133] (by decide +kernel) (by decide +kernel)
set_option maxRecDepth 20000 in
theorem gX10_set_X10_freshDraft : GoodIn wsX10_set (wsV RX10 43 RX10 yX10_freshDraft wsX10_freshDraft) := goodIn_app (goodIn_of _ (by decide +kernel)) ggX10_set_X10_freshDraft
set_option maxRecDepth 20000 in
theorem ggX10_set_X5_changeSetting : GoodIn wsX10_set wsX5_changeSetting := goodIn_r _ [76, 17, 77, 78, 79, 11, 80, 102, 103, 104, 105, 106, 107] (by decide +kernel) (by decide +kernel)
set_option maxRecDepth 20000 in
theorem gX10_set_X5_changeSetting : GoodIn wsX10_set (wsV RX10 95 RX5 yX5_changeSetting wsX5_changeSetting) := goodIn_app (goodIn_of _ (by decide +kernel)) ggX10_set_X5_changeSetting
set_option maxRecDepth 20000 in
theorem ggX10_set_X10_settle : GoodIn wsX10_set wsX10_settle := goodIn_r _ [84, 85, 7, 6, 86, 87, 88, 89, 90, 91, 92, 93, 94, 9, 10, 11, 12, 13, 14, 15, 16, 17, 18, 19, 20, 21, 22, 23, 24, 25, 26, 27, 28, 29, 30, 31, 32, 33, 34, 35, 36, 37, 38, 39, 40, 41, 42, 43, 44, 45, 46, 47, 48, 49, 50, 51, 52, 53, 54, 55, 56, 57, 58, 59, 60, 61, 62, 63, 64, 65, 66, 67, 68, 69, 70, 71, 72, 8, 95, 96, 97, 98, 99, 100, 101, 134, 135, 136, 102, 103, 104, 105, 106, 107, 108, 109, 110, 111, 112, 113, 114, 115, 116, 117, 118, 119, 120, 121, 122, 123, 124, 125, 126, 127, 128, 129, 130, 131, 132, 133] (by decide +kernel) (by decide +kernel)
set_option maxRecDepth 20000 in
theorem gX10_set_X10_settle : GoodIn wsX10_set (wsV RX10 51 RX10 yX10_settle wsX10_settle) := goodIn_app (goodIn_of _ (by decide +kernel)) ggX10_set_X10_settle
theorem dX10_set_0 : decode cX10_set 0 = .ok (.aload_n 0, 1) := by decide +kernel
theorem dX10_set_1 : decode cX10_set 1 = .ok (.aload_n 0, 1) := by decide +kernel
theorem dX10_set_2 : decode cX10_set 2 = .ok (.invokevirtual 43, 3) := by decide +kernel
theorem dX10_set_5 : decode cX10_set 5 = .ok (.iload_n 1, 1) := by decide +kernel
theorem dX10_set_6 : decode cX10_set 6 = .ok (.iload_n 2, 1) := by decide +kernel
theorem dX10_set_7 : decode cX10_set 7 = .ok (.invokevirtual 95, 3) := by decide +kernel
theorem dX10_set_10 : decode cX10_set 10 = .ok (.invokevirtual 51, 3) := by decide +kernel
theorem dX10_set_13 : decode cX10_set 13 = .ok (.ireturn, 1) := by decide +kernel
set_option maxRecDepth 20000 in
theorem ggX10_stationOf_X6_has : GoodIn wsX10_stationOf wsX6_has := goodIn_r _ [13, 14, 81, 82, 83, 84, 85] (by decide +kernel) (by decide +kernel)
set_option maxRecDepth 20000 in
theorem gX10_stationOf_X6_has : GoodIn wsX10_stationOf (wsV RX10 102 RX6 yX6_has wsX6_has) := goodIn_app (goodIn_of _ (by decide +kernel)) ggX10_stationOf_X6_has
set_option maxRecDepth 20000 in
theorem ggX10_stationOf_X1_setAt : GoodIn wsX10_stationOf wsX1_setAt := goodIn_r _ [19, 20, 21, 22, 86, 87, 88, 89, 90, 91, 92] (by decide +kernel) (by decide +kernel)
set_option maxRecDepth 20000 in
theorem gX10_stationOf_X1_setAt : GoodIn wsX10_stationOf (wsV RX10 121 RX1 yX1_setAt wsX1_setAt) := goodIn_app (goodIn_of _ (by decide +kernel)) ggX10_stationOf_X1_setAt
set_option maxRecDepth 20000 in
theorem ggX10_stationOf_X5_unevenness : GoodIn wsX10_stationOf wsX5_unevenness := goodIn_r _ [27, 28, 29, 30, 31, 32, 33, 34, 10, 11, 12, 13, 14, 35, 36, 37, 26, 38, 39, 40, 41, 42, 18, 43, 20, 21, 22, 75, 76, 77, 78, 79, 80, 81, 82, 83, 84, 85, 86, 87, 88, 89, 90, 91, 92] (by decide +kernel) (by decide +kernel)
set_option maxRecDepth 20000 in
theorem gX10_stationOf_X5_unevenness : GoodIn wsX10_stationOf (wsV RX10 124 RX5 yX5_unevenness wsX5_unevenness) := goodIn_app (goodIn_of _ (by decide +kernel)) ggX10_stationOf_X5_unevenness
set_option maxRecDepth 20000 in
theorem ggX10_stationOf_X2_aim : GoodIn wsX10_stationOf wsX2_aim := goodIn_r _ [48, 49, 50, 51, 52, 53, 47, 54, 55, 56, 57, 58, 59, 60, 12, 61, 14, 62, 63, 64, 65, 18, 66, 20, 21, 67, 10, 11, 13, 75, 76, 77, 78, 79, 80, 93, 94, 95, 96, 97, 98, 81, 82, 83, 84, 85, 86, 87, 88, 89, 90, 91, 92] (by decide +kernel) (by decide +kernel)
set_option maxRecDepth 20000 in
theorem gX10_stationOf_X2_aim : GoodIn wsX10_stationOf (wsV RX10 127 RX2 yX2_aim wsX2_aim) := goodIn_app (goodIn_of _ (by decide +kernel)) ggX10_stationOf_X2_aim
theorem dX10_stationOf_0 : decode cX10_stationOf 0 = .ok (.aload_n 0, 1) := by decide +kernel
theorem dX10_stationOf_1 : decode cX10_stationOf 1 = .ok (.getfield 10, 3) := by decide +kernel
theorem dX10_stationOf_4 : decode cX10_stationOf 4 = .ok (.getfield 98, 3) := by decide +kernel
theorem dX10_stationOf_7 : decode cX10_stationOf 7 = .ok (.iload_n 1, 1) := by decide +kernel
theorem dX10_stationOf_8 : decode cX10_stationOf 8 = .ok (.invokevirtual 102, 3) := by decide +kernel
theorem dX10_stationOf_11 : decode cX10_stationOf 11 = .ok (.ifCond .ne 5, 3) := by decide +kernel
theorem dX10_stationOf_14 : decode cX10_stationOf 14 = .ok (.iconst (-1), 1) := by decide +kernel
theorem dX10_stationOf_15 : decode cX10_stationOf 15 = .ok (.ireturn, 1) := by decide +kernel
theorem dX10_stationOf_16 : decode cX10_stationOf 16 = .ok (.iload_n 2, 1) := by decide +kernel
theorem dX10_stationOf_17 : decode cX10_stationOf 17 = .ok (.tableswitch 130 0 6 #[43, 56, 69, 82, 91, 104, 117], 43) := by decide +kernel
theorem dX10_stationOf_60 : decode cX10_stationOf 60 = .ok (.aload_n 0, 1) := by decide +kernel
theorem dX10_stationOf_61 : decode cX10_stationOf 61 = .ok (.getfield 10, 3) := by decide +kernel
theorem dX10_stationOf_64 : decode cX10_stationOf 64 = .ok (.getfield 98, 3) := by decide +kernel
theorem dX10_stationOf_67 : decode cX10_stationOf 67 = .ok (.getfield 108, 3) := by decide +kernel
theorem dX10_stationOf_70 : decode cX10_stationOf 70 = .ok (.iload_n 1, 1) := by decide +kernel
theorem dX10_stationOf_71 : decode cX10_stationOf 71 = .ok (.iaload, 1) := by decide +kernel
theorem dX10_stationOf_72 : decode cX10_stationOf 72 = .ok (.ireturn, 1) := by decide +kernel
theorem dX10_stationOf_73 : decode cX10_stationOf 73 = .ok (.aload_n 0, 1) := by decide +kernel
theorem dX10_stationOf_74 : decode cX10_stationOf 74 = .ok (.getfield 10, 3) := by decide +kernel
theorem dX10_stationOf_77 : decode cX10_stationOf 77 = .ok (.getfield 98, 3) := by decide +kernel
theorem dX10_stationOf_80 : decode cX10_stationOf 80 = .ok (.getfield 112, 3) := by decide +kernel
theorem dX10_stationOf_83 : decode cX10_stationOf 83 = .ok (.iload_n 1, 1) := by decide +kernel
theorem dX10_stationOf_84 : decode cX10_stationOf 84 = .ok (.iaload, 1) := by decide +kernel
theorem dX10_stationOf_85 : decode cX10_stationOf 85 = .ok (.ireturn, 1) := by decide +kernel
theorem dX10_stationOf_86 : decode cX10_stationOf 86 = .ok (.aload_n 0, 1) := by decide +kernel
theorem dX10_stationOf_87 : decode cX10_stationOf 87 = .ok (.getfield 10, 3) := by decide +kernel
theorem dX10_stationOf_90 : decode cX10_stationOf 90 = .ok (.getfield 115, 3) := by decide +kernel
theorem dX10_stationOf_93 : decode cX10_stationOf 93 = .ok (.iconst 0, 1) := by decide +kernel
theorem dX10_stationOf_94 : decode cX10_stationOf 94 = .ok (.iload_n 1, 1) := by decide +kernel
theorem dX10_stationOf_95 : decode cX10_stationOf 95 = .ok (.invokevirtual 121, 3) := by decide +kernel
theorem dX10_stationOf_98 : decode cX10_stationOf 98 = .ok (.ireturn, 1) := by decide +kernel
theorem dX10_stationOf_99 : decode cX10_stationOf 99 = .ok (.aload_n 0, 1) := by decide +kernel
theorem dX10_stationOf_100 : decode cX10_stationOf 100 = .ok (.getfield 10, 3) := by decide +kernel
theorem dX10_stationOf_103 : decode cX10_stationOf 103 = .ok (.iload_n 1, 1) := by decide +kernel
theorem dX10_stationOf_104 : decode cX10_stationOf 104 = .ok (.invokevirtual 124, 3) := by decide +kernel
theorem dX10_stationOf_107 : decode cX10_stationOf 107 = .ok (.ireturn, 1) := by decide +kernel
theorem dX10_stationOf_108 : decode cX10_stationOf 108 = .ok (.aload_n 0, 1) := by decide +kernel
theorem dX10_stationOf_109 : decode cX10_stationOf 109 = .ok (.getfield 32, 3) := by decide +kernel
theorem dX10_stationOf_112 : decode cX10_stationOf 112 = .ok (.aload_n 0, 1) := by decide +kernel
theorem dX10_stationOf_113 : decode cX10_stationOf 113 = .ok (.getfield 10, 3) := by decide +kernel
theorem dX10_stationOf_116 : decode cX10_stationOf 116 = .ok (.iload_n 1, 1) := by decide +kernel
theorem dX10_stationOf_117 : decode cX10_stationOf 117 = .ok (.invokevirtual 127, 3) := by decide +kernel
theorem dX10_stationOf_120 : decode cX10_stationOf 120 = .ok (.ireturn, 1) := by decide +kernel
theorem dX10_stationOf_121 : decode cX10_stationOf 121 = .ok (.aload_n 0, 1) := by decide +kernel
theorem dX10_stationOf_122 : decode cX10_stationOf 122 = .ok (.getfield 10, 3) := by decide +kernel
theorem dX10_stationOf_125 : decode cX10_stationOf 125 = .ok (.getfield 98, 3) := by decide +kernel
theorem dX10_stationOf_128 : decode cX10_stationOf 128 = .ok (.getfield 131, 3) := by decide +kernel
theorem dX10_stationOf_131 : decode cX10_stationOf 131 = .ok (.iload_n 1, 1) := by decide +kernel
theorem dX10_stationOf_132 : decode cX10_stationOf 132 = .ok (.iaload, 1) := by decide +kernel
theorem dX10_stationOf_133 : decode cX10_stationOf 133 = .ok (.ireturn, 1) := by decide +kernel
theorem dX10_stationOf_134 : decode cX10_stationOf 134 = .ok (.aload_n 0, 1) := by decide +kernel
theorem dX10_stationOf_135 : decode cX10_stationOf 135 = .ok (.getfield 10, 3) := by decide +kernel
theorem dX10_stationOf_138 : decode cX10_stationOf 138 = .ok (.getfield 98, 3) := by decide +kernel
theorem dX10_stationOf_141 : decode cX10_stationOf 141 = .ok (.getfield 134, 3) := by decide +kernel
theorem dX10_stationOf_144 : decode cX10_stationOf 144 = .ok (.iload_n 1, 1) := by decide +kernel
theorem dX10_stationOf_145 : decode cX10_stationOf 145 = .ok (.iaload, 1) := by decide +kernel
theorem dX10_stationOf_146 : decode cX10_stationOf 146 = .ok (.ireturn, 1) := by decide +kernel
theorem dX10_stationOf_147 : decode cX10_stationOf 147 = .ok (.iconst (-1), 1) := by decide +kernel
theorem dX10_stationOf_148 : decode cX10_stationOf 148 = .ok (.ireturn, 1) := by decide +kernel
set_option maxRecDepth 20000 in
theorem ggX10_bicycleOf_X1_has : GoodIn wsX10_bicycleOf wsX1_has := goodIn_r _ [11, 12, 33, 34, 35, 36, 37, 38, 39] (by decide +kernel) (by decide +kernel)
set_option maxRecDepth 20000 in
theorem gX10_bicycleOf_X1_has : GoodIn wsX10_bicycleOf (wsV RX10 137 RX1 yX1_has wsX1_has) := goodIn_app (goodIn_of _ (by decide +kernel)) ggX10_bicycleOf_X1_has
set_option maxRecDepth 20000 in
theorem ggX10_bicycleOf_X1_holderOrNotFound : GoodIn wsX10_bicycleOf wsX1_holderOrNotFound := goodIn_r _ [16, 17, 18, 19, 8, 9, 10, 11, 12, 33, 34, 35, 36, 37, 38, 39] (by decide +kernel) (by decide +kernel)
set_option maxRecDepth 20000 in
theorem gX10_bicycleOf_X1_holderOrNotFound : GoodIn wsX10_bicycleOf (wsV RX10 141 RX1 yX1_holderOrNotFound wsX1_holderOrNotFound) := goodIn_app (goodIn_of _ (by decide +kernel)) ggX10_bicycleOf_X1_holderOrNotFound
theorem dX10_bicycleOf_0 : decode cX10_bicycleOf 0 = .ok (.aload_n 0, 1) := by decide +kernel
theorem dX10_bicycleOf_1 : decode cX10_bicycleOf 1 = .ok (.getfield 10, 3) := by decide +kernel
theorem dX10_bicycleOf_4 : decode cX10_bicycleOf 4 = .ok (.getfield 115, 3) := by decide +kernel
theorem dX10_bicycleOf_7 : decode cX10_bicycleOf 7 = .ok (.iload_n 1, 1) := by decide +kernel
theorem dX10_bicycleOf_8 : decode cX10_bicycleOf 8 = .ok (.invokevirtual 137, 3) := by decide +kernel
theorem dX10_bicycleOf_11 : decode cX10_bicycleOf 11 = .ok (.ifCond .ne 5, 3) := by decide +kernel
theorem dX10_bicycleOf_14 : decode cX10_bicycleOf 14 = .ok (.iconst (-1), 1) := by decide +kernel
theorem dX10_bicycleOf_15 : decode cX10_bicycleOf 15 = .ok (.ireturn, 1) := by decide +kernel
theorem dX10_bicycleOf_16 : decode cX10_bicycleOf 16 = .ok (.iload_n 2, 1) := by decide +kernel
theorem dX10_bicycleOf_17 : decode cX10_bicycleOf 17 = .ok (.tableswitch 99 0 4 #[35, 48, 60, 73, 86], 35) := by decide +kernel
theorem dX10_bicycleOf_52 : decode cX10_bicycleOf 52 = .ok (.aload_n 0, 1) := by decide +kernel
theorem dX10_bicycleOf_53 : decode cX10_bicycleOf 53 = .ok (.getfield 10, 3) := by decide +kernel
theorem dX10_bicycleOf_56 : decode cX10_bicycleOf 56 = .ok (.getfield 115, 3) := by decide +kernel
theorem dX10_bicycleOf_59 : decode cX10_bicycleOf 59 = .ok (.getfield 138, 3) := by decide +kernel
theorem dX10_bicycleOf_62 : decode cX10_bicycleOf 62 = .ok (.iload_n 1, 1) := by decide +kernel
theorem dX10_bicycleOf_63 : decode cX10_bicycleOf 63 = .ok (.iaload, 1) := by decide +kernel
theorem dX10_bicycleOf_64 : decode cX10_bicycleOf 64 = .ok (.ireturn, 1) := by decide +kernel
theorem dX10_bicycleOf_65 : decode cX10_bicycleOf 65 = .ok (.aload_n 0, 1) := by decide +kernel
theorem dX10_bicycleOf_66 : decode cX10_bicycleOf 66 = .ok (.getfield 10, 3) := by decide +kernel
theorem dX10_bicycleOf_69 : decode cX10_bicycleOf 69 = .ok (.getfield 115, 3) := by decide +kernel
theorem dX10_bicycleOf_72 : decode cX10_bicycleOf 72 = .ok (.iload_n 1, 1) := by decide +kernel
theorem dX10_bicycleOf_73 : decode cX10_bicycleOf 73 = .ok (.invokevirtual 141, 3) := by decide +kernel
theorem dX10_bicycleOf_76 : decode cX10_bicycleOf 76 = .ok (.ireturn, 1) := by decide +kernel
theorem dX10_bicycleOf_77 : decode cX10_bicycleOf 77 = .ok (.aload_n 0, 1) := by decide +kernel
theorem dX10_bicycleOf_78 : decode cX10_bicycleOf 78 = .ok (.getfield 10, 3) := by decide +kernel
theorem dX10_bicycleOf_81 : decode cX10_bicycleOf 81 = .ok (.getfield 115, 3) := by decide +kernel
theorem dX10_bicycleOf_84 : decode cX10_bicycleOf 84 = .ok (.getfield 144, 3) := by decide +kernel
theorem dX10_bicycleOf_87 : decode cX10_bicycleOf 87 = .ok (.iload_n 1, 1) := by decide +kernel
theorem dX10_bicycleOf_88 : decode cX10_bicycleOf 88 = .ok (.iaload, 1) := by decide +kernel
theorem dX10_bicycleOf_89 : decode cX10_bicycleOf 89 = .ok (.ireturn, 1) := by decide +kernel
theorem dX10_bicycleOf_90 : decode cX10_bicycleOf 90 = .ok (.aload_n 0, 1) := by decide +kernel
theorem dX10_bicycleOf_91 : decode cX10_bicycleOf 91 = .ok (.getfield 10, 3) := by decide +kernel
theorem dX10_bicycleOf_94 : decode cX10_bicycleOf 94 = .ok (.getfield 115, 3) := by decide +kernel
theorem dX10_bicycleOf_97 : decode cX10_bicycleOf 97 = .ok (.getfield 147, 3) := by decide +kernel
theorem dX10_bicycleOf_100 : decode cX10_bicycleOf 100 = .ok (.iload_n 1, 1) := by decide +kernel
theorem dX10_bicycleOf_101 : decode cX10_bicycleOf 101 = .ok (.iaload, 1) := by decide +kernel
theorem dX10_bicycleOf_102 : decode cX10_bicycleOf 102 = .ok (.ireturn, 1) := by decide +kernel
theorem dX10_bicycleOf_103 : decode cX10_bicycleOf 103 = .ok (.aload_n 0, 1) := by decide +kernel
theorem dX10_bicycleOf_104 : decode cX10_bicycleOf 104 = .ok (.getfield 10, 3) := by decide +kernel
theorem dX10_bicycleOf_107 : decode cX10_bicycleOf 107 = .ok (.getfield 115, 3) := by decide +kernel
theorem dX10_bicycleOf_110 : decode cX10_bicycleOf 110 = .ok (.getfield 150, 3) := by decide +kernel
theorem dX10_bicycleOf_113 : decode cX10_bicycleOf 113 = .ok (.iload_n 1, 1) := by decide +kernel
theorem dX10_bicycleOf_114 : decode cX10_bicycleOf 114 = .ok (.iaload, 1) := by decide +kernel
theorem dX10_bicycleOf_115 : decode cX10_bicycleOf 115 = .ok (.ireturn, 1) := by decide +kernel
theorem dX10_bicycleOf_116 : decode cX10_bicycleOf 116 = .ok (.iconst (-1), 1) := by decide +kernel
theorem dX10_bicycleOf_117 : decode cX10_bicycleOf 117 = .ok (.ireturn, 1) := by decide +kernel
set_option maxRecDepth 20000 in
theorem ggX10_riderOf_X4_has : GoodIn wsX10_riderOf wsX4_has := goodIn_r _ [16, 17, 58, 59, 60, 61, 62, 63, 64, 65, 66, 67] (by decide +kernel) (by decide +kernel)
set_option maxRecDepth 20000 in
theorem gX10_riderOf_X4_has : GoodIn wsX10_riderOf (wsV RX10 157 RX4 yX4_has wsX4_has) := goodIn_app (goodIn_of _ (by decide +kernel)) ggX10_riderOf_X4_has
set_option maxRecDepth 20000 in
theorem ggX10_riderOf_X4_hasRide : GoodIn wsX10_riderOf wsX4_hasRide := goodIn_r _ [21, 22, 23, 13, 14, 15, 16, 17, 58, 59, 60, 61, 62, 63, 64, 65, 66, 67] (by decide +kernel) (by decide +kernel)
set_option maxRecDepth 20000 in
theorem gX10_riderOf_X4_hasRide : GoodIn wsX10_riderOf (wsV RX10 160 RX4 yX4_hasRide wsX4_hasRide) := goodIn_app (goodIn_of _ (by decide +kernel)) ggX10_riderOf_X4_hasRide
set_option maxRecDepth 20000 in
theorem ggX10_riderOf_X10_rideOf : GoodIn wsX10_riderOf wsX10_rideOf := goodIn_r _ [28, 1, 2, 29, 5, 30, 31, 32, 33, 15, 34, 35, 23, 13, 14, 16, 17, 36, 37, 38, 39, 40, 41, 7, 8, 9, 42, 43, 19, 20, 21, 22, 44, 45, 46, 47, 48, 49, 50, 51, 52, 53, 54, 55, 56, 57, 58, 59, 60, 61, 62, 63, 64, 65, 66, 67] (by decide +kernel) (by decide +kernel)
set_option maxRecDepth 20000 in
theorem gX10_riderOf_X10_rideOf : GoodIn wsX10_riderOf (wsV RX10 163 RX10 yX10_rideOf wsX10_rideOf) := goodIn_app (goodIn_of _ (by decide +kernel)) ggX10_riderOf_X10_rideOf
theorem dX10_riderOf_0 : decode cX10_riderOf 0 = .ok (.aload_n 0, 1) := by decide +kernel
theorem dX10_riderOf_1 : decode cX10_riderOf 1 = .ok (.getfield 10, 3) := by decide +kernel
theorem dX10_riderOf_4 : decode cX10_riderOf 4 = .ok (.getfield 153, 3) := by decide +kernel
theorem dX10_riderOf_7 : decode cX10_riderOf 7 = .ok (.iload_n 1, 1) := by decide +kernel
theorem dX10_riderOf_8 : decode cX10_riderOf 8 = .ok (.invokevirtual 157, 3) := by decide +kernel
theorem dX10_riderOf_11 : decode cX10_riderOf 11 = .ok (.ifCond .eq 13, 3) := by decide +kernel
theorem dX10_riderOf_14 : decode cX10_riderOf 14 = .ok (.iload_n 2, 1) := by decide +kernel
theorem dX10_riderOf_15 : decode cX10_riderOf 15 = .ok (.ifCond .lt 9, 3) := by decide +kernel
theorem dX10_riderOf_18 : decode cX10_riderOf 18 = .ok (.iload_n 2, 1) := by decide +kernel
theorem dX10_riderOf_19 : decode cX10_riderOf 19 = .ok (.bipush 7, 2) := by decide +kernel
theorem dX10_riderOf_21 : decode cX10_riderOf 21 = .ok (.if_icmp .le 5, 3) := by decide +kernel
theorem dX10_riderOf_24 : decode cX10_riderOf 24 = .ok (.iconst (-1), 1) := by decide +kernel
theorem dX10_riderOf_25 : decode cX10_riderOf 25 = .ok (.ireturn, 1) := by decide +kernel
theorem dX10_riderOf_26 : decode cX10_riderOf 26 = .ok (.iload_n 2, 1) := by decide +kernel
theorem dX10_riderOf_27 : decode cX10_riderOf 27 = .ok (.iconst 2, 1) := by decide +kernel
theorem dX10_riderOf_28 : decode cX10_riderOf 28 = .ok (.if_icmp .lt 34, 3) := by decide +kernel
theorem dX10_riderOf_31 : decode cX10_riderOf 31 = .ok (.iload_n 2, 1) := by decide +kernel
theorem dX10_riderOf_32 : decode cX10_riderOf 32 = .ok (.iconst 5, 1) := by decide +kernel
theorem dX10_riderOf_33 : decode cX10_riderOf 33 = .ok (.if_icmp .gt 29, 3) := by decide +kernel
theorem dX10_riderOf_36 : decode cX10_riderOf 36 = .ok (.aload_n 0, 1) := by decide +kernel
theorem dX10_riderOf_37 : decode cX10_riderOf 37 = .ok (.getfield 10, 3) := by decide +kernel
theorem dX10_riderOf_40 : decode cX10_riderOf 40 = .ok (.getfield 153, 3) := by decide +kernel
theorem dX10_riderOf_43 : decode cX10_riderOf 43 = .ok (.iload_n 1, 1) := by decide +kernel
theorem dX10_riderOf_44 : decode cX10_riderOf 44 = .ok (.invokevirtual 160, 3) := by decide +kernel
theorem dX10_riderOf_47 : decode cX10_riderOf 47 = .ok (.ifCond .eq 12, 3) := by decide +kernel
theorem dX10_riderOf_50 : decode cX10_riderOf 50 = .ok (.aload_n 0, 1) := by decide +kernel
theorem dX10_riderOf_51 : decode cX10_riderOf 51 = .ok (.iload_n 1, 1) := by decide +kernel
theorem dX10_riderOf_52 : decode cX10_riderOf 52 = .ok (.iload_n 2, 1) := by decide +kernel
theorem dX10_riderOf_53 : decode cX10_riderOf 53 = .ok (.invokevirtual 163, 3) := by decide +kernel
theorem dX10_riderOf_56 : decode cX10_riderOf 56 = .ok (.goto 5, 3) := by decide +kernel
theorem dX10_riderOf_59 : decode cX10_riderOf 59 = .ok (.bipush (-4), 2) := by decide +kernel
theorem dX10_riderOf_61 : decode cX10_riderOf 61 = .ok (.ireturn, 1) := by decide +kernel
theorem dX10_riderOf_62 : decode cX10_riderOf 62 = .ok (.iload_n 2, 1) := by decide +kernel
theorem dX10_riderOf_63 : decode cX10_riderOf 63 = .ok (.lookupswitch 84 #[(0, 33), (1, 46), (6, 71)], 33) := by decide +kernel
theorem dX10_riderOf_96 : decode cX10_riderOf 96 = .ok (.aload_n 0, 1) := by decide +kernel
theorem dX10_riderOf_97 : decode cX10_riderOf 97 = .ok (.getfield 10, 3) := by decide +kernel
theorem dX10_riderOf_100 : decode cX10_riderOf 100 = .ok (.getfield 153, 3) := by decide +kernel
theorem dX10_riderOf_103 : decode cX10_riderOf 103 = .ok (.getfield 166, 3) := by decide +kernel
theorem dX10_riderOf_106 : decode cX10_riderOf 106 = .ok (.iload_n 1, 1) := by decide +kernel
theorem dX10_riderOf_107 : decode cX10_riderOf 107 = .ok (.iaload, 1) := by decide +kernel
theorem dX10_riderOf_108 : decode cX10_riderOf 108 = .ok (.ireturn, 1) := by decide +kernel
theorem dX10_riderOf_109 : decode cX10_riderOf 109 = .ok (.iconst 0, 1) := by decide +kernel
theorem dX10_riderOf_110 : decode cX10_riderOf 110 = .ok (.aload_n 0, 1) := by decide +kernel
theorem dX10_riderOf_111 : decode cX10_riderOf 111 = .ok (.getfield 10, 3) := by decide +kernel
theorem dX10_riderOf_114 : decode cX10_riderOf 114 = .ok (.getfield 153, 3) := by decide +kernel
theorem dX10_riderOf_117 : decode cX10_riderOf 117 = .ok (.getfield 169, 3) := by decide +kernel
theorem dX10_riderOf_120 : decode cX10_riderOf 120 = .ok (.iload_n 1, 1) := by decide +kernel
theorem dX10_riderOf_121 : decode cX10_riderOf 121 = .ok (.iaload, 1) := by decide +kernel
theorem dX10_riderOf_122 : decode cX10_riderOf 122 = .ok (.aload_n 0, 1) := by decide +kernel
theorem dX10_riderOf_123 : decode cX10_riderOf 123 = .ok (.getfield 10, 3) := by decide +kernel
theorem dX10_riderOf_126 : decode cX10_riderOf 126 = .ok (.getfield 172, 3) := by decide +kernel
theorem dX10_riderOf_129 : decode cX10_riderOf 129 = .ok (.isub, 1) := by decide +kernel
theorem dX10_riderOf_130 : decode cX10_riderOf 130 = .ok (.invokestatic 176, 3) := by decide +kernel
theorem dX10_riderOf_133 : decode cX10_riderOf 133 = .ok (.ireturn, 1) := by decide +kernel
theorem dX10_riderOf_134 : decode cX10_riderOf 134 = .ok (.aload_n 0, 1) := by decide +kernel
theorem dX10_riderOf_135 : decode cX10_riderOf 135 = .ok (.getfield 10, 3) := by decide +kernel
theorem dX10_riderOf_138 : decode cX10_riderOf 138 = .ok (.getfield 153, 3) := by decide +kernel
theorem dX10_riderOf_141 : decode cX10_riderOf 141 = .ok (.getfield 181, 3) := by decide +kernel
theorem dX10_riderOf_144 : decode cX10_riderOf 144 = .ok (.iload_n 1, 1) := by decide +kernel
theorem dX10_riderOf_145 : decode cX10_riderOf 145 = .ok (.iaload, 1) := by decide +kernel
theorem dX10_riderOf_146 : decode cX10_riderOf 146 = .ok (.ireturn, 1) := by decide +kernel
theorem dX10_riderOf_147 : decode cX10_riderOf 147 = .ok (.aload_n 0, 1) := by decide +kernel
theorem dX10_riderOf_148 : decode cX10_riderOf 148 = .ok (.getfield 10, 3) := by decide +kernel
theorem dX10_riderOf_151 : decode cX10_riderOf 151 = .ok (.getfield 153, 3) := by decide +kernel
theorem dX10_riderOf_154 : decode cX10_riderOf 154 = .ok (.getfield 182, 3) := by decide +kernel
theorem dX10_riderOf_157 : decode cX10_riderOf 157 = .ok (.iload_n 1, 1) := by decide +kernel
theorem dX10_riderOf_158 : decode cX10_riderOf 158 = .ok (.iaload, 1) := by decide +kernel
theorem dX10_riderOf_159 : decode cX10_riderOf 159 = .ok (.ireturn, 1) := by decide +kernel
set_option maxRecDepth 20000 in
theorem ggX10_vanOf_X8_has : GoodIn wsX10_vanOf wsX8_has := goodIn_r _ [11, 12, 44, 45, 46, 47] (by decide +kernel) (by decide +kernel)
set_option maxRecDepth 20000 in
theorem gX10_vanOf_X8_has : GoodIn wsX10_vanOf (wsV RX10 189 RX8 yX8_has wsX8_has) := goodIn_app (goodIn_of _ (by decide +kernel)) ggX10_vanOf_X8_has
set_option maxRecDepth 20000 in
theorem ggX10_vanOf_X1_setAt : GoodIn wsX10_vanOf wsX1_setAt := goodIn_r _ [17, 18, 19, 20, 48, 49, 50, 51, 52, 53, 54] (by decide +kernel) (by decide +kernel)
set_option maxRecDepth 20000 in
theorem gX10_vanOf_X1_setAt : GoodIn wsX10_vanOf (wsV RX10 121 RX1 yX1_setAt wsX1_setAt) := goodIn_app (goodIn_of _ (by decide +kernel)) ggX10_vanOf_X1_setAt
set_option maxRecDepth 20000 in
theorem ggX10_vanOf_X8_minutesLeft : GoodIn wsX10_vanOf wsX8_minutesLeft := goodIn_r _ [24, 25, 26, 27, 28, 29, 30, 8, 9, 10, 11, 12, 44, 45, 46, 47] (by decide +kernel) (by decide +kernel)
set_option maxRecDepth 20000 in
theorem gX10_vanOf_X8_minutesLeft : GoodIn wsX10_vanOf (wsV RX10 198 RX8 yX8_minutesLeft wsX8_minutesLeft) := goodIn_app (goodIn_of _ (by decide +kernel)) ggX10_vanOf_X8_minutesLeft
theorem dX10_vanOf_0 : decode cX10_vanOf 0 = .ok (.aload_n 0, 1) := by decide +kernel
theorem dX10_vanOf_1 : decode cX10_vanOf 1 = .ok (.getfield 10, 3) := by decide +kernel
theorem dX10_vanOf_4 : decode cX10_vanOf 4 = .ok (.getfield 185, 3) := by decide +kernel
theorem dX10_vanOf_7 : decode cX10_vanOf 7 = .ok (.iload_n 1, 1) := by decide +kernel
theorem dX10_vanOf_8 : decode cX10_vanOf 8 = .ok (.invokevirtual 189, 3) := by decide +kernel
theorem dX10_vanOf_11 : decode cX10_vanOf 11 = .ok (.ifCond .ne 5, 3) := by decide +kernel
theorem dX10_vanOf_14 : decode cX10_vanOf 14 = .ok (.iconst (-1), 1) := by decide +kernel
theorem dX10_vanOf_15 : decode cX10_vanOf 15 = .ok (.ireturn, 1) := by decide +kernel
theorem dX10_vanOf_16 : decode cX10_vanOf 16 = .ok (.iload_n 2, 1) := by decide +kernel
theorem dX10_vanOf_17 : decode cX10_vanOf 17 = .ok (.tableswitch 89 0 3 #[31, 44, 57, 70], 31) := by decide +kernel
theorem dX10_vanOf_48 : decode cX10_vanOf 48 = .ok (.aload_n 0, 1) := by decide +kernel
theorem dX10_vanOf_49 : decode cX10_vanOf 49 = .ok (.getfield 10, 3) := by decide +kernel
theorem dX10_vanOf_52 : decode cX10_vanOf 52 = .ok (.getfield 185, 3) := by decide +kernel
theorem dX10_vanOf_55 : decode cX10_vanOf 55 = .ok (.getfield 192, 3) := by decide +kernel
theorem dX10_vanOf_58 : decode cX10_vanOf 58 = .ok (.iload_n 1, 1) := by decide +kernel
theorem dX10_vanOf_59 : decode cX10_vanOf 59 = .ok (.iaload, 1) := by decide +kernel
theorem dX10_vanOf_60 : decode cX10_vanOf 60 = .ok (.ireturn, 1) := by decide +kernel
theorem dX10_vanOf_61 : decode cX10_vanOf 61 = .ok (.aload_n 0, 1) := by decide +kernel
theorem dX10_vanOf_62 : decode cX10_vanOf 62 = .ok (.getfield 10, 3) := by decide +kernel
theorem dX10_vanOf_65 : decode cX10_vanOf 65 = .ok (.getfield 185, 3) := by decide +kernel
theorem dX10_vanOf_68 : decode cX10_vanOf 68 = .ok (.getfield 195, 3) := by decide +kernel
theorem dX10_vanOf_71 : decode cX10_vanOf 71 = .ok (.iload_n 1, 1) := by decide +kernel
theorem dX10_vanOf_72 : decode cX10_vanOf 72 = .ok (.iaload, 1) := by decide +kernel
theorem dX10_vanOf_73 : decode cX10_vanOf 73 = .ok (.ireturn, 1) := by decide +kernel
theorem dX10_vanOf_74 : decode cX10_vanOf 74 = .ok (.aload_n 0, 1) := by decide +kernel
theorem dX10_vanOf_75 : decode cX10_vanOf 75 = .ok (.getfield 10, 3) := by decide +kernel
theorem dX10_vanOf_78 : decode cX10_vanOf 78 = .ok (.getfield 115, 3) := by decide +kernel
theorem dX10_vanOf_81 : decode cX10_vanOf 81 = .ok (.iconst 2, 1) := by decide +kernel
theorem dX10_vanOf_82 : decode cX10_vanOf 82 = .ok (.iload_n 1, 1) := by decide +kernel
theorem dX10_vanOf_83 : decode cX10_vanOf 83 = .ok (.invokevirtual 121, 3) := by decide +kernel
theorem dX10_vanOf_86 : decode cX10_vanOf 86 = .ok (.ireturn, 1) := by decide +kernel
theorem dX10_vanOf_87 : decode cX10_vanOf 87 = .ok (.aload_n 0, 1) := by decide +kernel
theorem dX10_vanOf_88 : decode cX10_vanOf 88 = .ok (.getfield 10, 3) := by decide +kernel
theorem dX10_vanOf_91 : decode cX10_vanOf 91 = .ok (.getfield 185, 3) := by decide +kernel
theorem dX10_vanOf_94 : decode cX10_vanOf 94 = .ok (.iload_n 1, 1) := by decide +kernel
theorem dX10_vanOf_95 : decode cX10_vanOf 95 = .ok (.aload_n 0, 1) := by decide +kernel
theorem dX10_vanOf_96 : decode cX10_vanOf 96 = .ok (.getfield 10, 3) := by decide +kernel
theorem dX10_vanOf_99 : decode cX10_vanOf 99 = .ok (.getfield 172, 3) := by decide +kernel
theorem dX10_vanOf_102 : decode cX10_vanOf 102 = .ok (.invokevirtual 198, 3) := by decide +kernel
theorem dX10_vanOf_105 : decode cX10_vanOf 105 = .ok (.ireturn, 1) := by decide +kernel
theorem dX10_vanOf_106 : decode cX10_vanOf 106 = .ok (.iconst (-1), 1) := by decide +kernel
theorem dX10_vanOf_107 : decode cX10_vanOf 107 = .ok (.ireturn, 1) := by decide +kernel
set_option maxRecDepth 20000 in
theorem ggX10_count_X5_isSetting : GoodIn wsX10_count wsX5_isSetting := goodIn_r _ [21] (by decide +kernel) (by decide +kernel)
set_option maxRecDepth 20000 in
theorem gX10_count_X5_isSetting : GoodIn wsX10_count (wsV RX10 201 RX5 yX5_isSetting wsX5_isSetting) := goodIn_app (goodIn_of _ (by decide +kernel)) ggX10_count_X5_isSetting
set_option maxRecDepth 20000 in
theorem ggX10_count_X1_countWhere : GoodIn wsX10_count wsX1_countWhere := goodIn_r _ [26, 27, 28, 95, 96, 97, 98, 99, 100, 101] (by decide +kernel) (by decide +kernel)
set_option maxRecDepth 20000 in
theorem gX10_count_X1_countWhere : GoodIn wsX10_count (wsV RX10 213 RX1 yX1_countWhere wsX1_countWhere) := goodIn_app (goodIn_of _ (by decide +kernel)) ggX10_count_X1_countWhere
set_option maxRecDepth 20000 in
theorem ggX10_count_X1_countFaulty : GoodIn wsX10_count wsX1_countFaulty := goodIn_r _ [32, 27, 33, 95, 96, 97, 98, 99, 100, 101] (by decide +kernel) (by decide +kernel)
set_option maxRecDepth 20000 in
theorem gX10_count_X1_countFaulty : GoodIn wsX10_count (wsV RX10 216 RX1 yX1_countFaulty wsX1_countFaulty) := goodIn_app (goodIn_of _ (by decide +kernel)) ggX10_count_X1_countFaulty
set_option maxRecDepth 20000 in
theorem ggX10_count_X6_allDocks : GoodIn wsX10_count wsX6_allDocks := goodIn_r _ [38, 39, 40, 90, 91, 92, 93, 94] (by decide +kernel) (by decide +kernel)
set_option maxRecDepth 20000 in
theorem gX10_count_X6_allDocks : GoodIn wsX10_count (wsV RX10 219 RX6 yX6_allDocks wsX6_allDocks) := goodIn_app (goodIn_of _ (by decide +kernel)) ggX10_count_X6_allDocks
set_option maxRecDepth 20000 in
theorem ggX10_count_X4_allOwed : GoodIn wsX10_count wsX4_allOwed := goodIn_r _ [45, 46, 47, 102, 103, 104, 105, 106, 107, 108, 109, 110, 111] (by decide +kernel) (by decide +kernel)
set_option maxRecDepth 20000 in
theorem gX10_count_X4_allOwed : GoodIn wsX10_count (wsV RX10 222 RX4 yX4_allOwed wsX4_allOwed) := goodIn_app (goodIn_of _ (by decide +kernel)) ggX10_count_X4_allOwed
set_option maxRecDepth 20000 in
theorem ggX10_count_X5_allUnevenness : GoodIn wsX10_count wsX5_allUnevenness := goodIn_r _ [51, 52, 53, 54, 55, 56, 20, 57, 58, 59, 60, 61, 62, 63, 64, 65, 37, 66, 39, 67, 68, 69, 70, 71, 72, 73, 74, 25, 75, 27, 28, 76, 84, 85, 86, 87, 88, 89, 90, 91, 92, 93, 94, 95, 96, 97, 98, 99, 100, 101] (by decide +kernel) (by decide +kernel)
set_option maxRecDepth 20000 in
theorem gX10_count_X5_allUnevenness : GoodIn wsX10_count (wsV RX10 225 RX5 yX5_allUnevenness wsX5_allUnevenness) := goodIn_app (goodIn_of _ (by decide +kernel)) ggX10_count_X5_allUnevenness
theorem dX10_count_0 : decode cX10_count 0 = .ok (.aload_n 0, 1) := by decide +kernel
theorem dX10_count_1 : decode cX10_count 1 = .ok (.getfield 10, 3) := by decide +kernel
theorem dX10_count_4 : decode cX10_count 4 = .ok (.iload_n 1, 1) := by decide +kernel
theorem dX10_count_5 : decode cX10_count 5 = .ok (.bipush 20, 2) := by decide +kernel
theorem dX10_count_7 : decode cX10_count 7 = .ok (.isub, 1) := by decide +kernel
theorem dX10_count_8 : decode cX10_count 8 = .ok (.invokevirtual 201, 3) := by decide +kernel
theorem dX10_count_11 : decode cX10_count 11 = .ok (.ifCond .eq 16, 3) := by decide +kernel
theorem dX10_count_14 : decode cX10_count 14 = .ok (.aload_n 0, 1) := by decide +kernel
theorem dX10_count_15 : decode cX10_count 15 = .ok (.getfield 10, 3) := by decide +kernel
theorem dX10_count_18 : decode cX10_count 18 = .ok (.getfield 204, 3) := by decide +kernel
theorem dX10_count_21 : decode cX10_count 21 = .ok (.iload_n 1, 1) := by decide +kernel
theorem dX10_count_22 : decode cX10_count 22 = .ok (.bipush 20, 2) := by decide +kernel
theorem dX10_count_24 : decode cX10_count 24 = .ok (.isub, 1) := by decide +kernel
theorem dX10_count_25 : decode cX10_count 25 = .ok (.iaload, 1) := by decide +kernel
theorem dX10_count_26 : decode cX10_count 26 = .ok (.ireturn, 1) := by decide +kernel
theorem dX10_count_27 : decode cX10_count 27 = .ok (.iload_n 1, 1) := by decide +kernel
theorem dX10_count_28 : decode cX10_count 28 = .ok (.tableswitch 250 0 15 #[80, 91, 102, 113, 124, 132, 144, 156, 168, 180, 191, 202, 213, 221, 229, 237], 80) := by decide +kernel
theorem dX10_count_108 : decode cX10_count 108 = .ok (.aload_n 0, 1) := by decide +kernel
theorem dX10_count_109 : decode cX10_count 109 = .ok (.getfield 10, 3) := by decide +kernel
theorem dX10_count_112 : decode cX10_count 112 = .ok (.getfield 98, 3) := by decide +kernel
theorem dX10_count_115 : decode cX10_count 115 = .ok (.getfield 207, 3) := by decide +kernel
theorem dX10_count_118 : decode cX10_count 118 = .ok (.ireturn, 1) := by decide +kernel
theorem dX10_count_119 : decode cX10_count 119 = .ok (.aload_n 0, 1) := by decide +kernel
theorem dX10_count_120 : decode cX10_count 120 = .ok (.getfield 10, 3) := by decide +kernel
theorem dX10_count_123 : decode cX10_count 123 = .ok (.getfield 115, 3) := by decide +kernel
theorem dX10_count_126 : decode cX10_count 126 = .ok (.getfield 210, 3) := by decide +kernel
theorem dX10_count_129 : decode cX10_count 129 = .ok (.ireturn, 1) := by decide +kernel
theorem dX10_count_130 : decode cX10_count 130 = .ok (.aload_n 0, 1) := by decide +kernel
theorem dX10_count_131 : decode cX10_count 131 = .ok (.getfield 10, 3) := by decide +kernel
theorem dX10_count_134 : decode cX10_count 134 = .ok (.getfield 153, 3) := by decide +kernel
theorem dX10_count_137 : decode cX10_count 137 = .ok (.getfield 211, 3) := by decide +kernel
theorem dX10_count_140 : decode cX10_count 140 = .ok (.ireturn, 1) := by decide +kernel
theorem dX10_count_141 : decode cX10_count 141 = .ok (.aload_n 0, 1) := by decide +kernel
theorem dX10_count_142 : decode cX10_count 142 = .ok (.getfield 10, 3) := by decide +kernel
theorem dX10_count_145 : decode cX10_count 145 = .ok (.getfield 185, 3) := by decide +kernel
theorem dX10_count_148 : decode cX10_count 148 = .ok (.getfield 212, 3) := by decide +kernel
theorem dX10_count_151 : decode cX10_count 151 = .ok (.ireturn, 1) := by decide +kernel
theorem dX10_count_152 : decode cX10_count 152 = .ok (.aload_n 0, 1) := by decide +kernel
theorem dX10_count_153 : decode cX10_count 153 = .ok (.getfield 10, 3) := by decide +kernel
theorem dX10_count_156 : decode cX10_count 156 = .ok (.getfield 172, 3) := by decide +kernel
theorem dX10_count_159 : decode cX10_count 159 = .ok (.ireturn, 1) := by decide +kernel
theorem dX10_count_160 : decode cX10_count 160 = .ok (.aload_n 0, 1) := by decide +kernel
theorem dX10_count_161 : decode cX10_count 161 = .ok (.getfield 10, 3) := by decide +kernel
theorem dX10_count_164 : decode cX10_count 164 = .ok (.getfield 115, 3) := by decide +kernel
theorem dX10_count_167 : decode cX10_count 167 = .ok (.iconst 0, 1) := by decide +kernel
theorem dX10_count_168 : decode cX10_count 168 = .ok (.invokevirtual 213, 3) := by decide +kernel
theorem dX10_count_171 : decode cX10_count 171 = .ok (.ireturn, 1) := by decide +kernel
theorem dX10_count_172 : decode cX10_count 172 = .ok (.aload_n 0, 1) := by decide +kernel
theorem dX10_count_173 : decode cX10_count 173 = .ok (.getfield 10, 3) := by decide +kernel
theorem dX10_count_176 : decode cX10_count 176 = .ok (.getfield 115, 3) := by decide +kernel
theorem dX10_count_179 : decode cX10_count 179 = .ok (.iconst 1, 1) := by decide +kernel
theorem dX10_count_180 : decode cX10_count 180 = .ok (.invokevirtual 213, 3) := by decide +kernel
theorem dX10_count_183 : decode cX10_count 183 = .ok (.ireturn, 1) := by decide +kernel
theorem dX10_count_184 : decode cX10_count 184 = .ok (.aload_n 0, 1) := by decide +kernel
theorem dX10_count_185 : decode cX10_count 185 = .ok (.getfield 10, 3) := by decide +kernel
theorem dX10_count_188 : decode cX10_count 188 = .ok (.getfield 115, 3) := by decide +kernel
theorem dX10_count_191 : decode cX10_count 191 = .ok (.iconst 2, 1) := by decide +kernel
theorem dX10_count_192 : decode cX10_count 192 = .ok (.invokevirtual 213, 3) := by decide +kernel
theorem dX10_count_195 : decode cX10_count 195 = .ok (.ireturn, 1) := by decide +kernel
theorem dX10_count_196 : decode cX10_count 196 = .ok (.aload_n 0, 1) := by decide +kernel
theorem dX10_count_197 : decode cX10_count 197 = .ok (.getfield 10, 3) := by decide +kernel
theorem dX10_count_200 : decode cX10_count 200 = .ok (.getfield 115, 3) := by decide +kernel
theorem dX10_count_203 : decode cX10_count 203 = .ok (.iconst 3, 1) := by decide +kernel
theorem dX10_count_204 : decode cX10_count 204 = .ok (.invokevirtual 213, 3) := by decide +kernel
theorem dX10_count_207 : decode cX10_count 207 = .ok (.ireturn, 1) := by decide +kernel
theorem dX10_count_208 : decode cX10_count 208 = .ok (.aload_n 0, 1) := by decide +kernel
theorem dX10_count_209 : decode cX10_count 209 = .ok (.getfield 10, 3) := by decide +kernel
theorem dX10_count_212 : decode cX10_count 212 = .ok (.getfield 115, 3) := by decide +kernel
theorem dX10_count_215 : decode cX10_count 215 = .ok (.invokevirtual 216, 3) := by decide +kernel
theorem dX10_count_218 : decode cX10_count 218 = .ok (.ireturn, 1) := by decide +kernel
theorem dX10_count_219 : decode cX10_count 219 = .ok (.aload_n 0, 1) := by decide +kernel
theorem dX10_count_220 : decode cX10_count 220 = .ok (.getfield 10, 3) := by decide +kernel
theorem dX10_count_223 : decode cX10_count 223 = .ok (.getfield 98, 3) := by decide +kernel
theorem dX10_count_226 : decode cX10_count 226 = .ok (.invokevirtual 219, 3) := by decide +kernel
theorem dX10_count_229 : decode cX10_count 229 = .ok (.ireturn, 1) := by decide +kernel
theorem dX10_count_230 : decode cX10_count 230 = .ok (.aload_n 0, 1) := by decide +kernel
theorem dX10_count_231 : decode cX10_count 231 = .ok (.getfield 10, 3) := by decide +kernel
theorem dX10_count_234 : decode cX10_count 234 = .ok (.getfield 153, 3) := by decide +kernel
theorem dX10_count_237 : decode cX10_count 237 = .ok (.invokevirtual 222, 3) := by decide +kernel
theorem dX10_count_240 : decode cX10_count 240 = .ok (.ireturn, 1) := by decide +kernel
theorem dX10_count_241 : decode cX10_count 241 = .ok (.aload_n 0, 1) := by decide +kernel
theorem dX10_count_242 : decode cX10_count 242 = .ok (.getfield 10, 3) := by decide +kernel
theorem dX10_count_245 : decode cX10_count 245 = .ok (.invokevirtual 225, 3) := by decide +kernel
theorem dX10_count_248 : decode cX10_count 248 = .ok (.ireturn, 1) := by decide +kernel
theorem dX10_count_249 : decode cX10_count 249 = .ok (.aload_n 0, 1) := by decide +kernel
theorem dX10_count_250 : decode cX10_count 250 = .ok (.getfield 25, 3) := by decide +kernel
theorem dX10_count_253 : decode cX10_count 253 = .ok (.getfield 228, 3) := by decide +kernel
theorem dX10_count_256 : decode cX10_count 256 = .ok (.ireturn, 1) := by decide +kernel
theorem dX10_count_257 : decode cX10_count 257 = .ok (.aload_n 0, 1) := by decide +kernel
theorem dX10_count_258 : decode cX10_count 258 = .ok (.getfield 39, 3) := by decide +kernel
theorem dX10_count_261 : decode cX10_count 261 = .ok (.getfield 229, 3) := by decide +kernel
