theorem dX11_way_20 : decode cX11_way 20 = .ok (.goto 4, 3) := by decide +kernel
theorem dX11_way_23 : decode cX11_way 23 = .ok (.iload_n 3, 1) := by decide +kernel
theorem dX11_way_24 : decode cX11_way 24 = .ok (.ireturn, 1) := by decide +kernel
set_option maxRecDepth 20000 in
theorem ggX11_go_X11_isVan : GoodIn wsX11_go wsX11_isVan := goodIn_r _ [6, 1, 34, 35, 36, 37, 38, 39, 40, 41, 42, 43, 44, 45, 46, 47] (by decide +kernel) (by decide +kernel)
set_option maxRecDepth 20000 in
theorem gX11_go_X11_isVan : GoodIn wsX11_go (wsV RX11 96 RX11 yX11_isVan wsX11_isVan) := goodIn_app (goodIn_of _ (by decide +kernel)) ggX11_go_X11_isVan
set_option maxRecDepth 20000 in
theorem ggX11_go_X11_isStation : GoodIn wsX11_go wsX11_isStation := goodIn_r _ [10, 1, 34, 35, 36, 37, 38, 39, 40, 41, 42, 43, 44, 45, 46, 47] (by decide +kernel) (by decide +kernel)
set_option maxRecDepth 20000 in
theorem gX11_go_X11_isStation : GoodIn wsX11_go (wsV RX11 60 RX11 yX11_isStation wsX11_isStation) := goodIn_app (goodIn_of _ (by decide +kernel)) ggX11_go_X11_isStation
set_option maxRecDepth 20000 in
theorem ggX11_go_X11_isUnderWay : GoodIn wsX11_go wsX11_isUnderWay := goodIn_r _ [14, 1, 15, 16, 17, 5, 18, 34, 35, 36, 37, 38, 39, 40, 41, 42, 43, 44, 45, 46, 47] (by decide +kernel) (by decide +kernel)
set_option maxRecDepth 20000 in
theorem gX11_go_X11_isUnderWay : GoodIn wsX11_go (wsV RX11 99 RX11 yX11_isUnderWay wsX11_isUnderWay) := goodIn_app (goodIn_of _ (by decide +kernel)) ggX11_go_X11_isUnderWay
set_option maxRecDepth 20000 in
theorem ggX11_go_X11_ofVan : GoodIn wsX11_go wsX11_ofVan := goodIn_r _ [18, 1, 34, 35, 36, 37, 38, 39, 40, 41, 42, 43, 44, 45, 46, 47] (by decide +kernel) (by decide +kernel)
set_option maxRecDepth 20000 in
theorem gX11_go_X11_ofVan : GoodIn wsX11_go (wsV RX11 93 RX11 yX11_ofVan wsX11_ofVan) := goodIn_app (goodIn_of _ (by decide +kernel)) ggX11_go_X11_ofVan
set_option maxRecDepth 20000 in
theorem ggX11_go_X11_changes : GoodIn wsX11_go wsX11_changes := goodIn_r _ [22, 23, 24, 25, 1, 34, 35, 36, 37, 38, 39, 40, 41, 42, 43, 44, 45, 46, 47] (by decide +kernel) (by decide +kernel)
set_option maxRecDepth 20000 in
theorem gX11_go_X11_changes : GoodIn wsX11_go (wsV RX11 57 RX11 yX11_changes wsX11_changes) := goodIn_app (goodIn_of _ (by decide +kernel)) ggX11_go_X11_changes
set_option maxRecDepth 20000 in
theorem ggX11_go_X11_way : GoodIn wsX11_go wsX11_way := goodIn_r _ [29, 30, 31, 32, 5, 33, 1, 34, 35, 36, 37, 38, 39, 40, 41, 42, 43, 44, 45, 46, 47] (by decide +kernel) (by decide +kernel)
set_option maxRecDepth 20000 in
theorem gX11_go_X11_way : GoodIn wsX11_go (wsV RX11 108 RX11 yX11_way wsX11_way) := goodIn_app (goodIn_of _ (by decide +kernel)) ggX11_go_X11_way
theorem dX11_go_0 : decode cX11_go 0 = .ok (.aload_n 0, 1) := by decide +kernel
theorem dX11_go_1 : decode cX11_go 1 = .ok (.iload_n 1, 1) := by decide +kernel
theorem dX11_go_2 : decode cX11_go 2 = .ok (.invokevirtual 96, 3) := by decide +kernel
theorem dX11_go_5 : decode cX11_go 5 = .ok (.ifCond .eq 11, 3) := by decide +kernel
theorem dX11_go_8 : decode cX11_go 8 = .ok (.aload_n 0, 1) := by decide +kernel
theorem dX11_go_9 : decode cX11_go 9 = .ok (.iload_n 2, 1) := by decide +kernel
theorem dX11_go_10 : decode cX11_go 10 = .ok (.invokevirtual 60, 3) := by decide +kernel
theorem dX11_go_13 : decode cX11_go 13 = .ok (.ifCond .ne 5, 3) := by decide +kernel
theorem dX11_go_16 : decode cX11_go 16 = .ok (.iconst (-1), 1) := by decide +kernel
theorem dX11_go_17 : decode cX11_go 17 = .ok (.ireturn, 1) := by decide +kernel
theorem dX11_go_18 : decode cX11_go 18 = .ok (.aload_n 0, 1) := by decide +kernel
theorem dX11_go_19 : decode cX11_go 19 = .ok (.iload_n 1, 1) := by decide +kernel
theorem dX11_go_20 : decode cX11_go 20 = .ok (.invokevirtual 99, 3) := by decide +kernel
theorem dX11_go_23 : decode cX11_go 23 = .ok (.ifCond .ne 13, 3) := by decide +kernel
theorem dX11_go_26 : decode cX11_go 26 = .ok (.aload_n 0, 1) := by decide +kernel
theorem dX11_go_27 : decode cX11_go 27 = .ok (.iload_n 1, 1) := by decide +kernel
theorem dX11_go_28 : decode cX11_go 28 = .ok (.iconst 0, 1) := by decide +kernel
theorem dX11_go_29 : decode cX11_go 29 = .ok (.invokevirtual 93, 3) := by decide +kernel
theorem dX11_go_32 : decode cX11_go 32 = .ok (.iload_n 2, 1) := by decide +kernel
theorem dX11_go_33 : decode cX11_go 33 = .ok (.if_icmp .ne 6, 3) := by decide +kernel
theorem dX11_go_36 : decode cX11_go 36 = .ok (.bipush (-2), 2) := by decide +kernel
theorem dX11_go_38 : decode cX11_go 38 = .ok (.ireturn, 1) := by decide +kernel
theorem dX11_go_39 : decode cX11_go 39 = .ok (.aload_n 0, 1) := by decide +kernel
theorem dX11_go_40 : decode cX11_go 40 = .ok (.invokevirtual 57, 3) := by decide +kernel
theorem dX11_go_43 : decode cX11_go 43 = .ok (.aload_n 0, 1) := by decide +kernel
theorem dX11_go_44 : decode cX11_go 44 = .ok (.getfield 7, 3) := by decide +kernel
theorem dX11_go_47 : decode cX11_go 47 = .ok (.sipush 200, 3) := by decide +kernel
theorem dX11_go_50 : decode cX11_go 50 = .ok (.iconst 3, 1) := by decide +kernel
theorem dX11_go_51 : decode cX11_go 51 = .ok (.iload_n 1, 1) := by decide +kernel
theorem dX11_go_52 : decode cX11_go 52 = .ok (.imul, 1) := by decide +kernel
theorem dX11_go_53 : decode cX11_go 53 = .ok (.iadd, 1) := by decide +kernel
theorem dX11_go_54 : decode cX11_go 54 = .ok (.iconst 2, 1) := by decide +kernel
theorem dX11_go_55 : decode cX11_go 55 = .ok (.iadd, 1) := by decide +kernel
theorem dX11_go_56 : decode cX11_go 56 = .ok (.aload_n 0, 1) := by decide +kernel
theorem dX11_go_57 : decode cX11_go 57 = .ok (.getfield 7, 3) := by decide +kernel
theorem dX11_go_60 : decode cX11_go 60 = .ok (.iconst 4, 1) := by decide +kernel
theorem dX11_go_61 : decode cX11_go 61 = .ok (.iaload, 1) := by decide +kernel
theorem dX11_go_62 : decode cX11_go 62 = .ok (.aload_n 0, 1) := by decide +kernel
theorem dX11_go_63 : decode cX11_go 63 = .ok (.aload_n 0, 1) := by decide +kernel
theorem dX11_go_64 : decode cX11_go 64 = .ok (.iload_n 1, 1) := by decide +kernel
theorem dX11_go_65 : decode cX11_go 65 = .ok (.iconst 0, 1) := by decide +kernel
theorem dX11_go_66 : decode cX11_go 66 = .ok (.invokevirtual 93, 3) := by decide +kernel
theorem dX11_go_69 : decode cX11_go 69 = .ok (.iload_n 2, 1) := by decide +kernel
theorem dX11_go_70 : decode cX11_go 70 = .ok (.invokevirtual 108, 3) := by decide +kernel
theorem dX11_go_73 : decode cX11_go 73 = .ok (.iconst 2, 1) := by decide +kernel
theorem dX11_go_74 : decode cX11_go 74 = .ok (.idiv, 1) := by decide +kernel
theorem dX11_go_75 : decode cX11_go 75 = .ok (.iadd, 1) := by decide +kernel
theorem dX11_go_76 : decode cX11_go 76 = .ok (.iconst 1, 1) := by decide +kernel
theorem dX11_go_77 : decode cX11_go 77 = .ok (.iadd, 1) := by decide +kernel
theorem dX11_go_78 : decode cX11_go 78 = .ok (.iastore, 1) := by decide +kernel
theorem dX11_go_79 : decode cX11_go 79 = .ok (.aload_n 0, 1) := by decide +kernel
theorem dX11_go_80 : decode cX11_go 80 = .ok (.getfield 7, 3) := by decide +kernel
theorem dX11_go_83 : decode cX11_go 83 = .ok (.sipush 200, 3) := by decide +kernel
theorem dX11_go_86 : decode cX11_go 86 = .ok (.iconst 3, 1) := by decide +kernel
theorem dX11_go_87 : decode cX11_go 87 = .ok (.iload_n 1, 1) := by decide +kernel
theorem dX11_go_88 : decode cX11_go 88 = .ok (.imul, 1) := by decide +kernel
theorem dX11_go_89 : decode cX11_go 89 = .ok (.iadd, 1) := by decide +kernel
theorem dX11_go_90 : decode cX11_go 90 = .ok (.iconst 0, 1) := by decide +kernel
theorem dX11_go_91 : decode cX11_go 91 = .ok (.iadd, 1) := by decide +kernel
theorem dX11_go_92 : decode cX11_go 92 = .ok (.iload_n 2, 1) := by decide +kernel
theorem dX11_go_93 : decode cX11_go 93 = .ok (.iastore, 1) := by decide +kernel
theorem dX11_go_94 : decode cX11_go 94 = .ok (.aload_n 0, 1) := by decide +kernel
theorem dX11_go_95 : decode cX11_go 95 = .ok (.iload_n 1, 1) := by decide +kernel
theorem dX11_go_96 : decode cX11_go 96 = .ok (.iconst 2, 1) := by decide +kernel
theorem dX11_go_97 : decode cX11_go 97 = .ok (.invokevirtual 93, 3) := by decide +kernel
theorem dX11_go_100 : decode cX11_go 100 = .ok (.ireturn, 1) := by decide +kernel
set_option maxRecDepth 20000 in
theorem ggX11_mend_X11_isVan : GoodIn wsX11_mend wsX11_isVan := goodIn_r _ [6, 1, 38, 39, 40, 41, 42, 43, 44, 45, 46, 47, 48, 49, 50, 51] (by decide +kernel) (by decide +kernel)
set_option maxRecDepth 20000 in
theorem gX11_mend_X11_isVan : GoodIn wsX11_mend (wsV RX11 96 RX11 yX11_isVan wsX11_isVan) := goodIn_app (goodIn_of _ (by decide +kernel)) ggX11_mend_X11_isVan
set_option maxRecDepth 20000 in
theorem ggX11_mend_X11_isBicycle : GoodIn wsX11_mend wsX11_isBicycle := goodIn_r _ [10, 1, 38, 39, 40, 41, 42, 43, 44, 45, 46, 47, 48, 49, 50, 51] (by decide +kernel) (by decide +kernel)
set_option maxRecDepth 20000 in
theorem gX11_mend_X11_isBicycle : GoodIn wsX11_mend (wsV RX11 86 RX11 yX11_isBicycle wsX11_isBicycle) := goodIn_app (goodIn_of _ (by decide +kernel)) ggX11_mend_X11_isBicycle
set_option maxRecDepth 20000 in
theorem ggX11_mend_X11_isUnderWay : GoodIn wsX11_mend wsX11_isUnderWay := goodIn_r _ [14, 1, 15, 16, 17, 5, 18, 38, 39, 40, 41, 42, 43, 44, 45, 46, 47, 48, 49, 50, 51] (by decide +kernel) (by decide +kernel)
set_option maxRecDepth 20000 in
theorem gX11_mend_X11_isUnderWay : GoodIn wsX11_mend (wsV RX11 99 RX11 yX11_isUnderWay wsX11_isUnderWay) := goodIn_app (goodIn_of _ (by decide +kernel)) ggX11_mend_X11_isUnderWay
set_option maxRecDepth 20000 in
theorem ggX11_mend_X11_ofVan : GoodIn wsX11_mend wsX11_ofVan := goodIn_r _ [18, 1, 38, 39, 40, 41, 42, 43, 44, 45, 46, 47, 48, 49, 50, 51] (by decide +kernel) (by decide +kernel)
set_option maxRecDepth 20000 in
theorem gX11_mend_X11_ofVan : GoodIn wsX11_mend (wsV RX11 93 RX11 yX11_ofVan wsX11_ofVan) := goodIn_app (goodIn_of _ (by decide +kernel)) ggX11_mend_X11_ofVan
set_option maxRecDepth 20000 in
theorem ggX11_mend_X11_isAt : GoodIn wsX11_mend wsX11_isAt := goodIn_r _ [22, 23, 24, 25, 5, 26, 1, 38, 39, 40, 41, 42, 43, 44, 45, 46, 47, 48, 49, 50, 51] (by decide +kernel) (by decide +kernel)
set_option maxRecDepth 20000 in
theorem gX11_mend_X11_isAt : GoodIn wsX11_mend (wsV RX11 105 RX11 yX11_isAt wsX11_isAt) := goodIn_app (goodIn_of _ (by decide +kernel)) ggX11_mend_X11_isAt
set_option maxRecDepth 20000 in
theorem ggX11_mend_X11_changes : GoodIn wsX11_mend wsX11_changes := goodIn_r _ [30, 31, 32, 33, 1, 38, 39, 40, 41, 42, 43, 44, 45, 46, 47, 48, 49, 50, 51] (by decide +kernel) (by decide +kernel)
set_option maxRecDepth 20000 in
theorem gX11_mend_X11_changes : GoodIn wsX11_mend (wsV RX11 57 RX11 yX11_changes wsX11_changes) := goodIn_app (goodIn_of _ (by decide +kernel)) ggX11_mend_X11_changes
set_option maxRecDepth 20000 in
theorem ggX11_mend_X11_puts : GoodIn wsX11_mend wsX11_puts := goodIn_r _ [37, 1, 38, 39, 40, 41, 42, 43, 44, 45, 46, 47, 48, 49, 50, 51] (by decide +kernel) (by decide +kernel)
set_option maxRecDepth 20000 in
theorem gX11_mend_X11_puts : GoodIn wsX11_mend (wsV RX11 67 RX11 yX11_puts wsX11_puts) := goodIn_app (goodIn_of _ (by decide +kernel)) ggX11_mend_X11_puts
set_option maxRecDepth 20000 in
theorem ggX11_mend_X11_ofBicycle : GoodIn wsX11_mend wsX11_ofBicycle := goodIn_r _ [26, 1, 38, 39, 40, 41, 42, 43, 44, 45, 46, 47, 48, 49, 50, 51] (by decide +kernel) (by decide +kernel)
set_option maxRecDepth 20000 in
theorem gX11_mend_X11_ofBicycle : GoodIn wsX11_mend (wsV RX11 36 RX11 yX11_ofBicycle wsX11_ofBicycle) := goodIn_app (goodIn_of _ (by decide +kernel)) ggX11_mend_X11_ofBicycle
theorem dX11_mend_0 : decode cX11_mend 0 = .ok (.aload_n 0, 1) := by decide +kernel
theorem dX11_mend_1 : decode cX11_mend 1 = .ok (.iload_n 1, 1) := by decide +kernel
theorem dX11_mend_2 : decode cX11_mend 2 = .ok (.invokevirtual 96, 3) := by decide +kernel
theorem dX11_mend_5 : decode cX11_mend 5 = .ok (.ifCond .eq 11, 3) := by decide +kernel
theorem dX11_mend_8 : decode cX11_mend 8 = .ok (.aload_n 0, 1) := by decide +kernel
theorem dX11_mend_9 : decode cX11_mend 9 = .ok (.iload_n 2, 1) := by decide +kernel
theorem dX11_mend_10 : decode cX11_mend 10 = .ok (.invokevirtual 86, 3) := by decide +kernel
theorem dX11_mend_13 : decode cX11_mend 13 = .ok (.ifCond .ne 5, 3) := by decide +kernel
theorem dX11_mend_16 : decode cX11_mend 16 = .ok (.iconst (-1), 1) := by decide +kernel
theorem dX11_mend_17 : decode cX11_mend 17 = .ok (.ireturn, 1) := by decide +kernel
theorem dX11_mend_18 : decode cX11_mend 18 = .ok (.aload_n 0, 1) := by decide +kernel
theorem dX11_mend_19 : decode cX11_mend 19 = .ok (.iload_n 1, 1) := by decide +kernel
theorem dX11_mend_20 : decode cX11_mend 20 = .ok (.invokevirtual 99, 3) := by decide +kernel
theorem dX11_mend_23 : decode cX11_mend 23 = .ok (.ifCond .ne 22, 3) := by decide +kernel
theorem dX11_mend_26 : decode cX11_mend 26 = .ok (.aload_n 0, 1) := by decide +kernel
theorem dX11_mend_27 : decode cX11_mend 27 = .ok (.iload_n 1, 1) := by decide +kernel
theorem dX11_mend_28 : decode cX11_mend 28 = .ok (.iconst 0, 1) := by decide +kernel
theorem dX11_mend_29 : decode cX11_mend 29 = .ok (.invokevirtual 93, 3) := by decide +kernel
theorem dX11_mend_32 : decode cX11_mend 32 = .ok (.ifCond .ne 13, 3) := by decide +kernel
theorem dX11_mend_35 : decode cX11_mend 35 = .ok (.aload_n 0, 1) := by decide +kernel
theorem dX11_mend_36 : decode cX11_mend 36 = .ok (.iload_n 2, 1) := by decide +kernel
theorem dX11_mend_37 : decode cX11_mend 37 = .ok (.iconst 2, 1) := by decide +kernel
theorem dX11_mend_38 : decode cX11_mend 38 = .ok (.iload_n 1, 1) := by decide +kernel
theorem dX11_mend_39 : decode cX11_mend 39 = .ok (.invokevirtual 105, 3) := by decide +kernel
theorem dX11_mend_42 : decode cX11_mend 42 = .ok (.ifCond .ne 6, 3) := by decide +kernel
theorem dX11_mend_45 : decode cX11_mend 45 = .ok (.bipush (-2), 2) := by decide +kernel
theorem dX11_mend_47 : decode cX11_mend 47 = .ok (.ireturn, 1) := by decide +kernel
theorem dX11_mend_48 : decode cX11_mend 48 = .ok (.aload_n 0, 1) := by decide +kernel
theorem dX11_mend_49 : decode cX11_mend 49 = .ok (.invokevirtual 57, 3) := by decide +kernel
theorem dX11_mend_52 : decode cX11_mend 52 = .ok (.aload_n 0, 1) := by decide +kernel
theorem dX11_mend_53 : decode cX11_mend 53 = .ok (.iload_n 2, 1) := by decide +kernel
theorem dX11_mend_54 : decode cX11_mend 54 = .ok (.iconst 3, 1) := by decide +kernel
theorem dX11_mend_55 : decode cX11_mend 55 = .ok (.bipush (-4), 2) := by decide +kernel
theorem dX11_mend_57 : decode cX11_mend 57 = .ok (.invokevirtual 67, 3) := by decide +kernel
theorem dX11_mend_60 : decode cX11_mend 60 = .ok (.aload_n 0, 1) := by decide +kernel
theorem dX11_mend_61 : decode cX11_mend 61 = .ok (.getfield 7, 3) := by decide +kernel
theorem dX11_mend_64 : decode cX11_mend 64 = .ok (.bipush 32, 2) := by decide +kernel
theorem dX11_mend_66 : decode cX11_mend 66 = .ok (.bipush 6, 2) := by decide +kernel
theorem dX11_mend_68 : decode cX11_mend 68 = .ok (.iload_n 2, 1) := by decide +kernel
theorem dX11_mend_69 : decode cX11_mend 69 = .ok (.imul, 1) := by decide +kernel
theorem dX11_mend_70 : decode cX11_mend 70 = .ok (.iadd, 1) := by decide +kernel
theorem dX11_mend_71 : decode cX11_mend 71 = .ok (.iconst 5, 1) := by decide +kernel
theorem dX11_mend_72 : decode cX11_mend 72 = .ok (.iadd, 1) := by decide +kernel
theorem dX11_mend_73 : decode cX11_mend 73 = .ok (.aload_n 0, 1) := by decide +kernel
theorem dX11_mend_74 : decode cX11_mend 74 = .ok (.getfield 7, 3) := by decide +kernel
theorem dX11_mend_77 : decode cX11_mend 77 = .ok (.iconst 4, 1) := by decide +kernel
theorem dX11_mend_78 : decode cX11_mend 78 = .ok (.iaload, 1) := by decide +kernel
theorem dX11_mend_79 : decode cX11_mend 79 = .ok (.aload_n 0, 1) := by decide +kernel
theorem dX11_mend_80 : decode cX11_mend 80 = .ok (.getfield 7, 3) := by decide +kernel
theorem dX11_mend_83 : decode cX11_mend 83 = .ok (.bipush 6, 2) := by decide +kernel
theorem dX11_mend_85 : decode cX11_mend 85 = .ok (.iaload, 1) := by decide +kernel
theorem dX11_mend_86 : decode cX11_mend 86 = .ok (.iadd, 1) := by decide +kernel
theorem dX11_mend_87 : decode cX11_mend 87 = .ok (.iastore, 1) := by decide +kernel
theorem dX11_mend_88 : decode cX11_mend 88 = .ok (.aload_n 0, 1) := by decide +kernel
theorem dX11_mend_89 : decode cX11_mend 89 = .ok (.iload_n 2, 1) := by decide +kernel
theorem dX11_mend_90 : decode cX11_mend 90 = .ok (.iconst 5, 1) := by decide +kernel
theorem dX11_mend_91 : decode cX11_mend 91 = .ok (.invokevirtual 36, 3) := by decide +kernel
theorem dX11_mend_94 : decode cX11_mend 94 = .ok (.ireturn, 1) := by decide +kernel
set_option maxRecDepth 20000 in
theorem ggX11_freeStation_X11_isFree : GoodIn wsX11_freeStation wsX11_isFree := goodIn_r _ [6, 7, 8, 9, 5, 10, 11, 12, 13, 14, 1, 15, 16, 17, 18, 19, 20, 21, 22, 23, 24, 25, 26, 27, 28, 29, 30, 31, 32, 33, 34, 35, 36, 37, 38, 39] (by decide +kernel) (by decide +kernel)
set_option maxRecDepth 20000 in
theorem gX11_freeStation_X11_isFree : GoodIn wsX11_freeStation (wsV RX11 64 RX11 yX11_isFree wsX11_isFree) := goodIn_app (goodIn_of _ (by decide +kernel)) ggX11_freeStation_X11_isFree
theorem dX11_freeStation_0 : decode cX11_freeStation 0 = .ok (.bipush (-4), 2) := by decide +kernel
theorem dX11_freeStation_2 : decode cX11_freeStation 2 = .ok (.istore_n 1, 1) := by decide +kernel
theorem dX11_freeStation_3 : decode cX11_freeStation 3 = .ok (.aload_n 0, 1) := by decide +kernel
theorem dX11_freeStation_4 : decode cX11_freeStation 4 = .ok (.getfield 7, 3) := by decide +kernel
theorem dX11_freeStation_7 : decode cX11_freeStation 7 = .ok (.iconst 0, 1) := by decide +kernel
theorem dX11_freeStation_8 : decode cX11_freeStation 8 = .ok (.iaload, 1) := by decide +kernel
theorem dX11_freeStation_9 : decode cX11_freeStation 9 = .ok (.iconst 1, 1) := by decide +kernel
theorem dX11_freeStation_10 : decode cX11_freeStation 10 = .ok (.isub, 1) := by decide +kernel
theorem dX11_freeStation_11 : decode cX11_freeStation 11 = .ok (.istore_n 2, 1) := by decide +kernel
theorem dX11_freeStation_12 : decode cX11_freeStation 12 = .ok (.iload_n 2, 1) := by decide +kernel
theorem dX11_freeStation_13 : decode cX11_freeStation 13 = .ok (.ifCond .lt 23, 3) := by decide +kernel
theorem dX11_freeStation_16 : decode cX11_freeStation 16 = .ok (.aload_n 0, 1) := by decide +kernel
theorem dX11_freeStation_17 : decode cX11_freeStation 17 = .ok (.iload_n 2, 1) := by decide +kernel
theorem dX11_freeStation_18 : decode cX11_freeStation 18 = .ok (.invokevirtual 64, 3) := by decide +kernel
theorem dX11_freeStation_21 : decode cX11_freeStation 21 = .ok (.ifCond .eq 7, 3) := by decide +kernel
theorem dX11_freeStation_24 : decode cX11_freeStation 24 = .ok (.iload_n 2, 1) := by decide +kernel
theorem dX11_freeStation_25 : decode cX11_freeStation 25 = .ok (.goto 4, 3) := by decide +kernel
theorem dX11_freeStation_28 : decode cX11_freeStation 28 = .ok (.iload_n 1, 1) := by decide +kernel
theorem dX11_freeStation_29 : decode cX11_freeStation 29 = .ok (.istore_n 1, 1) := by decide +kernel
theorem dX11_freeStation_30 : decode cX11_freeStation 30 = .ok (.iinc 2 (-1), 3) := by decide +kernel
theorem dX11_freeStation_33 : decode cX11_freeStation 33 = .ok (.goto (-21), 3) := by decide +kernel
theorem dX11_freeStation_36 : decode cX11_freeStation 36 = .ok (.iload_n 1, 1) := by decide +kernel
theorem dX11_freeStation_37 : decode cX11_freeStation 37 = .ok (.ireturn, 1) := by decide +kernel
set_option maxRecDepth 20000 in
theorem ggX11_minute_X11_ofBicycle : GoodIn wsX11_minute wsX11_ofBicycle := goodIn_r _ [6, 1, 34, 35, 36, 37, 38, 39, 40, 41, 42, 43, 44, 45, 46, 47] (by decide +kernel) (by decide +kernel)
set_option maxRecDepth 20000 in
theorem gX11_minute_X11_ofBicycle : GoodIn wsX11_minute (wsV RX11 36 RX11 yX11_ofBicycle wsX11_ofBicycle) := goodIn_app (goodIn_of _ (by decide +kernel)) ggX11_minute_X11_ofBicycle
set_option maxRecDepth 20000 in
theorem ggX11_minute_X11_freeStation : GoodIn wsX11_minute wsX11_freeStation := goodIn_r _ [10, 1, 11, 12, 13, 5, 14, 15, 16, 17, 18, 19, 20, 21, 22, 2, 3, 4, 6, 23, 24, 25, 26, 27, 28, 29, 34, 35, 36, 37, 38, 39, 40, 41, 42, 43, 44, 45, 46, 47] (by decide +kernel) (by decide +kernel)
set_option maxRecDepth 20000 in
theorem gX11_minute_X11_freeStation : GoodIn wsX11_minute (wsV RX11 111 RX11 yX11_freeStation wsX11_freeStation) := goodIn_app (goodIn_of _ (by decide +kernel)) ggX11_minute_X11_freeStation
set_option maxRecDepth 20000 in
theorem ggX11_minute_X11_puts : GoodIn wsX11_minute wsX11_puts := goodIn_r _ [33, 1, 34, 35, 36, 37, 38, 39, 40, 41, 42, 43, 44, 45, 46, 47] (by decide +kernel) (by decide +kernel)
set_option maxRecDepth 20000 in
theorem gX11_minute_X11_puts : GoodIn wsX11_minute (wsV RX11 67 RX11 yX11_puts wsX11_puts) := goodIn_app (goodIn_of _ (by decide +kernel)) ggX11_minute_X11_puts
theorem dX11_minute_0 : decode cX11_minute 0 = .ok (.aload_n 0, 1) := by decide +kernel
theorem dX11_minute_1 : decode cX11_minute 1 = .ok (.getfield 7, 3) := by decide +kernel
theorem dX11_minute_4 : decode cX11_minute 4 = .ok (.iconst 4, 1) := by decide +kernel
theorem dX11_minute_5 : decode cX11_minute 5 = .ok (.dup2, 1) := by decide +kernel
theorem dX11_minute_6 : decode cX11_minute 6 = .ok (.iaload, 1) := by decide +kernel
theorem dX11_minute_7 : decode cX11_minute 7 = .ok (.iconst 1, 1) := by decide +kernel
theorem dX11_minute_8 : decode cX11_minute 8 = .ok (.iadd, 1) := by decide +kernel
theorem dX11_minute_9 : decode cX11_minute 9 = .ok (.iastore, 1) := by decide +kernel
theorem dX11_minute_10 : decode cX11_minute 10 = .ok (.iconst 0, 1) := by decide +kernel
theorem dX11_minute_11 : decode cX11_minute 11 = .ok (.istore_n 1, 1) := by decide +kernel
theorem dX11_minute_12 : decode cX11_minute 12 = .ok (.iconst 0, 1) := by decide +kernel
theorem dX11_minute_13 : decode cX11_minute 13 = .ok (.istore_n 2, 1) := by decide +kernel
theorem dX11_minute_14 : decode cX11_minute 14 = .ok (.iload_n 2, 1) := by decide +kernel
theorem dX11_minute_15 : decode cX11_minute 15 = .ok (.aload_n 0, 1) := by decide +kernel
theorem dX11_minute_16 : decode cX11_minute 16 = .ok (.getfield 7, 3) := by decide +kernel
theorem dX11_minute_19 : decode cX11_minute 19 = .ok (.iconst 1, 1) := by decide +kernel
theorem dX11_minute_20 : decode cX11_minute 20 = .ok (.iaload, 1) := by decide +kernel
theorem dX11_minute_21 : decode cX11_minute 21 = .ok (.if_icmp .ge 83, 3) := by decide +kernel
theorem dX11_minute_24 : decode cX11_minute 24 = .ok (.aload_n 0, 1) := by decide +kernel
theorem dX11_minute_25 : decode cX11_minute 25 = .ok (.iload_n 2, 1) := by decide +kernel
theorem dX11_minute_26 : decode cX11_minute 26 = .ok (.iconst 0, 1) := by decide +kernel
theorem dX11_minute_27 : decode cX11_minute 27 = .ok (.invokevirtual 36, 3) := by decide +kernel
theorem dX11_minute_30 : decode cX11_minute 30 = .ok (.iconst 3, 1) := by decide +kernel
theorem dX11_minute_31 : decode cX11_minute 31 = .ok (.if_icmp .ne 67, 3) := by decide +kernel
theorem dX11_minute_34 : decode cX11_minute 34 = .ok (.aload_n 0, 1) := by decide +kernel
theorem dX11_minute_35 : decode cX11_minute 35 = .ok (.iload_n 2, 1) := by decide +kernel
theorem dX11_minute_36 : decode cX11_minute 36 = .ok (.iconst 5, 1) := by decide +kernel
theorem dX11_minute_37 : decode cX11_minute 37 = .ok (.invokevirtual 36, 3) := by decide +kernel
theorem dX11_minute_40 : decode cX11_minute 40 = .ok (.aload_n 0, 1) := by decide +kernel
theorem dX11_minute_41 : decode cX11_minute 41 = .ok (.getfield 7, 3) := by decide +kernel
theorem dX11_minute_44 : decode cX11_minute 44 = .ok (.iconst 4, 1) := by decide +kernel
theorem dX11_minute_45 : decode cX11_minute 45 = .ok (.iaload, 1) := by decide +kernel
theorem dX11_minute_46 : decode cX11_minute 46 = .ok (.if_icmp .gt 52, 3) := by decide +kernel
theorem dX11_minute_49 : decode cX11_minute 49 = .ok (.aload_n 0, 1) := by decide +kernel
theorem dX11_minute_50 : decode cX11_minute 50 = .ok (.getfield 7, 3) := by decide +kernel
theorem dX11_minute_53 : decode cX11_minute 53 = .ok (.bipush 32, 2) := by decide +kernel
theorem dX11_minute_55 : decode cX11_minute 55 = .ok (.bipush 6, 2) := by decide +kernel
theorem dX11_minute_57 : decode cX11_minute 57 = .ok (.iload_n 2, 1) := by decide +kernel
theorem dX11_minute_58 : decode cX11_minute 58 = .ok (.imul, 1) := by decide +kernel
theorem dX11_minute_59 : decode cX11_minute 59 = .ok (.iadd, 1) := by decide +kernel
theorem dX11_minute_60 : decode cX11_minute 60 = .ok (.iconst 3, 1) := by decide +kernel
theorem dX11_minute_61 : decode cX11_minute 61 = .ok (.iadd, 1) := by decide +kernel
theorem dX11_minute_62 : decode cX11_minute 62 = .ok (.iconst 0, 1) := by decide +kernel
theorem dX11_minute_63 : decode cX11_minute 63 = .ok (.iastore, 1) := by decide +kernel
theorem dX11_minute_64 : decode cX11_minute 64 = .ok (.aload_n 0, 1) := by decide +kernel
theorem dX11_minute_65 : decode cX11_minute 65 = .ok (.getfield 7, 3) := by decide +kernel
theorem dX11_minute_68 : decode cX11_minute 68 = .ok (.bipush 32, 2) := by decide +kernel
theorem dX11_minute_70 : decode cX11_minute 70 = .ok (.bipush 6, 2) := by decide +kernel
theorem dX11_minute_72 : decode cX11_minute 72 = .ok (.iload_n 2, 1) := by decide +kernel
theorem dX11_minute_73 : decode cX11_minute 73 = .ok (.imul, 1) := by decide +kernel
theorem dX11_minute_74 : decode cX11_minute 74 = .ok (.iadd, 1) := by decide +kernel
theorem dX11_minute_75 : decode cX11_minute 75 = .ok (.iconst 2, 1) := by decide +kernel
theorem dX11_minute_76 : decode cX11_minute 76 = .ok (.iadd, 1) := by decide +kernel
theorem dX11_minute_77 : decode cX11_minute 77 = .ok (.iconst 0, 1) := by decide +kernel
theorem dX11_minute_78 : decode cX11_minute 78 = .ok (.iastore, 1) := by decide +kernel
theorem dX11_minute_79 : decode cX11_minute 79 = .ok (.aload_n 0, 1) := by decide +kernel
theorem dX11_minute_80 : decode cX11_minute 80 = .ok (.invokevirtual 111, 3) := by decide +kernel
theorem dX11_minute_83 : decode cX11_minute 83 = .ok (.istore_n 3, 1) := by decide +kernel
theorem dX11_minute_84 : decode cX11_minute 84 = .ok (.iload_n 3, 1) := by decide +kernel
theorem dX11_minute_85 : decode cX11_minute 85 = .ok (.ifCond .lt 13, 3) := by decide +kernel
theorem dX11_minute_88 : decode cX11_minute 88 = .ok (.aload_n 0, 1) := by decide +kernel
theorem dX11_minute_89 : decode cX11_minute 89 = .ok (.iload_n 2, 1) := by decide +kernel
theorem dX11_minute_90 : decode cX11_minute 90 = .ok (.iconst 0, 1) := by decide +kernel
theorem dX11_minute_91 : decode cX11_minute 91 = .ok (.iload_n 3, 1) := by decide +kernel
theorem dX11_minute_92 : decode cX11_minute 92 = .ok (.invokevirtual 67, 3) := by decide +kernel
theorem dX11_minute_95 : decode cX11_minute 95 = .ok (.iinc 1 1, 3) := by decide +kernel
theorem dX11_minute_98 : decode cX11_minute 98 = .ok (.iinc 2 1, 3) := by decide +kernel
theorem dX11_minute_101 : decode cX11_minute 101 = .ok (.goto (-87), 3) := by decide +kernel
theorem dX11_minute_104 : decode cX11_minute 104 = .ok (.iload_n 1, 1) := by decide +kernel
theorem dX11_minute_105 : decode cX11_minute 105 = .ok (.ireturn, 1) := by decide +kernel
set_option maxRecDepth 20000 in
theorem ggX11_pause_X11_in : GoodIn wsX11_pause wsX11_in := goodIn_r _ [5] (by decide +kernel) (by decide +kernel)
set_option maxRecDepth 20000 in
theorem gX11_pause_X11_in : GoodIn wsX11_pause (va_wsS RX11 53 yX11_in wsX11_in) := goodIn_app (goodIn_of _ (by decide +kernel)) ggX11_pause_X11_in
set_option maxRecDepth 20000 in
theorem ggX11_pause_X11_changes : GoodIn wsX11_pause wsX11_changes := goodIn_r _ [9, 10, 11, 12, 1, 48, 49, 50, 51, 52, 53, 54, 55, 56, 57, 58, 59, 60, 61] (by decide +kernel) (by decide +kernel)
set_option maxRecDepth 20000 in
theorem gX11_pause_X11_changes : GoodIn wsX11_pause (wsV RX11 57 RX11 yX11_changes wsX11_changes) := goodIn_app (goodIn_of _ (by decide +kernel)) ggX11_pause_X11_changes
set_option maxRecDepth 20000 in
theorem ggX11_pause_X11_minute : GoodIn wsX11_pause wsX11_minute := goodIn_r _ [16, 1, 17, 18, 19, 4, 20, 21, 22, 23, 24, 25, 26, 27, 28, 29, 30, 31, 32, 33, 34, 35, 36, 37, 38, 39, 40, 41, 42, 43, 44, 45, 46, 47, 48, 49, 50, 51, 52, 53, 54, 55, 56, 57, 58, 59, 60, 61] (by decide +kernel) (by decide +kernel)
set_option maxRecDepth 20000 in
theorem gX11_pause_X11_minute : GoodIn wsX11_pause (wsV RX11 114 RX11 yX11_minute wsX11_minute) := goodIn_app (goodIn_of _ (by decide +kernel)) ggX11_pause_X11_minute
theorem dX11_pause_0 : decode cX11_pause 0 = .ok (.iload_n 1, 1) := by decide +kernel
theorem dX11_pause_1 : decode cX11_pause 1 = .ok (.iconst 1, 1) := by decide +kernel
theorem dX11_pause_2 : decode cX11_pause 2 = .ok (.sipush 200, 3) := by decide +kernel
theorem dX11_pause_5 : decode cX11_pause 5 = .ok (.invokestatic 53, 3) := by decide +kernel
theorem dX11_pause_8 : decode cX11_pause 8 = .ok (.ifCond .ne 5, 3) := by decide +kernel
theorem dX11_pause_11 : decode cX11_pause 11 = .ok (.iconst (-1), 1) := by decide +kernel
theorem dX11_pause_12 : decode cX11_pause 12 = .ok (.ireturn, 1) := by decide +kernel
theorem dX11_pause_13 : decode cX11_pause 13 = .ok (.aload_n 0, 1) := by decide +kernel
theorem dX11_pause_14 : decode cX11_pause 14 = .ok (.getfield 7, 3) := by decide +kernel
theorem dX11_pause_17 : decode cX11_pause 17 = .ok (.iconst 4, 1) := by decide +kernel
theorem dX11_pause_18 : decode cX11_pause 18 = .ok (.iaload, 1) := by decide +kernel
theorem dX11_pause_19 : decode cX11_pause 19 = .ok (.iload_n 1, 1) := by decide +kernel
theorem dX11_pause_20 : decode cX11_pause 20 = .ok (.iadd, 1) := by decide +kernel
theorem dX11_pause_21 : decode cX11_pause 21 = .ok (.sipush 9000, 3) := by decide +kernel
theorem dX11_pause_24 : decode cX11_pause 24 = .ok (.if_icmp .le 6, 3) := by decide +kernel
theorem dX11_pause_27 : decode cX11_pause 27 = .ok (.bipush (-3), 2) := by decide +kernel
theorem dX11_pause_29 : decode cX11_pause 29 = .ok (.ireturn, 1) := by decide +kernel
theorem dX11_pause_30 : decode cX11_pause 30 = .ok (.aload_n 0, 1) := by decide +kernel
theorem dX11_pause_31 : decode cX11_pause 31 = .ok (.invokevirtual 57, 3) := by decide +kernel
theorem dX11_pause_34 : decode cX11_pause 34 = .ok (.iconst 0, 1) := by decide +kernel
theorem dX11_pause_35 : decode cX11_pause 35 = .ok (.istore_n 2, 1) := by decide +kernel
theorem dX11_pause_36 : decode cX11_pause 36 = .ok (.iconst 0, 1) := by decide +kernel
theorem dX11_pause_37 : decode cX11_pause 37 = .ok (.istore_n 3, 1) := by decide +kernel
theorem dX11_pause_38 : decode cX11_pause 38 = .ok (.iload_n 3, 1) := by decide +kernel
theorem dX11_pause_39 : decode cX11_pause 39 = .ok (.iload_n 1, 1) := by decide +kernel
theorem dX11_pause_40 : decode cX11_pause 40 = .ok (.if_icmp .ge 16, 3) := by decide +kernel
theorem dX11_pause_43 : decode cX11_pause 43 = .ok (.iload_n 2, 1) := by decide +kernel
theorem dX11_pause_44 : decode cX11_pause 44 = .ok (.aload_n 0, 1) := by decide +kernel
theorem dX11_pause_45 : decode cX11_pause 45 = .ok (.invokevirtual 114, 3) := by decide +kernel
theorem dX11_pause_48 : decode cX11_pause 48 = .ok (.iadd, 1) := by decide +kernel
theorem dX11_pause_49 : decode cX11_pause 49 = .ok (.istore_n 2, 1) := by decide +kernel
theorem dX11_pause_50 : decode cX11_pause 50 = .ok (.iinc 3 1, 3) := by decide +kernel
theorem dX11_pause_53 : decode cX11_pause 53 = .ok (.goto (-15), 3) := by decide +kernel
theorem dX11_pause_56 : decode cX11_pause 56 = .ok (.iload_n 2, 1) := by decide +kernel
theorem dX11_pause_57 : decode cX11_pause 57 = .ok (.ireturn, 1) := by decide +kernel
set_option maxRecDepth 20000 in
theorem ggX11_set_X11_in : GoodIn wsX11_set wsX11_in := goodIn_r _ [5] (by decide +kernel) (by decide +kernel)
set_option maxRecDepth 20000 in
theorem gX11_set_X11_in : GoodIn wsX11_set (va_wsS RX11 53 yX11_in wsX11_in) := goodIn_app (goodIn_of _ (by decide +kernel)) ggX11_set_X11_in
set_option maxRecDepth 20000 in
theorem ggX11_set_X11_changes : GoodIn wsX11_set wsX11_changes := goodIn_r _ [9, 10, 11, 12, 1, 13, 14, 15, 16, 17, 18, 19, 20, 21, 22, 23, 24, 25, 26] (by decide +kernel) (by decide +kernel)
set_option maxRecDepth 20000 in
theorem gX11_set_X11_changes : GoodIn wsX11_set (wsV RX11 57 RX11 yX11_changes wsX11_changes) := goodIn_app (goodIn_of _ (by decide +kernel)) ggX11_set_X11_changes
theorem dX11_set_0 : decode cX11_set 0 = .ok (.iload_n 1, 1) := by decide +kernel
theorem dX11_set_1 : decode cX11_set 1 = .ok (.iconst 0, 1) := by decide +kernel
theorem dX11_set_2 : decode cX11_set 2 = .ok (.iconst 2, 1) := by decide +kernel
theorem dX11_set_3 : decode cX11_set 3 = .ok (.invokestatic 53, 3) := by decide +kernel
theorem dX11_set_6 : decode cX11_set 6 = .ok (.ifCond .eq 32, 3) := by decide +kernel
theorem dX11_set_9 : decode cX11_set 9 = .ok (.iload_n 2, 1) := by decide +kernel
theorem dX11_set_10 : decode cX11_set 10 = .ok (.iload_n 1, 1) := by decide +kernel
theorem dX11_set_11 : decode cX11_set 11 = .ok (.iconst 1, 1) := by decide +kernel
theorem dX11_set_12 : decode cX11_set 12 = .ok (.if_icmp .ne 7, 3) := by decide +kernel
theorem dX11_set_15 : decode cX11_set 15 = .ok (.iconst 1, 1) := by decide +kernel
theorem dX11_set_16 : decode cX11_set 16 = .ok (.goto 4, 3) := by decide +kernel
theorem dX11_set_19 : decode cX11_set 19 = .ok (.iconst 0, 1) := by decide +kernel
theorem dX11_set_20 : decode cX11_set 20 = .ok (.iload_n 1, 1) := by decide +kernel
theorem dX11_set_21 : decode cX11_set 21 = .ok (.ifCond .ne 8, 3) := by decide +kernel
theorem dX11_set_24 : decode cX11_set 24 = .ok (.bipush 99, 2) := by decide +kernel
theorem dX11_set_26 : decode cX11_set 26 = .ok (.goto 6, 3) := by decide +kernel
theorem dX11_set_29 : decode cX11_set 29 = .ok (.sipush 999, 3) := by decide +kernel
theorem dX11_set_32 : decode cX11_set 32 = .ok (.invokestatic 53, 3) := by decide +kernel
theorem dX11_set_35 : decode cX11_set 35 = .ok (.ifCond .ne 5, 3) := by decide +kernel
theorem dX11_set_38 : decode cX11_set 38 = .ok (.iconst (-1), 1) := by decide +kernel
theorem dX11_set_39 : decode cX11_set 39 = .ok (.ireturn, 1) := by decide +kernel
theorem dX11_set_40 : decode cX11_set 40 = .ok (.aload_n 0, 1) := by decide +kernel
theorem dX11_set_41 : decode cX11_set 41 = .ok (.invokevirtual 57, 3) := by decide +kernel
theorem dX11_set_44 : decode cX11_set 44 = .ok (.aload_n 0, 1) := by decide +kernel
theorem dX11_set_45 : decode cX11_set 45 = .ok (.getfield 7, 3) := by decide +kernel
theorem dX11_set_48 : decode cX11_set 48 = .ok (.iconst 5, 1) := by decide +kernel
theorem dX11_set_49 : decode cX11_set 49 = .ok (.iload_n 1, 1) := by decide +kernel
theorem dX11_set_50 : decode cX11_set 50 = .ok (.iadd, 1) := by decide +kernel
theorem dX11_set_51 : decode cX11_set 51 = .ok (.iaload, 1) := by decide +kernel
theorem dX11_set_52 : decode cX11_set 52 = .ok (.istore_n 3, 1) := by decide +kernel
theorem dX11_set_53 : decode cX11_set 53 = .ok (.aload_n 0, 1) := by decide +kernel
theorem dX11_set_54 : decode cX11_set 54 = .ok (.getfield 7, 3) := by decide +kernel
theorem dX11_set_57 : decode cX11_set 57 = .ok (.iconst 5, 1) := by decide +kernel
theorem dX11_set_58 : decode cX11_set 58 = .ok (.iload_n 1, 1) := by decide +kernel
theorem dX11_set_59 : decode cX11_set 59 = .ok (.iadd, 1) := by decide +kernel
theorem dX11_set_60 : decode cX11_set 60 = .ok (.iload_n 2, 1) := by decide +kernel
theorem dX11_set_61 : decode cX11_set 61 = .ok (.iastore, 1) := by decide +kernel
theorem dX11_set_62 : decode cX11_set 62 = .ok (.iload_n 3, 1) := by decide +kernel
theorem dX11_set_63 : decode cX11_set 63 = .ok (.ireturn, 1) := by decide +kernel
theorem dX11_uneven_0 : decode cX11_uneven 0 = .ok (.iconst 2, 1) := by decide +kernel
theorem dX11_uneven_1 : decode cX11_uneven 1 = .ok (.iload_n 0, 1) := by decide +kernel
theorem dX11_uneven_2 : decode cX11_uneven 2 = .ok (.imul, 1) := by decide +kernel
theorem dX11_uneven_3 : decode cX11_uneven 3 = .ok (.iload_n 1, 1) := by decide +kernel
theorem dX11_uneven_4 : decode cX11_uneven 4 = .ok (.isub, 1) := by decide +kernel
theorem dX11_uneven_5 : decode cX11_uneven 5 = .ok (.istore_n 2, 1) := by decide +kernel
theorem dX11_uneven_6 : decode cX11_uneven 6 = .ok (.iload_n 2, 1) := by decide +kernel
theorem dX11_uneven_7 : decode cX11_uneven 7 = .ok (.ifCond .ge 8, 3) := by decide +kernel
theorem dX11_uneven_10 : decode cX11_uneven 10 = .ok (.iload_n 2, 1) := by decide +kernel
theorem dX11_uneven_11 : decode cX11_uneven 11 = .ok (.ineg, 1) := by decide +kernel
theorem dX11_uneven_12 : decode cX11_uneven 12 = .ok (.goto 4, 3) := by decide +kernel
theorem dX11_uneven_15 : decode cX11_uneven 15 = .ok (.iload_n 2, 1) := by decide +kernel
theorem dX11_uneven_16 : decode cX11_uneven 16 = .ok (.ireturn, 1) := by decide +kernel
set_option maxRecDepth 20000 in
theorem ggX11_unevenNow_X11_docked : GoodIn wsX11_unevenNow wsX11_docked := goodIn_r _ [5, 6, 7, 8, 4, 9, 10, 11, 12, 13, 14, 15, 16, 17, 25, 26, 27, 28, 29, 30, 31, 32, 33, 34, 35, 36, 37, 38] (by decide +kernel) (by decide +kernel)
set_option maxRecDepth 20000 in
theorem gX11_unevenNow_X11_docked : GoodIn wsX11_unevenNow (wsV RX11 47 RX11 yX11_docked wsX11_docked) := goodIn_app (goodIn_of _ (by decide +kernel)) ggX11_unevenNow_X11_docked
set_option maxRecDepth 20000 in
theorem ggX11_unevenNow_X11_ofStation : GoodIn wsX11_unevenNow wsX11_ofStation := goodIn_r _ [21, 10, 25, 26, 27, 28, 29, 30, 31, 32, 33, 34, 35, 36, 37, 38] (by decide +kernel) (by decide +kernel)
set_option maxRecDepth 20000 in
theorem gX11_unevenNow_X11_ofStation : GoodIn wsX11_unevenNow (wsV RX11 50 RX11 yX11_ofStation wsX11_ofStation) := goodIn_app (goodIn_of _ (by decide +kernel)) ggX11_unevenNow_X11_ofStation
set_option maxRecDepth 20000 in
theorem ggX11_unevenNow_X11_uneven : GoodIn wsX11_unevenNow wsX11_uneven := goodIn_r _ [24] (by decide +kernel) (by decide +kernel)
set_option maxRecDepth 20000 in
theorem gX11_unevenNow_X11_uneven : GoodIn wsX11_unevenNow (va_wsS RX11 117 yX11_uneven wsX11_uneven) := goodIn_app (goodIn_of _ (by decide +kernel)) ggX11_unevenNow_X11_uneven
theorem dX11_unevenNow_0 : decode cX11_unevenNow 0 = .ok (.aload_n 0, 1) := by decide +kernel
theorem dX11_unevenNow_1 : decode cX11_unevenNow 1 = .ok (.iload_n 1, 1) := by decide +kernel
theorem dX11_unevenNow_2 : decode cX11_unevenNow 2 = .ok (.invokevirtual 47, 3) := by decide +kernel
theorem dX11_unevenNow_5 : decode cX11_unevenNow 5 = .ok (.aload_n 0, 1) := by decide +kernel
theorem dX11_unevenNow_6 : decode cX11_unevenNow 6 = .ok (.iload_n 1, 1) := by decide +kernel
theorem dX11_unevenNow_7 : decode cX11_unevenNow 7 = .ok (.iconst 1, 1) := by decide +kernel
theorem dX11_unevenNow_8 : decode cX11_unevenNow 8 = .ok (.invokevirtual 50, 3) := by decide +kernel
theorem dX11_unevenNow_11 : decode cX11_unevenNow 11 = .ok (.invokestatic 117, 3) := by decide +kernel
theorem dX11_unevenNow_14 : decode cX11_unevenNow 14 = .ok (.ireturn, 1) := by decide +kernel
set_option maxRecDepth 20000 in
theorem ggX11_allDocks_X11_ofStation : GoodIn wsX11_allDocks wsX11_ofStation := goodIn_r _ [6, 1, 7, 8, 9, 10, 11, 12, 13, 14, 15, 16, 17, 18, 19, 20] (by decide +kernel) (by decide +kernel)
set_option maxRecDepth 20000 in
theorem gX11_allDocks_X11_ofStation : GoodIn wsX11_allDocks (wsV RX11 50 RX11 yX11_ofStation wsX11_ofStation) := goodIn_app (goodIn_of _ (by decide +kernel)) ggX11_allDocks_X11_ofStation
theorem dX11_allDocks_0 : decode cX11_allDocks 0 = .ok (.iconst 0, 1) := by decide +kernel
theorem dX11_allDocks_1 : decode cX11_allDocks 1 = .ok (.istore_n 1, 1) := by decide +kernel
theorem dX11_allDocks_2 : decode cX11_allDocks 2 = .ok (.iconst 0, 1) := by decide +kernel
theorem dX11_allDocks_3 : decode cX11_allDocks 3 = .ok (.istore_n 2, 1) := by decide +kernel
theorem dX11_allDocks_4 : decode cX11_allDocks 4 = .ok (.iload_n 2, 1) := by decide +kernel
theorem dX11_allDocks_5 : decode cX11_allDocks 5 = .ok (.aload_n 0, 1) := by decide +kernel
theorem dX11_allDocks_6 : decode cX11_allDocks 6 = .ok (.getfield 7, 3) := by decide +kernel
theorem dX11_allDocks_9 : decode cX11_allDocks 9 = .ok (.iconst 0, 1) := by decide +kernel
theorem dX11_allDocks_10 : decode cX11_allDocks 10 = .ok (.iaload, 1) := by decide +kernel
theorem dX11_allDocks_11 : decode cX11_allDocks 11 = .ok (.if_icmp .ge 18, 3) := by decide +kernel
theorem dX11_allDocks_14 : decode cX11_allDocks 14 = .ok (.iload_n 1, 1) := by decide +kernel
theorem dX11_allDocks_15 : decode cX11_allDocks 15 = .ok (.aload_n 0, 1) := by decide +kernel
theorem dX11_allDocks_16 : decode cX11_allDocks 16 = .ok (.iload_n 2, 1) := by decide +kernel
theorem dX11_allDocks_17 : decode cX11_allDocks 17 = .ok (.iconst 1, 1) := by decide +kernel
theorem dX11_allDocks_18 : decode cX11_allDocks 18 = .ok (.invokevirtual 50, 3) := by decide +kernel
theorem dX11_allDocks_21 : decode cX11_allDocks 21 = .ok (.iadd, 1) := by decide +kernel
theorem dX11_allDocks_22 : decode cX11_allDocks 22 = .ok (.istore_n 1, 1) := by decide +kernel
theorem dX11_allDocks_23 : decode cX11_allDocks 23 = .ok (.iinc 2 1, 3) := by decide +kernel
theorem dX11_allDocks_26 : decode cX11_allDocks 26 = .ok (.goto (-22), 3) := by decide +kernel
theorem dX11_allDocks_29 : decode cX11_allDocks 29 = .ok (.iload_n 1, 1) := by decide +kernel
theorem dX11_allDocks_30 : decode cX11_allDocks 30 = .ok (.ireturn, 1) := by decide +kernel
set_option maxRecDepth 20000 in
theorem ggX11_inState_X11_ofBicycle : GoodIn wsX11_inState wsX11_ofBicycle := goodIn_r _ [6, 1, 7, 8, 9, 10, 11, 12, 13, 14, 15, 16, 17, 18, 19, 20] (by decide +kernel) (by decide +kernel)
set_option maxRecDepth 20000 in
theorem gX11_inState_X11_ofBicycle : GoodIn wsX11_inState (wsV RX11 36 RX11 yX11_ofBicycle wsX11_ofBicycle) := goodIn_app (goodIn_of _ (by decide +kernel)) ggX11_inState_X11_ofBicycle
theorem dX11_inState_0 : decode cX11_inState 0 = .ok (.iconst 0, 1) := by decide +kernel
theorem dX11_inState_1 : decode cX11_inState 1 = .ok (.istore_n 2, 1) := by decide +kernel
theorem dX11_inState_2 : decode cX11_inState 2 = .ok (.iconst 0, 1) := by decide +kernel
theorem dX11_inState_3 : decode cX11_inState 3 = .ok (.istore_n 3, 1) := by decide +kernel
theorem dX11_inState_4 : decode cX11_inState 4 = .ok (.iload_n 3, 1) := by decide +kernel
theorem dX11_inState_5 : decode cX11_inState 5 = .ok (.aload_n 0, 1) := by decide +kernel
theorem dX11_inState_6 : decode cX11_inState 6 = .ok (.getfield 7, 3) := by decide +kernel
theorem dX11_inState_9 : decode cX11_inState 9 = .ok (.iconst 1, 1) := by decide +kernel
theorem dX11_inState_10 : decode cX11_inState 10 = .ok (.iaload, 1) := by decide +kernel
theorem dX11_inState_11 : decode cX11_inState 11 = .ok (.if_icmp .ge 27, 3) := by decide +kernel
theorem dX11_inState_14 : decode cX11_inState 14 = .ok (.iload_n 2, 1) := by decide +kernel
theorem dX11_inState_15 : decode cX11_inState 15 = .ok (.aload_n 0, 1) := by decide +kernel
theorem dX11_inState_16 : decode cX11_inState 16 = .ok (.iload_n 3, 1) := by decide +kernel
theorem dX11_inState_17 : decode cX11_inState 17 = .ok (.iconst 0, 1) := by decide +kernel
theorem dX11_inState_18 : decode cX11_inState 18 = .ok (.invokevirtual 36, 3) := by decide +kernel
theorem dX11_inState_21 : decode cX11_inState 21 = .ok (.iload_n 1, 1) := by decide +kernel
theorem dX11_inState_22 : decode cX11_inState 22 = .ok (.if_icmp .ne 7, 3) := by decide +kernel
theorem dX11_inState_25 : decode cX11_inState 25 = .ok (.iconst 1, 1) := by decide +kernel
theorem dX11_inState_26 : decode cX11_inState 26 = .ok (.goto 4, 3) := by decide +kernel
theorem dX11_inState_29 : decode cX11_inState 29 = .ok (.iconst 0, 1) := by decide +kernel
theorem dX11_inState_30 : decode cX11_inState 30 = .ok (.iadd, 1) := by decide +kernel
theorem dX11_inState_31 : decode cX11_inState 31 = .ok (.istore_n 2, 1) := by decide +kernel
theorem dX11_inState_32 : decode cX11_inState 32 = .ok (.iinc 3 1, 3) := by decide +kernel
theorem dX11_inState_35 : decode cX11_inState 35 = .ok (.goto (-31), 3) := by decide +kernel
theorem dX11_inState_38 : decode cX11_inState 38 = .ok (.iload_n 2, 1) := by decide +kernel
theorem dX11_inState_39 : decode cX11_inState 39 = .ok (.ireturn, 1) := by decide +kernel
set_option maxRecDepth 20000 in
theorem ggX11_aim_X11_inState : GoodIn wsX11_aim wsX11_inState := goodIn_r _ [6, 1, 7, 8, 9, 5, 10, 19, 20, 21, 22, 23, 24, 25, 26, 27, 28, 29, 30, 31, 32] (by decide +kernel) (by decide +kernel)
set_option maxRecDepth 20000 in
theorem gX11_aim_X11_inState : GoodIn wsX11_aim (wsV RX11 120 RX11 yX11_inState wsX11_inState) := goodIn_app (goodIn_of _ (by decide +kernel)) ggX11_aim_X11_inState
set_option maxRecDepth 20000 in
theorem ggX11_aim_X11_allDocks : GoodIn wsX11_aim wsX11_allDocks := goodIn_r _ [14, 1, 15, 16, 17, 5, 18, 19, 20, 21, 22, 23, 24, 25, 26, 27, 28, 29, 30, 31, 32] (by decide +kernel) (by decide +kernel)
set_option maxRecDepth 20000 in
theorem gX11_aim_X11_allDocks : GoodIn wsX11_aim (wsV RX11 123 RX11 yX11_allDocks wsX11_allDocks) := goodIn_app (goodIn_of _ (by decide +kernel)) ggX11_aim_X11_allDocks
set_option maxRecDepth 20000 in
theorem ggX11_aim_X11_ofStation : GoodIn wsX11_aim wsX11_ofStation := goodIn_r _ [18, 1, 19, 20, 21, 22, 23, 24, 25, 26, 27, 28, 29, 30, 31, 32] (by decide +kernel) (by decide +kernel)
set_option maxRecDepth 20000 in
theorem gX11_aim_X11_ofStation : GoodIn wsX11_aim (wsV RX11 50 RX11 yX11_ofStation wsX11_ofStation) := goodIn_app (goodIn_of _ (by decide +kernel)) ggX11_aim_X11_ofStation
theorem dX11_aim_0 : decode cX11_aim 0 = .ok (.aload_n 0, 1) := by decide +kernel
theorem dX11_aim_1 : decode cX11_aim 1 = .ok (.iconst 0, 1) := by decide +kernel
theorem dX11_aim_2 : decode cX11_aim 2 = .ok (.invokevirtual 120, 3) := by decide +kernel
theorem dX11_aim_5 : decode cX11_aim 5 = .ok (.istore_n 2, 1) := by decide +kernel
theorem dX11_aim_6 : decode cX11_aim 6 = .ok (.aload_n 0, 1) := by decide +kernel
theorem dX11_aim_7 : decode cX11_aim 7 = .ok (.invokevirtual 123, 3) := by decide +kernel
theorem dX11_aim_10 : decode cX11_aim 10 = .ok (.istore_n 3, 1) := by decide +kernel
theorem dX11_aim_11 : decode cX11_aim 11 = .ok (.iload_n 2, 1) := by decide +kernel
theorem dX11_aim_12 : decode cX11_aim 12 = .ok (.istore 4, 2) := by decide +kernel
theorem dX11_aim_14 : decode cX11_aim 14 = .ok (.iconst 0, 1) := by decide +kernel
theorem dX11_aim_15 : decode cX11_aim 15 = .ok (.istore 5, 2) := by decide +kernel
theorem dX11_aim_17 : decode cX11_aim 17 = .ok (.iload 5, 2) := by decide +kernel
theorem dX11_aim_19 : decode cX11_aim 19 = .ok (.aload_n 0, 1) := by decide +kernel
theorem dX11_aim_20 : decode cX11_aim 20 = .ok (.getfield 7, 3) := by decide +kernel
theorem dX11_aim_23 : decode cX11_aim 23 = .ok (.iconst 0, 1) := by decide +kernel
theorem dX11_aim_24 : decode cX11_aim 24 = .ok (.iaload, 1) := by decide +kernel
theorem dX11_aim_25 : decode cX11_aim 25 = .ok (.if_icmp .ge 25, 3) := by decide +kernel
theorem dX11_aim_28 : decode cX11_aim 28 = .ok (.iload 4, 2) := by decide +kernel
theorem dX11_aim_30 : decode cX11_aim 30 = .ok (.aload_n 0, 1) := by decide +kernel
theorem dX11_aim_31 : decode cX11_aim 31 = .ok (.iload 5, 2) := by decide +kernel
theorem dX11_aim_33 : decode cX11_aim 33 = .ok (.iconst 1, 1) := by decide +kernel
theorem dX11_aim_34 : decode cX11_aim 34 = .ok (.invokevirtual 50, 3) := by decide +kernel
theorem dX11_aim_37 : decode cX11_aim 37 = .ok (.iload_n 2, 1) := by decide +kernel
theorem dX11_aim_38 : decode cX11_aim 38 = .ok (.imul, 1) := by decide +kernel
theorem dX11_aim_39 : decode cX11_aim 39 = .ok (.iload_n 3, 1) := by decide +kernel
theorem dX11_aim_40 : decode cX11_aim 40 = .ok (.idiv, 1) := by decide +kernel
theorem dX11_aim_41 : decode cX11_aim 41 = .ok (.isub, 1) := by decide +kernel
theorem dX11_aim_42 : decode cX11_aim 42 = .ok (.istore 4, 2) := by decide +kernel
theorem dX11_aim_44 : decode cX11_aim 44 = .ok (.iinc 5 1, 3) := by decide +kernel
theorem dX11_aim_47 : decode cX11_aim 47 = .ok (.goto (-30), 3) := by decide +kernel
theorem dX11_aim_50 : decode cX11_aim 50 = .ok (.aload_n 0, 1) := by decide +kernel
theorem dX11_aim_51 : decode cX11_aim 51 = .ok (.iload_n 1, 1) := by decide +kernel
theorem dX11_aim_52 : decode cX11_aim 52 = .ok (.iconst 1, 1) := by decide +kernel
theorem dX11_aim_53 : decode cX11_aim 53 = .ok (.invokevirtual 50, 3) := by decide +kernel
theorem dX11_aim_56 : decode cX11_aim 56 = .ok (.iload_n 2, 1) := by decide +kernel
theorem dX11_aim_57 : decode cX11_aim 57 = .ok (.imul, 1) := by decide +kernel
theorem dX11_aim_58 : decode cX11_aim 58 = .ok (.iload_n 3, 1) := by decide +kernel
theorem dX11_aim_59 : decode cX11_aim 59 = .ok (.idiv, 1) := by decide +kernel
theorem dX11_aim_60 : decode cX11_aim 60 = .ok (.iload_n 1, 1) := by decide +kernel
theorem dX11_aim_61 : decode cX11_aim 61 = .ok (.iload 4, 2) := by decide +kernel
theorem dX11_aim_63 : decode cX11_aim 63 = .ok (.if_icmp .ge 7, 3) := by decide +kernel
theorem dX11_aim_66 : decode cX11_aim 66 = .ok (.iconst 1, 1) := by decide +kernel
theorem dX11_aim_67 : decode cX11_aim 67 = .ok (.goto 4, 3) := by decide +kernel
theorem dX11_aim_70 : decode cX11_aim 70 = .ok (.iconst 0, 1) := by decide +kernel
theorem dX11_aim_71 : decode cX11_aim 71 = .ok (.iadd, 1) := by decide +kernel
theorem dX11_aim_72 : decode cX11_aim 72 = .ok (.ireturn, 1) := by decide +kernel
set_option maxRecDepth 20000 in
theorem ggX11_stationOf_X11_isStation : GoodIn wsX11_stationOf wsX11_isStation := goodIn_r _ [5, 6, 48, 49, 50, 51, 52, 53, 54, 55, 56, 57, 58, 59, 60, 61] (by decide +kernel) (by decide +kernel)
set_option maxRecDepth 20000 in
theorem gX11_stationOf_X11_isStation : GoodIn wsX11_stationOf (wsV RX11 60 RX11 yX11_isStation wsX11_isStation) := goodIn_app (goodIn_of _ (by decide +kernel)) ggX11_stationOf_X11_isStation
set_option maxRecDepth 20000 in
theorem ggX11_stationOf_X11_in : GoodIn wsX11_stationOf wsX11_in := goodIn_r _ [9] (by decide +kernel) (by decide +kernel)
set_option maxRecDepth 20000 in
theorem gX11_stationOf_X11_in : GoodIn wsX11_stationOf (va_wsS RX11 53 yX11_in wsX11_in) := goodIn_app (goodIn_of _ (by decide +kernel)) ggX11_stationOf_X11_in
set_option maxRecDepth 20000 in
theorem ggX11_stationOf_X11_ofStation : GoodIn wsX11_stationOf wsX11_ofStation := goodIn_r _ [13, 6, 48, 49, 50, 51, 52, 53, 54, 55, 56, 57, 58, 59, 60, 61] (by decide +kernel) (by decide +kernel)
set_option maxRecDepth 20000 in
theorem gX11_stationOf_X11_ofStation : GoodIn wsX11_stationOf (wsV RX11 50 RX11 yX11_ofStation wsX11_ofStation) := goodIn_app (goodIn_of _ (by decide +kernel)) ggX11_stationOf_X11_ofStation
set_option maxRecDepth 20000 in
theorem ggX11_stationOf_X11_those : GoodIn wsX11_stationOf wsX11_those := goodIn_r _ [17, 6, 18, 19, 20, 4, 21, 48, 49, 50, 51, 52, 53, 54, 55, 56, 57, 58, 59, 60, 61] (by decide +kernel) (by decide +kernel)
set_option maxRecDepth 20000 in
theorem gX11_stationOf_X11_those : GoodIn wsX11_stationOf (wsV RX11 40 RX11 yX11_those wsX11_those) := goodIn_app (goodIn_of _ (by decide +kernel)) ggX11_stationOf_X11_those
set_option maxRecDepth 20000 in
theorem ggX11_stationOf_X11_unevenNow : GoodIn wsX11_stationOf wsX11_unevenNow := goodIn_r _ [25, 26, 27, 28, 4, 29, 14, 15, 16, 17, 6, 18, 19, 20, 21, 30, 31, 32, 10, 11, 12, 13, 33, 34, 35, 48, 49, 50, 51, 52, 53, 54, 55, 56, 57, 58, 59, 60, 61] (by decide +kernel) (by decide +kernel)
set_option maxRecDepth 20000 in
theorem gX11_stationOf_X11_unevenNow : GoodIn wsX11_stationOf (wsV RX11 126 RX11 yX11_unevenNow wsX11_unevenNow) := goodIn_app (goodIn_of _ (by decide +kernel)) ggX11_stationOf_X11_unevenNow
set_option maxRecDepth 20000 in
theorem ggX11_stationOf_X11_aim : GoodIn wsX11_stationOf wsX11_aim := goodIn_r _ [39, 6, 40, 41, 42, 4, 43, 18, 19, 20, 21, 44, 45, 46, 47, 10, 11, 12, 13, 48, 49, 50, 51, 52, 53, 54, 55, 56, 57, 58, 59, 60, 61] (by decide +kernel) (by decide +kernel)
set_option maxRecDepth 20000 in
theorem gX11_stationOf_X11_aim : GoodIn wsX11_stationOf (wsV RX11 129 RX11 yX11_aim wsX11_aim) := goodIn_app (goodIn_of _ (by decide +kernel)) ggX11_stationOf_X11_aim
theorem dX11_stationOf_0 : decode cX11_stationOf 0 = .ok (.aload_n 0, 1) := by decide +kernel
theorem dX11_stationOf_1 : decode cX11_stationOf 1 = .ok (.iload_n 1, 1) := by decide +kernel
theorem dX11_stationOf_2 : decode cX11_stationOf 2 = .ok (.invokevirtual 60, 3) := by decide +kernel
theorem dX11_stationOf_5 : decode cX11_stationOf 5 = .ok (.ifCond .eq 13, 3) := by decide +kernel
theorem dX11_stationOf_8 : decode cX11_stationOf 8 = .ok (.iload_n 2, 1) := by decide +kernel
theorem dX11_stationOf_9 : decode cX11_stationOf 9 = .ok (.iconst 0, 1) := by decide +kernel
theorem dX11_stationOf_10 : decode cX11_stationOf 10 = .ok (.bipush 6, 2) := by decide +kernel
theorem dX11_stationOf_12 : decode cX11_stationOf 12 = .ok (.invokestatic 53, 3) := by decide +kernel
theorem dX11_stationOf_15 : decode cX11_stationOf 15 = .ok (.ifCond .ne 5, 3) := by decide +kernel
theorem dX11_stationOf_18 : decode cX11_stationOf 18 = .ok (.iconst (-1), 1) := by decide +kernel
theorem dX11_stationOf_19 : decode cX11_stationOf 19 = .ok (.ireturn, 1) := by decide +kernel
theorem dX11_stationOf_20 : decode cX11_stationOf 20 = .ok (.iload_n 2, 1) := by decide +kernel
theorem dX11_stationOf_21 : decode cX11_stationOf 21 = .ok (.tableswitch 61 0 4 #[35, 35, 42, 49, 55], 35) := by decide +kernel
theorem dX11_stationOf_56 : decode cX11_stationOf 56 = .ok (.aload_n 0, 1) := by decide +kernel
theorem dX11_stationOf_57 : decode cX11_stationOf 57 = .ok (.iload_n 1, 1) := by decide +kernel
theorem dX11_stationOf_58 : decode cX11_stationOf 58 = .ok (.iload_n 2, 1) := by decide +kernel
theorem dX11_stationOf_59 : decode cX11_stationOf 59 = .ok (.invokevirtual 50, 3) := by decide +kernel
theorem dX11_stationOf_62 : decode cX11_stationOf 62 = .ok (.ireturn, 1) := by decide +kernel
theorem dX11_stationOf_63 : decode cX11_stationOf 63 = .ok (.aload_n 0, 1) := by decide +kernel
theorem dX11_stationOf_64 : decode cX11_stationOf 64 = .ok (.iconst 0, 1) := by decide +kernel
theorem dX11_stationOf_65 : decode cX11_stationOf 65 = .ok (.iload_n 1, 1) := by decide +kernel
theorem dX11_stationOf_66 : decode cX11_stationOf 66 = .ok (.invokevirtual 40, 3) := by decide +kernel
theorem dX11_stationOf_69 : decode cX11_stationOf 69 = .ok (.ireturn, 1) := by decide +kernel
theorem dX11_stationOf_70 : decode cX11_stationOf 70 = .ok (.aload_n 0, 1) := by decide +kernel
theorem dX11_stationOf_71 : decode cX11_stationOf 71 = .ok (.iload_n 1, 1) := by decide +kernel
theorem dX11_stationOf_72 : decode cX11_stationOf 72 = .ok (.invokevirtual 126, 3) := by decide +kernel
theorem dX11_stationOf_75 : decode cX11_stationOf 75 = .ok (.ireturn, 1) := by decide +kernel
theorem dX11_stationOf_76 : decode cX11_stationOf 76 = .ok (.aload_n 0, 1) := by decide +kernel
theorem dX11_stationOf_77 : decode cX11_stationOf 77 = .ok (.iload_n 1, 1) := by decide +kernel
theorem dX11_stationOf_78 : decode cX11_stationOf 78 = .ok (.invokevirtual 129, 3) := by decide +kernel
theorem dX11_stationOf_81 : decode cX11_stationOf 81 = .ok (.ireturn, 1) := by decide +kernel
theorem dX11_stationOf_82 : decode cX11_stationOf 82 = .ok (.aload_n 0, 1) := by decide +kernel
theorem dX11_stationOf_83 : decode cX11_stationOf 83 = .ok (.iload_n 1, 1) := by decide +kernel
theorem dX11_stationOf_84 : decode cX11_stationOf 84 = .ok (.iload_n 2, 1) := by decide +kernel
theorem dX11_stationOf_85 : decode cX11_stationOf 85 = .ok (.iconst 3, 1) := by decide +kernel
theorem dX11_stationOf_86 : decode cX11_stationOf 86 = .ok (.isub, 1) := by decide +kernel
theorem dX11_stationOf_87 : decode cX11_stationOf 87 = .ok (.invokevirtual 50, 3) := by decide +kernel
theorem dX11_stationOf_90 : decode cX11_stationOf 90 = .ok (.ireturn, 1) := by decide +kernel
set_option maxRecDepth 20000 in
theorem ggX11_bicycleOf_X11_isBicycle : GoodIn wsX11_bicycleOf wsX11_isBicycle := goodIn_r _ [5, 6, 14, 15, 16, 17, 18, 19, 20, 21, 22, 23, 24, 25, 26, 27] (by decide +kernel) (by decide +kernel)
set_option maxRecDepth 20000 in
theorem gX11_bicycleOf_X11_isBicycle : GoodIn wsX11_bicycleOf (wsV RX11 86 RX11 yX11_isBicycle wsX11_isBicycle) := goodIn_app (goodIn_of _ (by decide +kernel)) ggX11_bicycleOf_X11_isBicycle
set_option maxRecDepth 20000 in
theorem ggX11_bicycleOf_X11_in : GoodIn wsX11_bicycleOf wsX11_in := goodIn_r _ [9] (by decide +kernel) (by decide +kernel)
set_option maxRecDepth 20000 in
theorem gX11_bicycleOf_X11_in : GoodIn wsX11_bicycleOf (va_wsS RX11 53 yX11_in wsX11_in) := goodIn_app (goodIn_of _ (by decide +kernel)) ggX11_bicycleOf_X11_in
set_option maxRecDepth 20000 in
theorem ggX11_bicycleOf_X11_ofBicycle : GoodIn wsX11_bicycleOf wsX11_ofBicycle := goodIn_r _ [13, 6, 14, 15, 16, 17, 18, 19, 20, 21, 22, 23, 24, 25, 26, 27] (by decide +kernel) (by decide +kernel)
set_option maxRecDepth 20000 in
theorem gX11_bicycleOf_X11_ofBicycle : GoodIn wsX11_bicycleOf (wsV RX11 36 RX11 yX11_ofBicycle wsX11_ofBicycle) := goodIn_app (goodIn_of _ (by decide +kernel)) ggX11_bicycleOf_X11_ofBicycle
theorem dX11_bicycleOf_0 : decode cX11_bicycleOf 0 = .ok (.aload_n 0, 1) := by decide +kernel
theorem dX11_bicycleOf_1 : decode cX11_bicycleOf 1 = .ok (.iload_n 1, 1) := by decide +kernel
theorem dX11_bicycleOf_2 : decode cX11_bicycleOf 2 = .ok (.invokevirtual 86, 3) := by decide +kernel
theorem dX11_bicycleOf_5 : decode cX11_bicycleOf 5 = .ok (.ifCond .eq 21, 3) := by decide +kernel
theorem dX11_bicycleOf_8 : decode cX11_bicycleOf 8 = .ok (.iload_n 2, 1) := by decide +kernel
theorem dX11_bicycleOf_9 : decode cX11_bicycleOf 9 = .ok (.iconst 0, 1) := by decide +kernel
theorem dX11_bicycleOf_10 : decode cX11_bicycleOf 10 = .ok (.iconst 4, 1) := by decide +kernel
theorem dX11_bicycleOf_11 : decode cX11_bicycleOf 11 = .ok (.invokestatic 53, 3) := by decide +kernel
theorem dX11_bicycleOf_14 : decode cX11_bicycleOf 14 = .ok (.ifCond .eq 12, 3) := by decide +kernel
theorem dX11_bicycleOf_17 : decode cX11_bicycleOf 17 = .ok (.aload_n 0, 1) := by decide +kernel
theorem dX11_bicycleOf_18 : decode cX11_bicycleOf 18 = .ok (.iload_n 1, 1) := by decide +kernel
theorem dX11_bicycleOf_19 : decode cX11_bicycleOf 19 = .ok (.iload_n 2, 1) := by decide +kernel
theorem dX11_bicycleOf_20 : decode cX11_bicycleOf 20 = .ok (.invokevirtual 36, 3) := by decide +kernel
theorem dX11_bicycleOf_23 : decode cX11_bicycleOf 23 = .ok (.goto 4, 3) := by decide +kernel
theorem dX11_bicycleOf_26 : decode cX11_bicycleOf 26 = .ok (.iconst (-1), 1) := by decide +kernel
theorem dX11_bicycleOf_27 : decode cX11_bicycleOf 27 = .ok (.ireturn, 1) := by decide +kernel
set_option maxRecDepth 20000 in
theorem ggX11_riderOf_X11_isRider : GoodIn wsX11_riderOf wsX11_isRider := goodIn_r _ [6, 1, 26, 27, 28, 29, 30, 31, 32, 33, 34, 35, 36, 37, 38, 39] (by decide +kernel) (by decide +kernel)
set_option maxRecDepth 20000 in
theorem gX11_riderOf_X11_isRider : GoodIn wsX11_riderOf (wsV RX11 74 RX11 yX11_isRider wsX11_isRider) := goodIn_app (goodIn_of _ (by decide +kernel)) ggX11_riderOf_X11_isRider
set_option maxRecDepth 20000 in
theorem ggX11_riderOf_X11_in : GoodIn wsX11_riderOf wsX11_in := goodIn_r _ [9] (by decide +kernel) (by decide +kernel)
set_option maxRecDepth 20000 in
theorem gX11_riderOf_X11_in : GoodIn wsX11_riderOf (va_wsS RX11 53 yX11_in wsX11_in) := goodIn_app (goodIn_of _ (by decide +kernel)) ggX11_riderOf_X11_in
set_option maxRecDepth 20000 in
theorem ggX11_riderOf_X11_ofRider : GoodIn wsX11_riderOf wsX11_ofRider := goodIn_r _ [13, 1, 26, 27, 28, 29, 30, 31, 32, 33, 34, 35, 36, 37, 38, 39] (by decide +kernel) (by decide +kernel)
set_option maxRecDepth 20000 in
theorem gX11_riderOf_X11_ofRider : GoodIn wsX11_riderOf (wsV RX11 71 RX11 yX11_ofRider wsX11_ofRider) := goodIn_app (goodIn_of _ (by decide +kernel)) ggX11_riderOf_X11_ofRider
set_option maxRecDepth 20000 in
theorem ggX11_riderOf_X11_hasPass : GoodIn wsX11_riderOf wsX11_hasPass := goodIn_r _ [17, 1, 10, 11, 12, 5, 13, 26, 27, 28, 29, 30, 31, 32, 33, 34, 35, 36, 37, 38, 39] (by decide +kernel) (by decide +kernel)
set_option maxRecDepth 20000 in
theorem gX11_riderOf_X11_hasPass : GoodIn wsX11_riderOf (wsV RX11 77 RX11 yX11_hasPass wsX11_hasPass) := goodIn_app (goodIn_of _ (by decide +kernel)) ggX11_riderOf_X11_hasPass
set_option maxRecDepth 20000 in
theorem ggX11_riderOf_X11_rides : GoodIn wsX11_riderOf wsX11_rides := goodIn_r _ [21, 10, 11, 12, 5, 13, 1, 26, 27, 28, 29, 30, 31, 32, 33, 34, 35, 36, 37, 38, 39] (by decide +kernel) (by decide +kernel)
set_option maxRecDepth 20000 in
theorem gX11_riderOf_X11_rides : GoodIn wsX11_riderOf (wsV RX11 80 RX11 yX11_rides wsX11_rides) := goodIn_app (goodIn_of _ (by decide +kernel)) ggX11_riderOf_X11_rides
set_option maxRecDepth 20000 in
theorem ggX11_riderOf_X11_fee : GoodIn wsX11_riderOf wsX11_fee := goodIn_r _ [25, 1, 10, 11, 12, 5, 13, 26, 27, 28, 29, 30, 31, 32, 33, 34, 35, 36, 37, 38, 39] (by decide +kernel) (by decide +kernel)
set_option maxRecDepth 20000 in
theorem gX11_riderOf_X11_fee : GoodIn wsX11_riderOf (wsV RX11 83 RX11 yX11_fee wsX11_fee) := goodIn_app (goodIn_of _ (by decide +kernel)) ggX11_riderOf_X11_fee
theorem dX11_riderOf_0 : decode cX11_riderOf 0 = .ok (.aload_n 0, 1) := by decide +kernel
theorem dX11_riderOf_1 : decode cX11_riderOf 1 = .ok (.iload_n 1, 1) := by decide +kernel
theorem dX11_riderOf_2 : decode cX11_riderOf 2 = .ok (.invokevirtual 74, 3) := by decide +kernel
theorem dX11_riderOf_5 : decode cX11_riderOf 5 = .ok (.ifCond .eq 13, 3) := by decide +kernel
theorem dX11_riderOf_8 : decode cX11_riderOf 8 = .ok (.iload_n 2, 1) := by decide +kernel
theorem dX11_riderOf_9 : decode cX11_riderOf 9 = .ok (.iconst 0, 1) := by decide +kernel
theorem dX11_riderOf_10 : decode cX11_riderOf 10 = .ok (.bipush 7, 2) := by decide +kernel
theorem dX11_riderOf_12 : decode cX11_riderOf 12 = .ok (.invokestatic 53, 3) := by decide +kernel
theorem dX11_riderOf_15 : decode cX11_riderOf 15 = .ok (.ifCond .ne 5, 3) := by decide +kernel
theorem dX11_riderOf_18 : decode cX11_riderOf 18 = .ok (.iconst (-1), 1) := by decide +kernel
theorem dX11_riderOf_19 : decode cX11_riderOf 19 = .ok (.ireturn, 1) := by decide +kernel
theorem dX11_riderOf_20 : decode cX11_riderOf 20 = .ok (.iload_n 2, 1) := by decide +kernel
theorem dX11_riderOf_21 : decode cX11_riderOf 21 = .ok (.ifCond .ne 10, 3) := by decide +kernel
theorem dX11_riderOf_24 : decode cX11_riderOf 24 = .ok (.aload_n 0, 1) := by decide +kernel
theorem dX11_riderOf_25 : decode cX11_riderOf 25 = .ok (.iload_n 1, 1) := by decide +kernel
theorem dX11_riderOf_26 : decode cX11_riderOf 26 = .ok (.iconst 0, 1) := by decide +kernel
theorem dX11_riderOf_27 : decode cX11_riderOf 27 = .ok (.invokevirtual 71, 3) := by decide +kernel
theorem dX11_riderOf_30 : decode cX11_riderOf 30 = .ok (.ireturn, 1) := by decide +kernel
theorem dX11_riderOf_31 : decode cX11_riderOf 31 = .ok (.iload_n 2, 1) := by decide +kernel
theorem dX11_riderOf_32 : decode cX11_riderOf 32 = .ok (.iconst 1, 1) := by decide +kernel
theorem dX11_riderOf_33 : decode cX11_riderOf 33 = .ok (.if_icmp .ne 29, 3) := by decide +kernel
theorem dX11_riderOf_36 : decode cX11_riderOf 36 = .ok (.aload_n 0, 1) := by decide +kernel
theorem dX11_riderOf_37 : decode cX11_riderOf 37 = .ok (.iload_n 1, 1) := by decide +kernel
theorem dX11_riderOf_38 : decode cX11_riderOf 38 = .ok (.invokevirtual 77, 3) := by decide +kernel
theorem dX11_riderOf_41 : decode cX11_riderOf 41 = .ok (.ifCond .eq 19, 3) := by decide +kernel
theorem dX11_riderOf_44 : decode cX11_riderOf 44 = .ok (.aload_n 0, 1) := by decide +kernel
theorem dX11_riderOf_45 : decode cX11_riderOf 45 = .ok (.iload_n 1, 1) := by decide +kernel
theorem dX11_riderOf_46 : decode cX11_riderOf 46 = .ok (.iconst 1, 1) := by decide +kernel
theorem dX11_riderOf_47 : decode cX11_riderOf 47 = .ok (.invokevirtual 71, 3) := by decide +kernel
theorem dX11_riderOf_50 : decode cX11_riderOf 50 = .ok (.aload_n 0, 1) := by decide +kernel
theorem dX11_riderOf_51 : decode cX11_riderOf 51 = .ok (.getfield 7, 3) := by decide +kernel
theorem dX11_riderOf_54 : decode cX11_riderOf 54 = .ok (.iconst 4, 1) := by decide +kernel
theorem dX11_riderOf_55 : decode cX11_riderOf 55 = .ok (.iaload, 1) := by decide +kernel
theorem dX11_riderOf_56 : decode cX11_riderOf 56 = .ok (.isub, 1) := by decide +kernel
theorem dX11_riderOf_57 : decode cX11_riderOf 57 = .ok (.goto 4, 3) := by decide +kernel
theorem dX11_riderOf_60 : decode cX11_riderOf 60 = .ok (.iconst 0, 1) := by decide +kernel
theorem dX11_riderOf_61 : decode cX11_riderOf 61 = .ok (.ireturn, 1) := by decide +kernel
theorem dX11_riderOf_62 : decode cX11_riderOf 62 = .ok (.iload_n 2, 1) := by decide +kernel
theorem dX11_riderOf_63 : decode cX11_riderOf 63 = .ok (.iconst 5, 1) := by decide +kernel
theorem dX11_riderOf_64 : decode cX11_riderOf 64 = .ok (.if_icmp .le 12, 3) := by decide +kernel
theorem dX11_riderOf_67 : decode cX11_riderOf 67 = .ok (.aload_n 0, 1) := by decide +kernel
theorem dX11_riderOf_68 : decode cX11_riderOf 68 = .ok (.iload_n 1, 1) := by decide +kernel
theorem dX11_riderOf_69 : decode cX11_riderOf 69 = .ok (.iload_n 2, 1) := by decide +kernel
theorem dX11_riderOf_70 : decode cX11_riderOf 70 = .ok (.iconst 1, 1) := by decide +kernel
theorem dX11_riderOf_71 : decode cX11_riderOf 71 = .ok (.iadd, 1) := by decide +kernel
theorem dX11_riderOf_72 : decode cX11_riderOf 72 = .ok (.invokevirtual 71, 3) := by decide +kernel
theorem dX11_riderOf_75 : decode cX11_riderOf 75 = .ok (.ireturn, 1) := by decide +kernel
theorem dX11_riderOf_76 : decode cX11_riderOf 76 = .ok (.aload_n 0, 1) := by decide +kernel
theorem dX11_riderOf_77 : decode cX11_riderOf 77 = .ok (.iload_n 1, 1) := by decide +kernel
theorem dX11_riderOf_78 : decode cX11_riderOf 78 = .ok (.invokevirtual 80, 3) := by decide +kernel
theorem dX11_riderOf_81 : decode cX11_riderOf 81 = .ok (.ifCond .ne 6, 3) := by decide +kernel
theorem dX11_riderOf_84 : decode cX11_riderOf 84 = .ok (.bipush (-4), 2) := by decide +kernel
theorem dX11_riderOf_86 : decode cX11_riderOf 86 = .ok (.ireturn, 1) := by decide +kernel
theorem dX11_riderOf_87 : decode cX11_riderOf 87 = .ok (.iload_n 2, 1) := by decide +kernel
theorem dX11_riderOf_88 : decode cX11_riderOf 88 = .ok (.iconst 2, 1) := by decide +kernel
theorem dX11_riderOf_89 : decode cX11_riderOf 89 = .ok (.if_icmp .ne 12, 3) := by decide +kernel
theorem dX11_riderOf_92 : decode cX11_riderOf 92 = .ok (.aload_n 0, 1) := by decide +kernel
theorem dX11_riderOf_93 : decode cX11_riderOf 93 = .ok (.iload_n 1, 1) := by decide +kernel
theorem dX11_riderOf_94 : decode cX11_riderOf 94 = .ok (.iconst 2, 1) := by decide +kernel
theorem dX11_riderOf_95 : decode cX11_riderOf 95 = .ok (.invokevirtual 71, 3) := by decide +kernel
theorem dX11_riderOf_98 : decode cX11_riderOf 98 = .ok (.goto 43, 3) := by decide +kernel
theorem dX11_riderOf_101 : decode cX11_riderOf 101 = .ok (.iload_n 2, 1) := by decide +kernel
theorem dX11_riderOf_102 : decode cX11_riderOf 102 = .ok (.iconst 3, 1) := by decide +kernel
theorem dX11_riderOf_103 : decode cX11_riderOf 103 = .ok (.if_icmp .ne 19, 3) := by decide +kernel
theorem dX11_riderOf_106 : decode cX11_riderOf 106 = .ok (.aload_n 0, 1) := by decide +kernel
theorem dX11_riderOf_107 : decode cX11_riderOf 107 = .ok (.getfield 7, 3) := by decide +kernel
theorem dX11_riderOf_110 : decode cX11_riderOf 110 = .ok (.iconst 4, 1) := by decide +kernel
theorem dX11_riderOf_111 : decode cX11_riderOf 111 = .ok (.iaload, 1) := by decide +kernel
theorem dX11_riderOf_112 : decode cX11_riderOf 112 = .ok (.aload_n 0, 1) := by decide +kernel
theorem dX11_riderOf_113 : decode cX11_riderOf 113 = .ok (.iload_n 1, 1) := by decide +kernel
theorem dX11_riderOf_114 : decode cX11_riderOf 114 = .ok (.iconst 3, 1) := by decide +kernel
theorem dX11_riderOf_115 : decode cX11_riderOf 115 = .ok (.invokevirtual 71, 3) := by decide +kernel
theorem dX11_riderOf_118 : decode cX11_riderOf 118 = .ok (.isub, 1) := by decide +kernel
theorem dX11_riderOf_119 : decode cX11_riderOf 119 = .ok (.goto 22, 3) := by decide +kernel
theorem dX11_riderOf_122 : decode cX11_riderOf 122 = .ok (.iload_n 2, 1) := by decide +kernel
theorem dX11_riderOf_123 : decode cX11_riderOf 123 = .ok (.iconst 4, 1) := by decide +kernel
theorem dX11_riderOf_124 : decode cX11_riderOf 124 = .ok (.if_icmp .ne 12, 3) := by decide +kernel
theorem dX11_riderOf_127 : decode cX11_riderOf 127 = .ok (.aload_n 0, 1) := by decide +kernel
theorem dX11_riderOf_128 : decode cX11_riderOf 128 = .ok (.iload_n 1, 1) := by decide +kernel
theorem dX11_riderOf_129 : decode cX11_riderOf 129 = .ok (.iconst 4, 1) := by decide +kernel
theorem dX11_riderOf_130 : decode cX11_riderOf 130 = .ok (.invokevirtual 71, 3) := by decide +kernel
theorem dX11_riderOf_133 : decode cX11_riderOf 133 = .ok (.goto 8, 3) := by decide +kernel
theorem dX11_riderOf_136 : decode cX11_riderOf 136 = .ok (.aload_n 0, 1) := by decide +kernel
theorem dX11_riderOf_137 : decode cX11_riderOf 137 = .ok (.iload_n 1, 1) := by decide +kernel
theorem dX11_riderOf_138 : decode cX11_riderOf 138 = .ok (.invokevirtual 83, 3) := by decide +kernel
theorem dX11_riderOf_141 : decode cX11_riderOf 141 = .ok (.ireturn, 1) := by decide +kernel
set_option maxRecDepth 20000 in
theorem ggX11_vanOf_X11_isVan : GoodIn wsX11_vanOf wsX11_isVan := goodIn_r _ [6, 1, 26, 27, 28, 29, 30, 31, 32, 33, 34, 35, 36, 37, 38, 39] (by decide +kernel) (by decide +kernel)
set_option maxRecDepth 20000 in
theorem gX11_vanOf_X11_isVan : GoodIn wsX11_vanOf (wsV RX11 96 RX11 yX11_isVan wsX11_isVan) := goodIn_app (goodIn_of _ (by decide +kernel)) ggX11_vanOf_X11_isVan
set_option maxRecDepth 20000 in
theorem ggX11_vanOf_X11_in : GoodIn wsX11_vanOf wsX11_in := goodIn_r _ [9] (by decide +kernel) (by decide +kernel)
set_option maxRecDepth 20000 in
theorem gX11_vanOf_X11_in : GoodIn wsX11_vanOf (va_wsS RX11 53 yX11_in wsX11_in) := goodIn_app (goodIn_of _ (by decide +kernel)) ggX11_vanOf_X11_in
set_option maxRecDepth 20000 in
theorem ggX11_vanOf_X11_ofVan : GoodIn wsX11_vanOf wsX11_ofVan := goodIn_r _ [13, 1, 26, 27, 28, 29, 30, 31, 32, 33, 34, 35, 36, 37, 38, 39] (by decide +kernel) (by decide +kernel)
set_option maxRecDepth 20000 in
theorem gX11_vanOf_X11_ofVan : GoodIn wsX11_vanOf (wsV RX11 93 RX11 yX11_ofVan wsX11_ofVan) := goodIn_app (goodIn_of _ (by decide +kernel)) ggX11_vanOf_X11_ofVan
set_option maxRecDepth 20000 in
theorem ggX11_vanOf_X11_those : GoodIn wsX11_vanOf wsX11_those := goodIn_r _ [17, 1, 18, 19, 20, 5, 21, 26, 27, 28, 29, 30, 31, 32, 33, 34, 35, 36, 37, 38, 39] (by decide +kernel) (by decide +kernel)
set_option maxRecDepth 20000 in
theorem gX11_vanOf_X11_those : GoodIn wsX11_vanOf (wsV RX11 40 RX11 yX11_those wsX11_those) := goodIn_app (goodIn_of _ (by decide +kernel)) ggX11_vanOf_X11_those
set_option maxRecDepth 20000 in
theorem ggX11_vanOf_X11_isUnderWay : GoodIn wsX11_vanOf wsX11_isUnderWay := goodIn_r _ [25, 1, 10, 11, 12, 5, 13, 26, 27, 28, 29, 30, 31, 32, 33, 34, 35, 36, 37, 38, 39] (by decide +kernel) (by decide +kernel)
set_option maxRecDepth 20000 in
theorem gX11_vanOf_X11_isUnderWay : GoodIn wsX11_vanOf (wsV RX11 99 RX11 yX11_isUnderWay wsX11_isUnderWay) := goodIn_app (goodIn_of _ (by decide +kernel)) ggX11_vanOf_X11_isUnderWay
theorem dX11_vanOf_0 : decode cX11_vanOf 0 = .ok (.aload_n 0, 1) := by decide +kernel
theorem dX11_vanOf_1 : decode cX11_vanOf 1 = .ok (.iload_n 1, 1) := by decide +kernel
theorem dX11_vanOf_2 : decode cX11_vanOf 2 = .ok (.invokevirtual 96, 3) := by decide +kernel
theorem dX11_vanOf_5 : decode cX11_vanOf 5 = .ok (.ifCond .eq 12, 3) := by decide +kernel
theorem dX11_vanOf_8 : decode cX11_vanOf 8 = .ok (.iload_n 2, 1) := by decide +kernel
theorem dX11_vanOf_9 : decode cX11_vanOf 9 = .ok (.iconst 0, 1) := by decide +kernel
theorem dX11_vanOf_10 : decode cX11_vanOf 10 = .ok (.iconst 3, 1) := by decide +kernel
theorem dX11_vanOf_11 : decode cX11_vanOf 11 = .ok (.invokestatic 53, 3) := by decide +kernel
theorem dX11_vanOf_14 : decode cX11_vanOf 14 = .ok (.ifCond .ne 5, 3) := by decide +kernel
theorem dX11_vanOf_17 : decode cX11_vanOf 17 = .ok (.iconst (-1), 1) := by decide +kernel
theorem dX11_vanOf_18 : decode cX11_vanOf 18 = .ok (.ireturn, 1) := by decide +kernel
theorem dX11_vanOf_19 : decode cX11_vanOf 19 = .ok (.iload_n 2, 1) := by decide +kernel
theorem dX11_vanOf_20 : decode cX11_vanOf 20 = .ok (.iconst 2, 1) := by decide +kernel
theorem dX11_vanOf_21 : decode cX11_vanOf 21 = .ok (.if_icmp .ge 12, 3) := by decide +kernel
theorem dX11_vanOf_24 : decode cX11_vanOf 24 = .ok (.aload_n 0, 1) := by decide +kernel
theorem dX11_vanOf_25 : decode cX11_vanOf 25 = .ok (.iload_n 1, 1) := by decide +kernel
theorem dX11_vanOf_26 : decode cX11_vanOf 26 = .ok (.iload_n 2, 1) := by decide +kernel
theorem dX11_vanOf_27 : decode cX11_vanOf 27 = .ok (.invokevirtual 93, 3) := by decide +kernel
theorem dX11_vanOf_30 : decode cX11_vanOf 30 = .ok (.goto 42, 3) := by decide +kernel
theorem dX11_vanOf_33 : decode cX11_vanOf 33 = .ok (.iload_n 2, 1) := by decide +kernel
theorem dX11_vanOf_34 : decode cX11_vanOf 34 = .ok (.iconst 2, 1) := by decide +kernel
theorem dX11_vanOf_35 : decode cX11_vanOf 35 = .ok (.if_icmp .ne 12, 3) := by decide +kernel
theorem dX11_vanOf_38 : decode cX11_vanOf 38 = .ok (.aload_n 0, 1) := by decide +kernel
theorem dX11_vanOf_39 : decode cX11_vanOf 39 = .ok (.iconst 2, 1) := by decide +kernel
theorem dX11_vanOf_40 : decode cX11_vanOf 40 = .ok (.iload_n 1, 1) := by decide +kernel
theorem dX11_vanOf_41 : decode cX11_vanOf 41 = .ok (.invokevirtual 40, 3) := by decide +kernel
theorem dX11_vanOf_44 : decode cX11_vanOf 44 = .ok (.goto 28, 3) := by decide +kernel
theorem dX11_vanOf_47 : decode cX11_vanOf 47 = .ok (.aload_n 0, 1) := by decide +kernel
theorem dX11_vanOf_48 : decode cX11_vanOf 48 = .ok (.iload_n 1, 1) := by decide +kernel
theorem dX11_vanOf_49 : decode cX11_vanOf 49 = .ok (.invokevirtual 99, 3) := by decide +kernel
theorem dX11_vanOf_52 : decode cX11_vanOf 52 = .ok (.ifCond .eq 19, 3) := by decide +kernel
theorem dX11_vanOf_55 : decode cX11_vanOf 55 = .ok (.aload_n 0, 1) := by decide +kernel
theorem dX11_vanOf_56 : decode cX11_vanOf 56 = .ok (.iload_n 1, 1) := by decide +kernel
theorem dX11_vanOf_57 : decode cX11_vanOf 57 = .ok (.iconst 2, 1) := by decide +kernel
theorem dX11_vanOf_58 : decode cX11_vanOf 58 = .ok (.invokevirtual 93, 3) := by decide +kernel
theorem dX11_vanOf_61 : decode cX11_vanOf 61 = .ok (.aload_n 0, 1) := by decide +kernel
theorem dX11_vanOf_62 : decode cX11_vanOf 62 = .ok (.getfield 7, 3) := by decide +kernel
theorem dX11_vanOf_65 : decode cX11_vanOf 65 = .ok (.iconst 4, 1) := by decide +kernel
theorem dX11_vanOf_66 : decode cX11_vanOf 66 = .ok (.iaload, 1) := by decide +kernel
theorem dX11_vanOf_67 : decode cX11_vanOf 67 = .ok (.isub, 1) := by decide +kernel
theorem dX11_vanOf_68 : decode cX11_vanOf 68 = .ok (.goto 4, 3) := by decide +kernel
theorem dX11_vanOf_71 : decode cX11_vanOf 71 = .ok (.iconst 0, 1) := by decide +kernel
theorem dX11_vanOf_72 : decode cX11_vanOf 72 = .ok (.ireturn, 1) := by decide +kernel
set_option maxRecDepth 20000 in
theorem ggX11_owed_X11_ofRider : GoodIn wsX11_owed wsX11_ofRider := goodIn_r _ [6, 1, 7, 8, 9, 10, 11, 12, 13, 14, 15, 16, 17, 18, 19, 20] (by decide +kernel) (by decide +kernel)
set_option maxRecDepth 20000 in
theorem gX11_owed_X11_ofRider : GoodIn wsX11_owed (wsV RX11 71 RX11 yX11_ofRider wsX11_ofRider) := goodIn_app (goodIn_of _ (by decide +kernel)) ggX11_owed_X11_ofRider
theorem dX11_owed_0 : decode cX11_owed 0 = .ok (.iconst 0, 1) := by decide +kernel
theorem dX11_owed_1 : decode cX11_owed 1 = .ok (.istore_n 1, 1) := by decide +kernel
theorem dX11_owed_2 : decode cX11_owed 2 = .ok (.iconst 0, 1) := by decide +kernel
theorem dX11_owed_3 : decode cX11_owed 3 = .ok (.istore_n 2, 1) := by decide +kernel
theorem dX11_owed_4 : decode cX11_owed 4 = .ok (.iload_n 2, 1) := by decide +kernel
theorem dX11_owed_5 : decode cX11_owed 5 = .ok (.aload_n 0, 1) := by decide +kernel
theorem dX11_owed_6 : decode cX11_owed 6 = .ok (.getfield 7, 3) := by decide +kernel
theorem dX11_owed_9 : decode cX11_owed 9 = .ok (.iconst 2, 1) := by decide +kernel
theorem dX11_owed_10 : decode cX11_owed 10 = .ok (.iaload, 1) := by decide +kernel
theorem dX11_owed_11 : decode cX11_owed 11 = .ok (.if_icmp .ge 18, 3) := by decide +kernel
theorem dX11_owed_14 : decode cX11_owed 14 = .ok (.iload_n 1, 1) := by decide +kernel
theorem dX11_owed_15 : decode cX11_owed 15 = .ok (.aload_n 0, 1) := by decide +kernel
theorem dX11_owed_16 : decode cX11_owed 16 = .ok (.iload_n 2, 1) := by decide +kernel
theorem dX11_owed_17 : decode cX11_owed 17 = .ok (.iconst 0, 1) := by decide +kernel
theorem dX11_owed_18 : decode cX11_owed 18 = .ok (.invokevirtual 71, 3) := by decide +kernel
theorem dX11_owed_21 : decode cX11_owed 21 = .ok (.iadd, 1) := by decide +kernel
theorem dX11_owed_22 : decode cX11_owed 22 = .ok (.istore_n 1, 1) := by decide +kernel
theorem dX11_owed_23 : decode cX11_owed 23 = .ok (.iinc 2 1, 3) := by decide +kernel
theorem dX11_owed_26 : decode cX11_owed 26 = .ok (.goto (-22), 3) := by decide +kernel
theorem dX11_owed_29 : decode cX11_owed 29 = .ok (.iload_n 1, 1) := by decide +kernel
theorem dX11_owed_30 : decode cX11_owed 30 = .ok (.ireturn, 1) := by decide +kernel
set_option maxRecDepth 20000 in
theorem ggX11_unevenAll_X11_unevenNow : GoodIn wsX11_unevenAll wsX11_unevenNow := goodIn_r _ [6, 7, 8, 9, 5, 10, 11, 12, 13, 14, 1, 15, 16, 17, 18, 19, 20, 21, 22, 23, 24, 25, 26, 27, 28, 29, 30, 31, 32, 33, 34, 35, 36, 37, 38, 39, 40, 41, 42] (by decide +kernel) (by decide +kernel)
set_option maxRecDepth 20000 in
theorem gX11_unevenAll_X11_unevenNow : GoodIn wsX11_unevenAll (wsV RX11 126 RX11 yX11_unevenNow wsX11_unevenNow) := goodIn_app (goodIn_of _ (by decide +kernel)) ggX11_unevenAll_X11_unevenNow
theorem dX11_unevenAll_0 : decode cX11_unevenAll 0 = .ok (.iconst 0, 1) := by decide +kernel
theorem dX11_unevenAll_1 : decode cX11_unevenAll 1 = .ok (.istore_n 1, 1) := by decide +kernel
theorem dX11_unevenAll_2 : decode cX11_unevenAll 2 = .ok (.iconst 0, 1) := by decide +kernel
theorem dX11_unevenAll_3 : decode cX11_unevenAll 3 = .ok (.istore_n 2, 1) := by decide +kernel
theorem dX11_unevenAll_4 : decode cX11_unevenAll 4 = .ok (.iload_n 2, 1) := by decide +kernel
theorem dX11_unevenAll_5 : decode cX11_unevenAll 5 = .ok (.aload_n 0, 1) := by decide +kernel
theorem dX11_unevenAll_6 : decode cX11_unevenAll 6 = .ok (.getfield 7, 3) := by decide +kernel
theorem dX11_unevenAll_9 : decode cX11_unevenAll 9 = .ok (.iconst 0, 1) := by decide +kernel
theorem dX11_unevenAll_10 : decode cX11_unevenAll 10 = .ok (.iaload, 1) := by decide +kernel
theorem dX11_unevenAll_11 : decode cX11_unevenAll 11 = .ok (.if_icmp .ge 17, 3) := by decide +kernel
theorem dX11_unevenAll_14 : decode cX11_unevenAll 14 = .ok (.iload_n 1, 1) := by decide +kernel
theorem dX11_unevenAll_15 : decode cX11_unevenAll 15 = .ok (.aload_n 0, 1) := by decide +kernel
theorem dX11_unevenAll_16 : decode cX11_unevenAll 16 = .ok (.iload_n 2, 1) := by decide +kernel
theorem dX11_unevenAll_17 : decode cX11_unevenAll 17 = .ok (.invokevirtual 126, 3) := by decide +kernel
theorem dX11_unevenAll_20 : decode cX11_unevenAll 20 = .ok (.iadd, 1) := by decide +kernel
theorem dX11_unevenAll_21 : decode cX11_unevenAll 21 = .ok (.istore_n 1, 1) := by decide +kernel
theorem dX11_unevenAll_22 : decode cX11_unevenAll 22 = .ok (.iinc 2 1, 3) := by decide +kernel
theorem dX11_unevenAll_25 : decode cX11_unevenAll 25 = .ok (.goto (-21), 3) := by decide +kernel
theorem dX11_unevenAll_28 : decode cX11_unevenAll 28 = .ok (.iload_n 1, 1) := by decide +kernel
theorem dX11_unevenAll_29 : decode cX11_unevenAll 29 = .ok (.ireturn, 1) := by decide +kernel
set_option maxRecDepth 20000 in
theorem ggX11_count_X11_inState : GoodIn wsX11_count wsX11_inState := goodIn_r _ [9, 1, 10, 11, 12, 8, 13, 59, 60, 61, 62, 63, 64, 65, 66, 67, 68, 69, 70, 71, 72] (by decide +kernel) (by decide +kernel)
set_option maxRecDepth 20000 in
theorem gX11_count_X11_inState : GoodIn wsX11_count (wsV RX11 120 RX11 yX11_inState wsX11_inState) := goodIn_app (goodIn_of _ (by decide +kernel)) ggX11_count_X11_inState
set_option maxRecDepth 20000 in
theorem ggX11_count_X11_faulty : GoodIn wsX11_count wsX11_faulty := goodIn_r _ [17, 1, 10, 11, 12, 8, 13, 59, 60, 61, 62, 63, 64, 65, 66, 67, 68, 69, 70, 71, 72] (by decide +kernel) (by decide +kernel)
set_option maxRecDepth 20000 in
theorem gX11_count_X11_faulty : GoodIn wsX11_count (wsV RX11 89 RX11 yX11_faulty wsX11_faulty) := goodIn_app (goodIn_of _ (by decide +kernel)) ggX11_count_X11_faulty
set_option maxRecDepth 20000 in
theorem ggX11_count_X11_allDocks : GoodIn wsX11_count wsX11_allDocks := goodIn_r _ [21, 1, 22, 23, 24, 8, 25, 59, 60, 61, 62, 63, 64, 65, 66, 67, 68, 69, 70, 71, 72] (by decide +kernel) (by decide +kernel)
set_option maxRecDepth 20000 in
theorem gX11_count_X11_allDocks : GoodIn wsX11_count (wsV RX11 123 RX11 yX11_allDocks wsX11_allDocks) := goodIn_app (goodIn_of _ (by decide +kernel)) ggX11_count_X11_allDocks
set_option maxRecDepth 20000 in
theorem ggX11_count_X11_owed : GoodIn wsX11_count wsX11_owed := goodIn_r _ [29, 1, 30, 31, 32, 8, 33, 59, 60, 61, 62, 63, 64, 65, 66, 67, 68, 69, 70, 71, 72] (by decide +kernel) (by decide +kernel)
set_option maxRecDepth 20000 in
theorem gX11_count_X11_owed : GoodIn wsX11_count (wsV RX11 132 RX11 yX11_owed wsX11_owed) := goodIn_app (goodIn_of _ (by decide +kernel)) ggX11_count_X11_owed
set_option maxRecDepth 20000 in
theorem ggX11_count_X11_unevenAll : GoodIn wsX11_count wsX11_unevenAll := goodIn_r _ [37, 1, 38, 39, 40, 8, 41, 42, 43, 44, 45, 46, 47, 48, 49, 10, 11, 12, 13, 50, 51, 52, 22, 23, 24, 25, 53, 54, 55, 59, 60, 61, 62, 63, 64, 65, 66, 67, 68, 69, 70, 71, 72] (by decide +kernel) (by decide +kernel)
set_option maxRecDepth 20000 in
theorem gX11_count_X11_unevenAll : GoodIn wsX11_count (wsV RX11 135 RX11 yX11_unevenAll wsX11_unevenAll) := goodIn_app (goodIn_of _ (by decide +kernel)) ggX11_count_X11_unevenAll
set_option maxRecDepth 20000 in
theorem ggX11_count_X11_in : GoodIn wsX11_count wsX11_in := goodIn_r _ [58] (by decide +kernel) (by decide +kernel)
set_option maxRecDepth 20000 in
theorem gX11_count_X11_in : GoodIn wsX11_count (va_wsS RX11 53 yX11_in wsX11_in) := goodIn_app (goodIn_of _ (by decide +kernel)) ggX11_count_X11_in
theorem dX11_count_0 : decode cX11_count 0 = .ok (.iload_n 1, 1) := by decide +kernel
theorem dX11_count_1 : decode cX11_count 1 = .ok (.tableswitch 137 0 15 #[79, 79, 79, 79, 79, 86, 86, 86, 86, 94, 99, 104, 109, 114, 119, 124], 79) := by decide +kernel
theorem dX11_count_80 : decode cX11_count 80 = .ok (.aload_n 0, 1) := by decide +kernel
theorem dX11_count_81 : decode cX11_count 81 = .ok (.getfield 7, 3) := by decide +kernel
theorem dX11_count_84 : decode cX11_count 84 = .ok (.iload_n 1, 1) := by decide +kernel
theorem dX11_count_85 : decode cX11_count 85 = .ok (.iaload, 1) := by decide +kernel
theorem dX11_count_86 : decode cX11_count 86 = .ok (.ireturn, 1) := by decide +kernel
theorem dX11_count_87 : decode cX11_count 87 = .ok (.aload_n 0, 1) := by decide +kernel
theorem dX11_count_88 : decode cX11_count 88 = .ok (.iload_n 1, 1) := by decide +kernel
theorem dX11_count_89 : decode cX11_count 89 = .ok (.iconst 5, 1) := by decide +kernel
theorem dX11_count_90 : decode cX11_count 90 = .ok (.isub, 1) := by decide +kernel
theorem dX11_count_91 : decode cX11_count 91 = .ok (.invokevirtual 120, 3) := by decide +kernel
theorem dX11_count_94 : decode cX11_count 94 = .ok (.ireturn, 1) := by decide +kernel
theorem dX11_count_95 : decode cX11_count 95 = .ok (.aload_n 0, 1) := by decide +kernel
theorem dX11_count_96 : decode cX11_count 96 = .ok (.invokevirtual 89, 3) := by decide +kernel
theorem dX11_count_99 : decode cX11_count 99 = .ok (.ireturn, 1) := by decide +kernel
theorem dX11_count_100 : decode cX11_count 100 = .ok (.aload_n 0, 1) := by decide +kernel
theorem dX11_count_101 : decode cX11_count 101 = .ok (.invokevirtual 123, 3) := by decide +kernel
theorem dX11_count_104 : decode cX11_count 104 = .ok (.ireturn, 1) := by decide +kernel
theorem dX11_count_105 : decode cX11_count 105 = .ok (.aload_n 0, 1) := by decide +kernel
theorem dX11_count_106 : decode cX11_count 106 = .ok (.invokevirtual 132, 3) := by decide +kernel
theorem dX11_count_109 : decode cX11_count 109 = .ok (.ireturn, 1) := by decide +kernel
theorem dX11_count_110 : decode cX11_count 110 = .ok (.aload_n 0, 1) := by decide +kernel
theorem dX11_count_111 : decode cX11_count 111 = .ok (.invokevirtual 135, 3) := by decide +kernel
theorem dX11_count_114 : decode cX11_count 114 = .ok (.ireturn, 1) := by decide +kernel
theorem dX11_count_115 : decode cX11_count 115 = .ok (.aload_n 0, 1) := by decide +kernel
theorem dX11_count_116 : decode cX11_count 116 = .ok (.getfield 32, 3) := by decide +kernel
theorem dX11_count_119 : decode cX11_count 119 = .ok (.ireturn, 1) := by decide +kernel
theorem dX11_count_120 : decode cX11_count 120 = .ok (.aload_n 0, 1) := by decide +kernel
theorem dX11_count_121 : decode cX11_count 121 = .ok (.getfield 138, 3) := by decide +kernel
theorem dX11_count_124 : decode cX11_count 124 = .ok (.ireturn, 1) := by decide +kernel
theorem dX11_count_125 : decode cX11_count 125 = .ok (.aload_n 0, 1) := by decide +kernel
theorem dX11_count_126 : decode cX11_count 126 = .ok (.getfield 141, 3) := by decide +kernel
theorem dX11_count_129 : decode cX11_count 129 = .ok (.ifCond .eq 7, 3) := by decide +kernel
theorem dX11_count_132 : decode cX11_count 132 = .ok (.iconst 1, 1) := by decide +kernel
theorem dX11_count_133 : decode cX11_count 133 = .ok (.goto 4, 3) := by decide +kernel
theorem dX11_count_136 : decode cX11_count 136 = .ok (.iconst 0, 1) := by decide +kernel
theorem dX11_count_137 : decode cX11_count 137 = .ok (.ireturn, 1) := by decide +kernel
theorem dX11_count_138 : decode cX11_count 138 = .ok (.iload_n 1, 1) := by decide +kernel
theorem dX11_count_139 : decode cX11_count 139 = .ok (.bipush 20, 2) := by decide +kernel
theorem dX11_count_141 : decode cX11_count 141 = .ok (.bipush 22, 2) := by decide +kernel
theorem dX11_count_143 : decode cX11_count 143 = .ok (.invokestatic 53, 3) := by decide +kernel
theorem dX11_count_146 : decode cX11_count 146 = .ok (.ifCond .eq 17, 3) := by decide +kernel
theorem dX11_count_149 : decode cX11_count 149 = .ok (.aload_n 0, 1) := by decide +kernel
theorem dX11_count_150 : decode cX11_count 150 = .ok (.getfield 7, 3) := by decide +kernel
theorem dX11_count_153 : decode cX11_count 153 = .ok (.iconst 5, 1) := by decide +kernel
theorem dX11_count_154 : decode cX11_count 154 = .ok (.iload_n 1, 1) := by decide +kernel
theorem dX11_count_155 : decode cX11_count 155 = .ok (.iadd, 1) := by decide +kernel
theorem dX11_count_156 : decode cX11_count 156 = .ok (.bipush 20, 2) := by decide +kernel
theorem dX11_count_158 : decode cX11_count 158 = .ok (.isub, 1) := by decide +kernel
theorem dX11_count_159 : decode cX11_count 159 = .ok (.iaload, 1) := by decide +kernel
theorem dX11_count_160 : decode cX11_count 160 = .ok (.goto 4, 3) := by decide +kernel
theorem dX11_count_163 : decode cX11_count 163 = .ok (.iconst (-1), 1) := by decide +kernel
theorem dX11_count_164 : decode cX11_count 164 = .ok (.ireturn, 1) := by decide +kernel
set_option maxRecDepth 20000 in
theorem ggX11_help_X11_docked : GoodIn wsX11_help wsX11_docked := goodIn_r _ [5, 6, 7, 8, 4, 9, 10, 11, 12, 13, 14, 15, 16, 17, 25, 26, 27, 28, 29, 30, 31, 32, 33, 34, 35, 36, 37, 38] (by decide +kernel) (by decide +kernel)
set_option maxRecDepth 20000 in
theorem gX11_help_X11_docked : GoodIn wsX11_help (wsV RX11 47 RX11 yX11_docked wsX11_docked) := goodIn_app (goodIn_of _ (by decide +kernel)) ggX11_help_X11_docked
set_option maxRecDepth 20000 in
theorem ggX11_help_X11_ofStation : GoodIn wsX11_help wsX11_ofStation := goodIn_r _ [21, 10, 25, 26, 27, 28, 29, 30, 31, 32, 33, 34, 35, 36, 37, 38] (by decide +kernel) (by decide +kernel)
set_option maxRecDepth 20000 in
theorem gX11_help_X11_ofStation : GoodIn wsX11_help (wsV RX11 50 RX11 yX11_ofStation wsX11_ofStation) := goodIn_app (goodIn_of _ (by decide +kernel)) ggX11_help_X11_ofStation
set_option maxRecDepth 20000 in
theorem ggX11_help_X11_uneven : GoodIn wsX11_help wsX11_uneven := goodIn_r _ [24] (by decide +kernel) (by decide +kernel)
set_option maxRecDepth 20000 in
theorem gX11_help_X11_uneven : GoodIn wsX11_help (va_wsS RX11 117 yX11_uneven wsX11_uneven) := goodIn_app (goodIn_of _ (by decide +kernel)) ggX11_help_X11_uneven
theorem dX11_help_0 : decode cX11_help 0 = .ok (.aload_n 0, 1) := by decide +kernel
theorem dX11_help_1 : decode cX11_help 1 = .ok (.iload_n 1, 1) := by decide +kernel
theorem dX11_help_2 : decode cX11_help 2 = .ok (.invokevirtual 47, 3) := by decide +kernel
theorem dX11_help_5 : decode cX11_help 5 = .ok (.istore_n 3, 1) := by decide +kernel
theorem dX11_help_6 : decode cX11_help 6 = .ok (.aload_n 0, 1) := by decide +kernel
theorem dX11_help_7 : decode cX11_help 7 = .ok (.iload_n 2, 1) := by decide +kernel
theorem dX11_help_8 : decode cX11_help 8 = .ok (.invokevirtual 47, 3) := by decide +kernel
theorem dX11_help_11 : decode cX11_help 11 = .ok (.istore 4, 2) := by decide +kernel
theorem dX11_help_13 : decode cX11_help 13 = .ok (.aload_n 0, 1) := by decide +kernel
theorem dX11_help_14 : decode cX11_help 14 = .ok (.iload_n 1, 1) := by decide +kernel
theorem dX11_help_15 : decode cX11_help 15 = .ok (.iconst 1, 1) := by decide +kernel
theorem dX11_help_16 : decode cX11_help 16 = .ok (.invokevirtual 50, 3) := by decide +kernel
theorem dX11_help_19 : decode cX11_help 19 = .ok (.istore 5, 2) := by decide +kernel
theorem dX11_help_21 : decode cX11_help 21 = .ok (.aload_n 0, 1) := by decide +kernel
theorem dX11_help_22 : decode cX11_help 22 = .ok (.iload_n 2, 1) := by decide +kernel
theorem dX11_help_23 : decode cX11_help 23 = .ok (.iconst 1, 1) := by decide +kernel
theorem dX11_help_24 : decode cX11_help 24 = .ok (.invokevirtual 50, 3) := by decide +kernel
theorem dX11_help_27 : decode cX11_help 27 = .ok (.istore 6, 2) := by decide +kernel
theorem dX11_help_29 : decode cX11_help 29 = .ok (.iload_n 1, 1) := by decide +kernel
theorem dX11_help_30 : decode cX11_help 30 = .ok (.iload_n 2, 1) := by decide +kernel
theorem dX11_help_31 : decode cX11_help 31 = .ok (.if_icmp .eq 14, 3) := by decide +kernel
theorem dX11_help_34 : decode cX11_help 34 = .ok (.iload_n 3, 1) := by decide +kernel
theorem dX11_help_35 : decode cX11_help 35 = .ok (.ifCond .eq 10, 3) := by decide +kernel
theorem dX11_help_38 : decode cX11_help 38 = .ok (.iload 4, 2) := by decide +kernel
theorem dX11_help_40 : decode cX11_help 40 = .ok (.iload 6, 2) := by decide +kernel
theorem dX11_help_42 : decode cX11_help 42 = .ok (.if_icmp .ne 7, 3) := by decide +kernel
theorem dX11_help_45 : decode cX11_help 45 = .ok (.sipush (-1000), 3) := by decide +kernel
theorem dX11_help_48 : decode cX11_help 48 = .ok (.ireturn, 1) := by decide +kernel
theorem dX11_help_49 : decode cX11_help 49 = .ok (.iload_n 3, 1) := by decide +kernel
theorem dX11_help_50 : decode cX11_help 50 = .ok (.iload 5, 2) := by decide +kernel
theorem dX11_help_52 : decode cX11_help 52 = .ok (.invokestatic 117, 3) := by decide +kernel
theorem dX11_help_55 : decode cX11_help 55 = .ok (.iload 4, 2) := by decide +kernel
theorem dX11_help_57 : decode cX11_help 57 = .ok (.iload 6, 2) := by decide +kernel
theorem dX11_help_59 : decode cX11_help 59 = .ok (.invokestatic 117, 3) := by decide +kernel
theorem dX11_help_62 : decode cX11_help 62 = .ok (.iadd, 1) := by decide +kernel
theorem dX11_help_63 : decode cX11_help 63 = .ok (.iload_n 3, 1) := by decide +kernel
theorem dX11_help_64 : decode cX11_help 64 = .ok (.iconst 1, 1) := by decide +kernel
theorem dX11_help_65 : decode cX11_help 65 = .ok (.isub, 1) := by decide +kernel
theorem dX11_help_66 : decode cX11_help 66 = .ok (.iload 5, 2) := by decide +kernel
theorem dX11_help_68 : decode cX11_help 68 = .ok (.invokestatic 117, 3) := by decide +kernel
theorem dX11_help_71 : decode cX11_help 71 = .ok (.isub, 1) := by decide +kernel
theorem dX11_help_72 : decode cX11_help 72 = .ok (.iload 4, 2) := by decide +kernel
theorem dX11_help_74 : decode cX11_help 74 = .ok (.iconst 1, 1) := by decide +kernel
theorem dX11_help_75 : decode cX11_help 75 = .ok (.iadd, 1) := by decide +kernel
theorem dX11_help_76 : decode cX11_help 76 = .ok (.iload 6, 2) := by decide +kernel
theorem dX11_help_78 : decode cX11_help 78 = .ok (.invokestatic 117, 3) := by decide +kernel
theorem dX11_help_81 : decode cX11_help 81 = .ok (.isub, 1) := by decide +kernel
theorem dX11_help_82 : decode cX11_help 82 = .ok (.ireturn, 1) := by decide +kernel
set_option maxRecDepth 20000 in
theorem ggX11_move_X11_in : GoodIn wsX11_move wsX11_in := goodIn_r _ [5] (by decide +kernel) (by decide +kernel)
set_option maxRecDepth 20000 in
theorem gX11_move_X11_in : GoodIn wsX11_move (va_wsS RX11 53 yX11_in wsX11_in) := goodIn_app (goodIn_of _ (by decide +kernel)) ggX11_move_X11_in
set_option maxRecDepth 20000 in
theorem ggX11_move_X11_help : GoodIn wsX11_move wsX11_help := goodIn_r _ [9, 10, 11, 12, 4, 13, 14, 15, 16, 17, 1, 18, 19, 20, 21, 22, 23, 24, 25, 26, 27, 28, 29, 30, 31, 36, 37, 38, 39, 40, 41, 42, 43, 44, 45, 46, 47, 48, 49] (by decide +kernel) (by decide +kernel)
set_option maxRecDepth 20000 in
theorem gX11_move_X11_help : GoodIn wsX11_move (wsV RX11 144 RX11 yX11_help wsX11_help) := goodIn_app (goodIn_of _ (by decide +kernel)) ggX11_move_X11_help
set_option maxRecDepth 20000 in
theorem ggX11_move_X11_way : GoodIn wsX11_move wsX11_way := goodIn_r _ [35, 25, 26, 27, 4, 28, 1, 36, 37, 38, 39, 40, 41, 42, 43, 44, 45, 46, 47, 48, 49] (by decide +kernel) (by decide +kernel)
set_option maxRecDepth 20000 in
theorem gX11_move_X11_way : GoodIn wsX11_move (wsV RX11 108 RX11 yX11_way wsX11_way) := goodIn_app (goodIn_of _ (by decide +kernel)) ggX11_move_X11_way
theorem dX11_move_0 : decode cX11_move 0 = .ok (.iload_n 1, 1) := by decide +kernel
theorem dX11_move_1 : decode cX11_move 1 = .ok (.iconst 0, 1) := by decide +kernel
theorem dX11_move_2 : decode cX11_move 2 = .ok (.iconst 2, 1) := by decide +kernel
theorem dX11_move_3 : decode cX11_move 3 = .ok (.invokestatic 53, 3) := by decide +kernel
theorem dX11_move_6 : decode cX11_move 6 = .ok (.ifCond .ne 5, 3) := by decide +kernel
theorem dX11_move_9 : decode cX11_move 9 = .ok (.iconst (-1), 1) := by decide +kernel
theorem dX11_move_10 : decode cX11_move 10 = .ok (.ireturn, 1) := by decide +kernel
theorem dX11_move_11 : decode cX11_move 11 = .ok (.bipush (-4), 2) := by decide +kernel
theorem dX11_move_13 : decode cX11_move 13 = .ok (.istore_n 2, 1) := by decide +kernel
theorem dX11_move_14 : decode cX11_move 14 = .ok (.bipush (-4), 2) := by decide +kernel
theorem dX11_move_16 : decode cX11_move 16 = .ok (.istore_n 3, 1) := by decide +kernel
theorem dX11_move_17 : decode cX11_move 17 = .ok (.iconst 0, 1) := by decide +kernel
theorem dX11_move_18 : decode cX11_move 18 = .ok (.istore 4, 2) := by decide +kernel
theorem dX11_move_20 : decode cX11_move 20 = .ok (.iconst 0, 1) := by decide +kernel
theorem dX11_move_21 : decode cX11_move 21 = .ok (.istore 5, 2) := by decide +kernel
theorem dX11_move_23 : decode cX11_move 23 = .ok (.iconst 0, 1) := by decide +kernel
theorem dX11_move_24 : decode cX11_move 24 = .ok (.istore 6, 2) := by decide +kernel
theorem dX11_move_26 : decode cX11_move 26 = .ok (.iload 6, 2) := by decide +kernel
theorem dX11_move_28 : decode cX11_move 28 = .ok (.aload_n 0, 1) := by decide +kernel
theorem dX11_move_29 : decode cX11_move 29 = .ok (.getfield 7, 3) := by decide +kernel
theorem dX11_move_32 : decode cX11_move 32 = .ok (.iconst 0, 1) := by decide +kernel
theorem dX11_move_33 : decode cX11_move 33 = .ok (.iaload, 1) := by decide +kernel
theorem dX11_move_34 : decode cX11_move 34 = .ok (.if_icmp .ge 89, 3) := by decide +kernel
theorem dX11_move_37 : decode cX11_move 37 = .ok (.iconst 0, 1) := by decide +kernel
theorem dX11_move_38 : decode cX11_move 38 = .ok (.istore 7, 2) := by decide +kernel
theorem dX11_move_40 : decode cX11_move 40 = .ok (.iload 7, 2) := by decide +kernel
theorem dX11_move_42 : decode cX11_move 42 = .ok (.aload_n 0, 1) := by decide +kernel
theorem dX11_move_43 : decode cX11_move 43 = .ok (.getfield 7, 3) := by decide +kernel
theorem dX11_move_46 : decode cX11_move 46 = .ok (.iconst 0, 1) := by decide +kernel
theorem dX11_move_47 : decode cX11_move 47 = .ok (.iaload, 1) := by decide +kernel
theorem dX11_move_48 : decode cX11_move 48 = .ok (.if_icmp .ge 69, 3) := by decide +kernel
theorem dX11_move_51 : decode cX11_move 51 = .ok (.aload_n 0, 1) := by decide +kernel
theorem dX11_move_52 : decode cX11_move 52 = .ok (.iload 6, 2) := by decide +kernel
theorem dX11_move_54 : decode cX11_move 54 = .ok (.iload 7, 2) := by decide +kernel
theorem dX11_move_56 : decode cX11_move 56 = .ok (.invokevirtual 144, 3) := by decide +kernel
theorem dX11_move_59 : decode cX11_move 59 = .ok (.istore 8, 2) := by decide +kernel
theorem dX11_move_61 : decode cX11_move 61 = .ok (.aload_n 0, 1) := by decide +kernel
theorem dX11_move_62 : decode cX11_move 62 = .ok (.iload 6, 2) := by decide +kernel
theorem dX11_move_64 : decode cX11_move 64 = .ok (.iload 7, 2) := by decide +kernel
theorem dX11_move_66 : decode cX11_move 66 = .ok (.invokevirtual 108, 3) := by decide +kernel
theorem dX11_move_69 : decode cX11_move 69 = .ok (.istore 9, 2) := by decide +kernel
theorem dX11_move_71 : decode cX11_move 71 = .ok (.iload 8, 2) := by decide +kernel
theorem dX11_move_73 : decode cX11_move 73 = .ok (.iload 4, 2) := by decide +kernel
theorem dX11_move_75 : decode cX11_move 75 = .ok (.if_icmp .gt 22, 3) := by decide +kernel
theorem dX11_move_78 : decode cX11_move 78 = .ok (.iload 8, 2) := by decide +kernel
theorem dX11_move_80 : decode cX11_move 80 = .ok (.iload 4, 2) := by decide +kernel
theorem dX11_move_82 : decode cX11_move 82 = .ok (.if_icmp .ne 29, 3) := by decide +kernel
theorem dX11_move_85 : decode cX11_move 85 = .ok (.iload 4, 2) := by decide +kernel
theorem dX11_move_87 : decode cX11_move 87 = .ok (.ifCond .le 24, 3) := by decide +kernel
theorem dX11_move_90 : decode cX11_move 90 = .ok (.iload 9, 2) := by decide +kernel
theorem dX11_move_92 : decode cX11_move 92 = .ok (.iload 5, 2) := by decide +kernel
theorem dX11_move_94 : decode cX11_move 94 = .ok (.if_icmp .ge 17, 3) := by decide +kernel
theorem dX11_move_97 : decode cX11_move 97 = .ok (.iload 6, 2) := by decide +kernel
theorem dX11_move_99 : decode cX11_move 99 = .ok (.istore_n 2, 1) := by decide +kernel
theorem dX11_move_100 : decode cX11_move 100 = .ok (.iload 7, 2) := by decide +kernel
theorem dX11_move_102 : decode cX11_move 102 = .ok (.istore_n 3, 1) := by decide +kernel
theorem dX11_move_103 : decode cX11_move 103 = .ok (.iload 8, 2) := by decide +kernel
theorem dX11_move_105 : decode cX11_move 105 = .ok (.istore 4, 2) := by decide +kernel
theorem dX11_move_107 : decode cX11_move 107 = .ok (.iload 9, 2) := by decide +kernel
theorem dX11_move_109 : decode cX11_move 109 = .ok (.istore 5, 2) := by decide +kernel
theorem dX11_move_111 : decode cX11_move 111 = .ok (.iinc 7 1, 3) := by decide +kernel
theorem dX11_move_114 : decode cX11_move 114 = .ok (.goto (-74), 3) := by decide +kernel
theorem dX11_move_117 : decode cX11_move 117 = .ok (.iinc 6 1, 3) := by decide +kernel
theorem dX11_move_120 : decode cX11_move 120 = .ok (.goto (-94), 3) := by decide +kernel
theorem dX11_move_123 : decode cX11_move 123 = .ok (.iload 4, 2) := by decide +kernel
theorem dX11_move_125 : decode cX11_move 125 = .ok (.ifCond .ne 8, 3) := by decide +kernel
theorem dX11_move_128 : decode cX11_move 128 = .ok (.bipush (-4), 2) := by decide +kernel
theorem dX11_move_130 : decode cX11_move 130 = .ok (.goto 22, 3) := by decide +kernel
theorem dX11_move_133 : decode cX11_move 133 = .ok (.iload_n 1, 1) := by decide +kernel
theorem dX11_move_134 : decode cX11_move 134 = .ok (.ifCond .ne 7, 3) := by decide +kernel
theorem dX11_move_137 : decode cX11_move 137 = .ok (.iload_n 2, 1) := by decide +kernel
theorem dX11_move_138 : decode cX11_move 138 = .ok (.goto 14, 3) := by decide +kernel
theorem dX11_move_141 : decode cX11_move 141 = .ok (.iload_n 1, 1) := by decide +kernel
theorem dX11_move_142 : decode cX11_move 142 = .ok (.iconst 1, 1) := by decide +kernel
theorem dX11_move_143 : decode cX11_move 143 = .ok (.if_icmp .ne 7, 3) := by decide +kernel
theorem dX11_move_146 : decode cX11_move 146 = .ok (.iload_n 3, 1) := by decide +kernel
theorem dX11_move_147 : decode cX11_move 147 = .ok (.goto 5, 3) := by decide +kernel
theorem dX11_move_150 : decode cX11_move 150 = .ok (.iload 4, 2) := by decide +kernel
theorem dX11_move_152 : decode cX11_move 152 = .ok (.ireturn, 1) := by decide +kernel
set_option maxRecDepth 20000 in
theorem ggX11_evening_X11_ofStation : GoodIn wsX11_evening wsX11_ofStation := goodIn_r _ [6, 1, 34, 35, 36, 37, 38, 39, 40, 41, 42, 43, 44, 45, 46, 47] (by decide +kernel) (by decide +kernel)
set_option maxRecDepth 20000 in
theorem gX11_evening_X11_ofStation : GoodIn wsX11_evening (wsV RX11 50 RX11 yX11_ofStation wsX11_ofStation) := goodIn_app (goodIn_of _ (by decide +kernel)) ggX11_evening_X11_ofStation
set_option maxRecDepth 20000 in
theorem ggX11_evening_X11_docked : GoodIn wsX11_evening wsX11_docked := goodIn_r _ [10, 11, 12, 13, 5, 14, 1, 15, 16, 17, 18, 19, 20, 21, 34, 35, 36, 37, 38, 39, 40, 41, 42, 43, 44, 45, 46, 47] (by decide +kernel) (by decide +kernel)
set_option maxRecDepth 20000 in
theorem gX11_evening_X11_docked : GoodIn wsX11_evening (wsV RX11 47 RX11 yX11_docked wsX11_docked) := goodIn_app (goodIn_of _ (by decide +kernel)) ggX11_evening_X11_docked
set_option maxRecDepth 20000 in
theorem ggX11_evening_X11_aim : GoodIn wsX11_evening wsX11_aim := goodIn_r _ [25, 1, 26, 27, 28, 5, 29, 15, 16, 17, 18, 30, 31, 32, 33, 2, 3, 4, 6, 34, 35, 36, 37, 38, 39, 40, 41, 42, 43, 44, 45, 46, 47] (by decide +kernel) (by decide +kernel)
set_option maxRecDepth 20000 in
theorem gX11_evening_X11_aim : GoodIn wsX11_evening (wsV RX11 129 RX11 yX11_aim wsX11_aim) := goodIn_app (goodIn_of _ (by decide +kernel)) ggX11_evening_X11_aim
theorem dX11_evening_0 : decode cX11_evening 0 = .ok (.aload_n 0, 1) := by decide +kernel
theorem dX11_evening_1 : decode cX11_evening 1 = .ok (.getfield 7, 3) := by decide +kernel
theorem dX11_evening_4 : decode cX11_evening 4 = .ok (.iconst 0, 1) := by decide +kernel
theorem dX11_evening_5 : decode cX11_evening 5 = .ok (.iaload, 1) := by decide +kernel
theorem dX11_evening_6 : decode cX11_evening 6 = .ok (.ifCond .ne 6, 3) := by decide +kernel
theorem dX11_evening_9 : decode cX11_evening 9 = .ok (.bipush (-4), 2) := by decide +kernel
theorem dX11_evening_11 : decode cX11_evening 11 = .ok (.ireturn, 1) := by decide +kernel
theorem dX11_evening_12 : decode cX11_evening 12 = .ok (.iconst 0, 1) := by decide +kernel
theorem dX11_evening_13 : decode cX11_evening 13 = .ok (.istore_n 1, 1) := by decide +kernel
theorem dX11_evening_14 : decode cX11_evening 14 = .ok (.iconst 0, 1) := by decide +kernel
theorem dX11_evening_15 : decode cX11_evening 15 = .ok (.istore_n 2, 1) := by decide +kernel
theorem dX11_evening_16 : decode cX11_evening 16 = .ok (.iload_n 2, 1) := by decide +kernel
theorem dX11_evening_17 : decode cX11_evening 17 = .ok (.bipush 99, 2) := by decide +kernel
theorem dX11_evening_19 : decode cX11_evening 19 = .ok (.if_icmp .ge 75, 3) := by decide +kernel
theorem dX11_evening_22 : decode cX11_evening 22 = .ok (.iconst 0, 1) := by decide +kernel
theorem dX11_evening_23 : decode cX11_evening 23 = .ok (.istore_n 3, 1) := by decide +kernel
theorem dX11_evening_24 : decode cX11_evening 24 = .ok (.iconst 0, 1) := by decide +kernel
theorem dX11_evening_25 : decode cX11_evening 25 = .ok (.istore 4, 2) := by decide +kernel
theorem dX11_evening_27 : decode cX11_evening 27 = .ok (.iload 4, 2) := by decide +kernel
theorem dX11_evening_29 : decode cX11_evening 29 = .ok (.aload_n 0, 1) := by decide +kernel
theorem dX11_evening_30 : decode cX11_evening 30 = .ok (.getfield 7, 3) := by decide +kernel
theorem dX11_evening_33 : decode cX11_evening 33 = .ok (.iconst 0, 1) := by decide +kernel
theorem dX11_evening_34 : decode cX11_evening 34 = .ok (.iaload, 1) := by decide +kernel
theorem dX11_evening_35 : decode cX11_evening 35 = .ok (.if_icmp .ge 40, 3) := by decide +kernel
theorem dX11_evening_38 : decode cX11_evening 38 = .ok (.iload_n 3, 1) := by decide +kernel
theorem dX11_evening_39 : decode cX11_evening 39 = .ok (.aload_n 0, 1) := by decide +kernel
theorem dX11_evening_40 : decode cX11_evening 40 = .ok (.iload 4, 2) := by decide +kernel
theorem dX11_evening_42 : decode cX11_evening 42 = .ok (.iconst 0, 1) := by decide +kernel
theorem dX11_evening_43 : decode cX11_evening 43 = .ok (.invokevirtual 50, 3) := by decide +kernel
theorem dX11_evening_46 : decode cX11_evening 46 = .ok (.iload_n 2, 1) := by decide +kernel
theorem dX11_evening_47 : decode cX11_evening 47 = .ok (.if_icmp .gt 19, 3) := by decide +kernel
theorem dX11_evening_50 : decode cX11_evening 50 = .ok (.aload_n 0, 1) := by decide +kernel
theorem dX11_evening_51 : decode cX11_evening 51 = .ok (.iload 4, 2) := by decide +kernel
theorem dX11_evening_53 : decode cX11_evening 53 = .ok (.invokevirtual 47, 3) := by decide +kernel
theorem dX11_evening_56 : decode cX11_evening 56 = .ok (.aload_n 0, 1) := by decide +kernel
theorem dX11_evening_57 : decode cX11_evening 57 = .ok (.iload 4, 2) := by decide +kernel
theorem dX11_evening_59 : decode cX11_evening 59 = .ok (.invokevirtual 129, 3) := by decide +kernel
theorem dX11_evening_62 : decode cX11_evening 62 = .ok (.isub, 1) := by decide +kernel
theorem dX11_evening_63 : decode cX11_evening 63 = .ok (.goto 4, 3) := by decide +kernel
theorem dX11_evening_66 : decode cX11_evening 66 = .ok (.iconst 0, 1) := by decide +kernel
theorem dX11_evening_67 : decode cX11_evening 67 = .ok (.iadd, 1) := by decide +kernel
theorem dX11_evening_68 : decode cX11_evening 68 = .ok (.istore_n 3, 1) := by decide +kernel
theorem dX11_evening_69 : decode cX11_evening 69 = .ok (.iinc 4 1, 3) := by decide +kernel
theorem dX11_evening_72 : decode cX11_evening 72 = .ok (.goto (-45), 3) := by decide +kernel
theorem dX11_evening_75 : decode cX11_evening 75 = .ok (.iload_n 1, 1) := by decide +kernel
theorem dX11_evening_76 : decode cX11_evening 76 = .ok (.iload_n 3, 1) := by decide +kernel
theorem dX11_evening_77 : decode cX11_evening 77 = .ok (.ifCond .ge 8, 3) := by decide +kernel
theorem dX11_evening_80 : decode cX11_evening 80 = .ok (.iload_n 3, 1) := by decide +kernel
theorem dX11_evening_81 : decode cX11_evening 81 = .ok (.ineg, 1) := by decide +kernel
theorem dX11_evening_82 : decode cX11_evening 82 = .ok (.goto 4, 3) := by decide +kernel
theorem dX11_evening_85 : decode cX11_evening 85 = .ok (.iload_n 3, 1) := by decide +kernel
theorem dX11_evening_86 : decode cX11_evening 86 = .ok (.iadd, 1) := by decide +kernel
theorem dX11_evening_87 : decode cX11_evening 87 = .ok (.istore_n 1, 1) := by decide +kernel
theorem dX11_evening_88 : decode cX11_evening 88 = .ok (.iinc 2 1, 3) := by decide +kernel
theorem dX11_evening_91 : decode cX11_evening 91 = .ok (.goto (-75), 3) := by decide +kernel
theorem dX11_evening_94 : decode cX11_evening 94 = .ok (.iload_n 1, 1) := by decide +kernel
theorem dX11_evening_95 : decode cX11_evening 95 = .ok (.ireturn, 1) := by decide +kernel
set_option maxRecDepth 20000 in
theorem ggX11_keep_X11_copies : GoodIn wsX11_keep wsX11_copies := goodIn_r _ [7] (by decide +kernel) (by decide +kernel)
set_option maxRecDepth 20000 in
theorem gX11_keep_X11_copies : GoodIn wsX11_keep (va_wsS RX11 147 yX11_copies wsX11_copies) := goodIn_app (goodIn_of _ (by decide +kernel)) ggX11_keep_X11_copies
theorem dX11_keep_0 : decode cX11_keep 0 = .ok (.aload_n 0, 1) := by decide +kernel
theorem dX11_keep_1 : decode cX11_keep 1 = .ok (.getfield 7, 3) := by decide +kernel
theorem dX11_keep_4 : decode cX11_keep 4 = .ok (.aload_n 0, 1) := by decide +kernel
theorem dX11_keep_5 : decode cX11_keep 5 = .ok (.getfield 19, 3) := by decide +kernel
theorem dX11_keep_8 : decode cX11_keep 8 = .ok (.invokestatic 147, 3) := by decide +kernel
theorem dX11_keep_11 : decode cX11_keep 11 = .ok (.aload_n 0, 1) := by decide +kernel
theorem dX11_keep_12 : decode cX11_keep 12 = .ok (.iconst 1, 1) := by decide +kernel
theorem dX11_keep_13 : decode cX11_keep 13 = .ok (.putfield 141, 3) := by decide +kernel
theorem dX11_keep_16 : decode cX11_keep 16 = .ok (.aload_n 0, 1) := by decide +kernel
theorem dX11_keep_17 : decode cX11_keep 17 = .ok (.getfield 7, 3) := by decide +kernel
theorem dX11_keep_20 : decode cX11_keep 20 = .ok (.iconst 4, 1) := by decide +kernel
theorem dX11_keep_21 : decode cX11_keep 21 = .ok (.iaload, 1) := by decide +kernel
theorem dX11_keep_22 : decode cX11_keep 22 = .ok (.ireturn, 1) := by decide +kernel
set_option maxRecDepth 20000 in
theorem ggX11_restore_X11_changes : GoodIn wsX11_restore wsX11_changes := goodIn_r _ [8, 9, 10, 11, 3, 15, 16, 17, 18, 19, 20, 21, 22, 23, 24, 25, 26, 27, 28] (by decide +kernel) (by decide +kernel)
set_option maxRecDepth 20000 in
theorem gX11_restore_X11_changes : GoodIn wsX11_restore (wsV RX11 57 RX11 yX11_changes wsX11_changes) := goodIn_app (goodIn_of _ (by decide +kernel)) ggX11_restore_X11_changes
set_option maxRecDepth 20000 in
theorem ggX11_restore_X11_copies : GoodIn wsX11_restore wsX11_copies := goodIn_r _ [14] (by decide +kernel) (by decide +kernel)
set_option maxRecDepth 20000 in
theorem gX11_restore_X11_copies : GoodIn wsX11_restore (va_wsS RX11 147 yX11_copies wsX11_copies) := goodIn_app (goodIn_of _ (by decide +kernel)) ggX11_restore_X11_copies
theorem dX11_restore_0 : decode cX11_restore 0 = .ok (.aload_n 0, 1) := by decide +kernel
theorem dX11_restore_1 : decode cX11_restore 1 = .ok (.getfield 141, 3) := by decide +kernel
theorem dX11_restore_4 : decode cX11_restore 4 = .ok (.ifCond .ne 6, 3) := by decide +kernel
theorem dX11_restore_7 : decode cX11_restore 7 = .ok (.bipush (-2), 2) := by decide +kernel
theorem dX11_restore_9 : decode cX11_restore 9 = .ok (.ireturn, 1) := by decide +kernel
theorem dX11_restore_10 : decode cX11_restore 10 = .ok (.aload_n 0, 1) := by decide +kernel
theorem dX11_restore_11 : decode cX11_restore 11 = .ok (.invokevirtual 57, 3) := by decide +kernel
theorem dX11_restore_14 : decode cX11_restore 14 = .ok (.aload_n 0, 1) := by decide +kernel
theorem dX11_restore_15 : decode cX11_restore 15 = .ok (.getfield 19, 3) := by decide +kernel
theorem dX11_restore_18 : decode cX11_restore 18 = .ok (.aload_n 0, 1) := by decide +kernel
theorem dX11_restore_19 : decode cX11_restore 19 = .ok (.getfield 7, 3) := by decide +kernel
theorem dX11_restore_22 : decode cX11_restore 22 = .ok (.invokestatic 147, 3) := by decide +kernel
theorem dX11_restore_25 : decode cX11_restore 25 = .ok (.aload_n 0, 1) := by decide +kernel
theorem dX11_restore_26 : decode cX11_restore 26 = .ok (.getfield 7, 3) := by decide +kernel
theorem dX11_restore_29 : decode cX11_restore 29 = .ok (.iconst 4, 1) := by decide +kernel
theorem dX11_restore_30 : decode cX11_restore 30 = .ok (.iaload, 1) := by decide +kernel
theorem dX11_restore_31 : decode cX11_restore 31 = .ok (.ireturn, 1) := by decide +kernel
theorem dX11_undo_0 : decode cX11_undo 0 = .ok (.aload_n 0, 1) := by decide +kernel
theorem dX11_undo_1 : decode cX11_undo 1 = .ok (.getfield 32, 3) := by decide +kernel
theorem dX11_undo_4 : decode cX11_undo 4 = .ok (.ifCond .ne 6, 3) := by decide +kernel
theorem dX11_undo_7 : decode cX11_undo 7 = .ok (.bipush (-2), 2) := by decide +kernel
theorem dX11_undo_9 : decode cX11_undo 9 = .ok (.ireturn, 1) := by decide +kernel
theorem dX11_undo_10 : decode cX11_undo 10 = .ok (.aload_n 0, 1) := by decide +kernel
theorem dX11_undo_11 : decode cX11_undo 11 = .ok (.dup, 1) := by decide +kernel
theorem dX11_undo_12 : decode cX11_undo 12 = .ok (.getfield 32, 3) := by decide +kernel
theorem dX11_undo_15 : decode cX11_undo 15 = .ok (.iconst 1, 1) := by decide +kernel
theorem dX11_undo_16 : decode cX11_undo 16 = .ok (.isub, 1) := by decide +kernel
theorem dX11_undo_17 : decode cX11_undo 17 = .ok (.putfield 32, 3) := by decide +kernel
theorem dX11_undo_20 : decode cX11_undo 20 = .ok (.iconst 0, 1) := by decide +kernel
theorem dX11_undo_21 : decode cX11_undo 21 = .ok (.istore_n 1, 1) := by decide +kernel
theorem dX11_undo_22 : decode cX11_undo 22 = .ok (.iload_n 1, 1) := by decide +kernel
theorem dX11_undo_23 : decode cX11_undo 23 = .ok (.sipush 206, 3) := by decide +kernel
theorem dX11_undo_26 : decode cX11_undo 26 = .ok (.if_icmp .ge 30, 3) := by decide +kernel
theorem dX11_undo_29 : decode cX11_undo 29 = .ok (.aload_n 0, 1) := by decide +kernel
theorem dX11_undo_30 : decode cX11_undo 30 = .ok (.getfield 7, 3) := by decide +kernel
theorem dX11_undo_33 : decode cX11_undo 33 = .ok (.iload_n 1, 1) := by decide +kernel
theorem dX11_undo_34 : decode cX11_undo 34 = .ok (.aload_n 0, 1) := by decide +kernel
theorem dX11_undo_35 : decode cX11_undo 35 = .ok (.getfield 13, 3) := by decide +kernel
theorem dX11_undo_38 : decode cX11_undo 38 = .ok (.sipush 206, 3) := by decide +kernel
theorem dX11_undo_41 : decode cX11_undo 41 = .ok (.aload_n 0, 1) := by decide +kernel
theorem dX11_undo_42 : decode cX11_undo 42 = .ok (.getfield 32, 3) := by decide +kernel
theorem dX11_undo_45 : decode cX11_undo 45 = .ok (.imul, 1) := by decide +kernel
theorem dX11_undo_46 : decode cX11_undo 46 = .ok (.iload_n 1, 1) := by decide +kernel
theorem dX11_undo_47 : decode cX11_undo 47 = .ok (.iadd, 1) := by decide +kernel
theorem dX11_undo_48 : decode cX11_undo 48 = .ok (.iaload, 1) := by decide +kernel
theorem dX11_undo_49 : decode cX11_undo 49 = .ok (.iastore, 1) := by decide +kernel
theorem dX11_undo_50 : decode cX11_undo 50 = .ok (.iinc 1 1, 3) := by decide +kernel
theorem dX11_undo_53 : decode cX11_undo 53 = .ok (.goto (-31), 3) := by decide +kernel
theorem dX11_undo_56 : decode cX11_undo 56 = .ok (.aload_n 0, 1) := by decide +kernel
theorem dX11_undo_57 : decode cX11_undo 57 = .ok (.getfield 32, 3) := by decide +kernel
theorem dX11_undo_60 : decode cX11_undo 60 = .ok (.ireturn, 1) := by decide +kernel
set_option maxRecDepth 20000 in
theorem ggX11_type_X11_in : GoodIn wsX11_type wsX11_in := goodIn_r _ [6] (by decide +kernel) (by decide +kernel)
set_option maxRecDepth 20000 in
theorem gX11_type_X11_in : GoodIn wsX11_type (va_wsS RX11 53 yX11_in wsX11_in) := goodIn_app (goodIn_of _ (by decide +kernel)) ggX11_type_X11_in
theorem dX11_type_0 : decode cX11_type 0 = .ok (.iload_n 1, 1) := by decide +kernel
theorem dX11_type_1 : decode cX11_type 1 = .ok (.bipush 32, 2) := by decide +kernel
theorem dX11_type_3 : decode cX11_type 3 = .ok (.bipush 126, 2) := by decide +kernel
theorem dX11_type_5 : decode cX11_type 5 = .ok (.invokestatic 53, 3) := by decide +kernel
theorem dX11_type_8 : decode cX11_type 8 = .ok (.ifCond .ne 5, 3) := by decide +kernel
theorem dX11_type_11 : decode cX11_type 11 = .ok (.iconst (-1), 1) := by decide +kernel
theorem dX11_type_12 : decode cX11_type 12 = .ok (.ireturn, 1) := by decide +kernel
theorem dX11_type_13 : decode cX11_type 13 = .ok (.aload_n 0, 1) := by decide +kernel
theorem dX11_type_14 : decode cX11_type 14 = .ok (.getfield 138, 3) := by decide +kernel
theorem dX11_type_17 : decode cX11_type 17 = .ok (.bipush 60, 2) := by decide +kernel
theorem dX11_type_19 : decode cX11_type 19 = .ok (.if_icmp .ne 6, 3) := by decide +kernel
theorem dX11_type_22 : decode cX11_type 22 = .ok (.bipush (-3), 2) := by decide +kernel
theorem dX11_type_24 : decode cX11_type 24 = .ok (.ireturn, 1) := by decide +kernel
theorem dX11_type_25 : decode cX11_type 25 = .ok (.aload_n 0, 1) := by decide +kernel
theorem dX11_type_26 : decode cX11_type 26 = .ok (.getfield 22, 3) := by decide +kernel
theorem dX11_type_29 : decode cX11_type 29 = .ok (.aload_n 0, 1) := by decide +kernel
theorem dX11_type_30 : decode cX11_type 30 = .ok (.getfield 138, 3) := by decide +kernel
theorem dX11_type_33 : decode cX11_type 33 = .ok (.iload_n 1, 1) := by decide +kernel
theorem dX11_type_34 : decode cX11_type 34 = .ok (.iastore, 1) := by decide +kernel
theorem dX11_type_35 : decode cX11_type 35 = .ok (.aload_n 0, 1) := by decide +kernel
theorem dX11_type_36 : decode cX11_type 36 = .ok (.dup, 1) := by decide +kernel
theorem dX11_type_37 : decode cX11_type 37 = .ok (.getfield 138, 3) := by decide +kernel
theorem dX11_type_40 : decode cX11_type 40 = .ok (.iconst 1, 1) := by decide +kernel
theorem dX11_type_41 : decode cX11_type 41 = .ok (.iadd, 1) := by decide +kernel
theorem dX11_type_42 : decode cX11_type 42 = .ok (.putfield 138, 3) := by decide +kernel
theorem dX11_type_45 : decode cX11_type 45 = .ok (.aload_n 0, 1) := by decide +kernel
theorem dX11_type_46 : decode cX11_type 46 = .ok (.getfield 138, 3) := by decide +kernel
theorem dX11_type_49 : decode cX11_type 49 = .ok (.ireturn, 1) := by decide +kernel
theorem dX11_clearText_0 : decode cX11_clearText 0 = .ok (.aload_n 0, 1) := by decide +kernel
theorem dX11_clearText_1 : decode cX11_clearText 1 = .ok (.getfield 138, 3) := by decide +kernel
theorem dX11_clearText_4 : decode cX11_clearText 4 = .ok (.istore_n 1, 1) := by decide +kernel
theorem dX11_clearText_5 : decode cX11_clearText 5 = .ok (.aload_n 0, 1) := by decide +kernel
theorem dX11_clearText_6 : decode cX11_clearText 6 = .ok (.iconst 0, 1) := by decide +kernel
theorem dX11_clearText_7 : decode cX11_clearText 7 = .ok (.putfield 138, 3) := by decide +kernel
theorem dX11_clearText_10 : decode cX11_clearText 10 = .ok (.iload_n 1, 1) := by decide +kernel
theorem dX11_clearText_11 : decode cX11_clearText 11 = .ok (.ireturn, 1) := by decide +kernel
set_option maxRecDepth 20000 in
theorem ggX11_isAt__X11_in : GoodIn wsX11_isAt_ wsX11_in := goodIn_r _ [7] (by decide +kernel) (by decide +kernel)
set_option maxRecDepth 20000 in
theorem gX11_isAt__X11_in : GoodIn wsX11_isAt_ (va_wsS RX11 53 yX11_in wsX11_in) := goodIn_app (goodIn_of _ (by decide +kernel)) ggX11_isAt__X11_in
theorem dX11_isAt__0 : decode cX11_isAt_ 0 = .ok (.aload_n 0, 1) := by decide +kernel
theorem dX11_isAt__1 : decode cX11_isAt_ 1 = .ok (.getfield 151, 3) := by decide +kernel
theorem dX11_isAt__4 : decode cX11_isAt_ 4 = .ok (.aload_n 0, 1) := by decide +kernel
theorem dX11_isAt__5 : decode cX11_isAt_ 5 = .ok (.getfield 138, 3) := by decide +kernel
theorem dX11_isAt__8 : decode cX11_isAt_ 8 = .ok (.if_icmp .ge 24, 3) := by decide +kernel
theorem dX11_isAt__11 : decode cX11_isAt_ 11 = .ok (.aload_n 0, 1) := by decide +kernel
theorem dX11_isAt__12 : decode cX11_isAt_ 12 = .ok (.getfield 22, 3) := by decide +kernel
theorem dX11_isAt__15 : decode cX11_isAt_ 15 = .ok (.aload_n 0, 1) := by decide +kernel
theorem dX11_isAt__16 : decode cX11_isAt_ 16 = .ok (.getfield 151, 3) := by decide +kernel
theorem dX11_isAt__19 : decode cX11_isAt_ 19 = .ok (.iaload, 1) := by decide +kernel
theorem dX11_isAt__20 : decode cX11_isAt_ 20 = .ok (.iload_n 1, 1) := by decide +kernel
theorem dX11_isAt__21 : decode cX11_isAt_ 21 = .ok (.iload_n 2, 1) := by decide +kernel
theorem dX11_isAt__22 : decode cX11_isAt_ 22 = .ok (.invokestatic 53, 3) := by decide +kernel
theorem dX11_isAt__25 : decode cX11_isAt_ 25 = .ok (.ifCond .eq 7, 3) := by decide +kernel
theorem dX11_isAt__28 : decode cX11_isAt_ 28 = .ok (.iconst 1, 1) := by decide +kernel
theorem dX11_isAt__29 : decode cX11_isAt_ 29 = .ok (.goto 4, 3) := by decide +kernel
theorem dX11_isAt__32 : decode cX11_isAt_ 32 = .ok (.iconst 0, 1) := by decide +kernel
theorem dX11_isAt__33 : decode cX11_isAt_ 33 = .ok (.ireturn, 1) := by decide +kernel
set_option maxRecDepth 20000 in
theorem ggX11_passes_X11_isAt_ : GoodIn wsX11_passes wsX11_isAt_ := goodIn_r _ [6, 1, 7, 8, 9, 10, 5, 11, 12, 13, 14, 15, 16, 17, 18, 19, 20, 21, 22, 23, 24, 25] (by decide +kernel) (by decide +kernel)
set_option maxRecDepth 20000 in
theorem gX11_passes_X11_isAt_ : GoodIn wsX11_passes (wsV RX11 154 RX11 yX11_isAt_ wsX11_isAt_) := goodIn_app (goodIn_of _ (by decide +kernel)) ggX11_passes_X11_isAt_
theorem dX11_passes_0 : decode cX11_passes 0 = .ok (.aload_n 0, 1) := by decide +kernel
theorem dX11_passes_1 : decode cX11_passes 1 = .ok (.iload_n 1, 1) := by decide +kernel
theorem dX11_passes_2 : decode cX11_passes 2 = .ok (.iload_n 1, 1) := by decide +kernel
theorem dX11_passes_3 : decode cX11_passes 3 = .ok (.invokevirtual 154, 3) := by decide +kernel
theorem dX11_passes_6 : decode cX11_passes 6 = .ok (.istore_n 2, 1) := by decide +kernel
theorem dX11_passes_7 : decode cX11_passes 7 = .ok (.aload_n 0, 1) := by decide +kernel
theorem dX11_passes_8 : decode cX11_passes 8 = .ok (.dup, 1) := by decide +kernel
theorem dX11_passes_9 : decode cX11_passes 9 = .ok (.getfield 151, 3) := by decide +kernel
theorem dX11_passes_12 : decode cX11_passes 12 = .ok (.iload_n 2, 1) := by decide +kernel
theorem dX11_passes_13 : decode cX11_passes 13 = .ok (.ifCond .eq 7, 3) := by decide +kernel
theorem dX11_passes_16 : decode cX11_passes 16 = .ok (.iconst 1, 1) := by decide +kernel
theorem dX11_passes_17 : decode cX11_passes 17 = .ok (.goto 4, 3) := by decide +kernel
theorem dX11_passes_20 : decode cX11_passes 20 = .ok (.iconst 0, 1) := by decide +kernel
theorem dX11_passes_21 : decode cX11_passes 21 = .ok (.iadd, 1) := by decide +kernel
theorem dX11_passes_22 : decode cX11_passes 22 = .ok (.putfield 151, 3) := by decide +kernel
theorem dX11_passes_25 : decode cX11_passes 25 = .ok (.iload_n 2, 1) := by decide +kernel
theorem dX11_passes_26 : decode cX11_passes 26 = .ok (.ireturn, 1) := by decide +kernel
set_option maxRecDepth 20000 in
theorem ggX11_number_X11_passes : GoodIn wsX11_number wsX11_passes := goodIn_r _ [8, 1, 9, 10, 11, 7, 12, 13, 3, 14, 15, 16, 17, 18, 19, 20, 21, 22, 23, 24, 25, 26, 27, 28, 29, 30] (by decide +kernel) (by decide +kernel)
set_option maxRecDepth 20000 in
theorem gX11_number_X11_passes : GoodIn wsX11_number (wsV RX11 157 RX11 yX11_passes wsX11_passes) := goodIn_app (goodIn_of _ (by decide +kernel)) ggX11_number_X11_passes
set_option maxRecDepth 20000 in
theorem ggX11_number_X11_isAt_ : GoodIn wsX11_number wsX11_isAt_ := goodIn_r _ [12, 1, 13, 3, 14, 15, 7, 16, 17, 18, 19, 20, 21, 22, 23, 24, 25, 26, 27, 28, 29, 30] (by decide +kernel) (by decide +kernel)
set_option maxRecDepth 20000 in
theorem gX11_number_X11_isAt_ : GoodIn wsX11_number (wsV RX11 154 RX11 yX11_isAt_ wsX11_isAt_) := goodIn_app (goodIn_of _ (by decide +kernel)) ggX11_number_X11_isAt_
theorem dX11_number_0 : decode cX11_number 0 = .ok (.aload_n 0, 1) := by decide +kernel
theorem dX11_number_1 : decode cX11_number 1 = .ok (.bipush 32, 2) := by decide +kernel
theorem dX11_number_3 : decode cX11_number 3 = .ok (.invokevirtual 157, 3) := by decide +kernel
theorem dX11_number_6 : decode cX11_number 6 = .ok (.ifCond .ne 5, 3) := by decide +kernel
theorem dX11_number_9 : decode cX11_number 9 = .ok (.iconst 0, 1) := by decide +kernel
theorem dX11_number_10 : decode cX11_number 10 = .ok (.ireturn, 1) := by decide +kernel
theorem dX11_number_11 : decode cX11_number 11 = .ok (.aload_n 0, 1) := by decide +kernel
theorem dX11_number_12 : decode cX11_number 12 = .ok (.getfield 151, 3) := by decide +kernel
theorem dX11_number_15 : decode cX11_number 15 = .ok (.istore_n 2, 1) := by decide +kernel
theorem dX11_number_16 : decode cX11_number 16 = .ok (.aload_n 0, 1) := by decide +kernel
theorem dX11_number_17 : decode cX11_number 17 = .ok (.getfield 25, 3) := by decide +kernel
theorem dX11_number_20 : decode cX11_number 20 = .ok (.iload_n 1, 1) := by decide +kernel
theorem dX11_number_21 : decode cX11_number 21 = .ok (.iconst 0, 1) := by decide +kernel
theorem dX11_number_22 : decode cX11_number 22 = .ok (.iastore, 1) := by decide +kernel
theorem dX11_number_23 : decode cX11_number 23 = .ok (.aload_n 0, 1) := by decide +kernel
theorem dX11_number_24 : decode cX11_number 24 = .ok (.bipush 48, 2) := by decide +kernel
theorem dX11_number_26 : decode cX11_number 26 = .ok (.bipush 57, 2) := by decide +kernel
theorem dX11_number_28 : decode cX11_number 28 = .ok (.invokevirtual 154, 3) := by decide +kernel
theorem dX11_number_31 : decode cX11_number 31 = .ok (.ifCond .eq 54, 3) := by decide +kernel
theorem dX11_number_34 : decode cX11_number 34 = .ok (.aload_n 0, 1) := by decide +kernel
theorem dX11_number_35 : decode cX11_number 35 = .ok (.getfield 151, 3) := by decide +kernel
theorem dX11_number_38 : decode cX11_number 38 = .ok (.iload_n 2, 1) := by decide +kernel
theorem dX11_number_39 : decode cX11_number 39 = .ok (.isub, 1) := by decide +kernel
theorem dX11_number_40 : decode cX11_number 40 = .ok (.iconst 3, 1) := by decide +kernel
theorem dX11_number_41 : decode cX11_number 41 = .ok (.if_icmp .ge 44, 3) := by decide +kernel
theorem dX11_number_44 : decode cX11_number 44 = .ok (.aload_n 0, 1) := by decide +kernel
theorem dX11_number_45 : decode cX11_number 45 = .ok (.getfield 25, 3) := by decide +kernel
theorem dX11_number_48 : decode cX11_number 48 = .ok (.iload_n 1, 1) := by decide +kernel
theorem dX11_number_49 : decode cX11_number 49 = .ok (.bipush 10, 2) := by decide +kernel
theorem dX11_number_51 : decode cX11_number 51 = .ok (.aload_n 0, 1) := by decide +kernel
theorem dX11_number_52 : decode cX11_number 52 = .ok (.getfield 25, 3) := by decide +kernel
theorem dX11_number_55 : decode cX11_number 55 = .ok (.iload_n 1, 1) := by decide +kernel
theorem dX11_number_56 : decode cX11_number 56 = .ok (.iaload, 1) := by decide +kernel
theorem dX11_number_57 : decode cX11_number 57 = .ok (.imul, 1) := by decide +kernel
theorem dX11_number_58 : decode cX11_number 58 = .ok (.aload_n 0, 1) := by decide +kernel
theorem dX11_number_59 : decode cX11_number 59 = .ok (.getfield 22, 3) := by decide +kernel
theorem dX11_number_62 : decode cX11_number 62 = .ok (.aload_n 0, 1) := by decide +kernel
theorem dX11_number_63 : decode cX11_number 63 = .ok (.getfield 151, 3) := by decide +kernel
theorem dX11_number_66 : decode cX11_number 66 = .ok (.iaload, 1) := by decide +kernel
theorem dX11_number_67 : decode cX11_number 67 = .ok (.iadd, 1) := by decide +kernel
theorem dX11_number_68 : decode cX11_number 68 = .ok (.bipush 48, 2) := by decide +kernel
theorem dX11_number_70 : decode cX11_number 70 = .ok (.isub, 1) := by decide +kernel
theorem dX11_number_71 : decode cX11_number 71 = .ok (.iastore, 1) := by decide +kernel
theorem dX11_number_72 : decode cX11_number 72 = .ok (.aload_n 0, 1) := by decide +kernel
theorem dX11_number_73 : decode cX11_number 73 = .ok (.dup, 1) := by decide +kernel
theorem dX11_number_74 : decode cX11_number 74 = .ok (.getfield 151, 3) := by decide +kernel
theorem dX11_number_77 : decode cX11_number 77 = .ok (.iconst 1, 1) := by decide +kernel
theorem dX11_number_78 : decode cX11_number 78 = .ok (.iadd, 1) := by decide +kernel
theorem dX11_number_79 : decode cX11_number 79 = .ok (.putfield 151, 3) := by decide +kernel
theorem dX11_number_82 : decode cX11_number 82 = .ok (.goto (-59), 3) := by decide +kernel
theorem dX11_number_85 : decode cX11_number 85 = .ok (.aload_n 0, 1) := by decide +kernel
theorem dX11_number_86 : decode cX11_number 86 = .ok (.getfield 151, 3) := by decide +kernel
theorem dX11_number_89 : decode cX11_number 89 = .ok (.iload_n 2, 1) := by decide +kernel
theorem dX11_number_90 : decode cX11_number 90 = .ok (.if_icmp .le 7, 3) := by decide +kernel
theorem dX11_number_93 : decode cX11_number 93 = .ok (.iconst 1, 1) := by decide +kernel
theorem dX11_number_94 : decode cX11_number 94 = .ok (.goto 4, 3) := by decide +kernel
theorem dX11_number_97 : decode cX11_number 97 = .ok (.iconst 0, 1) := by decide +kernel
theorem dX11_number_98 : decode cX11_number 98 = .ok (.ireturn, 1) := by decide +kernel
set_option maxRecDepth 20000 in
theorem ggX11_parses_X11_isAt_ : GoodIn wsX11_parses wsX11_isAt_ := goodIn_r _ [16, 1, 17, 3, 18, 19, 15, 20, 30, 31, 32, 33, 34, 35, 36, 37, 38, 39, 40, 41, 42, 43] (by decide +kernel) (by decide +kernel)
set_option maxRecDepth 20000 in
theorem gX11_parses_X11_isAt_ : GoodIn wsX11_parses (wsV RX11 154 RX11 yX11_isAt_ wsX11_isAt_) := goodIn_app (goodIn_of _ (by decide +kernel)) ggX11_parses_X11_isAt_
set_option maxRecDepth 20000 in
theorem ggX11_parses_X11_number : GoodIn wsX11_parses wsX11_number := goodIn_r _ [24, 1, 25, 3, 26, 27, 28, 15, 29, 12, 13, 14, 16, 17, 18, 19, 20, 30, 31, 32, 33, 34, 35, 36, 37, 38, 39, 40, 41, 42, 43] (by decide +kernel) (by decide +kernel)
set_option maxRecDepth 20000 in
theorem gX11_parses_X11_number : GoodIn wsX11_parses (wsV RX11 171 RX11 yX11_number wsX11_number) := goodIn_app (goodIn_of _ (by decide +kernel)) ggX11_parses_X11_number
set_option maxRecDepth 20000 in
theorem ggX11_parses_X11_passes : GoodIn wsX11_parses wsX11_passes := goodIn_r _ [29, 1, 12, 13, 14, 15, 16, 17, 3, 18, 19, 20, 30, 31, 32, 33, 34, 35, 36, 37, 38, 39, 40, 41, 42, 43] (by decide +kernel) (by decide +kernel)
set_option maxRecDepth 20000 in
theorem gX11_parses_X11_passes : GoodIn wsX11_parses (wsV RX11 157 RX11 yX11_passes wsX11_passes) := goodIn_app (goodIn_of _ (by decide +kernel)) ggX11_parses_X11_passes
theorem dX11_parses_0 : decode cX11_parses 0 = .ok (.aload_n 0, 1) := by decide +kernel
theorem dX11_parses_1 : decode cX11_parses 1 = .ok (.getfield 151, 3) := by decide +kernel
theorem dX11_parses_4 : decode cX11_parses 4 = .ok (.istore_n 1, 1) := by decide +kernel
theorem dX11_parses_5 : decode cX11_parses 5 = .ok (.aload_n 0, 1) := by decide +kernel
theorem dX11_parses_6 : decode cX11_parses 6 = .ok (.iconst 0, 1) := by decide +kernel
theorem dX11_parses_7 : decode cX11_parses 7 = .ok (.putfield 160, 3) := by decide +kernel
theorem dX11_parses_10 : decode cX11_parses 10 = .ok (.aload_n 0, 1) := by decide +kernel
theorem dX11_parses_11 : decode cX11_parses 11 = .ok (.bipush 97, 2) := by decide +kernel
theorem dX11_parses_13 : decode cX11_parses 13 = .ok (.bipush 122, 2) := by decide +kernel
theorem dX11_parses_15 : decode cX11_parses 15 = .ok (.invokevirtual 154, 3) := by decide +kernel
theorem dX11_parses_18 : decode cX11_parses 18 = .ok (.ifCond .eq 50, 3) := by decide +kernel
theorem dX11_parses_21 : decode cX11_parses 21 = .ok (.aload_n 0, 1) := by decide +kernel
theorem dX11_parses_22 : decode cX11_parses 22 = .ok (.getfield 151, 3) := by decide +kernel
theorem dX11_parses_25 : decode cX11_parses 25 = .ok (.iload_n 1, 1) := by decide +kernel
theorem dX11_parses_26 : decode cX11_parses 26 = .ok (.isub, 1) := by decide +kernel
theorem dX11_parses_27 : decode cX11_parses 27 = .ok (.iconst 5, 1) := by decide +kernel
theorem dX11_parses_28 : decode cX11_parses 28 = .ok (.if_icmp .ge 40, 3) := by decide +kernel
theorem dX11_parses_31 : decode cX11_parses 31 = .ok (.aload_n 0, 1) := by decide +kernel
theorem dX11_parses_32 : decode cX11_parses 32 = .ok (.bipush 32, 2) := by decide +kernel
theorem dX11_parses_34 : decode cX11_parses 34 = .ok (.aload_n 0, 1) := by decide +kernel
theorem dX11_parses_35 : decode cX11_parses 35 = .ok (.getfield 160, 3) := by decide +kernel
theorem dX11_parses_38 : decode cX11_parses 38 = .ok (.imul, 1) := by decide +kernel
theorem dX11_parses_39 : decode cX11_parses 39 = .ok (.aload_n 0, 1) := by decide +kernel
theorem dX11_parses_40 : decode cX11_parses 40 = .ok (.getfield 22, 3) := by decide +kernel
theorem dX11_parses_43 : decode cX11_parses 43 = .ok (.aload_n 0, 1) := by decide +kernel
theorem dX11_parses_44 : decode cX11_parses 44 = .ok (.getfield 151, 3) := by decide +kernel
theorem dX11_parses_47 : decode cX11_parses 47 = .ok (.iaload, 1) := by decide +kernel
theorem dX11_parses_48 : decode cX11_parses 48 = .ok (.iadd, 1) := by decide +kernel
theorem dX11_parses_49 : decode cX11_parses 49 = .ok (.bipush 96, 2) := by decide +kernel
theorem dX11_parses_51 : decode cX11_parses 51 = .ok (.isub, 1) := by decide +kernel
theorem dX11_parses_52 : decode cX11_parses 52 = .ok (.putfield 160, 3) := by decide +kernel
theorem dX11_parses_55 : decode cX11_parses 55 = .ok (.aload_n 0, 1) := by decide +kernel
theorem dX11_parses_56 : decode cX11_parses 56 = .ok (.dup, 1) := by decide +kernel
theorem dX11_parses_57 : decode cX11_parses 57 = .ok (.getfield 151, 3) := by decide +kernel
theorem dX11_parses_60 : decode cX11_parses 60 = .ok (.iconst 1, 1) := by decide +kernel
theorem dX11_parses_61 : decode cX11_parses 61 = .ok (.iadd, 1) := by decide +kernel
theorem dX11_parses_62 : decode cX11_parses 62 = .ok (.putfield 151, 3) := by decide +kernel
theorem dX11_parses_65 : decode cX11_parses 65 = .ok (.goto (-55), 3) := by decide +kernel
theorem dX11_parses_68 : decode cX11_parses 68 = .ok (.aload_n 0, 1) := by decide +kernel
theorem dX11_parses_69 : decode cX11_parses 69 = .ok (.getfield 160, 3) := by decide +kernel
theorem dX11_parses_72 : decode cX11_parses 72 = .ok (.ldc 163, 2) := by decide +kernel
theorem dX11_parses_74 : decode cX11_parses 74 = .ok (.if_icmp .eq 21, 3) := by decide +kernel
theorem dX11_parses_77 : decode cX11_parses 77 = .ok (.aload_n 0, 1) := by decide +kernel
theorem dX11_parses_78 : decode cX11_parses 78 = .ok (.getfield 160, 3) := by decide +kernel
theorem dX11_parses_81 : decode cX11_parses 81 = .ok (.ldc 164, 2) := by decide +kernel
theorem dX11_parses_83 : decode cX11_parses 83 = .ok (.if_icmp .eq 12, 3) := by decide +kernel
theorem dX11_parses_86 : decode cX11_parses 86 = .ok (.aload_n 0, 1) := by decide +kernel
theorem dX11_parses_87 : decode cX11_parses 87 = .ok (.getfield 160, 3) := by decide +kernel
theorem dX11_parses_90 : decode cX11_parses 90 = .ok (.ldc 165, 2) := by decide +kernel
theorem dX11_parses_92 : decode cX11_parses 92 = .ok (.if_icmp .ne 7, 3) := by decide +kernel
theorem dX11_parses_95 : decode cX11_parses 95 = .ok (.iconst 1, 1) := by decide +kernel
theorem dX11_parses_96 : decode cX11_parses 96 = .ok (.goto 4, 3) := by decide +kernel
theorem dX11_parses_99 : decode cX11_parses 99 = .ok (.iconst 0, 1) := by decide +kernel
theorem dX11_parses_100 : decode cX11_parses 100 = .ok (.istore_n 2, 1) := by decide +kernel
theorem dX11_parses_101 : decode cX11_parses 101 = .ok (.aload_n 0, 1) := by decide +kernel
theorem dX11_parses_102 : decode cX11_parses 102 = .ok (.getfield 160, 3) := by decide +kernel
theorem dX11_parses_105 : decode cX11_parses 105 = .ok (.ldc 166, 2) := by decide +kernel
theorem dX11_parses_107 : decode cX11_parses 107 = .ok (.if_icmp .eq 59, 3) := by decide +kernel
theorem dX11_parses_110 : decode cX11_parses 110 = .ok (.aload_n 0, 1) := by decide +kernel
theorem dX11_parses_111 : decode cX11_parses 111 = .ok (.getfield 160, 3) := by decide +kernel
theorem dX11_parses_114 : decode cX11_parses 114 = .ok (.ldc 167, 2) := by decide +kernel
theorem dX11_parses_116 : decode cX11_parses 116 = .ok (.if_icmp .eq 50, 3) := by decide +kernel
theorem dX11_parses_119 : decode cX11_parses 119 = .ok (.aload_n 0, 1) := by decide +kernel
theorem dX11_parses_120 : decode cX11_parses 120 = .ok (.getfield 160, 3) := by decide +kernel
theorem dX11_parses_123 : decode cX11_parses 123 = .ok (.ldc 168, 2) := by decide +kernel
theorem dX11_parses_125 : decode cX11_parses 125 = .ok (.if_icmp .eq 41, 3) := by decide +kernel
theorem dX11_parses_128 : decode cX11_parses 128 = .ok (.aload_n 0, 1) := by decide +kernel
theorem dX11_parses_129 : decode cX11_parses 129 = .ok (.getfield 160, 3) := by decide +kernel
theorem dX11_parses_132 : decode cX11_parses 132 = .ok (.ldc 169, 2) := by decide +kernel
theorem dX11_parses_134 : decode cX11_parses 134 = .ok (.if_icmp .eq 32, 3) := by decide +kernel
theorem dX11_parses_137 : decode cX11_parses 137 = .ok (.aload_n 0, 1) := by decide +kernel
theorem dX11_parses_138 : decode cX11_parses 138 = .ok (.getfield 160, 3) := by decide +kernel
theorem dX11_parses_141 : decode cX11_parses 141 = .ok (.sipush 17076, 3) := by decide +kernel
theorem dX11_parses_144 : decode cX11_parses 144 = .ok (.if_icmp .eq 22, 3) := by decide +kernel
theorem dX11_parses_147 : decode cX11_parses 147 = .ok (.aload_n 0, 1) := by decide +kernel
theorem dX11_parses_148 : decode cX11_parses 148 = .ok (.getfield 160, 3) := by decide +kernel
theorem dX11_parses_151 : decode cX11_parses 151 = .ok (.sipush 239, 3) := by decide +kernel
theorem dX11_parses_154 : decode cX11_parses 154 = .ok (.if_icmp .eq 12, 3) := by decide +kernel
theorem dX11_parses_157 : decode cX11_parses 157 = .ok (.aload_n 0, 1) := by decide +kernel
theorem dX11_parses_158 : decode cX11_parses 158 = .ok (.getfield 160, 3) := by decide +kernel
theorem dX11_parses_161 : decode cX11_parses 161 = .ok (.ldc 170, 2) := by decide +kernel
theorem dX11_parses_163 : decode cX11_parses 163 = .ok (.if_icmp .ne 7, 3) := by decide +kernel
theorem dX11_parses_166 : decode cX11_parses 166 = .ok (.iconst 1, 1) := by decide +kernel
theorem dX11_parses_167 : decode cX11_parses 167 = .ok (.goto 4, 3) := by decide +kernel
theorem dX11_parses_170 : decode cX11_parses 170 = .ok (.iconst 0, 1) := by decide +kernel
theorem dX11_parses_171 : decode cX11_parses 171 = .ok (.istore_n 3, 1) := by decide +kernel
theorem dX11_parses_172 : decode cX11_parses 172 = .ok (.iload_n 2, 1) := by decide +kernel
theorem dX11_parses_173 : decode cX11_parses 173 = .ok (.ifCond .ne 7, 3) := by decide +kernel
theorem dX11_parses_176 : decode cX11_parses 176 = .ok (.iload_n 3, 1) := by decide +kernel
theorem dX11_parses_177 : decode cX11_parses 177 = .ok (.ifCond .eq 36, 3) := by decide +kernel
theorem dX11_parses_180 : decode cX11_parses 180 = .ok (.aload_n 0, 1) := by decide +kernel
theorem dX11_parses_181 : decode cX11_parses 181 = .ok (.iconst 0, 1) := by decide +kernel
theorem dX11_parses_182 : decode cX11_parses 182 = .ok (.invokevirtual 171, 3) := by decide +kernel
theorem dX11_parses_185 : decode cX11_parses 185 = .ok (.ifCond .eq 28, 3) := by decide +kernel
theorem dX11_parses_188 : decode cX11_parses 188 = .ok (.iload_n 2, 1) := by decide +kernel
theorem dX11_parses_189 : decode cX11_parses 189 = .ok (.ifCond .ne 11, 3) := by decide +kernel
theorem dX11_parses_192 : decode cX11_parses 192 = .ok (.aload_n 0, 1) := by decide +kernel
theorem dX11_parses_193 : decode cX11_parses 193 = .ok (.iconst 1, 1) := by decide +kernel
theorem dX11_parses_194 : decode cX11_parses 194 = .ok (.invokevirtual 171, 3) := by decide +kernel
theorem dX11_parses_197 : decode cX11_parses 197 = .ok (.ifCond .eq 16, 3) := by decide +kernel
theorem dX11_parses_200 : decode cX11_parses 200 = .ok (.aload_n 0, 1) := by decide +kernel
theorem dX11_parses_201 : decode cX11_parses 201 = .ok (.bipush 59, 2) := by decide +kernel
theorem dX11_parses_203 : decode cX11_parses 203 = .ok (.invokevirtual 157, 3) := by decide +kernel
theorem dX11_parses_206 : decode cX11_parses 206 = .ok (.ifCond .eq 7, 3) := by decide +kernel
theorem dX11_parses_209 : decode cX11_parses 209 = .ok (.iconst 1, 1) := by decide +kernel
theorem dX11_parses_210 : decode cX11_parses 210 = .ok (.goto 4, 3) := by decide +kernel
theorem dX11_parses_213 : decode cX11_parses 213 = .ok (.iconst 0, 1) := by decide +kernel
theorem dX11_parses_214 : decode cX11_parses 214 = .ok (.ireturn, 1) := by decide +kernel
set_option maxRecDepth 20000 in
theorem ggX11_calls_X11_rent : GoodIn wsX11_calls wsX11_rent := goodIn_r _ [7, 8, 9, 10, 11, 6, 12, 13, 14, 15, 16, 17, 18, 19, 20, 21, 22, 23, 24, 25, 26, 27, 28, 29, 30, 31, 32, 33, 34, 35, 36, 37, 38, 39, 40, 41, 42, 43, 146, 147, 148, 149, 150, 151, 152, 153, 154, 155, 156, 157, 158, 159] (by decide +kernel) (by decide +kernel)
set_option maxRecDepth 20000 in
theorem gX11_calls_X11_rent : GoodIn wsX11_calls (wsV RX11 174 RX11 yX11_rent wsX11_rent) := goodIn_app (goodIn_of _ (by decide +kernel)) ggX11_calls_X11_rent
set_option maxRecDepth 20000 in
theorem ggX11_calls_X11_back : GoodIn wsX11_calls wsX11_back := goodIn_r _ [47, 8, 9, 10, 11, 6, 12, 13, 14, 15, 16, 21, 22, 23, 24, 25, 26, 27, 28, 48, 49, 50, 51, 52, 53, 54, 55, 56, 57, 58, 59, 17, 18, 19, 20, 60, 61, 62, 63, 64, 65, 66, 29, 30, 31, 32, 33, 34, 35, 67, 68, 69, 70, 36, 37, 38, 39, 146, 147, 148, 149, 150, 151, 152, 153, 154, 155, 156, 157, 158, 159] (by decide +kernel) (by decide +kernel)
set_option maxRecDepth 20000 in
theorem gX11_calls_X11_back : GoodIn wsX11_calls (wsV RX11 177 RX11 yX11_back wsX11_back) := goodIn_app (goodIn_of _ (by decide +kernel)) ggX11_calls_X11_back
set_option maxRecDepth 20000 in
theorem ggX11_calls_X11_full : GoodIn wsX11_calls wsX11_full := goodIn_r _ [74, 8, 9, 10, 11, 6, 12, 13, 14, 15, 16, 21, 22, 23, 24, 25, 26, 27, 28, 48, 49, 50, 51, 52, 53, 54, 55, 56, 57, 58, 59, 17, 18, 19, 20, 60, 61, 62, 63, 64, 65, 66, 29, 30, 31, 32, 33, 34, 35, 146, 147, 148, 149, 150, 151, 152, 153, 154, 155, 156, 157, 158, 159] (by decide +kernel) (by decide +kernel)
set_option maxRecDepth 20000 in
theorem gX11_calls_X11_full : GoodIn wsX11_calls (wsV RX11 180 RX11 yX11_full wsX11_full) := goodIn_app (goodIn_of _ (by decide +kernel)) ggX11_calls_X11_full
