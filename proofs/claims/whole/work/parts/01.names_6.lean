theorem dX11_help_45 : decode cX11_help 45 = .ok (.sipush (-1000), 3) := by decide +kernel
theorem dX11_help_48 : decode cX11_help 48 = .ok (.ireturn, 1) := by decide +kernel
theorem dX11_help_49 : decode cX11_help 49 = .ok (.iload_n 3, 1) := by decide +kernel
theorem dX11_help_50 : decode cX11_help 50 = .ok (.iload 5, 2) := by decide +kernel
theorem dX11_help_52 : decode cX11_help 52 = .ok (.invokestatic 117, 3) := by decide +kernel
theorem dX11_help_55 : decode cX11_help 55 = .ok (.iload 4, 2) := by decide +kernel
theorem dX11_help_57 : decode cX11_help 57 = .ok (.iload 6, 2) := by decide +kernel
theorem dX11_help_59 : decode cX11_help 59 = .ok (.invokestatic 117, 3) := by decide +kernel
theorem dX11_help_62 : decode cX11_help 62 = .ok (.iadd, 1) := by decide +kernel
theorem dX11_help_63 : decode cX11_help 63 = .ok (.iload_n 3, 1) := by decide +kernel
theorem dX11_help_64 : decode cX11_help 64 = .ok (.iconst 1, 1) := by decide +kernel
theorem dX11_help_65 : decode cX11_help 65 = .ok (.isub, 1) := by decide +kernel
theorem dX11_help_66 : decode cX11_help 66 = .ok (.iload 5, 2) := by decide +kernel
theorem dX11_help_68 : decode cX11_help 68 = .ok (.invokestatic 117, 3) := by decide +kernel
theorem dX11_help_71 : decode cX11_help 71 = .ok (.isub, 1) := by decide +kernel
theorem dX11_help_72 : decode cX11_help 72 = .ok (.iload 4, 2) := by decide +kernel
theorem dX11_help_74 : decode cX11_help 74 = .ok (.iconst 1, 1) := by decide +kernel
theorem dX11_help_75 : decode cX11_help 75 = .ok (.iadd, 1) := by decide +kernel
theorem dX11_help_76 : decode cX11_help 76 = .ok (.iload 6, 2) := by decide +kernel
theorem dX11_help_78 : decode cX11_help 78 = .ok (.invokestatic 117, 3) := by decide +kernel
theorem dX11_help_81 : decode cX11_help 81 = .ok (.isub, 1) := by decide +kernel
theorem dX11_help_82 : decode cX11_help 82 = .ok (.ireturn, 1) := by decide +kernel
set_option maxRecDepth 20000 in
theorem ggX11_move_X11_in : GoodIn wsX11_move wsX11_in := goodIn_r _ [5] (by decide +kernel) (by decide +kernel)
set_option maxRecDepth 20000 in
theorem gX11_move_X11_in : GoodIn wsX11_move (va_wsS RX11 53 yX11_in wsX11_in) := goodIn_app (goodIn_of _ (by decide +kernel)) ggX11_move_X11_in
set_option maxRecDepth 20000 in
theorem ggX11_move_X11_help : GoodIn wsX11_move wsX11_help := goodIn_r _ [9, 10, 11, 12, 4, 13, 14, 15, 16, 17, 1, 18, 19, 20, 21, 22, 23, 24, 25, 26, 27, 28, 29, 30, 31, 36, 37, 38, 39, 40, 41, 42, 43, 44, 45, 46, 47, 48, 49] (by decide +kernel) (by decide +kernel)
set_option maxRecDepth 20000 in
theorem gX11_move_X11_help : GoodIn wsX11_move (wsV RX11 144 RX11 yX11_help wsX11_help) := goodIn_app (goodIn_of _ (by decide +kernel)) ggX11_move_X11_help
set_option maxRecDepth 20000 in
theorem ggX11_move_X11_way : GoodIn wsX11_move wsX11_way := goodIn_r _ [35, 25, 26, 27, 4, 28, 1, 36, 37, 38, 39, 40, 41, 42, 43, 44, 45, 46, 47, 48, 49] (by decide +kernel) (by decide +kernel)
set_option maxRecDepth 20000 in
theorem gX11_move_X11_way : GoodIn wsX11_move (wsV RX11 108 RX11 yX11_way wsX11_way) := goodIn_app (goodIn_of _ (by decide +kernel)) ggX11_move_X11_way
theorem dX11_move_0 : decode cX11_move 0 = .ok (.iload_n 1, 1) := by decide +kernel
theorem dX11_move_1 : decode cX11_move 1 = .ok (.iconst 0, 1) := by decide +kernel
theorem dX11_move_2 : decode cX11_move 2 = .ok (.iconst 2, 1) := by decide +kernel
theorem dX11_move_3 : decode cX11_move 3 = .ok (.invokestatic 53, 3) := by decide +kernel
theorem dX11_move_6 : decode cX11_move 6 = .ok (.ifCond .ne 5, 3) := by decide +kernel
theorem dX11_move_9 : decode cX11_move 9 = .ok (.iconst (-1), 1) := by decide +kernel
theorem dX11_move_10 : decode cX11_move 10 = .ok (.ireturn, 1) := by decide +kernel
theorem dX11_move_11 : decode cX11_move 11 = .ok (.bipush (-4), 2) := by decide +kernel
theorem dX11_move_13 : decode cX11_move 13 = .ok (.istore_n 2, 1) := by decide +kernel
theorem dX11_move_14 : decode cX11_move 14 = .ok (.bipush (-4), 2) := by decide +kernel
theorem dX11_move_16 : decode cX11_move 16 = .ok (.istore_n 3, 1) := by decide +kernel
theorem dX11_move_17 : decode cX11_move 17 = .ok (.iconst 0, 1) := by decide +kernel
theorem dX11_move_18 : decode cX11_move 18 = .ok (.istore 4, 2) := by decide +kernel
theorem dX11_move_20 : decode cX11_move 20 = .ok (.iconst 0, 1) := by decide +kernel
theorem dX11_move_21 : decode cX11_move 21 = .ok (.istore 5, 2) := by decide +kernel
theorem dX11_move_23 : decode cX11_move 23 = .ok (.iconst 0, 1) := by decide +kernel
theorem dX11_move_24 : decode cX11_move 24 = .ok (.istore 6, 2) := by decide +kernel
theorem dX11_move_26 : decode cX11_move 26 = .ok (.iload 6, 2) := by decide +kernel
theorem dX11_move_28 : decode cX11_move 28 = .ok (.aload_n 0, 1) := by decide +kernel
theorem dX11_move_29 : decode cX11_move 29 = .ok (.getfield 7, 3) := by decide +kernel
theorem dX11_move_32 : decode cX11_move 32 = .ok (.iconst 0, 1) := by decide +kernel
theorem dX11_move_33 : decode cX11_move 33 = .ok (.iaload, 1) := by decide +kernel
theorem dX11_move_34 : decode cX11_move 34 = .ok (.if_icmp .ge 89, 3) := by decide +kernel
theorem dX11_move_37 : decode cX11_move 37 = .ok (.iconst 0, 1) := by decide +kernel
theorem dX11_move_38 : decode cX11_move 38 = .ok (.istore 7, 2) := by decide +kernel
theorem dX11_move_40 : decode cX11_move 40 = .ok (.iload 7, 2) := by decide +kernel
theorem dX11_move_42 : decode cX11_move 42 = .ok (.aload_n 0, 1) := by decide +kernel
theorem dX11_move_43 : decode cX11_move 43 = .ok (.getfield 7, 3) := by decide +kernel
theorem dX11_move_46 : decode cX11_move 46 = .ok (.iconst 0, 1) := by decide +kernel
theorem dX11_move_47 : decode cX11_move 47 = .ok (.iaload, 1) := by decide +kernel
theorem dX11_move_48 : decode cX11_move 48 = .ok (.if_icmp .ge 69, 3) := by decide +kernel
theorem dX11_move_51 : decode cX11_move 51 = .ok (.aload_n 0, 1) := by decide +kernel
theorem dX11_move_52 : decode cX11_move 52 = .ok (.iload 6, 2) := by decide +kernel
theorem dX11_move_54 : decode cX11_move 54 = .ok (.iload 7, 2) := by decide +kernel
theorem dX11_move_56 : decode cX11_move 56 = .ok (.invokevirtual 144, 3) := by decide +kernel
theorem dX11_move_59 : decode cX11_move 59 = .ok (.istore 8, 2) := by decide +kernel
theorem dX11_move_61 : decode cX11_move 61 = .ok (.aload_n 0, 1) := by decide +kernel
theorem dX11_move_62 : decode cX11_move 62 = .ok (.iload 6, 2) := by decide +kernel
theorem dX11_move_64 : decode cX11_move 64 = .ok (.iload 7, 2) := by decide +kernel
theorem dX11_move_66 : decode cX11_move 66 = .ok (.invokevirtual 108, 3) := by decide +kernel
theorem dX11_move_69 : decode cX11_move 69 = .ok (.istore 9, 2) := by decide +kernel
theorem dX11_move_71 : decode cX11_move 71 = .ok (.iload 8, 2) := by decide +kernel
theorem dX11_move_73 : decode cX11_move 73 = .ok (.iload 4, 2) := by decide +kernel
theorem dX11_move_75 : decode cX11_move 75 = .ok (.if_icmp .gt 22, 3) := by decide +kernel
theorem dX11_move_78 : decode cX11_move 78 = .ok (.iload 8, 2) := by decide +kernel
theorem dX11_move_80 : decode cX11_move 80 = .ok (.iload 4, 2) := by decide +kernel
theorem dX11_move_82 : decode cX11_move 82 = .ok (.if_icmp .ne 29, 3) := by decide +kernel
theorem dX11_move_85 : decode cX11_move 85 = .ok (.iload 4, 2) := by decide +kernel
theorem dX11_move_87 : decode cX11_move 87 = .ok (.ifCond .le 24, 3) := by decide +kernel
theorem dX11_move_90 : decode cX11_move 90 = .ok (.iload 9, 2) := by decide +kernel
theorem dX11_move_92 : decode cX11_move 92 = .ok (.iload 5, 2) := by decide +kernel
theorem dX11_move_94 : decode cX11_move 94 = .ok (.if_icmp .ge 17, 3) := by decide +kernel
theorem dX11_move_97 : decode cX11_move 97 = .ok (.iload 6, 2) := by decide +kernel
theorem dX11_move_99 : decode cX11_move 99 = .ok (.istore_n 2, 1) := by decide +kernel
theorem dX11_move_100 : decode cX11_move 100 = .ok (.iload 7, 2) := by decide +kernel
theorem dX11_move_102 : decode cX11_move 102 = .ok (.istore_n 3, 1) := by decide +kernel
theorem dX11_move_103 : decode cX11_move 103 = .ok (.iload 8, 2) := by decide +kernel
theorem dX11_move_105 : decode cX11_move 105 = .ok (.istore 4, 2) := by decide +kernel
theorem dX11_move_107 : decode cX11_move 107 = .ok (.iload 9, 2) := by decide +kernel
theorem dX11_move_109 : decode cX11_move 109 = .ok (.istore 5, 2) := by decide +kernel
theorem dX11_move_111 : decode cX11_move 111 = .ok (.iinc 7 1, 3) := by decide +kernel
theorem dX11_move_114 : decode cX11_move 114 = .ok (.goto (-74), 3) := by decide +kernel
theorem dX11_move_117 : decode cX11_move 117 = .ok (.iinc 6 1, 3) := by decide +kernel
theorem dX11_move_120 : decode cX11_move 120 = .ok (.goto (-94), 3) := by decide +kernel
theorem dX11_move_123 : decode cX11_move 123 = .ok (.iload 4, 2) := by decide +kernel
theorem dX11_move_125 : decode cX11_move 125 = .ok (.ifCond .ne 8, 3) := by decide +kernel
theorem dX11_move_128 : decode cX11_move 128 = .ok (.bipush (-4), 2) := by decide +kernel
theorem dX11_move_130 : decode cX11_move 130 = .ok (.goto 22, 3) := by decide +kernel
theorem dX11_move_133 : decode cX11_move 133 = .ok (.iload_n 1, 1) := by decide +kernel
theorem dX11_move_134 : decode cX11_move 134 = .ok (.ifCond .ne 7, 3) := by decide +kernel
theorem dX11_move_137 : decode cX11_move 137 = .ok (.iload_n 2, 1) := by decide +kernel
theorem dX11_move_138 : decode cX11_move 138 = .ok (.goto 14, 3) := by decide +kernel
theorem dX11_move_141 : decode cX11_move 141 = .ok (.iload_n 1, 1) := by decide +kernel
theorem dX11_move_142 : decode cX11_move 142 = .ok (.iconst 1, 1) := by decide +kernel
theorem dX11_move_143 : decode cX11_move 143 = .ok (.if_icmp .ne 7, 3) := by decide +kernel
theorem dX11_move_146 : decode cX11_move 146 = .ok (.iload_n 3, 1) := by decide +kernel
theorem dX11_move_147 : decode cX11_move 147 = .ok (.goto 5, 3) := by decide +kernel
theorem dX11_move_150 : decode cX11_move 150 = .ok (.iload 4, 2) := by decide +kernel
theorem dX11_move_152 : decode cX11_move 152 = .ok (.ireturn, 1) := by decide +kernel
set_option maxRecDepth 20000 in
theorem ggX11_evening_X11_ofStation : GoodIn wsX11_evening wsX11_ofStation := goodIn_r _ [6, 1, 34, 35, 36, 37, 38, 39, 40, 41, 42, 43, 44, 45, 46, 47] (by decide +kernel) (by decide +kernel)
set_option maxRecDepth 20000 in
theorem gX11_evening_X11_ofStation : GoodIn wsX11_evening (wsV RX11 50 RX11 yX11_ofStation wsX11_ofStation) := goodIn_app (goodIn_of _ (by decide +kernel)) ggX11_evening_X11_ofStation
set_option maxRecDepth 20000 in
theorem ggX11_evening_X11_docked : GoodIn wsX11_evening wsX11_docked := goodIn_r _ [10, 11, 12, 13, 5, 14, 1, 15, 16, 17, 18, 19, 20, 21, 34, 35, 36, 37, 38, 39, 40, 41, 42, 43, 44, 45, 46, 47] (by decide +kernel) (by decide +kernel)
set_option maxRecDepth 20000 in
theorem gX11_evening_X11_docked : GoodIn wsX11_evening (wsV RX11 47 RX11 yX11_docked wsX11_docked) := goodIn_app (goodIn_of _ (by decide +kernel)) ggX11_evening_X11_docked
set_option maxRecDepth 20000 in
theorem ggX11_evening_X11_aim : GoodIn wsX11_evening wsX11_aim := goodIn_r _ [25, 1, 26, 27, 28, 5, 29, 15, 16, 17, 18, 30, 31, 32, 33, 2, 3, 4, 6, 34, 35, 36, 37, 38, 39, 40, 41, 42, 43, 44, 45, 46, 47] (by decide +kernel) (by decide +kernel)
set_option maxRecDepth 20000 in
theorem gX11_evening_X11_aim : GoodIn wsX11_evening (wsV RX11 129 RX11 yX11_aim wsX11_aim) := goodIn_app (goodIn_of _ (by decide +kernel)) ggX11_evening_X11_aim
theorem dX11_evening_0 : decode cX11_evening 0 = .ok (.aload_n 0, 1) := by decide +kernel
theorem dX11_evening_1 : decode cX11_evening 1 = .ok (.getfield 7, 3) := by decide +kernel
theorem dX11_evening_4 : decode cX11_evening 4 = .ok (.iconst 0, 1) := by decide +kernel
theorem dX11_evening_5 : decode cX11_evening 5 = .ok (.iaload, 1) := by decide +kernel
theorem dX11_evening_6 : decode cX11_evening 6 = .ok (.ifCond .ne 6, 3) := by decide +kernel
theorem dX11_evening_9 : decode cX11_evening 9 = .ok (.bipush (-4), 2) := by decide +kernel
theorem dX11_evening_11 : decode cX11_evening 11 = .ok (.ireturn, 1) := by decide +kernel
theorem dX11_evening_12 : decode cX11_evening 12 = .ok (.iconst 0, 1) := by decide +kernel
theorem dX11_evening_13 : decode cX11_evening 13 = .ok (.istore_n 1, 1) := by decide +kernel
theorem dX11_evening_14 : decode cX11_evening 14 = .ok (.iconst 0, 1) := by decide +kernel
theorem dX11_evening_15 : decode cX11_evening 15 = .ok (.istore_n 2, 1) := by decide +kernel
theorem dX11_evening_16 : decode cX11_evening 16 = .ok (.iload_n 2, 1) := by decide +kernel
theorem dX11_evening_17 : decode cX11_evening 17 = .ok (.bipush 99, 2) := by decide +kernel
theorem dX11_evening_19 : decode cX11_evening 19 = .ok (.if_icmp .ge 75, 3) := by decide +kernel
theorem dX11_evening_22 : decode cX11_evening 22 = .ok (.iconst 0, 1) := by decide +kernel
theorem dX11_evening_23 : decode cX11_evening 23 = .ok (.istore_n 3, 1) := by decide +kernel
theorem dX11_evening_24 : decode cX11_evening 24 = .ok (.iconst 0, 1) := by decide +kernel
theorem dX11_evening_25 : decode cX11_evening 25 = .ok (.istore 4, 2) := by decide +kernel
theorem dX11_evening_27 : decode cX11_evening 27 = .ok (.iload 4, 2) := by decide +kernel
theorem dX11_evening_29 : decode cX11_evening 29 = .ok (.aload_n 0, 1) := by decide +kernel
theorem dX11_evening_30 : decode cX11_evening 30 = .ok (.getfield 7, 3) := by decide +kernel
theorem dX11_evening_33 : decode cX11_evening 33 = .ok (.iconst 0, 1) := by decide +kernel
theorem dX11_evening_34 : decode cX11_evening 34 = .ok (.iaload, 1) := by decide +kernel
theorem dX11_evening_35 : decode cX11_evening 35 = .ok (.if_icmp .ge 40, 3) := by decide +kernel
theorem dX11_evening_38 : decode cX11_evening 38 = .ok (.iload_n 3, 1) := by decide +kernel
theorem dX11_evening_39 : decode cX11_evening 39 = .ok (.aload_n 0, 1) := by decide +kernel
theorem dX11_evening_40 : decode cX11_evening 40 = .ok (.iload 4, 2) := by decide +kernel
theorem dX11_evening_42 : decode cX11_evening 42 = .ok (.iconst 0, 1) := by decide +kernel
theorem dX11_evening_43 : decode cX11_evening 43 = .ok (.invokevirtual 50, 3) := by decide +kernel
theorem dX11_evening_46 : decode cX11_evening 46 = .ok (.iload_n 2, 1) := by decide +kernel
theorem dX11_evening_47 : decode cX11_evening 47 = .ok (.if_icmp .gt 19, 3) := by decide +kernel
theorem dX11_evening_50 : decode cX11_evening 50 = .ok (.aload_n 0, 1) := by decide +kernel
theorem dX11_evening_51 : decode cX11_evening 51 = .ok (.iload 4, 2) := by decide +kernel
theorem dX11_evening_53 : decode cX11_evening 53 = .ok (.invokevirtual 47, 3) := by decide +kernel
theorem dX11_evening_56 : decode cX11_evening 56 = .ok (.aload_n 0, 1) := by decide +kernel
theorem dX11_evening_57 : decode cX11_evening 57 = .ok (.iload 4, 2) := by decide +kernel
theorem dX11_evening_59 : decode cX11_evening 59 = .ok (.invokevirtual 129, 3) := by decide +kernel
theorem dX11_evening_62 : decode cX11_evening 62 = .ok (.isub, 1) := by decide +kernel
theorem dX11_evening_63 : decode cX11_evening 63 = .ok (.goto 4, 3) := by decide +kernel
theorem dX11_evening_66 : decode cX11_evening 66 = .ok (.iconst 0, 1) := by decide +kernel
theorem dX11_evening_67 : decode cX11_evening 67 = .ok (.iadd, 1) := by decide +kernel
theorem dX11_evening_68 : decode cX11_evening 68 = .ok (.istore_n 3, 1) := by decide +kernel
theorem dX11_evening_69 : decode cX11_evening 69 = .ok (.iinc 4 1, 3) := by decide +kernel
theorem dX11_evening_72 : decode cX11_evening 72 = .ok (.goto (-45), 3) := by decide +kernel
theorem dX11_evening_75 : decode cX11_evening 75 = .ok (.iload_n 1, 1) := by decide +kernel
theorem dX11_evening_76 : decode cX11_evening 76 = .ok (.iload_n 3, 1) := by decide +kernel
theorem dX11_evening_77 : decode cX11_evening 77 = .ok (.ifCond .ge 8, 3) := by decide +kernel
theorem dX11_evening_80 : decode cX11_evening 80 = .ok (.iload_n 3, 1) := by decide +kernel
theorem dX11_evening_81 : decode cX11_evening 81 = .ok (.ineg, 1) := by decide +kernel
theorem dX11_evening_82 : decode cX11_evening 82 = .ok (.goto 4, 3) := by decide +kernel
theorem dX11_evening_85 : decode cX11_evening 85 = .ok (.iload_n 3, 1) := by decide +kernel
theorem dX11_evening_86 : decode cX11_evening 86 = .ok (.iadd, 1) := by decide +kernel
theorem dX11_evening_87 : decode cX11_evening 87 = .ok (.istore_n 1, 1) := by decide +kernel
theorem dX11_evening_88 : decode cX11_evening 88 = .ok (.iinc 2 1, 3) := by decide +kernel
theorem dX11_evening_91 : decode cX11_evening 91 = .ok (.goto (-75), 3) := by decide +kernel
theorem dX11_evening_94 : decode cX11_evening 94 = .ok (.iload_n 1, 1) := by decide +kernel
theorem dX11_evening_95 : decode cX11_evening 95 = .ok (.ireturn, 1) := by decide +kernel
set_option maxRecDepth 20000 in
theorem ggX11_keep_X11_copies : GoodIn wsX11_keep wsX11_copies := goodIn_r _ [7] (by decide +kernel) (by decide +kernel)
set_option maxRecDepth 20000 in
theorem gX11_keep_X11_copies : GoodIn wsX11_keep (va_wsS RX11 147 yX11_copies wsX11_copies) := goodIn_app (goodIn_of _ (by decide +kernel)) ggX11_keep_X11_copies
theorem dX11_keep_0 : decode cX11_keep 0 = .ok (.aload_n 0, 1) := by decide +kernel
theorem dX11_keep_1 : decode cX11_keep 1 = .ok (.getfield 7, 3) := by decide +kernel
theorem dX11_keep_4 : decode cX11_keep 4 = .ok (.aload_n 0, 1) := by decide +kernel
theorem dX11_keep_5 : decode cX11_keep 5 = .ok (.getfield 19, 3) := by decide +kernel
theorem dX11_keep_8 : decode cX11_keep 8 = .ok (.invokestatic 147, 3) := by decide +kernel
theorem dX11_keep_11 : decode cX11_keep 11 = .ok (.aload_n 0, 1) := by decide +kernel
theorem dX11_keep_12 : decode cX11_keep 12 = .ok (.iconst 1, 1) := by decide +kernel
theorem dX11_keep_13 : decode cX11_keep 13 = .ok (.putfield 141, 3) := by decide +kernel
theorem dX11_keep_16 : decode cX11_keep 16 = .ok (.aload_n 0, 1) := by decide +kernel
theorem dX11_keep_17 : decode cX11_keep 17 = .ok (.getfield 7, 3) := by decide +kernel
theorem dX11_keep_20 : decode cX11_keep 20 = .ok (.iconst 4, 1) := by decide +kernel
theorem dX11_keep_21 : decode cX11_keep 21 = .ok (.iaload, 1) := by decide +kernel
theorem dX11_keep_22 : decode cX11_keep 22 = .ok (.ireturn, 1) := by decide +kernel
set_option maxRecDepth 20000 in
theorem ggX11_restore_X11_changes : GoodIn wsX11_restore wsX11_changes := goodIn_r _ [8, 9, 10, 11, 3, 15, 16, 17, 18, 19, 20, 21, 22, 23, 24, 25, 26, 27, 28] (by decide +kernel) (by decide +kernel)
set_option maxRecDepth 20000 in
theorem gX11_restore_X11_changes : GoodIn wsX11_restore (wsV RX11 57 RX11 yX11_changes wsX11_changes) := goodIn_app (goodIn_of _ (by decide +kernel)) ggX11_restore_X11_changes
set_option maxRecDepth 20000 in
theorem ggX11_restore_X11_copies : GoodIn wsX11_restore wsX11_copies := goodIn_r _ [14] (by decide +kernel) (by decide +kernel)
set_option maxRecDepth 20000 in
theorem gX11_restore_X11_copies : GoodIn wsX11_restore (va_wsS RX11 147 yX11_copies wsX11_copies) := goodIn_app (goodIn_of _ (by decide +kernel)) ggX11_restore_X11_copies
theorem dX11_restore_0 : decode cX11_restore 0 = .ok (.aload_n 0, 1) := by decide +kernel
theorem dX11_restore_1 : decode cX11_restore 1 = .ok (.getfield 141, 3) := by decide +kernel
theorem dX11_restore_4 : decode cX11_restore 4 = .ok (.ifCond .ne 6, 3) := by decide +kernel
theorem dX11_restore_7 : decode cX11_restore 7 = .ok (.bipush (-2), 2) := by decide +kernel
theorem dX11_restore_9 : decode cX11_restore 9 = .ok (.ireturn, 1) := by decide +kernel
theorem dX11_restore_10 : decode cX11_restore 10 = .ok (.aload_n 0, 1) := by decide +kernel
theorem dX11_restore_11 : decode cX11_restore 11 = .ok (.invokevirtual 57, 3) := by decide +kernel
theorem dX11_restore_14 : decode cX11_restore 14 = .ok (.aload_n 0, 1) := by decide +kernel
theorem dX11_restore_15 : decode cX11_restore 15 = .ok (.getfield 19, 3) := by decide +kernel
theorem dX11_restore_18 : decode cX11_restore 18 = .ok (.aload_n 0, 1) := by decide +kernel
theorem dX11_restore_19 : decode cX11_restore 19 = .ok (.getfield 7, 3) := by decide +kernel
theorem dX11_restore_22 : decode cX11_restore 22 = .ok (.invokestatic 147, 3) := by decide +kernel
theorem dX11_restore_25 : decode cX11_restore 25 = .ok (.aload_n 0, 1) := by decide +kernel
theorem dX11_restore_26 : decode cX11_restore 26 = .ok (.getfield 7, 3) := by decide +kernel
theorem dX11_restore_29 : decode cX11_restore 29 = .ok (.iconst 4, 1) := by decide +kernel
theorem dX11_restore_30 : decode cX11_restore 30 = .ok (.iaload, 1) := by decide +kernel
theorem dX11_restore_31 : decode cX11_restore 31 = .ok (.ireturn, 1) := by decide +kernel
theorem dX11_undo_0 : decode cX11_undo 0 = .ok (.aload_n 0, 1) := by decide +kernel
theorem dX11_undo_1 : decode cX11_undo 1 = .ok (.getfield 32, 3) := by decide +kernel
theorem dX11_undo_4 : decode cX11_undo 4 = .ok (.ifCond .ne 6, 3) := by decide +kernel
theorem dX11_undo_7 : decode cX11_undo 7 = .ok (.bipush (-2), 2) := by decide +kernel
theorem dX11_undo_9 : decode cX11_undo 9 = .ok (.ireturn, 1) := by decide +kernel
theorem dX11_undo_10 : decode cX11_undo 10 = .ok (.aload_n 0, 1) := by decide +kernel
theorem dX11_undo_11 : decode cX11_undo 11 = .ok (.dup, 1) := by decide +kernel
theorem dX11_undo_12 : decode cX11_undo 12 = .ok (.getfield 32, 3) := by decide +kernel
theorem dX11_undo_15 : decode cX11_undo 15 = .ok (.iconst 1, 1) := by decide +kernel
theorem dX11_undo_16 : decode cX11_undo 16 = .ok (.isub, 1) := by decide +kernel
theorem dX11_undo_17 : decode cX11_undo 17 = .ok (.putfield 32, 3) := by decide +kernel
theorem dX11_undo_20 : decode cX11_undo 20 = .ok (.iconst 0, 1) := by decide +kernel
theorem dX11_undo_21 : decode cX11_undo 21 = .ok (.istore_n 1, 1) := by decide +kernel
theorem dX11_undo_22 : decode cX11_undo 22 = .ok (.iload_n 1, 1) := by decide +kernel
theorem dX11_undo_23 : decode cX11_undo 23 = .ok (.sipush 206, 3) := by decide +kernel
theorem dX11_undo_26 : decode cX11_undo 26 = .ok (.if_icmp .ge 30, 3) := by decide +kernel
theorem dX11_undo_29 : decode cX11_undo 29 = .ok (.aload_n 0, 1) := by decide +kernel
theorem dX11_undo_30 : decode cX11_undo 30 = .ok (.getfield 7, 3) := by decide +kernel
theorem dX11_undo_33 : decode cX11_undo 33 = .ok (.iload_n 1, 1) := by decide +kernel
theorem dX11_undo_34 : decode cX11_undo 34 = .ok (.aload_n 0, 1) := by decide +kernel
theorem dX11_undo_35 : decode cX11_undo 35 = .ok (.getfield 13, 3) := by decide +kernel
theorem dX11_undo_38 : decode cX11_undo 38 = .ok (.sipush 206, 3) := by decide +kernel
theorem dX11_undo_41 : decode cX11_undo 41 = .ok (.aload_n 0, 1) := by decide +kernel
theorem dX11_undo_42 : decode cX11_undo 42 = .ok (.getfield 32, 3) := by decide +kernel
theorem dX11_undo_45 : decode cX11_undo 45 = .ok (.imul, 1) := by decide +kernel
theorem dX11_undo_46 : decode cX11_undo 46 = .ok (.iload_n 1, 1) := by decide +kernel
theorem dX11_undo_47 : decode cX11_undo 47 = .ok (.iadd, 1) := by decide +kernel
theorem dX11_undo_48 : decode cX11_undo 48 = .ok (.iaload, 1) := by decide +kernel
theorem dX11_undo_49 : decode cX11_undo 49 = .ok (.iastore, 1) := by decide +kernel
theorem dX11_undo_50 : decode cX11_undo 50 = .ok (.iinc 1 1, 3) := by decide +kernel
theorem dX11_undo_53 : decode cX11_undo 53 = .ok (.goto (-31), 3) := by decide +kernel
theorem dX11_undo_56 : decode cX11_undo 56 = .ok (.aload_n 0, 1) := by decide +kernel
theorem dX11_undo_57 : decode cX11_undo 57 = .ok (.getfield 32, 3) := by decide +kernel
theorem dX11_undo_60 : decode cX11_undo 60 = .ok (.ireturn, 1) := by decide +kernel
set_option maxRecDepth 20000 in
theorem ggX11_type_X11_in : GoodIn wsX11_type wsX11_in := goodIn_r _ [6] (by decide +kernel) (by decide +kernel)
set_option maxRecDepth 20000 in
theorem gX11_type_X11_in : GoodIn wsX11_type (va_wsS RX11 53 yX11_in wsX11_in) := goodIn_app (goodIn_of _ (by decide +kernel)) ggX11_type_X11_in
theorem dX11_type_0 : decode cX11_type 0 = .ok (.iload_n 1, 1) := by decide +kernel
theorem dX11_type_1 : decode cX11_type 1 = .ok (.bipush 32, 2) := by decide +kernel
theorem dX11_type_3 : decode cX11_type 3 = .ok (.bipush 126, 2) := by decide +kernel
theorem dX11_type_5 : decode cX11_type 5 = .ok (.invokestatic 53, 3) := by decide +kernel
theorem dX11_type_8 : decode cX11_type 8 = .ok (.ifCond .ne 5, 3) := by decide +kernel
theorem dX11_type_11 : decode cX11_type 11 = .ok (.iconst (-1), 1) := by decide +kernel
theorem dX11_type_12 : decode cX11_type 12 = .ok (.ireturn, 1) := by decide +kernel
theorem dX11_type_13 : decode cX11_type 13 = .ok (.aload_n 0, 1) := by decide +kernel
theorem dX11_type_14 : decode cX11_type 14 = .ok (.getfield 138, 3) := by decide +kernel
theorem dX11_type_17 : decode cX11_type 17 = .ok (.bipush 60, 2) := by decide +kernel
theorem dX11_type_19 : decode cX11_type 19 = .ok (.if_icmp .ne 6, 3) := by decide +kernel
theorem dX11_type_22 : decode cX11_type 22 = .ok (.bipush (-3), 2) := by decide +kernel
theorem dX11_type_24 : decode cX11_type 24 = .ok (.ireturn, 1) := by decide +kernel
theorem dX11_type_25 : decode cX11_type 25 = .ok (.aload_n 0, 1) := by decide +kernel
theorem dX11_type_26 : decode cX11_type 26 = .ok (.getfield 22, 3) := by decide +kernel
theorem dX11_type_29 : decode cX11_type 29 = .ok (.aload_n 0, 1) := by decide +kernel
theorem dX11_type_30 : decode cX11_type 30 = .ok (.getfield 138, 3) := by decide +kernel
theorem dX11_type_33 : decode cX11_type 33 = .ok (.iload_n 1, 1) := by decide +kernel
theorem dX11_type_34 : decode cX11_type 34 = .ok (.iastore, 1) := by decide +kernel
theorem dX11_type_35 : decode cX11_type 35 = .ok (.aload_n 0, 1) := by decide +kernel
theorem dX11_type_36 : decode cX11_type 36 = .ok (.dup, 1) := by decide +kernel
theorem dX11_type_37 : decode cX11_type 37 = .ok (.getfield 138, 3) := by decide +kernel
theorem dX11_type_40 : decode cX11_type 40 = .ok (.iconst 1, 1) := by decide +kernel
theorem dX11_type_41 : decode cX11_type 41 = .ok (.iadd, 1) := by decide +kernel
theorem dX11_type_42 : decode cX11_type 42 = .ok (.putfield 138, 3) := by decide +kernel
theorem dX11_type_45 : decode cX11_type 45 = .ok (.aload_n 0, 1) := by decide +kernel
theorem dX11_type_46 : decode cX11_type 46 = .ok (.getfield 138, 3) := by decide +kernel
theorem dX11_type_49 : decode cX11_type 49 = .ok (.ireturn, 1) := by decide +kernel
theorem dX11_clearText_0 : decode cX11_clearText 0 = .ok (.aload_n 0, 1) := by decide +kernel
theorem dX11_clearText_1 : decode cX11_clearText 1 = .ok (.getfield 138, 3) := by decide +kernel
theorem dX11_clearText_4 : decode cX11_clearText 4 = .ok (.istore_n 1, 1) := by decide +kernel
theorem dX11_clearText_5 : decode cX11_clearText 5 = .ok (.aload_n 0, 1) := by decide +kernel
theorem dX11_clearText_6 : decode cX11_clearText 6 = .ok (.iconst 0, 1) := by decide +kernel
theorem dX11_clearText_7 : decode cX11_clearText 7 = .ok (.putfield 138, 3) := by decide +kernel
theorem dX11_clearText_10 : decode cX11_clearText 10 = .ok (.iload_n 1, 1) := by decide +kernel
theorem dX11_clearText_11 : decode cX11_clearText 11 = .ok (.ireturn, 1) := by decide +kernel
set_option maxRecDepth 20000 in
theorem ggX11_isAt__X11_in : GoodIn wsX11_isAt_ wsX11_in := goodIn_r _ [7] (by decide +kernel) (by decide +kernel)
set_option maxRecDepth 20000 in
theorem gX11_isAt__X11_in : GoodIn wsX11_isAt_ (va_wsS RX11 53 yX11_in wsX11_in) := goodIn_app (goodIn_of _ (by decide +kernel)) ggX11_isAt__X11_in
theorem dX11_isAt__0 : decode cX11_isAt_ 0 = .ok (.aload_n 0, 1) := by decide +kernel
theorem dX11_isAt__1 : decode cX11_isAt_ 1 = .ok (.getfield 151, 3) := by decide +kernel
theorem dX11_isAt__4 : decode cX11_isAt_ 4 = .ok (.aload_n 0, 1) := by decide +kernel
theorem dX11_isAt__5 : decode cX11_isAt_ 5 = .ok (.getfield 138, 3) := by decide +kernel
theorem dX11_isAt__8 : decode cX11_isAt_ 8 = .ok (.if_icmp .ge 24, 3) := by decide +kernel
theorem dX11_isAt__11 : decode cX11_isAt_ 11 = .ok (.aload_n 0, 1) := by decide +kernel
theorem dX11_isAt__12 : decode cX11_isAt_ 12 = .ok (.getfield 22, 3) := by decide +kernel
theorem dX11_isAt__15 : decode cX11_isAt_ 15 = .ok (.aload_n 0, 1) := by decide +kernel
theorem dX11_isAt__16 : decode cX11_isAt_ 16 = .ok (.getfield 151, 3) := by decide +kernel
theorem dX11_isAt__19 : decode cX11_isAt_ 19 = .ok (.iaload, 1) := by decide +kernel
theorem dX11_isAt__20 : decode cX11_isAt_ 20 = .ok (.iload_n 1, 1) := by decide +kernel
theorem dX11_isAt__21 : decode cX11_isAt_ 21 = .ok (.iload_n 2, 1) := by decide +kernel
theorem dX11_isAt__22 : decode cX11_isAt_ 22 = .ok (.invokestatic 53, 3) := by decide +kernel
theorem dX11_isAt__25 : decode cX11_isAt_ 25 = .ok (.ifCond .eq 7, 3) := by decide +kernel
theorem dX11_isAt__28 : decode cX11_isAt_ 28 = .ok (.iconst 1, 1) := by decide +kernel
theorem dX11_isAt__29 : decode cX11_isAt_ 29 = .ok (.goto 4, 3) := by decide +kernel
theorem dX11_isAt__32 : decode cX11_isAt_ 32 = .ok (.iconst 0, 1) := by decide +kernel
theorem dX11_isAt__33 : decode cX11_isAt_ 33 = .ok (.ireturn, 1) := by decide +kernel
set_option maxRecDepth 20000 in
theorem ggX11_passes_X11_isAt_ : GoodIn wsX11_passes wsX11_isAt_ := goodIn_r _ [6, 1, 7, 8, 9, 10, 5, 11, 12, 13, 14, 15, 16, 17, 18, 19, 20, 21, 22, 23, 24, 25] (by decide +kernel) (by decide +kernel)
set_option maxRecDepth 20000 in
theorem gX11_passes_X11_isAt_ : GoodIn wsX11_passes (wsV RX11 154 RX11 yX11_isAt_ wsX11_isAt_) := goodIn_app (goodIn_of _ (by decide +kernel)) ggX11_passes_X11_isAt_
theorem dX11_passes_0 : decode cX11_passes 0 = .ok (.aload_n 0, 1) := by decide +kernel
theorem dX11_passes_1 : decode cX11_passes 1 = .ok (.iload_n 1, 1) := by decide +kernel
theorem dX11_passes_2 : decode cX11_passes 2 = .ok (.iload_n 1, 1) := by decide +kernel
theorem dX11_passes_3 : decode cX11_passes 3 = .ok (.invokevirtual 154, 3) := by decide +kernel
theorem dX11_passes_6 : decode cX11_passes 6 = .ok (.istore_n 2, 1) := by decide +kernel
theorem dX11_passes_7 : decode cX11_passes 7 = .ok (.aload_n 0, 1) := by decide +kernel
theorem dX11_passes_8 : decode cX11_passes 8 = .ok (.dup, 1) := by decide +kernel
theorem dX11_passes_9 : decode cX11_passes 9 = .ok (.getfield 151, 3) := by decide +kernel
theorem dX11_passes_12 : decode cX11_passes 12 = .ok (.iload_n 2, 1) := by decide +kernel
theorem dX11_passes_13 : decode cX11_passes 13 = .ok (.ifCond .eq 7, 3) := by decide +kernel
theorem dX11_passes_16 : decode cX11_passes 16 = .ok (.iconst 1, 1) := by decide +kernel
theorem dX11_passes_17 : decode cX11_passes 17 = .ok (.goto 4, 3) := by decide +kernel
theorem dX11_passes_20 : decode cX11_passes 20 = .ok (.iconst 0, 1) := by decide +kernel
theorem dX11_passes_21 : decode cX11_passes 21 = .ok (.iadd, 1) := by decide +kernel
theorem dX11_passes_22 : decode cX11_passes 22 = .ok (.putfield 151, 3) := by decide +kernel
theorem dX11_passes_25 : decode cX11_passes 25 = .ok (.iload_n 2, 1) := by decide +kernel
theorem dX11_passes_26 : decode cX11_passes 26 = .ok (.ireturn, 1) := by decide +kernel
set_option maxRecDepth 20000 in
theorem ggX11_number_X11_passes : GoodIn wsX11_number wsX11_passes := goodIn_r _ [8, 1, 9, 10, 11, 7, 12, 13, 3, 14, 15, 16, 17, 18, 19, 20, 21, 22, 23, 24, 25, 26, 27, 28, 29, 30] (by decide +kernel) (by decide +kernel)
set_option maxRecDepth 20000 in
theorem gX11_number_X11_passes : GoodIn wsX11_number (wsV RX11 157 RX11 yX11_passes wsX11_passes) := goodIn_app (goodIn_of _ (by decide +kernel)) ggX11_number_X11_passes
set_option maxRecDepth 20000 in
theorem ggX11_number_X11_isAt_ : GoodIn wsX11_number wsX11_isAt_ := goodIn_r _ [12, 1, 13, 3, 14, 15, 7, 16, 17, 18, 19, 20, 21, 22, 23, 24, 25, 26, 27, 28, 29, 30] (by decide +kernel) (by decide +kernel)
set_option maxRecDepth 20000 in
theorem gX11_number_X11_isAt_ : GoodIn wsX11_number (wsV RX11 154 RX11 yX11_isAt_ wsX11_isAt_) := goodIn_app (goodIn_of _ (by decide +kernel)) ggX11_number_X11_isAt_
theorem dX11_number_0 : decode cX11_number 0 = .ok (.aload_n 0, 1) := by decide +kernel
theorem dX11_number_1 : decode cX11_number 1 = .ok (.bipush 32, 2) := by decide +kernel
theorem dX11_number_3 : decode cX11_number 3 = .ok (.invokevirtual 157, 3) := by decide +kernel
theorem dX11_number_6 : decode cX11_number 6 = .ok (.ifCond .ne 5, 3) := by decide +kernel
theorem dX11_number_9 : decode cX11_number 9 = .ok (.iconst 0, 1) := by decide +kernel
theorem dX11_number_10 : decode cX11_number 10 = .ok (.ireturn, 1) := by decide +kernel
theorem dX11_number_11 : decode cX11_number 11 = .ok (.aload_n 0, 1) := by decide +kernel
theorem dX11_number_12 : decode cX11_number 12 = .ok (.getfield 151, 3) := by decide +kernel
theorem dX11_number_15 : decode cX11_number 15 = .ok (.istore_n 2, 1) := by decide +kernel
theorem dX11_number_16 : decode cX11_number 16 = .ok (.aload_n 0, 1) := by decide +kernel
theorem dX11_number_17 : decode cX11_number 17 = .ok (.getfield 25, 3) := by decide +kernel
theorem dX11_number_20 : decode cX11_number 20 = .ok (.iload_n 1, 1) := by decide +kernel
theorem dX11_number_21 : decode cX11_number 21 = .ok (.iconst 0, 1) := by decide +kernel
theorem dX11_number_22 : decode cX11_number 22 = .ok (.iastore, 1) := by decide +kernel
theorem dX11_number_23 : decode cX11_number 23 = .ok (.aload_n 0, 1) := by decide +kernel
theorem dX11_number_24 : decode cX11_number 24 = .ok (.bipush 48, 2) := by decide +kernel
theorem dX11_number_26 : decode cX11_number 26 = .ok (.bipush 57, 2) := by decide +kernel
theorem dX11_number_28 : decode cX11_number 28 = .ok (.invokevirtual 154, 3) := by decide +kernel
theorem dX11_number_31 : decode cX11_number 31 = .ok (.ifCond .eq 54, 3) := by decide +kernel
theorem dX11_number_34 : decode cX11_number 34 = .ok (.aload_n 0, 1) := by decide +kernel
theorem dX11_number_35 : decode cX11_number 35 = .ok (.getfield 151, 3) := by decide +kernel
theorem dX11_number_38 : decode cX11_number 38 = .ok (.iload_n 2, 1) := by decide +kernel
theorem dX11_number_39 : decode cX11_number 39 = .ok (.isub, 1) := by decide +kernel
theorem dX11_number_40 : decode cX11_number 40 = .ok (.iconst 3, 1) := by decide +kernel
theorem dX11_number_41 : decode cX11_number 41 = .ok (.if_icmp .ge 44, 3) := by decide +kernel
theorem dX11_number_44 : decode cX11_number 44 = .ok (.aload_n 0, 1) := by decide +kernel
theorem dX11_number_45 : decode cX11_number 45 = .ok (.getfield 25, 3) := by decide +kernel
theorem dX11_number_48 : decode cX11_number 48 = .ok (.iload_n 1, 1) := by decide +kernel
theorem dX11_number_49 : decode cX11_number 49 = .ok (.bipush 10, 2) := by decide +kernel
theorem dX11_number_51 : decode cX11_number 51 = .ok (.aload_n 0, 1) := by decide +kernel
theorem dX11_number_52 : decode cX11_number 52 = .ok (.getfield 25, 3) := by decide +kernel
theorem dX11_number_55 : decode cX11_number 55 = .ok (.iload_n 1, 1) := by decide +kernel
theorem dX11_number_56 : decode cX11_number 56 = .ok (.iaload, 1) := by decide +kernel
theorem dX11_number_57 : decode cX11_number 57 = .ok (.imul, 1) := by decide +kernel
theorem dX11_number_58 : decode cX11_number 58 = .ok (.aload_n 0, 1) := by decide +kernel
theorem dX11_number_59 : decode cX11_number 59 = .ok (.getfield 22, 3) := by decide +kernel
theorem dX11_number_62 : decode cX11_number 62 = .ok (.aload_n 0, 1) := by decide +kernel
theorem dX11_number_63 : decode cX11_number 63 = .ok (.getfield 151, 3) := by decide +kernel
theorem dX11_number_66 : decode cX11_number 66 = .ok (.iaload, 1) := by decide +kernel
theorem dX11_number_67 : decode cX11_number 67 = .ok (.iadd, 1) := by decide +kernel
theorem dX11_number_68 : decode cX11_number 68 = .ok (.bipush 48, 2) := by decide +kernel
theorem dX11_number_70 : decode cX11_number 70 = .ok (.isub, 1) := by decide +kernel
theorem dX11_number_71 : decode cX11_number 71 = .ok (.iastore, 1) := by decide +kernel
theorem dX11_number_72 : decode cX11_number 72 = .ok (.aload_n 0, 1) := by decide +kernel
theorem dX11_number_73 : decode cX11_number 73 = .ok (.dup, 1) := by decide +kernel
theorem dX11_number_74 : decode cX11_number 74 = .ok (.getfield 151, 3) := by decide +kernel
theorem dX11_number_77 : decode cX11_number 77 = .ok (.iconst 1, 1) := by decide +kernel
theorem dX11_number_78 : decode cX11_number 78 = .ok (.iadd, 1) := by decide +kernel
theorem dX11_number_79 : decode cX11_number 79 = .ok (.putfield 151, 3) := by decide +kernel
theorem dX11_number_82 : decode cX11_number 82 = .ok (.goto (-59), 3) := by decide +kernel
theorem dX11_number_85 : decode cX11_number 85 = .ok (.aload_n 0, 1) := by decide +kernel
theorem dX11_number_86 : decode cX11_number 86 = .ok (.getfield 151, 3) := by decide +kernel
theorem dX11_number_89 : decode cX11_number 89 = .ok (.iload_n 2, 1) := by decide +kernel
theorem dX11_number_90 : decode cX11_number 90 = .ok (.if_icmp .le 7, 3) := by decide +kernel
theorem dX11_number_93 : decode cX11_number 93 = .ok (.iconst 1, 1) := by decide +kernel
theorem dX11_number_94 : decode cX11_number 94 = .ok (.goto 4, 3) := by decide +kernel
theorem dX11_number_97 : decode cX11_number 97 = .ok (.iconst 0, 1) := by decide +kernel
theorem dX11_number_98 : decode cX11_number 98 = .ok (.ireturn, 1) := by decide +kernel
set_option maxRecDepth 20000 in
theorem ggX11_parses_X11_isAt_ : GoodIn wsX11_parses wsX11_isAt_ := goodIn_r _ [16, 1, 17, 3, 18, 19, 15, 20, 30, 31, 32, 33, 34, 35, 36, 37, 38, 39, 40, 41, 42, 43] (by decide +kernel) (by decide +kernel)
set_option maxRecDepth 20000 in
theorem gX11_parses_X11_isAt_ : GoodIn wsX11_parses (wsV RX11 154 RX11 yX11_isAt_ wsX11_isAt_) := goodIn_app (goodIn_of _ (by decide +kernel)) ggX11_parses_X11_isAt_
set_option maxRecDepth 20000 in
theorem ggX11_parses_X11_number : GoodIn wsX11_parses wsX11_number := goodIn_r _ [24, 1, 25, 3, 26, 27, 28, 15, 29, 12, 13, 14, 16, 17, 18, 19, 20, 30, 31, 32, 33, 34, 35, 36, 37, 38, 39, 40, 41, 42, 43] (by decide +kernel) (by decide +kernel)
set_option maxRecDepth 20000 in
theorem gX11_parses_X11_number : GoodIn wsX11_parses (wsV RX11 171 RX11 yX11_number wsX11_number) := goodIn_app (goodIn_of _ (by decide +kernel)) ggX11_parses_X11_number
set_option maxRecDepth 20000 in
theorem ggX11_parses_X11_passes : GoodIn wsX11_parses wsX11_passes := goodIn_r _ [29, 1, 12, 13, 14, 15, 16, 17, 3, 18, 19, 20, 30, 31, 32, 33, 34, 35, 36, 37, 38, 39, 40, 41, 42, 43] (by decide +kernel) (by decide +kernel)
set_option maxRecDepth 20000 in
theorem gX11_parses_X11_passes : GoodIn wsX11_parses (wsV RX11 157 RX11 yX11_passes wsX11_passes) := goodIn_app (goodIn_of _ (by decide +kernel)) ggX11_parses_X11_passes
theorem dX11_parses_0 : decode cX11_parses 0 = .ok (.aload_n 0, 1) := by decide +kernel
theorem dX11_parses_1 : decode cX11_parses 1 = .ok (.getfield 151, 3) := by decide +kernel
theorem dX11_parses_4 : decode cX11_parses 4 = .ok (.istore_n 1, 1) := by decide +kernel
theorem dX11_parses_5 : decode cX11_parses 5 = .ok (.aload_n 0, 1) := by decide +kernel
theorem dX11_parses_6 : decode cX11_parses 6 = .ok (.iconst 0, 1) := by decide +kernel
theorem dX11_parses_7 : decode cX11_parses 7 = .ok (.putfield 160, 3) := by decide +kernel
theorem dX11_parses_10 : decode cX11_parses 10 = .ok (.aload_n 0, 1) := by decide +kernel
theorem dX11_parses_11 : decode cX11_parses 11 = .ok (.bipush 97, 2) := by decide +kernel
theorem dX11_parses_13 : decode cX11_parses 13 = .ok (.bipush 122, 2) := by decide +kernel
theorem dX11_parses_15 : decode cX11_parses 15 = .ok (.invokevirtual 154, 3) := by decide +kernel
theorem dX11_parses_18 : decode cX11_parses 18 = .ok (.ifCond .eq 50, 3) := by decide +kernel
theorem dX11_parses_21 : decode cX11_parses 21 = .ok (.aload_n 0, 1) := by decide +kernel
theorem dX11_parses_22 : decode cX11_parses 22 = .ok (.getfield 151, 3) := by decide +kernel
theorem dX11_parses_25 : decode cX11_parses 25 = .ok (.iload_n 1, 1) := by decide +kernel
theorem dX11_parses_26 : decode cX11_parses 26 = .ok (.isub, 1) := by decide +kernel
theorem dX11_parses_27 : decode cX11_parses 27 = .ok (.iconst 5, 1) := by decide +kernel
theorem dX11_parses_28 : decode cX11_parses 28 = .ok (.if_icmp .ge 40, 3) := by decide +kernel
theorem dX11_parses_31 : decode cX11_parses 31 = .ok (.aload_n 0, 1) := by decide +kernel
theorem dX11_parses_32 : decode cX11_parses 32 = .ok (.bipush 32, 2) := by decide +kernel
theorem dX11_parses_34 : decode cX11_parses 34 = .ok (.aload_n 0, 1) := by decide +kernel
theorem dX11_parses_35 : decode cX11_parses 35 = .ok (.getfield 160, 3) := by decide +kernel
theorem dX11_parses_38 : decode cX11_parses 38 = .ok (.imul, 1) := by decide +kernel
theorem dX11_parses_39 : decode cX11_parses 39 = .ok (.aload_n 0, 1) := by decide +kernel
theorem dX11_parses_40 : decode cX11_parses 40 = .ok (.getfield 22, 3) := by decide +kernel
theorem dX11_parses_43 : decode cX11_parses 43 = .ok (.aload_n 0, 1) := by decide +kernel
theorem dX11_parses_44 : decode cX11_parses 44 = .ok (.getfield 151, 3) := by decide +kernel
theorem dX11_parses_47 : decode cX11_parses 47 = .ok (.iaload, 1) := by decide +kernel
theorem dX11_parses_48 : decode cX11_parses 48 = .ok (.iadd, 1) := by decide +kernel
theorem dX11_parses_49 : decode cX11_parses 49 = .ok (.bipush 96, 2) := by decide +kernel
theorem dX11_parses_51 : decode cX11_parses 51 = .ok (.isub, 1) := by decide +kernel
theorem dX11_parses_52 : decode cX11_parses 52 = .ok (.putfield 160, 3) := by decide +kernel
theorem dX11_parses_55 : decode cX11_parses 55 = .ok (.aload_n 0, 1) := by decide +kernel
theorem dX11_parses_56 : decode cX11_parses 56 = .ok (.dup, 1) := by decide +kernel
theorem dX11_parses_57 : decode cX11_parses 57 = .ok (.getfield 151, 3) := by decide +kernel
theorem dX11_parses_60 : decode cX11_parses 60 = .ok (.iconst 1, 1) := by decide +kernel
theorem dX11_parses_61 : decode cX11_parses 61 = .ok (.iadd, 1) := by decide +kernel
theorem dX11_parses_62 : decode cX11_parses 62 = .ok (.putfield 151, 3) := by decide +kernel
theorem dX11_parses_65 : decode cX11_parses 65 = .ok (.goto (-55), 3) := by decide +kernel
theorem dX11_parses_68 : decode cX11_parses 68 = .ok (.aload_n 0, 1) := by decide +kernel
theorem dX11_parses_69 : decode cX11_parses 69 = .ok (.getfield 160, 3) := by decide +kernel
theorem dX11_parses_72 : decode cX11_parses 72 = .ok (.ldc 163, 2) := by decide +kernel
theorem dX11_parses_74 : decode cX11_parses 74 = .ok (.if_icmp .eq 21, 3) := by decide +kernel
theorem dX11_parses_77 : decode cX11_parses 77 = .ok (.aload_n 0, 1) := by decide +kernel
theorem dX11_parses_78 : decode cX11_parses 78 = .ok (.getfield 160, 3) := by decide +kernel
theorem dX11_parses_81 : decode cX11_parses 81 = .ok (.ldc 164, 2) := by decide +kernel
theorem dX11_parses_83 : decode cX11_parses 83 = .ok (.if_icmp .eq 12, 3) := by decide +kernel
theorem dX11_parses_86 : decode cX11_parses 86 = .ok (.aload_n 0, 1) := by decide +kernel
theorem dX11_parses_87 : decode cX11_parses 87 = .ok (.getfield 160, 3) := by decide +kernel
theorem dX11_parses_90 : decode cX11_parses 90 = .ok (.ldc 165, 2) := by decide +kernel
theorem dX11_parses_92 : decode cX11_parses 92 = .ok (.if_icmp .ne 7, 3) := by decide +kernel
theorem dX11_parses_95 : decode cX11_parses 95 = .ok (.iconst 1, 1) := by decide +kernel
theorem dX11_parses_96 : decode cX11_parses 96 = .ok (.goto 4, 3) := by decide +kernel
theorem dX11_parses_99 : decode cX11_parses 99 = .ok (.iconst 0, 1) := by decide +kernel
theorem dX11_parses_100 : decode cX11_parses 100 = .ok (.istore_n 2, 1) := by decide +kernel
theorem dX11_parses_101 : decode cX11_parses 101 = .ok (.aload_n 0, 1) := by decide +kernel
theorem dX11_parses_102 : decode cX11_parses 102 = .ok (.getfield 160, 3) := by decide +kernel
theorem dX11_parses_105 : decode cX11_parses 105 = .ok (.ldc 166, 2) := by decide +kernel
theorem dX11_parses_107 : decode cX11_parses 107 = .ok (.if_icmp .eq 59, 3) := by decide +kernel
theorem dX11_parses_110 : decode cX11_parses 110 = .ok (.aload_n 0, 1) := by decide +kernel
theorem dX11_parses_111 : decode cX11_parses 111 = .ok (.getfield 160, 3) := by decide +kernel
theorem dX11_parses_114 : decode cX11_parses 114 = .ok (.ldc 167, 2) := by decide +kernel
theorem dX11_parses_116 : decode cX11_parses 116 = .ok (.if_icmp .eq 50, 3) := by decide +kernel
theorem dX11_parses_119 : decode cX11_parses 119 = .ok (.aload_n 0, 1) := by decide +kernel
theorem dX11_parses_120 : decode cX11_parses 120 = .ok (.getfield 160, 3) := by decide +kernel
theorem dX11_parses_123 : decode cX11_parses 123 = .ok (.ldc 168, 2) := by decide +kernel
theorem dX11_parses_125 : decode cX11_parses 125 = .ok (.if_icmp .eq 41, 3) := by decide +kernel
theorem dX11_parses_128 : decode cX11_parses 128 = .ok (.aload_n 0, 1) := by decide +kernel
theorem dX11_parses_129 : decode cX11_parses 129 = .ok (.getfield 160, 3) := by decide +kernel
theorem dX11_parses_132 : decode cX11_parses 132 = .ok (.ldc 169, 2) := by decide +kernel
theorem dX11_parses_134 : decode cX11_parses 134 = .ok (.if_icmp .eq 32, 3) := by decide +kernel
theorem dX11_parses_137 : decode cX11_parses 137 = .ok (.aload_n 0, 1) := by decide +kernel
theorem dX11_parses_138 : decode cX11_parses 138 = .ok (.getfield 160, 3) := by decide +kernel
theorem dX11_parses_141 : decode cX11_parses 141 = .ok (.sipush 17076, 3) := by decide +kernel
theorem dX11_parses_144 : decode cX11_parses 144 = .ok (.if_icmp .eq 22, 3) := by decide +kernel
theorem dX11_parses_147 : decode cX11_parses 147 = .ok (.aload_n 0, 1) := by decide +kernel
theorem dX11_parses_148 : decode cX11_parses 148 = .ok (.getfield 160, 3) := by decide +kernel
theorem dX11_parses_151 : decode cX11_parses 151 = .ok (.sipush 239, 3) := by decide +kernel
theorem dX11_parses_154 : decode cX11_parses 154 = .ok (.if_icmp .eq 12, 3) := by decide +kernel
theorem dX11_parses_157 : decode cX11_parses 157 = .ok (.aload_n 0, 1) := by decide +kernel
theorem dX11_parses_158 : decode cX11_parses 158 = .ok (.getfield 160, 3) := by decide +kernel
theorem dX11_parses_161 : decode cX11_parses 161 = .ok (.ldc 170, 2) := by decide +kernel
theorem dX11_parses_163 : decode cX11_parses 163 = .ok (.if_icmp .ne 7, 3) := by decide +kernel
theorem dX11_parses_166 : decode cX11_parses 166 = .ok (.iconst 1, 1) := by decide +kernel
theorem dX11_parses_167 : decode cX11_parses 167 = .ok (.goto 4, 3) := by decide +kernel
theorem dX11_parses_170 : decode cX11_parses 170 = .ok (.iconst 0, 1) := by decide +kernel
theorem dX11_parses_171 : decode cX11_parses 171 = .ok (.istore_n 3, 1) := by decide +kernel
theorem dX11_parses_172 : decode cX11_parses 172 = .ok (.iload_n 2, 1) := by decide +kernel
theorem dX11_parses_173 : decode cX11_parses 173 = .ok (.ifCond .ne 7, 3) := by decide +kernel
theorem dX11_parses_176 : decode cX11_parses 176 = .ok (.iload_n 3, 1) := by decide +kernel
theorem dX11_parses_177 : decode cX11_parses 177 = .ok (.ifCond .eq 36, 3) := by decide +kernel
theorem dX11_parses_180 : decode cX11_parses 180 = .ok (.aload_n 0, 1) := by decide +kernel
theorem dX11_parses_181 : decode cX11_parses 181 = .ok (.iconst 0, 1) := by decide +kernel
theorem dX11_parses_182 : decode cX11_parses 182 = .ok (.invokevirtual 171, 3) := by decide +kernel
theorem dX11_parses_185 : decode cX11_parses 185 = .ok (.ifCond .eq 28, 3) := by decide +kernel
theorem dX11_parses_188 : decode cX11_parses 188 = .ok (.iload_n 2, 1) := by decide +kernel
theorem dX11_parses_189 : decode cX11_parses 189 = .ok (.ifCond .ne 11, 3) := by decide +kernel
theorem dX11_parses_192 : decode cX11_parses 192 = .ok (.aload_n 0, 1) := by decide +kernel
theorem dX11_parses_193 : decode cX11_parses 193 = .ok (.iconst 1, 1) := by decide +kernel
theorem dX11_parses_194 : decode cX11_parses 194 = .ok (.invokevirtual 171, 3) := by decide +kernel
theorem dX11_parses_197 : decode cX11_parses 197 = .ok (.ifCond .eq 16, 3) := by decide +kernel
theorem dX11_parses_200 : decode cX11_parses 200 = .ok (.aload_n 0, 1) := by decide +kernel
theorem dX11_parses_201 : decode cX11_parses 201 = .ok (.bipush 59, 2) := by decide +kernel
theorem dX11_parses_203 : decode cX11_parses 203 = .ok (.invokevirtual 157, 3) := by decide +kernel
theorem dX11_parses_206 : decode cX11_parses 206 = .ok (.ifCond .eq 7, 3) := by decide +kernel
theorem dX11_parses_209 : decode cX11_parses 209 = .ok (.iconst 1, 1) := by decide +kernel
theorem dX11_parses_210 : decode cX11_parses 210 = .ok (.goto 4, 3) := by decide +kernel
theorem dX11_parses_213 : decode cX11_parses 213 = .ok (.iconst 0, 1) := by decide +kernel
theorem dX11_parses_214 : decode cX11_parses 214 = .ok (.ireturn, 1) := by decide +kernel
set_option maxRecDepth 20000 in
theorem ggX11_calls_X11_rent : GoodIn wsX11_calls wsX11_rent := goodIn_r _ [7, 8, 9, 10, 11, 6, 12, 13, 14, 15, 16, 17, 18, 19, 20, 21, 22, 23, 24, 25, 26, 27, 28, 29, 30, 31, 32, 33, 34, 35, 36, 37, 38, 39, 40, 41, 42, 43, 146, 147, 148, 149, 150, 151, 152, 153, 154, 155, 156, 157, 158, 159] (by decide +kernel) (by decide +kernel)
set_option maxRecDepth 20000 in
theorem gX11_calls_X11_rent : GoodIn wsX11_calls (wsV RX11 174 RX11 yX11_rent wsX11_rent) := goodIn_app (goodIn_of _ (by decide +kernel)) ggX11_calls_X11_rent
set_option maxRecDepth 20000 in
theorem ggX11_calls_X11_back : GoodIn wsX11_calls wsX11_back := goodIn_r _ [47, 8, 9, 10, 11, 6, 12, 13, 14, 15, 16, 21, 22, 23, 24, 25, 26, 27, 28, 48, 49, 50, 51, 52, 53, 54, 55, 56, 57, 58, 59, 17, 18, 19, 20, 60, 61, 62, 63, 64, 65, 66, 29, 30, 31, 32, 33, 34, 35, 67, 68, 69, 70, 36, 37, 38, 39, 146, 147, 148, 149, 150, 151, 152, 153, 154, 155, 156, 157, 158, 159] (by decide +kernel) (by decide +kernel)
set_option maxRecDepth 20000 in
theorem gX11_calls_X11_back : GoodIn wsX11_calls (wsV RX11 177 RX11 yX11_back wsX11_back) := goodIn_app (goodIn_of _ (by decide +kernel)) ggX11_calls_X11_back
set_option maxRecDepth 20000 in
theorem ggX11_calls_X11_full : GoodIn wsX11_calls wsX11_full := goodIn_r _ [74, 8, 9, 10, 11, 6, 12, 13, 14, 15, 16, 21, 22, 23, 24, 25, 26, 27, 28, 48, 49, 50, 51, 52, 53, 54, 55, 56, 57, 58, 59, 17, 18, 19, 20, 60, 61, 62, 63, 64, 65, 66, 29, 30, 31, 32, 33, 34, 35, 146, 147, 148, 149, 150, 151, 152, 153, 154, 155, 156, 157, 158, 159] (by decide +kernel) (by decide +kernel)
set_option maxRecDepth 20000 in
theorem gX11_calls_X11_full : GoodIn wsX11_calls (wsV RX11 180 RX11 yX11_full wsX11_full) := goodIn_app (goodIn_of _ (by decide +kernel)) ggX11_calls_X11_full
set_option maxRecDepth 20000 in
theorem ggX11_calls_X11_report : GoodIn wsX11_calls wsX11_report := goodIn_r _ [78, 8, 79, 80, 81, 6, 82, 17, 18, 19, 20, 29, 30, 31, 32, 33, 34, 35, 83, 84, 85, 86, 146, 147, 148, 149, 150, 151, 152, 153, 154, 155, 156, 157, 158, 159] (by decide +kernel) (by decide +kernel)
set_option maxRecDepth 20000 in
theorem gX11_calls_X11_report : GoodIn wsX11_calls (wsV RX11 183 RX11 yX11_report wsX11_report) := goodIn_app (goodIn_of _ (by decide +kernel)) ggX11_calls_X11_report
set_option maxRecDepth 20000 in
theorem ggX11_calls_X11_take : GoodIn wsX11_calls wsX11_take := goodIn_r _ [90, 91, 92, 93, 6, 94, 8, 79, 80, 81, 82, 95, 96, 97, 98, 99, 100, 101, 102, 103, 104, 105, 106, 56, 57, 58, 59, 17, 18, 19, 20, 60, 61, 62, 107, 108, 109, 110, 29, 30, 31, 32, 33, 34, 35, 36, 37, 38, 39, 146, 147, 148, 149, 150, 151, 152, 153, 154, 155, 156, 157, 158, 159] (by decide +kernel) (by decide +kernel)
set_option maxRecDepth 20000 in
theorem gX11_calls_X11_take : GoodIn wsX11_calls (wsV RX11 186 RX11 yX11_take wsX11_take) := goodIn_app (goodIn_of _ (by decide +kernel)) ggX11_calls_X11_take
set_option maxRecDepth 20000 in
theorem ggX11_calls_X11_put : GoodIn wsX11_calls wsX11_put := goodIn_r _ [114, 91, 92, 93, 6, 94, 8, 79, 80, 81, 82, 95, 96, 97, 98, 99, 100, 101, 102, 107, 108, 109, 110, 17, 18, 19, 20, 48, 49, 50, 51, 52, 53, 54, 55, 56, 57, 58, 59, 60, 61, 62, 63, 64, 65, 66, 29, 30, 31, 32, 33, 34, 35, 36, 37, 38, 39, 103, 104, 105, 106, 146, 147, 148, 149, 150, 151, 152, 153, 154, 155, 156, 157, 158, 159] (by decide +kernel) (by decide +kernel)
set_option maxRecDepth 20000 in
theorem gX11_calls_X11_put : GoodIn wsX11_calls (wsV RX11 189 RX11 yX11_put wsX11_put) := goodIn_app (goodIn_of _ (by decide +kernel)) ggX11_calls_X11_put
set_option maxRecDepth 20000 in
theorem ggX11_calls_X11_go : GoodIn wsX11_calls wsX11_go := goodIn_r _ [118, 8, 91, 92, 93, 6, 94, 13, 14, 15, 16, 95, 96, 97, 98, 99, 100, 101, 102, 29, 30, 31, 32, 33, 34, 35, 119, 120, 121, 122, 63, 64, 65, 66, 146, 147, 148, 149, 150, 151, 152, 153, 154, 155, 156, 157, 158, 159] (by decide +kernel) (by decide +kernel)
set_option maxRecDepth 20000 in
theorem gX11_calls_X11_go : GoodIn wsX11_calls (wsV RX11 192 RX11 yX11_go wsX11_go) := goodIn_app (goodIn_of _ (by decide +kernel)) ggX11_calls_X11_go
set_option maxRecDepth 20000 in
theorem ggX11_calls_X11_mend : GoodIn wsX11_calls wsX11_mend := goodIn_r _ [126, 8, 91, 92, 93, 6, 94, 79, 80, 81, 82, 95, 96, 97, 98, 99, 100, 101, 102, 107, 108, 109, 110, 17, 18, 19, 20, 29, 30, 31, 32, 33, 34, 35, 36, 37, 38, 39, 146, 147, 148, 149, 150, 151, 152, 153, 154, 155, 156, 157, 158, 159] (by decide +kernel) (by decide +kernel)
set_option maxRecDepth 20000 in
theorem gX11_calls_X11_mend : GoodIn wsX11_calls (wsV RX11 195 RX11 yX11_mend wsX11_mend) := goodIn_app (goodIn_of _ (by decide +kernel)) ggX11_calls_X11_mend
set_option maxRecDepth 20000 in
theorem ggX11_calls_X11_pass : GoodIn wsX11_calls wsX11_pass := goodIn_r _ [130, 8, 9, 10, 11, 6, 12, 40, 41, 42, 43, 25, 26, 27, 28, 29, 30, 31, 32, 33, 34, 35, 146, 147, 148, 149, 150, 151, 152, 153, 154, 155, 156, 157, 158, 159] (by decide +kernel) (by decide +kernel)
set_option maxRecDepth 20000 in
theorem gX11_calls_X11_pass : GoodIn wsX11_calls (wsV RX11 198 RX11 yX11_pass wsX11_pass) := goodIn_app (goodIn_of _ (by decide +kernel)) ggX11_calls_X11_pass
set_option maxRecDepth 20000 in
theorem ggX11_calls_X11_pause : GoodIn wsX11_calls wsX11_pause := goodIn_r _ [134, 8, 135, 136, 6, 137, 29, 30, 31, 32, 33, 34, 35, 138, 139, 140, 141, 17, 18, 19, 20, 142, 143, 144, 145, 48, 49, 50, 51, 52, 53, 54, 55, 56, 57, 58, 59, 60, 61, 62, 63, 64, 65, 66, 36, 37, 38, 39, 146, 147, 148, 149, 150, 151, 152, 153, 154, 155, 156, 157, 158, 159] (by decide +kernel) (by decide +kernel)
set_option maxRecDepth 20000 in
theorem gX11_calls_X11_pause : GoodIn wsX11_calls (wsV RX11 201 RX11 yX11_pause wsX11_pause) := goodIn_app (goodIn_of _ (by decide +kernel)) ggX11_calls_X11_pause
theorem dX11_calls_0 : decode cX11_calls 0 = .ok (.aload_n 0, 1) := by decide +kernel
theorem dX11_calls_1 : decode cX11_calls 1 = .ok (.getfield 25, 3) := by decide +kernel
theorem dX11_calls_4 : decode cX11_calls 4 = .ok (.iconst 0, 1) := by decide +kernel
theorem dX11_calls_5 : decode cX11_calls 5 = .ok (.iaload, 1) := by decide +kernel
theorem dX11_calls_6 : decode cX11_calls 6 = .ok (.istore_n 1, 1) := by decide +kernel
theorem dX11_calls_7 : decode cX11_calls 7 = .ok (.aload_n 0, 1) := by decide +kernel
theorem dX11_calls_8 : decode cX11_calls 8 = .ok (.getfield 25, 3) := by decide +kernel
theorem dX11_calls_11 : decode cX11_calls 11 = .ok (.iconst 1, 1) := by decide +kernel
theorem dX11_calls_12 : decode cX11_calls 12 = .ok (.iaload, 1) := by decide +kernel
theorem dX11_calls_13 : decode cX11_calls 13 = .ok (.istore_n 2, 1) := by decide +kernel
theorem dX11_calls_14 : decode cX11_calls 14 = .ok (.aload_n 0, 1) := by decide +kernel
theorem dX11_calls_15 : decode cX11_calls 15 = .ok (.getfield 160, 3) := by decide +kernel
theorem dX11_calls_18 : decode cX11_calls 18 = .ok (.lookupswitch 143 #[(239, 123), (17076, 116), (66667, 89), (218508, 96), (431556, 130), (525939, 137), (595412, 82), (656741, 109), (6346132, 103)], 82) := by decide +kernel
theorem dX11_calls_100 : decode cX11_calls 100 = .ok (.aload_n 0, 1) := by decide +kernel
theorem dX11_calls_101 : decode cX11_calls 101 = .ok (.iload_n 1, 1) := by decide +kernel
theorem dX11_calls_102 : decode cX11_calls 102 = .ok (.iload_n 2, 1) := by decide +kernel
theorem dX11_calls_103 : decode cX11_calls 103 = .ok (.invokevirtual 174, 3) := by decide +kernel
theorem dX11_calls_106 : decode cX11_calls 106 = .ok (.ireturn, 1) := by decide +kernel
theorem dX11_calls_107 : decode cX11_calls 107 = .ok (.aload_n 0, 1) := by decide +kernel
theorem dX11_calls_108 : decode cX11_calls 108 = .ok (.iload_n 1, 1) := by decide +kernel
theorem dX11_calls_109 : decode cX11_calls 109 = .ok (.iload_n 2, 1) := by decide +kernel
theorem dX11_calls_110 : decode cX11_calls 110 = .ok (.invokevirtual 177, 3) := by decide +kernel
theorem dX11_calls_113 : decode cX11_calls 113 = .ok (.ireturn, 1) := by decide +kernel
theorem dX11_calls_114 : decode cX11_calls 114 = .ok (.aload_n 0, 1) := by decide +kernel
theorem dX11_calls_115 : decode cX11_calls 115 = .ok (.iload_n 1, 1) := by decide +kernel
theorem dX11_calls_116 : decode cX11_calls 116 = .ok (.iload_n 2, 1) := by decide +kernel
theorem dX11_calls_117 : decode cX11_calls 117 = .ok (.invokevirtual 180, 3) := by decide +kernel
theorem dX11_calls_120 : decode cX11_calls 120 = .ok (.ireturn, 1) := by decide +kernel
theorem dX11_calls_121 : decode cX11_calls 121 = .ok (.aload_n 0, 1) := by decide +kernel
theorem dX11_calls_122 : decode cX11_calls 122 = .ok (.iload_n 1, 1) := by decide +kernel
theorem dX11_calls_123 : decode cX11_calls 123 = .ok (.invokevirtual 183, 3) := by decide +kernel
theorem dX11_calls_126 : decode cX11_calls 126 = .ok (.ireturn, 1) := by decide +kernel
theorem dX11_calls_127 : decode cX11_calls 127 = .ok (.aload_n 0, 1) := by decide +kernel
theorem dX11_calls_128 : decode cX11_calls 128 = .ok (.iload_n 1, 1) := by decide +kernel
theorem dX11_calls_129 : decode cX11_calls 129 = .ok (.iload_n 2, 1) := by decide +kernel
theorem dX11_calls_130 : decode cX11_calls 130 = .ok (.invokevirtual 186, 3) := by decide +kernel
theorem dX11_calls_133 : decode cX11_calls 133 = .ok (.ireturn, 1) := by decide +kernel
theorem dX11_calls_134 : decode cX11_calls 134 = .ok (.aload_n 0, 1) := by decide +kernel
theorem dX11_calls_135 : decode cX11_calls 135 = .ok (.iload_n 1, 1) := by decide +kernel
theorem dX11_calls_136 : decode cX11_calls 136 = .ok (.iload_n 2, 1) := by decide +kernel
theorem dX11_calls_137 : decode cX11_calls 137 = .ok (.invokevirtual 189, 3) := by decide +kernel
theorem dX11_calls_140 : decode cX11_calls 140 = .ok (.ireturn, 1) := by decide +kernel
theorem dX11_calls_141 : decode cX11_calls 141 = .ok (.aload_n 0, 1) := by decide +kernel
theorem dX11_calls_142 : decode cX11_calls 142 = .ok (.iload_n 1, 1) := by decide +kernel
theorem dX11_calls_143 : decode cX11_calls 143 = .ok (.iload_n 2, 1) := by decide +kernel
theorem dX11_calls_144 : decode cX11_calls 144 = .ok (.invokevirtual 192, 3) := by decide +kernel
theorem dX11_calls_147 : decode cX11_calls 147 = .ok (.ireturn, 1) := by decide +kernel
theorem dX11_calls_148 : decode cX11_calls 148 = .ok (.aload_n 0, 1) := by decide +kernel
theorem dX11_calls_149 : decode cX11_calls 149 = .ok (.iload_n 1, 1) := by decide +kernel
theorem dX11_calls_150 : decode cX11_calls 150 = .ok (.iload_n 2, 1) := by decide +kernel
theorem dX11_calls_151 : decode cX11_calls 151 = .ok (.invokevirtual 195, 3) := by decide +kernel
theorem dX11_calls_154 : decode cX11_calls 154 = .ok (.ireturn, 1) := by decide +kernel
theorem dX11_calls_155 : decode cX11_calls 155 = .ok (.aload_n 0, 1) := by decide +kernel
theorem dX11_calls_156 : decode cX11_calls 156 = .ok (.iload_n 1, 1) := by decide +kernel
theorem dX11_calls_157 : decode cX11_calls 157 = .ok (.invokevirtual 198, 3) := by decide +kernel
theorem dX11_calls_160 : decode cX11_calls 160 = .ok (.ireturn, 1) := by decide +kernel
theorem dX11_calls_161 : decode cX11_calls 161 = .ok (.aload_n 0, 1) := by decide +kernel
theorem dX11_calls_162 : decode cX11_calls 162 = .ok (.iload_n 1, 1) := by decide +kernel
theorem dX11_calls_163 : decode cX11_calls 163 = .ok (.invokevirtual 201, 3) := by decide +kernel
theorem dX11_calls_166 : decode cX11_calls 166 = .ok (.ireturn, 1) := by decide +kernel
set_option maxRecDepth 20000 in
theorem ggX11_plays_X11_parses : GoodIn wsX11_plays wsX11_parses := goodIn_r _ [10, 2, 11, 12, 13, 14, 15, 16, 17, 18, 19, 20, 21, 22, 23, 9, 24, 4, 25, 26, 27, 28, 29, 30, 31, 32, 33, 34, 35, 36, 179, 180, 181, 182, 183, 184, 185, 186, 187, 188, 189, 190, 191, 192] (by decide +kernel) (by decide +kernel)
set_option maxRecDepth 20000 in
theorem gX11_plays_X11_parses : GoodIn wsX11_plays (wsV RX11 207 RX11 yX11_parses wsX11_parses) := goodIn_app (goodIn_of _ (by decide +kernel)) ggX11_plays_X11_parses
set_option maxRecDepth 20000 in
theorem ggX11_plays_X11_calls : GoodIn wsX11_plays wsX11_calls := goodIn_r _ [40, 32, 11, 41, 42, 43, 9, 44, 45, 46, 47, 48, 49, 50, 51, 52, 53, 54, 55, 56, 57, 58, 59, 60, 61, 62, 63, 64, 65, 66, 67, 68, 69, 1, 70, 71, 72, 73, 74, 75, 76, 77, 78, 79, 80, 81, 82, 83, 84, 85, 86, 87, 88, 89, 90, 91, 92, 93, 94, 95, 96, 97, 98, 99, 100, 101, 102, 103, 104, 105, 106, 107, 108, 109, 110, 111, 112, 113, 114, 115, 116, 117, 118, 119, 120, 121, 122, 123, 124, 125, 126, 127, 128, 129, 130, 131, 132, 133, 134, 135, 136, 137, 138, 139, 140, 141, 142, 143, 144, 145, 146, 147, 148, 149, 150, 151, 152, 153, 154, 155, 156, 157, 158, 159, 160, 161, 162, 163, 164, 165, 166, 167, 168, 169, 170, 25, 26, 27, 171, 172, 173, 174, 175, 176, 177, 178, 179, 180, 181, 182, 183, 184, 185, 186, 187, 188, 189, 190, 191, 192] (by decide +kernel) (by decide +kernel)
set_option maxRecDepth 20000 in
theorem gX11_plays_X11_calls : GoodIn wsX11_plays (wsV RX11 211 RX11 yX11_calls wsX11_calls) := goodIn_app (goodIn_of _ (by decide +kernel)) ggX11_plays_X11_calls
theorem dX11_plays_0 : decode cX11_plays 0 = .ok (.aload_n 0, 1) := by decide +kernel
theorem dX11_plays_1 : decode cX11_plays 1 = .ok (.iconst 1, 1) := by decide +kernel
theorem dX11_plays_2 : decode cX11_plays 2 = .ok (.putfield 28, 3) := by decide +kernel
theorem dX11_plays_5 : decode cX11_plays 5 = .ok (.aload_n 0, 1) := by decide +kernel
theorem dX11_plays_6 : decode cX11_plays 6 = .ok (.iconst 0, 1) := by decide +kernel
theorem dX11_plays_7 : decode cX11_plays 7 = .ok (.putfield 151, 3) := by decide +kernel
theorem dX11_plays_10 : decode cX11_plays 10 = .ok (.aload_n 0, 1) := by decide +kernel
theorem dX11_plays_11 : decode cX11_plays 11 = .ok (.iconst 0, 1) := by decide +kernel
theorem dX11_plays_12 : decode cX11_plays 12 = .ok (.putfield 204, 3) := by decide +kernel
theorem dX11_plays_15 : decode cX11_plays 15 = .ok (.iconst 0, 1) := by decide +kernel
theorem dX11_plays_16 : decode cX11_plays 16 = .ok (.istore_n 1, 1) := by decide +kernel
theorem dX11_plays_17 : decode cX11_plays 17 = .ok (.iconst 1, 1) := by decide +kernel
theorem dX11_plays_18 : decode cX11_plays 18 = .ok (.istore_n 2, 1) := by decide +kernel
theorem dX11_plays_19 : decode cX11_plays 19 = .ok (.aload_n 0, 1) := by decide +kernel
theorem dX11_plays_20 : decode cX11_plays 20 = .ok (.getfield 151, 3) := by decide +kernel
theorem dX11_plays_23 : decode cX11_plays 23 = .ok (.aload_n 0, 1) := by decide +kernel
theorem dX11_plays_24 : decode cX11_plays 24 = .ok (.getfield 138, 3) := by decide +kernel
theorem dX11_plays_27 : decode cX11_plays 27 = .ok (.if_icmp .ge 63, 3) := by decide +kernel
theorem dX11_plays_30 : decode cX11_plays 30 = .ok (.iload_n 2, 1) := by decide +kernel
theorem dX11_plays_31 : decode cX11_plays 31 = .ok (.ifCond .eq 59, 3) := by decide +kernel
theorem dX11_plays_34 : decode cX11_plays 34 = .ok (.aload_n 0, 1) := by decide +kernel
theorem dX11_plays_35 : decode cX11_plays 35 = .ok (.getfield 151, 3) := by decide +kernel
theorem dX11_plays_38 : decode cX11_plays 38 = .ok (.istore_n 1, 1) := by decide +kernel
theorem dX11_plays_39 : decode cX11_plays 39 = .ok (.aload_n 0, 1) := by decide +kernel
theorem dX11_plays_40 : decode cX11_plays 40 = .ok (.invokevirtual 207, 3) := by decide +kernel
theorem dX11_plays_43 : decode cX11_plays 43 = .ok (.istore_n 3, 1) := by decide +kernel
theorem dX11_plays_44 : decode cX11_plays 44 = .ok (.aload_n 0, 1) := by decide +kernel
theorem dX11_plays_45 : decode cX11_plays 45 = .ok (.iload_n 3, 1) := by decide +kernel
theorem dX11_plays_46 : decode cX11_plays 46 = .ok (.ifCond .eq 10, 3) := by decide +kernel
theorem dX11_plays_49 : decode cX11_plays 49 = .ok (.aload_n 0, 1) := by decide +kernel
theorem dX11_plays_50 : decode cX11_plays 50 = .ok (.invokevirtual 211, 3) := by decide +kernel
theorem dX11_plays_53 : decode cX11_plays 53 = .ok (.goto 4, 3) := by decide +kernel
theorem dX11_plays_56 : decode cX11_plays 56 = .ok (.iconst 0, 1) := by decide +kernel
theorem dX11_plays_57 : decode cX11_plays 57 = .ok (.putfield 214, 3) := by decide +kernel
theorem dX11_plays_60 : decode cX11_plays 60 = .ok (.iload_n 3, 1) := by decide +kernel
theorem dX11_plays_61 : decode cX11_plays 61 = .ok (.ifCond .eq 14, 3) := by decide +kernel
theorem dX11_plays_64 : decode cX11_plays 64 = .ok (.aload_n 0, 1) := by decide +kernel
theorem dX11_plays_65 : decode cX11_plays 65 = .ok (.getfield 214, 3) := by decide +kernel
theorem dX11_plays_68 : decode cX11_plays 68 = .ok (.ifCond .lt 7, 3) := by decide +kernel
theorem dX11_plays_71 : decode cX11_plays 71 = .ok (.iconst 1, 1) := by decide +kernel
theorem dX11_plays_72 : decode cX11_plays 72 = .ok (.goto 4, 3) := by decide +kernel
theorem dX11_plays_75 : decode cX11_plays 75 = .ok (.iconst 0, 1) := by decide +kernel
theorem dX11_plays_76 : decode cX11_plays 76 = .ok (.istore_n 2, 1) := by decide +kernel
theorem dX11_plays_77 : decode cX11_plays 77 = .ok (.aload_n 0, 1) := by decide +kernel
theorem dX11_plays_78 : decode cX11_plays 78 = .ok (.dup, 1) := by decide +kernel
theorem dX11_plays_79 : decode cX11_plays 79 = .ok (.getfield 204, 3) := by decide +kernel
theorem dX11_plays_82 : decode cX11_plays 82 = .ok (.iconst 1, 1) := by decide +kernel
theorem dX11_plays_83 : decode cX11_plays 83 = .ok (.iadd, 1) := by decide +kernel
theorem dX11_plays_84 : decode cX11_plays 84 = .ok (.putfield 204, 3) := by decide +kernel
theorem dX11_plays_87 : decode cX11_plays 87 = .ok (.goto (-68), 3) := by decide +kernel
theorem dX11_plays_90 : decode cX11_plays 90 = .ok (.aload_n 0, 1) := by decide +kernel
theorem dX11_plays_91 : decode cX11_plays 91 = .ok (.iconst 0, 1) := by decide +kernel
theorem dX11_plays_92 : decode cX11_plays 92 = .ok (.putfield 28, 3) := by decide +kernel
theorem dX11_plays_95 : decode cX11_plays 95 = .ok (.iload_n 2, 1) := by decide +kernel
theorem dX11_plays_96 : decode cX11_plays 96 = .ok (.ifCond .eq 8, 3) := by decide +kernel
theorem dX11_plays_99 : decode cX11_plays 99 = .ok (.bipush (-4), 2) := by decide +kernel
theorem dX11_plays_101 : decode cX11_plays 101 = .ok (.goto 4, 3) := by decide +kernel
theorem dX11_plays_104 : decode cX11_plays 104 = .ok (.iload_n 1, 1) := by decide +kernel
theorem dX11_plays_105 : decode cX11_plays 105 = .ok (.ireturn, 1) := by decide +kernel
set_option maxRecDepth 20000 in
theorem ggX11_fault_X11_in : GoodIn wsX11_fault wsX11_in := goodIn_r _ [7] (by decide +kernel) (by decide +kernel)
set_option maxRecDepth 20000 in
theorem gX11_fault_X11_in : GoodIn wsX11_fault (va_wsS RX11 53 yX11_in wsX11_in) := goodIn_app (goodIn_of _ (by decide +kernel)) ggX11_fault_X11_in
set_option maxRecDepth 20000 in
theorem ggX11_fault_X11_copies : GoodIn wsX11_fault wsX11_copies := goodIn_r _ [10] (by decide +kernel) (by decide +kernel)
set_option maxRecDepth 20000 in
theorem gX11_fault_X11_copies : GoodIn wsX11_fault (va_wsS RX11 147 yX11_copies wsX11_copies) := goodIn_app (goodIn_of _ (by decide +kernel)) ggX11_fault_X11_copies
set_option maxRecDepth 20000 in
theorem ggX11_fault_X11_plays : GoodIn wsX11_fault wsX11_plays := goodIn_r _ [14, 15, 16, 17, 18, 3, 19, 20, 21, 6, 22, 23, 24, 25, 26, 27, 28, 29, 30, 31, 32, 33, 34, 35, 36, 4, 5, 7, 37, 38, 39, 40, 41, 42, 43, 44, 45, 46, 47, 48, 49, 50, 51, 52, 53, 1, 54, 55, 56, 57, 58, 59, 60, 61, 62, 63, 64, 65, 66, 67, 68, 69, 70, 71, 72, 73, 74, 75, 76, 77, 78, 79, 80, 81, 82, 83, 84, 85, 86, 87, 88, 89, 90, 91, 92, 93, 94, 95, 96, 97, 98, 99, 100, 101, 102, 103, 104, 105, 106, 107, 108, 109, 110, 111, 112, 113, 114, 115, 116, 117, 118, 119, 120, 121, 122, 123, 124, 125, 126, 127, 128, 129, 130, 131, 132, 133, 134, 135, 136, 137, 138, 139, 140, 141, 142, 143, 144, 145, 146, 147, 148, 149, 150, 151, 152, 153, 154, 155, 156, 157, 158, 159, 160, 161, 162, 163, 164, 165, 166, 167, 168, 169, 170, 171, 172, 173, 174, 175, 176, 177, 178, 179, 180, 181, 182, 183, 184, 185, 186, 187, 188, 189, 190, 191, 192, 193, 194, 195, 196, 197, 198, 199, 200] (by decide +kernel) (by decide +kernel)
set_option maxRecDepth 20000 in
theorem gX11_fault_X11_plays : GoodIn wsX11_fault (wsV RX11 217 RX11 yX11_plays wsX11_plays) := goodIn_app (goodIn_of _ (by decide +kernel)) ggX11_fault_X11_plays
theorem dX11_fault_0 : decode cX11_fault 0 = .ok (.iload_n 1, 1) := by decide +kernel
theorem dX11_fault_1 : decode cX11_fault 1 = .ok (.iconst 0, 1) := by decide +kernel
theorem dX11_fault_2 : decode cX11_fault 2 = .ok (.iconst 2, 1) := by decide +kernel
theorem dX11_fault_3 : decode cX11_fault 3 = .ok (.invokestatic 53, 3) := by decide +kernel
theorem dX11_fault_6 : decode cX11_fault 6 = .ok (.ifCond .ne 5, 3) := by decide +kernel
theorem dX11_fault_9 : decode cX11_fault 9 = .ok (.iconst (-1), 1) := by decide +kernel
theorem dX11_fault_10 : decode cX11_fault 10 = .ok (.ireturn, 1) := by decide +kernel
theorem dX11_fault_11 : decode cX11_fault 11 = .ok (.aload_n 0, 1) := by decide +kernel
theorem dX11_fault_12 : decode cX11_fault 12 = .ok (.getfield 7, 3) := by decide +kernel
theorem dX11_fault_15 : decode cX11_fault 15 = .ok (.aload_n 0, 1) := by decide +kernel
theorem dX11_fault_16 : decode cX11_fault 16 = .ok (.getfield 16, 3) := by decide +kernel
theorem dX11_fault_19 : decode cX11_fault 19 = .ok (.invokestatic 147, 3) := by decide +kernel
theorem dX11_fault_22 : decode cX11_fault 22 = .ok (.aload_n 0, 1) := by decide +kernel
theorem dX11_fault_23 : decode cX11_fault 23 = .ok (.invokevirtual 217, 3) := by decide +kernel
theorem dX11_fault_26 : decode cX11_fault 26 = .ok (.istore_n 2, 1) := by decide +kernel
theorem dX11_fault_27 : decode cX11_fault 27 = .ok (.aload_n 0, 1) := by decide +kernel
theorem dX11_fault_28 : decode cX11_fault 28 = .ok (.getfield 16, 3) := by decide +kernel
theorem dX11_fault_31 : decode cX11_fault 31 = .ok (.aload_n 0, 1) := by decide +kernel
theorem dX11_fault_32 : decode cX11_fault 32 = .ok (.getfield 7, 3) := by decide +kernel
theorem dX11_fault_35 : decode cX11_fault 35 = .ok (.invokestatic 147, 3) := by decide +kernel
theorem dX11_fault_38 : decode cX11_fault 38 = .ok (.iload_n 2, 1) := by decide +kernel
theorem dX11_fault_39 : decode cX11_fault 39 = .ok (.bipush (-4), 2) := by decide +kernel
theorem dX11_fault_41 : decode cX11_fault 41 = .ok (.if_icmp .eq 7, 3) := by decide +kernel
theorem dX11_fault_44 : decode cX11_fault 44 = .ok (.iload_n 1, 1) := by decide +kernel
theorem dX11_fault_45 : decode cX11_fault 45 = .ok (.ifCond .ne 7, 3) := by decide +kernel
theorem dX11_fault_48 : decode cX11_fault 48 = .ok (.iload_n 2, 1) := by decide +kernel
theorem dX11_fault_49 : decode cX11_fault 49 = .ok (.goto 39, 3) := by decide +kernel
theorem dX11_fault_52 : decode cX11_fault 52 = .ok (.iload_n 1, 1) := by decide +kernel
theorem dX11_fault_53 : decode cX11_fault 53 = .ok (.iconst 1, 1) := by decide +kernel
theorem dX11_fault_54 : decode cX11_fault 54 = .ok (.if_icmp .ne 18, 3) := by decide +kernel
theorem dX11_fault_57 : decode cX11_fault 57 = .ok (.aload_n 0, 1) := by decide +kernel
theorem dX11_fault_58 : decode cX11_fault 58 = .ok (.getfield 214, 3) := by decide +kernel
theorem dX11_fault_61 : decode cX11_fault 61 = .ok (.ifCond .ne 7, 3) := by decide +kernel
theorem dX11_fault_64 : decode cX11_fault 64 = .ok (.iconst 1, 1) := by decide +kernel
theorem dX11_fault_65 : decode cX11_fault 65 = .ok (.goto 23, 3) := by decide +kernel
theorem dX11_fault_68 : decode cX11_fault 68 = .ok (.iconst 2, 1) := by decide +kernel
theorem dX11_fault_69 : decode cX11_fault 69 = .ok (.goto 19, 3) := by decide +kernel
theorem dX11_fault_72 : decode cX11_fault 72 = .ok (.aload_n 0, 1) := by decide +kernel
theorem dX11_fault_73 : decode cX11_fault 73 = .ok (.getfield 214, 3) := by decide +kernel
theorem dX11_fault_76 : decode cX11_fault 76 = .ok (.ifCond .ne 8, 3) := by decide +kernel
theorem dX11_fault_79 : decode cX11_fault 79 = .ok (.bipush (-4), 2) := by decide +kernel
theorem dX11_fault_81 : decode cX11_fault 81 = .ok (.goto 7, 3) := by decide +kernel
theorem dX11_fault_84 : decode cX11_fault 84 = .ok (.aload_n 0, 1) := by decide +kernel
theorem dX11_fault_85 : decode cX11_fault 85 = .ok (.getfield 214, 3) := by decide +kernel
theorem dX11_fault_88 : decode cX11_fault 88 = .ok (.ireturn, 1) := by decide +kernel
set_option maxRecDepth 20000 in
theorem ggX11_play_X11_copies : GoodIn wsX11_play wsX11_copies := goodIn_r _ [7] (by decide +kernel) (by decide +kernel)
set_option maxRecDepth 20000 in
theorem gX11_play_X11_copies : GoodIn wsX11_play (va_wsS RX11 147 yX11_copies wsX11_copies) := goodIn_app (goodIn_of _ (by decide +kernel)) ggX11_play_X11_copies
set_option maxRecDepth 20000 in
theorem ggX11_play_X11_plays : GoodIn wsX11_play wsX11_plays := goodIn_r _ [11, 12, 13, 3, 14, 15, 16, 17, 18, 6, 19, 20, 21, 22, 23, 24, 25, 26, 27, 28, 29, 30, 31, 32, 33, 34, 35, 36, 37, 38, 39, 40, 41, 42, 43, 44, 45, 46, 47, 48, 49, 50, 51, 52, 53, 1, 54, 55, 56, 57, 58, 59, 60, 61, 62, 63, 64, 65, 66, 67, 68, 69, 70, 71, 72, 73, 74, 75, 76, 77, 78, 79, 80, 81, 82, 83, 84, 85, 86, 87, 88, 89, 90, 91, 92, 93, 94, 95, 96, 97, 98, 99, 100, 101, 102, 103, 104, 105, 106, 107, 108, 109, 110, 111, 112, 113, 114, 115, 116, 117, 118, 119, 120, 121, 122, 123, 124, 125, 126, 127, 128, 129, 130, 131, 132, 133, 134, 135, 136, 137, 138, 139, 140, 141, 142, 143, 144, 145, 146, 147, 148, 149, 150, 151, 152, 153, 154, 155, 156, 157, 158, 159, 160, 161, 162, 163, 164, 165, 166, 167, 168, 169, 170, 171, 172, 173, 174, 175, 176, 177, 178, 179, 180, 181, 182, 183, 184, 185, 186, 187, 188, 189, 190, 191, 192, 193, 194, 195, 196, 197, 198, 199, 200] (by decide +kernel) (by decide +kernel)
set_option maxRecDepth 20000 in
theorem gX11_play_X11_plays : GoodIn wsX11_play (wsV RX11 217 RX11 yX11_plays wsX11_plays) := goodIn_app (goodIn_of _ (by decide +kernel)) ggX11_play_X11_plays
set_option maxRecDepth 20000 in
theorem ggX11_play_X11_changes : GoodIn wsX11_play wsX11_changes := goodIn_r _ [77, 12, 78, 79, 1, 187, 188, 189, 190, 191, 192, 193, 194, 195, 196, 197, 198, 199, 200] (by decide +kernel) (by decide +kernel)
set_option maxRecDepth 20000 in
theorem gX11_play_X11_changes : GoodIn wsX11_play (wsV RX11 57 RX11 yX11_changes wsX11_changes) := goodIn_app (goodIn_of _ (by decide +kernel)) ggX11_play_X11_changes
theorem dX11_play_0 : decode cX11_play 0 = .ok (.aload_n 0, 1) := by decide +kernel
theorem dX11_play_1 : decode cX11_play 1 = .ok (.getfield 7, 3) := by decide +kernel
theorem dX11_play_4 : decode cX11_play 4 = .ok (.aload_n 0, 1) := by decide +kernel
theorem dX11_play_5 : decode cX11_play 5 = .ok (.getfield 16, 3) := by decide +kernel
theorem dX11_play_8 : decode cX11_play 8 = .ok (.invokestatic 147, 3) := by decide +kernel
theorem dX11_play_11 : decode cX11_play 11 = .ok (.aload_n 0, 1) := by decide +kernel
theorem dX11_play_12 : decode cX11_play 12 = .ok (.invokevirtual 217, 3) := by decide +kernel
theorem dX11_play_15 : decode cX11_play 15 = .ok (.istore_n 1, 1) := by decide +kernel
theorem dX11_play_16 : decode cX11_play 16 = .ok (.aload_n 0, 1) := by decide +kernel
theorem dX11_play_17 : decode cX11_play 17 = .ok (.getfield 16, 3) := by decide +kernel
theorem dX11_play_20 : decode cX11_play 20 = .ok (.aload_n 0, 1) := by decide +kernel
theorem dX11_play_21 : decode cX11_play 21 = .ok (.getfield 7, 3) := by decide +kernel
theorem dX11_play_24 : decode cX11_play 24 = .ok (.invokestatic 147, 3) := by decide +kernel
theorem dX11_play_27 : decode cX11_play 27 = .ok (.iload_n 1, 1) := by decide +kernel
theorem dX11_play_28 : decode cX11_play 28 = .ok (.bipush (-4), 2) := by decide +kernel
theorem dX11_play_30 : decode cX11_play 30 = .ok (.if_icmp .eq 6, 3) := by decide +kernel
theorem dX11_play_33 : decode cX11_play 33 = .ok (.bipush (-2), 2) := by decide +kernel
theorem dX11_play_35 : decode cX11_play 35 = .ok (.ireturn, 1) := by decide +kernel
theorem dX11_play_36 : decode cX11_play 36 = .ok (.aload_n 0, 1) := by decide +kernel
theorem dX11_play_37 : decode cX11_play 37 = .ok (.invokevirtual 57, 3) := by decide +kernel
theorem dX11_play_40 : decode cX11_play 40 = .ok (.aload_n 0, 1) := by decide +kernel
theorem dX11_play_41 : decode cX11_play 41 = .ok (.invokevirtual 217, 3) := by decide +kernel
theorem dX11_play_44 : decode cX11_play 44 = .ok (.bipush (-4), 2) := by decide +kernel
theorem dX11_play_46 : decode cX11_play 46 = .ok (.if_icmp .ne 10, 3) := by decide +kernel
theorem dX11_play_49 : decode cX11_play 49 = .ok (.aload_n 0, 1) := by decide +kernel
theorem dX11_play_50 : decode cX11_play 50 = .ok (.getfield 204, 3) := by decide +kernel
theorem dX11_play_53 : decode cX11_play 53 = .ok (.goto 5, 3) := by decide +kernel
theorem dX11_play_56 : decode cX11_play 56 = .ok (.bipush (-4), 2) := by decide +kernel
theorem dX11_play_58 : decode cX11_play 58 = .ok (.ireturn, 1) := by decide +kernel
theorem dJx29ce0_ordinal_8abf5_0 : decode cJx29ce0_ordinal_8abf5 0 = .ok (.aload_n 0, 1) := by decide +kernel
theorem dJx29ce0_ordinal_8abf5_1 : decode cJx29ce0_ordinal_8abf5 1 = .ok (.getfield 7, 3) := by decide +kernel
theorem dJx29ce0_ordinal_8abf5_4 : decode cJx29ce0_ordinal_8abf5 4 = .ok (.ireturn, 1) := by decide +kernel
theorem dJ9_abs_0f7a4_0 : decode cJ9_abs_0f7a4 0 = .ok (.iload_n 0, 1) := by decide +kernel
theorem dJ9_abs_0f7a4_1 : decode cJ9_abs_0f7a4 1 = .ok (.ifCond .ge 8, 3) := by decide +kernel
theorem dJ9_abs_0f7a4_4 : decode cJ9_abs_0f7a4 4 = .ok (.iload_n 0, 1) := by decide +kernel
theorem dJ9_abs_0f7a4_5 : decode cJ9_abs_0f7a4 5 = .ok (.ineg, 1) := by decide +kernel
theorem dJ9_abs_0f7a4_6 : decode cJ9_abs_0f7a4 6 = .ok (.goto 4, 3) := by decide +kernel
theorem dJ9_abs_0f7a4_9 : decode cJ9_abs_0f7a4 9 = .ok (.iload_n 0, 1) := by decide +kernel
theorem dJ9_abs_0f7a4_10 : decode cJ9_abs_0f7a4 10 = .ok (.ireturn, 1) := by decide +kernel
theorem dJ9_max_7cf53_0 : decode cJ9_max_7cf53 0 = .ok (.iload_n 0, 1) := by decide +kernel
theorem dJ9_max_7cf53_1 : decode cJ9_max_7cf53 1 = .ok (.iload_n 1, 1) := by decide +kernel
theorem dJ9_max_7cf53_2 : decode cJ9_max_7cf53 2 = .ok (.if_icmp .lt 7, 3) := by decide +kernel
theorem dJ9_max_7cf53_5 : decode cJ9_max_7cf53 5 = .ok (.iload_n 0, 1) := by decide +kernel
theorem dJ9_max_7cf53_6 : decode cJ9_max_7cf53 6 = .ok (.goto 4, 3) := by decide +kernel
theorem dJ9_max_7cf53_9 : decode cJ9_max_7cf53 9 = .ok (.iload_n 1, 1) := by decide +kernel
theorem dJ9_max_7cf53_10 : decode cJ9_max_7cf53 10 = .ok (.ireturn, 1) := by decide +kernel
set_option maxRecDepth 20000 in
theorem ggJ0_length_8abf5_J0_coder_7d493 : GoodIn wsJ0_length_8abf5 wsJ0_coder_7d493 := goodIn_r _ [6, 7, 8] (by decide +kernel) (by decide +kernel)
set_option maxRecDepth 20000 in
theorem gJ0_length_8abf5_J0_coder_7d493 : GoodIn wsJ0_length_8abf5 (wsV RJ0 335 RJ0 yJ0_coder_7d493 wsJ0_coder_7d493) := goodIn_app (goodIn_of _ (by decide +kernel)) ggJ0_length_8abf5_J0_coder_7d493
theorem dJ0_length_8abf5_0 : decode cJ0_length_8abf5 0 = .ok (.aload_n 0, 1) := by decide +kernel
theorem dJ0_length_8abf5_1 : decode cJ0_length_8abf5 1 = .ok (.getfield 9, 3) := by decide +kernel
theorem dJ0_length_8abf5_4 : decode cJ0_length_8abf5 4 = .ok (.arraylength, 1) := by decide +kernel
theorem dJ0_length_8abf5_5 : decode cJ0_length_8abf5 5 = .ok (.aload_n 0, 1) := by decide +kernel
theorem dJ0_length_8abf5_6 : decode cJ0_length_8abf5 6 = .ok (.invokevirtual 335, 3) := by decide +kernel
theorem dJ0_length_8abf5_9 : decode cJ0_length_8abf5 9 = .ok (.ishr, 1) := by decide +kernel
theorem dJ0_length_8abf5_10 : decode cJ0_length_8abf5 10 = .ok (.ireturn, 1) := by decide +kernel
set_option maxRecDepth 20000 in
theorem ggJ0_charAt_5068e_J0_isLatin1_aae02 : GoodIn wsJ0_charAt_5068e wsJ0_isLatin1_aae02 := goodIn_r _ [6, 7, 8] (by decide +kernel) (by decide +kernel)
set_option maxRecDepth 20000 in
theorem gJ0_charAt_5068e_J0_isLatin1_aae02 : GoodIn wsJ0_charAt_5068e (wsV RJ0 492 RJ0 yJ0_isLatin1_aae02 wsJ0_isLatin1_aae02) := goodIn_app (goodIn_of _ (by decide +kernel)) ggJ0_charAt_5068e_J0_isLatin1_aae02
set_option maxRecDepth 20000 in
theorem ggJ0_charAt_5068e_J1_charAt_3b067 : GoodIn wsJ0_charAt_5068e wsJ1_charAt_3b067 := goodIn_r _ [12, 13, 14, 5, 15, 16, 17, 18, 19, 20] (by decide +kernel) (by decide +kernel)
set_option maxRecDepth 20000 in
theorem gJ0_charAt_5068e_J1_charAt_3b067 : GoodIn wsJ0_charAt_5068e (va_wsS RJ0 495 yJ1_charAt_3b067 wsJ1_charAt_3b067) := goodIn_app (goodIn_of _ (by decide +kernel)) ggJ0_charAt_5068e_J1_charAt_3b067
set_option maxRecDepth 20000 in
theorem ggJ0_charAt_5068e_J2_charAt_3b067 : GoodIn wsJ0_charAt_5068e wsJ2_charAt_3b067 := goodIn_r _ [24, 25, 26, 23, 27, 28, 29, 30, 31, 14, 5, 15, 16, 17, 18, 19, 20, 32, 33, 34, 35, 36, 37] (by decide +kernel) (by decide +kernel)
set_option maxRecDepth 20000 in
theorem gJ0_charAt_5068e_J2_charAt_3b067 : GoodIn wsJ0_charAt_5068e (va_wsS RJ0 498 yJ2_charAt_3b067 wsJ2_charAt_3b067) := goodIn_app (goodIn_of _ (by decide +kernel)) ggJ0_charAt_5068e_J2_charAt_3b067
theorem dJ0_charAt_5068e_0 : decode cJ0_charAt_5068e 0 = .ok (.aload_n 0, 1) := by decide +kernel
theorem dJ0_charAt_5068e_1 : decode cJ0_charAt_5068e 1 = .ok (.invokevirtual 492, 3) := by decide +kernel
theorem dJ0_charAt_5068e_4 : decode cJ0_charAt_5068e 4 = .ok (.ifCond .eq 12, 3) := by decide +kernel
theorem dJ0_charAt_5068e_7 : decode cJ0_charAt_5068e 7 = .ok (.aload_n 0, 1) := by decide +kernel
theorem dJ0_charAt_5068e_8 : decode cJ0_charAt_5068e 8 = .ok (.getfield 9, 3) := by decide +kernel
theorem dJ0_charAt_5068e_11 : decode cJ0_charAt_5068e 11 = .ok (.iload_n 1, 1) := by decide +kernel
theorem dJ0_charAt_5068e_12 : decode cJ0_charAt_5068e 12 = .ok (.invokestatic 495, 3) := by decide +kernel
theorem dJ0_charAt_5068e_15 : decode cJ0_charAt_5068e 15 = .ok (.ireturn, 1) := by decide +kernel
theorem dJ0_charAt_5068e_16 : decode cJ0_charAt_5068e 16 = .ok (.aload_n 0, 1) := by decide +kernel
theorem dJ0_charAt_5068e_17 : decode cJ0_charAt_5068e 17 = .ok (.getfield 9, 3) := by decide +kernel
theorem dJ0_charAt_5068e_20 : decode cJ0_charAt_5068e 20 = .ok (.iload_n 1, 1) := by decide +kernel
theorem dJ0_charAt_5068e_21 : decode cJ0_charAt_5068e 21 = .ok (.invokestatic 498, 3) := by decide +kernel
theorem dJ0_charAt_5068e_24 : decode cJ0_charAt_5068e 24 = .ok (.ireturn, 1) := by decide +kernel
theorem dJ0_coder_7d493_0 : decode cJ0_coder_7d493 0 = .ok (.getstatic 38, 3) := by decide +kernel
theorem dJ0_coder_7d493_3 : decode cJ0_coder_7d493 3 = .ok (.ifCond .eq 10, 3) := by decide +kernel
theorem dJ0_coder_7d493_6 : decode cJ0_coder_7d493 6 = .ok (.aload_n 0, 1) := by decide +kernel
theorem dJ0_coder_7d493_7 : decode cJ0_coder_7d493 7 = .ok (.getfield 15, 3) := by decide +kernel
theorem dJ0_coder_7d493_10 : decode cJ0_coder_7d493 10 = .ok (.goto 4, 3) := by decide +kernel
theorem dJ0_coder_7d493_13 : decode cJ0_coder_7d493 13 = .ok (.iconst 1, 1) := by decide +kernel
theorem dJ0_coder_7d493_14 : decode cJ0_coder_7d493 14 = .ok (.ireturn, 1) := by decide +kernel
theorem dJ0_isLatin1_aae02_0 : decode cJ0_isLatin1_aae02 0 = .ok (.getstatic 38, 3) := by decide +kernel
theorem dJ0_isLatin1_aae02_3 : decode cJ0_isLatin1_aae02 3 = .ok (.ifCond .eq 14, 3) := by decide +kernel
theorem dJ0_isLatin1_aae02_6 : decode cJ0_isLatin1_aae02 6 = .ok (.aload_n 0, 1) := by decide +kernel
theorem dJ0_isLatin1_aae02_7 : decode cJ0_isLatin1_aae02 7 = .ok (.getfield 15, 3) := by decide +kernel
theorem dJ0_isLatin1_aae02_10 : decode cJ0_isLatin1_aae02 10 = .ok (.ifCond .ne 7, 3) := by decide +kernel
theorem dJ0_isLatin1_aae02_13 : decode cJ0_isLatin1_aae02 13 = .ok (.iconst 1, 1) := by decide +kernel
theorem dJ0_isLatin1_aae02_14 : decode cJ0_isLatin1_aae02 14 = .ok (.goto 4, 3) := by decide +kernel
theorem dJ0_isLatin1_aae02_17 : decode cJ0_isLatin1_aae02 17 = .ok (.iconst 0, 1) := by decide +kernel
theorem dJ0_isLatin1_aae02_18 : decode cJ0_isLatin1_aae02 18 = .ok (.ireturn, 1) := by decide +kernel
set_option maxRecDepth 20000 in
theorem ggJ0_checkIndex_df160_J3_checkIndex_8e157 : GoodIn wsJ0_checkIndex_df160 wsJ3_checkIndex_8e157 := goodIn_r _ [5] (by decide +kernel) (by decide +kernel)
set_option maxRecDepth 20000 in
theorem gJ0_checkIndex_df160_J3_checkIndex_8e157 : GoodIn wsJ0_checkIndex_df160 (va_wsS RJ0 1059 yJ3_checkIndex_8e157 wsJ3_checkIndex_8e157) := goodIn_app (goodIn_of _ (by decide +kernel)) ggJ0_checkIndex_df160_J3_checkIndex_8e157
theorem dJ0_checkIndex_df160_0 : decode cJ0_checkIndex_df160 0 = .ok (.iload_n 0, 1) := by decide +kernel
theorem dJ0_checkIndex_df160_1 : decode cJ0_checkIndex_df160 1 = .ok (.iload_n 1, 1) := by decide +kernel
theorem dJ0_checkIndex_df160_2 : decode cJ0_checkIndex_df160 2 = .ok (.getstatic 1053, 3) := by decide +kernel
theorem dJ0_checkIndex_df160_5 : decode cJ0_checkIndex_df160 5 = .ok (.invokestatic 1059, 3) := by decide +kernel
theorem dJ0_checkIndex_df160_8 : decode cJ0_checkIndex_df160 8 = .ok (.pop, 1) := by decide +kernel
theorem dJ0_checkIndex_df160_9 : decode cJ0_checkIndex_df160 9 = .ok (.return_, 1) := by decide +kernel
set_option maxRecDepth 20000 in
theorem ggJ1_charAt_3b067_J0_checkIndex_df160 : GoodIn wsJ1_charAt_3b067 wsJ0_checkIndex_df160 := goodIn_r _ [4, 5, 6, 7, 8, 9] (by decide +kernel) (by decide +kernel)
set_option maxRecDepth 20000 in
theorem gJ1_charAt_3b067_J0_checkIndex_df160 : GoodIn wsJ1_charAt_3b067 (va_wsS RJ1 9 yJ0_checkIndex_df160 wsJ0_checkIndex_df160) := goodIn_app (goodIn_of _ (by decide +kernel)) ggJ1_charAt_3b067_J0_checkIndex_df160
theorem dJ1_charAt_3b067_0 : decode cJ1_charAt_3b067 0 = .ok (.iload_n 1, 1) := by decide +kernel
theorem dJ1_charAt_3b067_1 : decode cJ1_charAt_3b067 1 = .ok (.aload_n 0, 1) := by decide +kernel
theorem dJ1_charAt_3b067_2 : decode cJ1_charAt_3b067 2 = .ok (.arraylength, 1) := by decide +kernel
theorem dJ1_charAt_3b067_3 : decode cJ1_charAt_3b067 3 = .ok (.invokestatic 9, 3) := by decide +kernel
theorem dJ1_charAt_3b067_6 : decode cJ1_charAt_3b067 6 = .ok (.aload_n 0, 1) := by decide +kernel
theorem dJ1_charAt_3b067_7 : decode cJ1_charAt_3b067 7 = .ok (.iload_n 1, 1) := by decide +kernel
theorem dJ1_charAt_3b067_8 : decode cJ1_charAt_3b067 8 = .ok (.baload, 1) := by decide +kernel
theorem dJ1_charAt_3b067_9 : decode cJ1_charAt_3b067 9 = .ok (.sipush 255, 3) := by decide +kernel
theorem dJ1_charAt_3b067_12 : decode cJ1_charAt_3b067 12 = .ok (.iand, 1) := by decide +kernel
theorem dJ1_charAt_3b067_13 : decode cJ1_charAt_3b067 13 = .ok (.i2c, 1) := by decide +kernel
theorem dJ1_charAt_3b067_14 : decode cJ1_charAt_3b067 14 = .ok (.ireturn, 1) := by decide +kernel
set_option maxRecDepth 20000 in
theorem ggJ2_getChar_3b067_J2_length_9d52b : GoodIn wsJ2_getChar_3b067 wsJ2_length_9d52b := goodIn_r _ [7] (by decide +kernel) (by decide +kernel)
set_option maxRecDepth 20000 in
theorem gJ2_getChar_3b067_J2_length_9d52b : GoodIn wsJ2_getChar_3b067 (va_wsS RJ2 48 yJ2_length_9d52b wsJ2_length_9d52b) := goodIn_app (goodIn_of _ (by decide +kernel)) ggJ2_getChar_3b067_J2_length_9d52b
theorem dJ2_getChar_3b067_0 : decode cJ2_getChar_3b067 0 = .ok (.getstatic 44, 3) := by decide +kernel
theorem dJ2_getChar_3b067_3 : decode cJ2_getChar_3b067 3 = .ok (.ifCond .ne 25, 3) := by decide +kernel
theorem dJ2_getChar_3b067_6 : decode cJ2_getChar_3b067 6 = .ok (.iload_n 1, 1) := by decide +kernel
theorem dJ2_getChar_3b067_7 : decode cJ2_getChar_3b067 7 = .ok (.ifCond .lt 11, 3) := by decide +kernel
theorem dJ2_getChar_3b067_10 : decode cJ2_getChar_3b067 10 = .ok (.iload_n 1, 1) := by decide +kernel
theorem dJ2_getChar_3b067_11 : decode cJ2_getChar_3b067 11 = .ok (.aload_n 0, 1) := by decide +kernel
theorem dJ2_getChar_3b067_12 : decode cJ2_getChar_3b067 12 = .ok (.invokestatic 48, 3) := by decide +kernel
theorem dJ2_getChar_3b067_15 : decode cJ2_getChar_3b067 15 = .ok (.if_icmp .lt 13, 3) := by decide +kernel
theorem dJ2_getChar_3b067_18 : decode cJ2_getChar_3b067 18 = .ok (.new 52, 3) := by decide +kernel
theorem dJ2_getChar_3b067_21 : decode cJ2_getChar_3b067 21 = .ok (.dup, 1) := by decide +kernel
theorem dJ2_getChar_3b067_22 : decode cJ2_getChar_3b067 22 = .ok (.ldc 54, 2) := by decide +kernel
theorem dJ2_getChar_3b067_24 : decode cJ2_getChar_3b067 24 = .ok (.invokespecial 56, 3) := by decide +kernel
theorem dJ2_getChar_3b067_27 : decode cJ2_getChar_3b067 27 = .ok (.athrow, 1) := by decide +kernel
theorem dJ2_getChar_3b067_28 : decode cJ2_getChar_3b067 28 = .ok (.iload_n 1, 1) := by decide +kernel
theorem dJ2_getChar_3b067_29 : decode cJ2_getChar_3b067 29 = .ok (.iconst 1, 1) := by decide +kernel
theorem dJ2_getChar_3b067_30 : decode cJ2_getChar_3b067 30 = .ok (.ishl, 1) := by decide +kernel
theorem dJ2_getChar_3b067_31 : decode cJ2_getChar_3b067 31 = .ok (.istore_n 1, 1) := by decide +kernel
theorem dJ2_getChar_3b067_32 : decode cJ2_getChar_3b067 32 = .ok (.aload_n 0, 1) := by decide +kernel
theorem dJ2_getChar_3b067_33 : decode cJ2_getChar_3b067 33 = .ok (.iload_n 1, 1) := by decide +kernel
theorem dJ2_getChar_3b067_34 : decode cJ2_getChar_3b067 34 = .ok (.iinc 1 1, 3) := by decide +kernel
theorem dJ2_getChar_3b067_37 : decode cJ2_getChar_3b067 37 = .ok (.baload, 1) := by decide +kernel
theorem dJ2_getChar_3b067_38 : decode cJ2_getChar_3b067 38 = .ok (.sipush 255, 3) := by decide +kernel
theorem dJ2_getChar_3b067_41 : decode cJ2_getChar_3b067 41 = .ok (.iand, 1) := by decide +kernel
theorem dJ2_getChar_3b067_42 : decode cJ2_getChar_3b067 42 = .ok (.getstatic 59, 3) := by decide +kernel
theorem dJ2_getChar_3b067_45 : decode cJ2_getChar_3b067 45 = .ok (.ishl, 1) := by decide +kernel
theorem dJ2_getChar_3b067_46 : decode cJ2_getChar_3b067 46 = .ok (.aload_n 0, 1) := by decide +kernel
theorem dJ2_getChar_3b067_47 : decode cJ2_getChar_3b067 47 = .ok (.iload_n 1, 1) := by decide +kernel
theorem dJ2_getChar_3b067_48 : decode cJ2_getChar_3b067 48 = .ok (.baload, 1) := by decide +kernel
theorem dJ2_getChar_3b067_49 : decode cJ2_getChar_3b067 49 = .ok (.sipush 255, 3) := by decide +kernel
theorem dJ2_getChar_3b067_52 : decode cJ2_getChar_3b067 52 = .ok (.iand, 1) := by decide +kernel
theorem dJ2_getChar_3b067_53 : decode cJ2_getChar_3b067 53 = .ok (.getstatic 63, 3) := by decide +kernel
theorem dJ2_getChar_3b067_56 : decode cJ2_getChar_3b067 56 = .ok (.ishl, 1) := by decide +kernel
theorem dJ2_getChar_3b067_57 : decode cJ2_getChar_3b067 57 = .ok (.ior, 1) := by decide +kernel
theorem dJ2_getChar_3b067_58 : decode cJ2_getChar_3b067 58 = .ok (.i2c, 1) := by decide +kernel
theorem dJ2_getChar_3b067_59 : decode cJ2_getChar_3b067 59 = .ok (.ireturn, 1) := by decide +kernel
theorem dJ2_length_9d52b_0 : decode cJ2_length_9d52b 0 = .ok (.aload_n 0, 1) := by decide +kernel
theorem dJ2_length_9d52b_1 : decode cJ2_length_9d52b 1 = .ok (.arraylength, 1) := by decide +kernel
theorem dJ2_length_9d52b_2 : decode cJ2_length_9d52b 2 = .ok (.iconst 1, 1) := by decide +kernel
theorem dJ2_length_9d52b_3 : decode cJ2_length_9d52b 3 = .ok (.ishr, 1) := by decide +kernel
theorem dJ2_length_9d52b_4 : decode cJ2_length_9d52b 4 = .ok (.ireturn, 1) := by decide +kernel
set_option maxRecDepth 20000 in
theorem ggJ2_charAt_3b067_J2_checkIndex_2214a : GoodIn wsJ2_charAt_3b067 wsJ2_checkIndex_2214a := goodIn_r _ [4, 5, 6, 3, 7, 8, 9, 10, 11, 12, 13, 14, 15, 16] (by decide +kernel) (by decide +kernel)
set_option maxRecDepth 20000 in
theorem gJ2_charAt_3b067_J2_checkIndex_2214a : GoodIn wsJ2_charAt_3b067 (va_wsS RJ2 67 yJ2_checkIndex_2214a wsJ2_checkIndex_2214a) := goodIn_app (goodIn_of _ (by decide +kernel)) ggJ2_charAt_3b067_J2_checkIndex_2214a
set_option maxRecDepth 20000 in
theorem ggJ2_charAt_3b067_J2_getChar_3b067 : GoodIn wsJ2_charAt_3b067 wsJ2_getChar_3b067 := goodIn_r _ [19, 20, 21, 22, 5, 6, 3, 7] (by decide +kernel) (by decide +kernel)
set_option maxRecDepth 20000 in
theorem gJ2_charAt_3b067_J2_getChar_3b067 : GoodIn wsJ2_charAt_3b067 (va_wsS RJ2 71 yJ2_getChar_3b067 wsJ2_getChar_3b067) := goodIn_app (goodIn_of _ (by decide +kernel)) ggJ2_charAt_3b067_J2_getChar_3b067
theorem dJ2_charAt_3b067_0 : decode cJ2_charAt_3b067 0 = .ok (.iload_n 1, 1) := by decide +kernel
theorem dJ2_charAt_3b067_1 : decode cJ2_charAt_3b067 1 = .ok (.aload_n 0, 1) := by decide +kernel
theorem dJ2_charAt_3b067_2 : decode cJ2_charAt_3b067 2 = .ok (.invokestatic 67, 3) := by decide +kernel
theorem dJ2_charAt_3b067_5 : decode cJ2_charAt_3b067 5 = .ok (.aload_n 0, 1) := by decide +kernel
theorem dJ2_charAt_3b067_6 : decode cJ2_charAt_3b067 6 = .ok (.iload_n 1, 1) := by decide +kernel
theorem dJ2_charAt_3b067_7 : decode cJ2_charAt_3b067 7 = .ok (.invokestatic 71, 3) := by decide +kernel
theorem dJ2_charAt_3b067_10 : decode cJ2_charAt_3b067 10 = .ok (.ireturn, 1) := by decide +kernel
set_option maxRecDepth 20000 in
theorem ggJ2_checkIndex_2214a_J2_length_9d52b : GoodIn wsJ2_checkIndex_2214a wsJ2_length_9d52b := goodIn_r _ [4] (by decide +kernel) (by decide +kernel)
set_option maxRecDepth 20000 in
theorem gJ2_checkIndex_2214a_J2_length_9d52b : GoodIn wsJ2_checkIndex_2214a (va_wsS RJ2 48 yJ2_length_9d52b wsJ2_length_9d52b) := goodIn_app (goodIn_of _ (by decide +kernel)) ggJ2_checkIndex_2214a_J2_length_9d52b
set_option maxRecDepth 20000 in
theorem ggJ2_checkIndex_2214a_J0_checkIndex_df160 : GoodIn wsJ2_checkIndex_2214a wsJ0_checkIndex_df160 := goodIn_r _ [8, 9, 10, 11, 12, 13] (by decide +kernel) (by decide +kernel)
set_option maxRecDepth 20000 in
theorem gJ2_checkIndex_2214a_J0_checkIndex_df160 : GoodIn wsJ2_checkIndex_2214a (va_wsS RJ2 414 yJ0_checkIndex_df160 wsJ0_checkIndex_df160) := goodIn_app (goodIn_of _ (by decide +kernel)) ggJ2_checkIndex_2214a_J0_checkIndex_df160
theorem dJ2_checkIndex_2214a_0 : decode cJ2_checkIndex_2214a 0 = .ok (.iload_n 0, 1) := by decide +kernel
theorem dJ2_checkIndex_2214a_1 : decode cJ2_checkIndex_2214a 1 = .ok (.aload_n 1, 1) := by decide +kernel
theorem dJ2_checkIndex_2214a_2 : decode cJ2_checkIndex_2214a 2 = .ok (.invokestatic 48, 3) := by decide +kernel
theorem dJ2_checkIndex_2214a_5 : decode cJ2_checkIndex_2214a 5 = .ok (.invokestatic 414, 3) := by decide +kernel
theorem dJ2_checkIndex_2214a_8 : decode cJ2_checkIndex_2214a 8 = .ok (.return_, 1) := by decide +kernel
theorem dJ3_checkIndex_8e157_0 : decode cJ3_checkIndex_8e157 0 = .ok (.iload_n 0, 1) := by decide +kernel
theorem dJ3_checkIndex_8e157_1 : decode cJ3_checkIndex_8e157 1 = .ok (.ifCond .lt 8, 3) := by decide +kernel
theorem dJ3_checkIndex_8e157_4 : decode cJ3_checkIndex_8e157 4 = .ok (.iload_n 0, 1) := by decide +kernel
theorem dJ3_checkIndex_8e157_5 : decode cJ3_checkIndex_8e157 5 = .ok (.iload_n 1, 1) := by decide +kernel
theorem dJ3_checkIndex_8e157_6 : decode cJ3_checkIndex_8e157 6 = .ok (.if_icmp .lt 10, 3) := by decide +kernel
theorem dJ3_checkIndex_8e157_9 : decode cJ3_checkIndex_8e157 9 = .ok (.aload_n 2, 1) := by decide +kernel
theorem dJ3_checkIndex_8e157_10 : decode cJ3_checkIndex_8e157 10 = .ok (.iload_n 0, 1) := by decide +kernel
theorem dJ3_checkIndex_8e157_11 : decode cJ3_checkIndex_8e157 11 = .ok (.iload_n 1, 1) := by decide +kernel
theorem dJ3_checkIndex_8e157_12 : decode cJ3_checkIndex_8e157 12 = .ok (.invokestatic 95, 3) := by decide +kernel
theorem dJ3_checkIndex_8e157_15 : decode cJ3_checkIndex_8e157 15 = .ok (.athrow, 1) := by decide +kernel
theorem dJ3_checkIndex_8e157_16 : decode cJ3_checkIndex_8e157 16 = .ok (.iload_n 0, 1) := by decide +kernel
theorem dJ3_checkIndex_8e157_17 : decode cJ3_checkIndex_8e157 17 = .ok (.ireturn, 1) := by decide +kernel
set_option maxRecDepth 20000 in
theorem ggL_law_X10_init : GoodIn wsL_law wsX10_init := goodIn_r _ [8, 9, 10, 11, 12, 13, 14, 15, 16, 17, 18, 19, 20, 21, 22, 23, 24, 25, 26, 27, 28, 29, 30, 31, 32, 33, 34, 35, 36, 37, 38, 39, 40, 41, 42, 43, 44, 45, 46, 47, 48, 49, 50, 51, 52, 53, 54, 55, 56, 57, 58, 59, 60, 61, 62, 63, 64, 65, 66, 67, 68, 69, 70, 71, 72, 73, 74, 75, 76, 77, 78, 79, 80, 81, 82, 83, 84, 85, 86, 87, 88, 89, 90, 91, 92, 93, 94, 95, 96, 97, 98, 99, 100, 101, 102, 103, 104, 105, 106, 107, 108, 109, 110, 111, 112, 113, 1066, 1067, 1068, 1069, 1070, 1071, 1045, 1046, 1047, 1048, 1049, 1050, 1051, 1072, 1073, 1074, 1075, 1076, 1077, 1078, 1079, 1080, 1081, 1082, 1083, 1084, 1085, 1086, 1087, 1088, 1089, 1090, 1091, 1092, 1093, 1094, 1095, 1096, 1097, 1098, 1099, 1100, 1101, 1102, 1103, 1104, 1105, 1106, 1107, 1108, 1109, 1110, 1111, 1112, 1113, 1114, 1115] (by decide +kernel) (by decide +kernel)
set_option maxRecDepth 20000 in
theorem gL_law_X10_init : GoodIn wsL_law (wsX10_init) := ggL_law_X10_init
set_option maxRecDepth 20000 in
theorem ggL_law_X11_init : GoodIn wsL_law wsX11_init := goodIn_r _ [116, 117, 10, 11, 49, 118, 119, 120, 121, 122, 123, 1052, 1053, 1054, 1055, 1056, 1057, 1058, 1059, 1060, 1061, 1062, 1063, 1064, 1065] (by decide +kernel) (by decide +kernel)
set_option maxRecDepth 20000 in
theorem gL_law_X11_init : GoodIn wsL_law (wsX11_init) := ggL_law_X11_init
set_option maxRecDepth 20000 in
theorem ggL_law_X10_station : GoodIn wsL_law wsX10_station := goodIn_r _ [127, 128, 129, 130, 2, 131, 16, 15, 132, 133, 134, 14, 135, 36, 40, 44, 48, 50, 136, 137, 138, 139, 140, 141, 142, 143, 35, 144, 145, 54, 146, 55, 56, 57, 147, 148, 149, 39, 150, 151, 61, 152, 62, 63, 64, 65, 66, 153, 154, 155, 43, 156, 157, 70, 158, 71, 72, 73, 74, 75, 76, 77, 78, 159, 160, 161, 47, 162, 163, 82, 164, 83, 84, 165, 166, 167, 168, 169, 170, 171, 172, 173, 174, 175, 176, 21, 177, 178, 179, 20, 180, 181, 182, 89, 183, 1045, 1046, 1047, 1048, 1049, 1050, 1051, 1066, 1067, 1068, 1069, 1070, 1071, 1090, 1091, 1092, 1093, 1094, 1095, 1096, 1097, 1098, 1099, 1100, 1101, 1102, 1103, 1104, 1105, 1106, 1107, 1108, 1109, 1110, 1111, 1112, 1113, 1114, 1115, 1072, 1073, 1074] (by decide +kernel) (by decide +kernel)
set_option maxRecDepth 20000 in
theorem gL_law_X10_station : GoodIn wsL_law (wsV RL 13 RX10 yX10_station wsX10_station) := goodIn_app (goodIn_of _ (by decide +kernel)) ggL_law_X10_station
set_option maxRecDepth 20000 in
theorem ggL_law_X11_station : GoodIn wsL_law wsX11_station := goodIn_r _ [187, 118, 188, 189, 5, 190, 191, 192, 193, 194, 195, 196, 119, 1052, 1053, 1054, 1055, 1056, 1057, 1058, 1059, 1060, 1061, 1062, 1063, 1064, 1065] (by decide +kernel) (by decide +kernel)
set_option maxRecDepth 20000 in
theorem gL_law_X11_station : GoodIn wsL_law (wsV RL 17 RX11 yX11_station wsX11_station) := goodIn_app (goodIn_of _ (by decide +kernel)) ggL_law_X11_station
set_option maxRecDepth 20000 in
theorem ggL_law_X10_bicycle : GoodIn wsL_law wsX10_bicycle := goodIn_r _ [200, 128, 129, 130, 2, 131, 16, 15, 132, 133, 134, 14, 135, 36, 40, 44, 48, 50, 136, 137, 138, 139, 140, 141, 142, 143, 35, 144, 145, 54, 146, 55, 56, 57, 147, 148, 149, 39, 150, 151, 61, 152, 62, 63, 64, 65, 66, 153, 154, 155, 43, 156, 157, 70, 158, 71, 72, 73, 74, 75, 76, 77, 78, 159, 160, 161, 47, 162, 163, 82, 164, 83, 84, 201, 202, 203, 204, 205, 206, 207, 208, 209, 210, 211, 212, 213, 214, 215, 216, 217, 218, 219, 220, 221, 222, 223, 224, 225, 173, 174, 175, 176, 21, 177, 178, 179, 20, 180, 181, 182, 89, 183, 1045, 1046, 1047, 1048, 1049, 1050, 1051, 1066, 1067, 1068, 1069, 1070, 1071, 1090, 1091, 1092, 1093, 1094, 1095, 1096, 1097, 1098, 1099, 1100, 1101, 1102, 1103, 1104, 1105, 1106, 1107, 1108, 1109, 1110, 1111, 1112, 1113, 1114, 1115, 1072, 1073, 1074] (by decide +kernel) (by decide +kernel)
set_option maxRecDepth 20000 in
theorem gL_law_X10_bicycle : GoodIn wsL_law (wsV RL 18 RX10 yX10_bicycle wsX10_bicycle) := goodIn_app (goodIn_of _ (by decide +kernel)) ggL_law_X10_bicycle
set_option maxRecDepth 20000 in
theorem ggL_law_X11_bicycle : GoodIn wsL_law wsX11_bicycle := goodIn_r _ [229, 118, 230, 231, 232, 5, 233, 234, 235, 236, 237, 238, 239, 240, 241, 242, 243, 244, 245, 246, 247, 248, 249, 250, 251, 252, 253, 254, 255, 256, 191, 192, 193, 194, 195, 196, 119, 257, 258, 259, 260, 1052, 1053, 1054, 1055, 1056, 1057, 1058, 1059, 1060, 1061, 1062, 1063, 1064, 1065] (by decide +kernel) (by decide +kernel)
set_option maxRecDepth 20000 in
theorem gL_law_X11_bicycle : GoodIn wsL_law (wsV RL 22 RX11 yX11_bicycle wsX11_bicycle) := goodIn_app (goodIn_of _ (by decide +kernel)) ggL_law_X11_bicycle
set_option maxRecDepth 20000 in
theorem ggL_law_X10_rider : GoodIn wsL_law wsX10_rider := goodIn_r _ [264, 128, 129, 130, 2, 131, 16, 15, 132, 133, 134, 14, 135, 36, 40, 44, 48, 50, 136, 137, 138, 139, 140, 141, 142, 143, 35, 144, 145, 54, 146, 55, 56, 57, 147, 148, 149, 39, 150, 151, 61, 152, 62, 63, 64, 65, 66, 153, 154, 155, 43, 156, 157, 70, 158, 71, 72, 73, 74, 75, 76, 77, 78, 159, 160, 161, 47, 162, 163, 82, 164, 83, 84, 265, 266, 267, 268, 269, 270, 271, 272, 173, 174, 175, 176, 21, 177, 178, 179, 20, 180, 181, 182, 89, 183, 1045, 1046, 1047, 1048, 1049, 1050, 1051, 1066, 1067, 1068, 1069, 1070, 1071, 1090, 1091, 1092, 1093, 1094, 1095, 1096, 1097, 1098, 1099, 1100, 1101, 1102, 1103, 1104, 1105, 1106, 1107, 1108, 1109, 1110, 1111, 1112, 1113, 1114, 1115, 1072, 1073, 1074] (by decide +kernel) (by decide +kernel)
set_option maxRecDepth 20000 in
theorem gL_law_X10_rider : GoodIn wsL_law (wsV RL 23 RX10 yX10_rider wsX10_rider) := goodIn_app (goodIn_of _ (by decide +kernel)) ggL_law_X10_rider
set_option maxRecDepth 20000 in
theorem ggL_law_X11_rider : GoodIn wsL_law wsX11_rider := goodIn_r _ [276, 118, 191, 192, 193, 5, 194, 195, 196, 119, 1052, 1053, 1054, 1055, 1056, 1057, 1058, 1059, 1060, 1061, 1062, 1063, 1064, 1065] (by decide +kernel) (by decide +kernel)
set_option maxRecDepth 20000 in
theorem gL_law_X11_rider : GoodIn wsL_law (wsV RL 27 RX11 yX11_rider wsX11_rider) := goodIn_app (goodIn_of _ (by decide +kernel)) ggL_law_X11_rider
set_option maxRecDepth 20000 in
theorem ggL_law_X10_van : GoodIn wsL_law wsX10_van := goodIn_r _ [280, 128, 129, 130, 2, 131, 16, 15, 132, 133, 134, 14, 135, 36, 40, 44, 48, 50, 136, 137, 138, 139, 140, 141, 142, 143, 35, 144, 145, 54, 146, 55, 56, 57, 147, 148, 149, 39, 150, 151, 61, 152, 62, 63, 64, 65, 66, 153, 154, 155, 43, 156, 157, 70, 158, 71, 72, 73, 74, 75, 76, 77, 78, 159, 160, 161, 47, 162, 163, 82, 164, 83, 84, 281, 282, 283, 284, 205, 206, 207, 208, 285, 286, 287, 288, 173, 174, 175, 176, 21, 177, 178, 179, 20, 180, 181, 182, 89, 183, 1045, 1046, 1047, 1048, 1049, 1050, 1051, 1066, 1067, 1068, 1069, 1070, 1071, 1090, 1091, 1092, 1093, 1094, 1095, 1096, 1097, 1098, 1099, 1100, 1101, 1102, 1103, 1104, 1105, 1106, 1107, 1108, 1109, 1110, 1111, 1112, 1113, 1114, 1115, 1072, 1073, 1074] (by decide +kernel) (by decide +kernel)
set_option maxRecDepth 20000 in
theorem gL_law_X10_van : GoodIn wsL_law (wsV RL 28 RX10 yX10_van wsX10_van) := goodIn_app (goodIn_of _ (by decide +kernel)) ggL_law_X10_van
set_option maxRecDepth 20000 in
theorem ggL_law_X11_van : GoodIn wsL_law wsX11_van := goodIn_r _ [292, 118, 230, 231, 232, 5, 233, 188, 189, 190, 191, 192, 193, 194, 195, 196, 119, 1052, 1053, 1054, 1055, 1056, 1057, 1058, 1059, 1060, 1061, 1062, 1063, 1064, 1065] (by decide +kernel) (by decide +kernel)
set_option maxRecDepth 20000 in
theorem gL_law_X11_van : GoodIn wsL_law (wsV RL 31 RX11 yX11_van wsX11_van) := goodIn_app (goodIn_of _ (by decide +kernel)) ggL_law_X11_van
set_option maxRecDepth 20000 in
theorem ggL_law_X10_pass : GoodIn wsL_law wsX10_pass := goodIn_r _ [296, 128, 129, 130, 2, 131, 16, 15, 132, 133, 134, 14, 135, 36, 40, 44, 48, 50, 136, 137, 138, 139, 140, 141, 142, 143, 35, 144, 145, 54, 146, 55, 56, 57, 147, 148, 149, 39, 150, 151, 61, 152, 62, 63, 64, 65, 66, 153, 154, 155, 43, 156, 157, 70, 158, 71, 72, 73, 74, 75, 76, 77, 78, 159, 160, 161, 47, 162, 163, 82, 164, 83, 84, 297, 298, 299, 300, 301, 302, 303, 304, 305, 306, 307, 308, 309, 310, 311, 173, 174, 175, 176, 21, 177, 178, 179, 20, 180, 181, 182, 89, 183, 1045, 1046, 1047, 1048, 1049, 1050, 1051, 1066, 1067, 1068, 1069, 1070, 1071, 1090, 1091, 1092, 1093, 1094, 1095, 1096, 1097, 1098, 1099, 1100, 1101, 1102, 1103, 1104, 1105, 1106, 1107, 1108, 1109, 1110, 1111, 1112, 1113, 1114, 1115, 1072, 1073, 1074] (by decide +kernel) (by decide +kernel)
set_option maxRecDepth 20000 in
theorem gL_law_X10_pass : GoodIn wsL_law (wsV RL 32 RX10 yX10_pass wsX10_pass) := goodIn_app (goodIn_of _ (by decide +kernel)) ggL_law_X10_pass
set_option maxRecDepth 20000 in
theorem ggL_law_X11_pass : GoodIn wsL_law wsX11_pass := goodIn_r _ [315, 118, 316, 317, 318, 5, 319, 320, 321, 322, 323, 324, 325, 326, 327, 191, 192, 193, 194, 195, 196, 119, 1052, 1053, 1054, 1055, 1056, 1057, 1058, 1059, 1060, 1061, 1062, 1063, 1064, 1065] (by decide +kernel) (by decide +kernel)
set_option maxRecDepth 20000 in
theorem gL_law_X11_pass : GoodIn wsL_law (wsV RL 35 RX11 yX11_pass wsX11_pass) := goodIn_app (goodIn_of _ (by decide +kernel)) ggL_law_X11_pass
set_option maxRecDepth 20000 in
theorem ggL_law_X10_rent : GoodIn wsL_law wsX10_rent := goodIn_r _ [331, 128, 129, 130, 2, 131, 16, 15, 132, 133, 134, 14, 135, 36, 40, 44, 48, 50, 136, 137, 138, 139, 140, 141, 142, 143, 35, 144, 145, 54, 146, 55, 56, 57, 147, 148, 149, 39, 150, 151, 61, 152, 62, 63, 64, 65, 66, 153, 154, 155, 43, 156, 157, 70, 158, 71, 72, 73, 74, 75, 76, 77, 78, 159, 160, 161, 47, 162, 163, 82, 164, 83, 84, 332, 333, 334, 335, 301, 336, 337, 338, 339, 340, 341, 308, 309, 310, 311, 205, 206, 207, 208, 342, 343, 344, 345, 346, 347, 348, 349, 350, 351, 352, 353, 354, 355, 356, 357, 358, 359, 360, 361, 362, 363, 173, 174, 175, 176, 21, 177, 178, 179, 20, 180, 181, 182, 89, 183, 1045, 1046, 1047, 1048, 1049, 1050, 1051, 1066, 1067, 1068, 1069, 1070, 1071, 1090, 1091, 1092, 1093, 1094, 1095, 1096, 1097, 1098, 1099, 1100, 1101, 1102, 1103, 1104, 1105, 1106, 1107, 1108, 1109, 1110, 1111, 1112, 1113, 1114, 1115, 1072, 1073, 1074] (by decide +kernel) (by decide +kernel)
set_option maxRecDepth 20000 in
theorem gL_law_X10_rent : GoodIn wsL_law (wsV RL 36 RX10 yX10_rent wsX10_rent) := goodIn_app (goodIn_of _ (by decide +kernel)) ggL_law_X10_rent
set_option maxRecDepth 20000 in
theorem ggL_law_X11_rent : GoodIn wsL_law wsX11_rent := goodIn_r _ [367, 118, 316, 317, 318, 5, 319, 230, 231, 232, 233, 246, 247, 248, 249, 368, 369, 370, 371, 324, 325, 326, 327, 191, 192, 193, 194, 195, 196, 119, 257, 258, 259, 260, 320, 321, 322, 323, 1052, 1053, 1054, 1055, 1056, 1057, 1058, 1059, 1060, 1061, 1062, 1063, 1064, 1065] (by decide +kernel) (by decide +kernel)
set_option maxRecDepth 20000 in
theorem gL_law_X11_rent : GoodIn wsL_law (wsV RL 39 RX11 yX11_rent wsX11_rent) := goodIn_app (goodIn_of _ (by decide +kernel)) ggL_law_X11_rent
set_option maxRecDepth 20000 in
theorem ggL_law_X10_back : GoodIn wsL_law wsX10_back := goodIn_r _ [375, 128, 129, 130, 2, 131, 16, 15, 132, 133, 134, 14, 135, 36, 40, 44, 48, 50, 136, 137, 138, 139, 140, 141, 142, 143, 35, 144, 145, 54, 146, 55, 56, 57, 147, 148, 149, 39, 150, 151, 61, 152, 62, 63, 64, 65, 66, 153, 154, 155, 43, 156, 157, 70, 158, 71, 72, 73, 74, 75, 76, 77, 78, 159, 160, 161, 47, 162, 163, 82, 164, 83, 84, 376, 377, 378, 379, 336, 380, 381, 307, 382, 383, 308, 309, 310, 311, 205, 206, 207, 208, 359, 351, 352, 353, 209, 210, 211, 212, 213, 214, 215, 216, 217, 218, 219, 220, 221, 384, 385, 386, 387, 388, 303, 304, 305, 389, 355, 356, 357, 358, 390, 391, 392, 393, 394, 360, 361, 362, 363, 350, 173, 174, 175, 176, 21, 177, 178, 179, 20, 180, 181, 182, 89, 183, 1045, 1046, 1047, 1048, 1049, 1050, 1051, 1066, 1067, 1068, 1069, 1070, 1071, 1090, 1091, 1092, 1093, 1094, 1095, 1096, 1097, 1098, 1099, 1100, 1101, 1102, 1103, 1104, 1105, 1106, 1107, 1108, 1109, 1110, 1111, 1112, 1113, 1114, 1115, 1072, 1073, 1074] (by decide +kernel) (by decide +kernel)
set_option maxRecDepth 20000 in
theorem gL_law_X10_back : GoodIn wsL_law (wsV RL 40 RX10 yX10_back wsX10_back) := goodIn_app (goodIn_of _ (by decide +kernel)) ggL_law_X10_back
set_option maxRecDepth 20000 in
theorem ggL_law_X11_back : GoodIn wsL_law wsX11_back := goodIn_r _ [398, 118, 316, 317, 318, 5, 319, 230, 231, 232, 233, 368, 369, 370, 371, 324, 325, 326, 327, 234, 235, 236, 237, 238, 239, 240, 241, 242, 243, 244, 245, 246, 247, 248, 249, 250, 251, 252, 253, 254, 255, 256, 191, 192, 193, 194, 195, 196, 119, 399, 400, 401, 402, 257, 258, 259, 260, 1052, 1053, 1054, 1055, 1056, 1057, 1058, 1059, 1060, 1061, 1062, 1063, 1064, 1065] (by decide +kernel) (by decide +kernel)
set_option maxRecDepth 20000 in
theorem gL_law_X11_back : GoodIn wsL_law (wsV RL 43 RX11 yX11_back wsX11_back) := goodIn_app (goodIn_of _ (by decide +kernel)) ggL_law_X11_back
set_option maxRecDepth 20000 in
theorem ggL_law_X10_full : GoodIn wsL_law wsX10_full := goodIn_r _ [406, 128, 129, 130, 2, 131, 16, 15, 132, 133, 134, 14, 135, 36, 40, 44, 48, 50, 136, 137, 138, 139, 140, 141, 142, 143, 35, 144, 145, 54, 146, 55, 56, 57, 147, 148, 149, 39, 150, 151, 61, 152, 62, 63, 64, 65, 66, 153, 154, 155, 43, 156, 157, 70, 158, 71, 72, 73, 74, 75, 76, 77, 78, 159, 160, 161, 47, 162, 163, 82, 164, 83, 84, 407, 408, 409, 410, 340, 338, 308, 309, 310, 311, 205, 206, 207, 208, 354, 355, 356, 357, 358, 209, 210, 211, 212, 213, 214, 215, 216, 217, 218, 219, 220, 221, 173, 174, 175, 176, 21, 177, 178, 179, 20, 180, 181, 182, 89, 183, 1045, 1046, 1047, 1048, 1049, 1050, 1051, 1066, 1067, 1068, 1069, 1070, 1071, 1090, 1091, 1092, 1093, 1094, 1095, 1096, 1097, 1098, 1099, 1100, 1101, 1102, 1103, 1104, 1105, 1106, 1107, 1108, 1109, 1110, 1111, 1112, 1113, 1114, 1115, 1072, 1073, 1074] (by decide +kernel) (by decide +kernel)
set_option maxRecDepth 20000 in
theorem gL_law_X10_full : GoodIn wsL_law (wsV RL 44 RX10 yX10_full wsX10_full) := goodIn_app (goodIn_of _ (by decide +kernel)) ggL_law_X10_full
set_option maxRecDepth 20000 in
theorem ggL_law_X11_full : GoodIn wsL_law wsX11_full := goodIn_r _ [414, 118, 316, 317, 318, 5, 319, 230, 231, 232, 233, 368, 369, 370, 371, 324, 325, 326, 327, 234, 235, 236, 237, 238, 239, 240, 241, 242, 243, 244, 245, 246, 247, 248, 249, 250, 251, 252, 253, 254, 255, 256, 191, 192, 193, 194, 195, 196, 119, 1052, 1053, 1054, 1055, 1056, 1057, 1058, 1059, 1060, 1061, 1062, 1063, 1064, 1065] (by decide +kernel) (by decide +kernel)
set_option maxRecDepth 20000 in
theorem gL_law_X11_full : GoodIn wsL_law (wsV RL 47 RX11 yX11_full wsX11_full) := goodIn_app (goodIn_of _ (by decide +kernel)) ggL_law_X11_full
set_option maxRecDepth 20000 in
theorem ggL_law_X10_report : GoodIn wsL_law wsX10_report := goodIn_r _ [418, 128, 129, 130, 2, 131, 16, 15, 132, 133, 134, 14, 135, 36, 40, 44, 48, 50, 136, 137, 138, 139, 140, 141, 142, 143, 35, 144, 145, 54, 146, 55, 56, 57, 147, 148, 149, 39, 150, 151, 61, 152, 62, 63, 64, 65, 66, 153, 154, 155, 43, 156, 157, 70, 158, 71, 72, 73, 74, 75, 76, 77, 78, 159, 160, 161, 47, 162, 163, 82, 164, 83, 84, 419, 420, 421, 422, 423, 424, 359, 351, 352, 353, 425, 426, 427, 428, 173, 174, 175, 176, 21, 177, 178, 179, 20, 180, 181, 182, 89, 183, 1045, 1046, 1047, 1048, 1049, 1050, 1051, 1066, 1067, 1068, 1069, 1070, 1071, 1090, 1091, 1092, 1093, 1094, 1095, 1096, 1097, 1098, 1099, 1100, 1101, 1102, 1103, 1104, 1105, 1106, 1107, 1108, 1109, 1110, 1111, 1112, 1113, 1114, 1115, 1072, 1073, 1074] (by decide +kernel) (by decide +kernel)
set_option maxRecDepth 20000 in
theorem gL_law_X10_report : GoodIn wsL_law (wsV RL 48 RX10 yX10_report wsX10_report) := goodIn_app (goodIn_of _ (by decide +kernel)) ggL_law_X10_report
set_option maxRecDepth 20000 in
theorem ggL_law_X11_report : GoodIn wsL_law wsX11_report := goodIn_r _ [432, 118, 433, 434, 435, 5, 436, 246, 247, 248, 249, 191, 192, 193, 194, 195, 196, 119, 437, 438, 439, 440, 1052, 1053, 1054, 1055, 1056, 1057, 1058, 1059, 1060, 1061, 1062, 1063, 1064, 1065] (by decide +kernel) (by decide +kernel)
set_option maxRecDepth 20000 in
theorem gL_law_X11_report : GoodIn wsL_law (wsV RL 51 RX11 yX11_report wsX11_report) := goodIn_app (goodIn_of _ (by decide +kernel)) ggL_law_X11_report
set_option maxRecDepth 20000 in
theorem ggL_law_X10_take : GoodIn wsL_law wsX10_take := goodIn_r _ [444, 128, 129, 130, 2, 131, 16, 15, 132, 133, 134, 14, 135, 36, 40, 44, 48, 50, 136, 137, 138, 139, 140, 141, 142, 143, 35, 144, 145, 54, 146, 55, 56, 57, 147, 148, 149, 39, 150, 151, 61, 152, 62, 63, 64, 65, 66, 153, 154, 155, 43, 156, 157, 70, 158, 71, 72, 73, 74, 75, 76, 77, 78, 159, 160, 161, 47, 162, 163, 82, 164, 83, 84, 445, 446, 447, 448, 449, 450, 451, 452, 453, 454, 359, 351, 352, 353, 218, 219, 220, 221, 455, 347, 348, 349, 350, 456, 457, 458, 459, 460, 360, 361, 362, 363, 173, 174, 175, 176, 21, 177, 178, 179, 20, 180, 181, 182, 89, 183, 1045, 1046, 1047, 1048, 1049, 1050, 1051, 1066, 1067, 1068, 1069, 1070, 1071, 1090, 1091, 1092, 1093, 1094, 1095, 1096, 1097, 1098, 1099, 1100, 1101, 1102, 1103, 1104, 1105, 1106, 1107, 1108, 1109, 1110, 1111, 1112, 1113, 1114, 1115, 1072, 1073, 1074] (by decide +kernel) (by decide +kernel)
set_option maxRecDepth 20000 in
theorem gL_law_X10_take : GoodIn wsL_law (wsV RL 52 RX10 yX10_take wsX10_take) := goodIn_app (goodIn_of _ (by decide +kernel)) ggL_law_X10_take
set_option maxRecDepth 20000 in
theorem ggL_law_X11_take : GoodIn wsL_law wsX11_take := goodIn_r _ [464, 465, 466, 467, 5, 468, 118, 433, 434, 435, 436, 469, 470, 471, 472, 473, 474, 475, 476, 477, 478, 479, 480, 242, 243, 244, 245, 246, 247, 248, 249, 250, 251, 252, 481, 482, 483, 484, 191, 192, 193, 194, 195, 196, 119, 257, 258, 259, 260, 1052, 1053, 1054, 1055, 1056, 1057, 1058, 1059, 1060, 1061, 1062, 1063, 1064, 1065] (by decide +kernel) (by decide +kernel)
set_option maxRecDepth 20000 in
theorem gL_law_X11_take : GoodIn wsL_law (wsV RL 55 RX11 yX11_take wsX11_take) := goodIn_app (goodIn_of _ (by decide +kernel)) ggL_law_X11_take
set_option maxRecDepth 20000 in
theorem ggL_law_X10_put : GoodIn wsL_law wsX10_put := goodIn_r _ [488, 128, 129, 130, 2, 131, 16, 15, 132, 133, 134, 14, 135, 36, 40, 44, 48, 50, 136, 137, 138, 139, 140, 141, 142, 143, 35, 144, 145, 54, 146, 55, 56, 57, 147, 148, 149, 39, 150, 151, 61, 152, 62, 63, 64, 65, 66, 153, 154, 155, 43, 156, 157, 70, 158, 71, 72, 73, 74, 75, 76, 77, 78, 159, 160, 161, 47, 162, 163, 82, 164, 83, 84, 489, 490, 491, 492, 449, 451, 452, 453, 454, 359, 351, 352, 353, 493, 494, 495, 496, 456, 457, 458, 459, 460, 455, 347, 348, 349, 350, 209, 210, 211, 212, 213, 205, 206, 207, 208, 214, 215, 216, 217, 218, 219, 220, 221, 360, 361, 362, 363, 173, 174, 175, 176, 21, 177, 178, 179, 20, 180, 181, 182, 89, 183, 1045, 1046, 1047, 1048, 1049, 1050, 1051, 1066, 1067, 1068, 1069, 1070, 1071, 1090, 1091, 1092, 1093, 1094, 1095, 1096, 1097, 1098, 1099, 1100, 1101, 1102, 1103, 1104, 1105, 1106, 1107, 1108, 1109, 1110, 1111, 1112, 1113, 1114, 1115, 1072, 1073, 1074] (by decide +kernel) (by decide +kernel)
set_option maxRecDepth 20000 in
theorem gL_law_X10_put : GoodIn wsL_law (wsV RL 56 RX10 yX10_put wsX10_put) := goodIn_app (goodIn_of _ (by decide +kernel)) ggL_law_X10_put
set_option maxRecDepth 20000 in
theorem ggL_law_X11_put : GoodIn wsL_law wsX11_put := goodIn_r _ [500, 465, 466, 467, 5, 468, 118, 433, 434, 435, 436, 469, 470, 471, 472, 473, 474, 475, 476, 481, 482, 483, 484, 246, 247, 248, 249, 234, 235, 236, 237, 238, 239, 240, 241, 242, 243, 244, 245, 250, 251, 252, 253, 254, 255, 256, 191, 192, 193, 194, 195, 196, 119, 257, 258, 259, 260, 477, 478, 479, 480, 1052, 1053, 1054, 1055, 1056, 1057, 1058, 1059, 1060, 1061, 1062, 1063, 1064, 1065] (by decide +kernel) (by decide +kernel)
set_option maxRecDepth 20000 in
theorem gL_law_X11_put : GoodIn wsL_law (wsV RL 59 RX11 yX11_put wsX11_put) := goodIn_app (goodIn_of _ (by decide +kernel)) ggL_law_X11_put
set_option maxRecDepth 20000 in
theorem ggL_law_X10_go : GoodIn wsL_law wsX10_go := goodIn_r _ [504, 128, 129, 130, 2, 131, 16, 15, 132, 133, 134, 14, 135, 36, 40, 44, 48, 50, 136, 137, 138, 139, 140, 141, 142, 143, 35, 144, 145, 54, 146, 55, 56, 57, 147, 148, 149, 39, 150, 151, 61, 152, 62, 63, 64, 65, 66, 153, 154, 155, 43, 156, 157, 70, 158, 71, 72, 73, 74, 75, 76, 77, 78, 159, 160, 161, 47, 162, 163, 82, 164, 83, 84, 505, 506, 507, 508, 449, 460, 451, 452, 453, 454, 205, 206, 207, 208, 456, 457, 458, 459, 509, 510, 511, 512, 513, 514, 304, 515, 516, 173, 174, 175, 176, 21, 177, 178, 179, 20, 180, 181, 182, 89, 183, 1045, 1046, 1047, 1048, 1049, 1050, 1051, 1066, 1067, 1068, 1069, 1070, 1071, 1090, 1091, 1092, 1093, 1094, 1095, 1096, 1097, 1098, 1099, 1100, 1101, 1102, 1103, 1104, 1105, 1106, 1107, 1108, 1109, 1110, 1111, 1112, 1113, 1114, 1115, 1072, 1073, 1074] (by decide +kernel) (by decide +kernel)
set_option maxRecDepth 20000 in
theorem gL_law_X10_go : GoodIn wsL_law (wsV RL 60 RX10 yX10_go wsX10_go) := goodIn_app (goodIn_of _ (by decide +kernel)) ggL_law_X10_go
set_option maxRecDepth 20000 in
theorem ggL_law_X11_go : GoodIn wsL_law wsX11_go := goodIn_r _ [520, 118, 465, 466, 467, 5, 468, 230, 231, 232, 233, 469, 470, 471, 472, 473, 474, 475, 476, 191, 192, 193, 194, 195, 196, 119, 521, 522, 523, 524, 253, 254, 255, 256, 1052, 1053, 1054, 1055, 1056, 1057, 1058, 1059, 1060, 1061, 1062, 1063, 1064, 1065] (by decide +kernel) (by decide +kernel)
set_option maxRecDepth 20000 in
theorem gL_law_X11_go : GoodIn wsL_law (wsV RL 63 RX11 yX11_go wsX11_go) := goodIn_app (goodIn_of _ (by decide +kernel)) ggL_law_X11_go
set_option maxRecDepth 20000 in
theorem ggL_law_X10_mend : GoodIn wsL_law wsX10_mend := goodIn_r _ [528, 128, 129, 130, 2, 131, 16, 15, 132, 133, 134, 14, 135, 36, 40, 44, 48, 50, 136, 137, 138, 139, 140, 141, 142, 143, 35, 144, 145, 54, 146, 55, 56, 57, 147, 148, 149, 39, 150, 151, 61, 152, 62, 63, 64, 65, 66, 153, 154, 155, 43, 156, 157, 70, 158, 71, 72, 73, 74, 75, 76, 77, 78, 159, 160, 161, 47, 162, 163, 82, 164, 83, 84, 529, 530, 531, 532, 449, 533, 451, 452, 453, 454, 359, 351, 352, 353, 493, 494, 495, 496, 456, 457, 458, 459, 460, 455, 347, 348, 349, 350, 360, 361, 362, 363, 173, 174, 175, 176, 21, 177, 178, 179, 20, 180, 181, 182, 89, 183, 1045, 1046, 1047, 1048, 1049, 1050, 1051, 1066, 1067, 1068, 1069, 1070, 1071, 1090, 1091, 1092, 1093, 1094, 1095, 1096, 1097, 1098, 1099, 1100, 1101, 1102, 1103, 1104, 1105, 1106, 1107, 1108, 1109, 1110, 1111, 1112, 1113, 1114, 1115, 1072, 1073, 1074] (by decide +kernel) (by decide +kernel)
set_option maxRecDepth 20000 in
theorem gL_law_X10_mend : GoodIn wsL_law (wsV RL 64 RX10 yX10_mend wsX10_mend) := goodIn_app (goodIn_of _ (by decide +kernel)) ggL_law_X10_mend
set_option maxRecDepth 20000 in
theorem ggL_law_X11_mend : GoodIn wsL_law wsX11_mend := goodIn_r _ [537, 118, 465, 466, 467, 5, 468, 433, 434, 435, 436, 469, 470, 471, 472, 473, 474, 475, 476, 481, 482, 483, 484, 246, 247, 248, 249, 191, 192, 193, 194, 195, 196, 119, 257, 258, 259, 260, 1052, 1053, 1054, 1055, 1056, 1057, 1058, 1059, 1060, 1061, 1062, 1063, 1064, 1065] (by decide +kernel) (by decide +kernel)
set_option maxRecDepth 20000 in
theorem gL_law_X11_mend : GoodIn wsL_law (wsV RL 67 RX11 yX11_mend wsX11_mend) := goodIn_app (goodIn_of _ (by decide +kernel)) ggL_law_X11_mend
set_option maxRecDepth 20000 in
theorem ggL_law_X10_pause : GoodIn wsL_law wsX10_pause := goodIn_r _ [541, 128, 129, 130, 2, 131, 16, 15, 132, 133, 134, 14, 135, 36, 40, 44, 48, 50, 136, 137, 138, 139, 140, 141, 142, 143, 35, 144, 145, 54, 146, 55, 56, 57, 147, 148, 149, 39, 150, 151, 61, 152, 62, 63, 64, 65, 66, 153, 154, 155, 43, 156, 157, 70, 158, 71, 72, 73, 74, 75, 76, 77, 78, 159, 160, 161, 47, 162, 163, 82, 164, 83, 84, 542, 543, 544, 545, 546, 547, 548, 549, 550, 551, 552, 553, 554, 350, 351, 352, 353, 555, 556, 557, 558, 559, 560, 561, 562, 563, 213, 218, 219, 220, 221, 360, 361, 362, 363, 173, 174, 175, 176, 21, 177, 178, 179, 20, 180, 181, 182, 89, 183, 1045, 1046, 1047, 1048, 1049, 1050, 1051, 1066, 1067, 1068, 1069, 1070, 1071, 1090, 1091, 1092, 1093, 1094, 1095, 1096, 1097, 1098, 1099, 1100, 1101, 1102, 1103, 1104, 1105, 1106, 1107, 1108, 1109, 1110, 1111, 1112, 1113, 1114, 1115, 1072, 1073, 1074] (by decide +kernel) (by decide +kernel)
set_option maxRecDepth 20000 in
theorem gL_law_X10_pause : GoodIn wsL_law (wsV RL 68 RX10 yX10_pause wsX10_pause) := goodIn_app (goodIn_of _ (by decide +kernel)) ggL_law_X10_pause
set_option maxRecDepth 20000 in
theorem ggL_law_X11_pause : GoodIn wsL_law wsX11_pause := goodIn_r _ [567, 118, 188, 189, 5, 190, 191, 192, 193, 194, 195, 196, 119, 568, 569, 570, 571, 246, 247, 248, 249, 572, 573, 574, 575, 234, 235, 236, 237, 238, 239, 240, 241, 242, 243, 244, 245, 250, 251, 252, 253, 254, 255, 256, 257, 258, 259, 260, 1052, 1053, 1054, 1055, 1056, 1057, 1058, 1059, 1060, 1061, 1062, 1063, 1064, 1065] (by decide +kernel) (by decide +kernel)
set_option maxRecDepth 20000 in
theorem gL_law_X11_pause : GoodIn wsL_law (wsV RL 71 RX11 yX11_pause wsX11_pause) := goodIn_app (goodIn_of _ (by decide +kernel)) ggL_law_X11_pause
set_option maxRecDepth 20000 in
theorem ggL_law_X10_set : GoodIn wsL_law wsX10_set := goodIn_r _ [579, 128, 129, 130, 2, 131, 16, 15, 132, 133, 134, 14, 135, 36, 40, 44, 48, 50, 136, 137, 138, 139, 140, 141, 142, 143, 35, 144, 145, 54, 146, 55, 56, 57, 147, 148, 149, 39, 150, 151, 61, 152, 62, 63, 64, 65, 66, 153, 154, 155, 43, 156, 157, 70, 158, 71, 72, 73, 74, 75, 76, 77, 78, 159, 160, 161, 47, 162, 163, 82, 164, 83, 84, 580, 581, 582, 583, 584, 585, 586, 587, 173, 174, 175, 176, 21, 177, 178, 179, 20, 180, 181, 182, 89, 183, 1045, 1046, 1047, 1048, 1049, 1050, 1051, 1066, 1067, 1068, 1069, 1070, 1071, 1090, 1091, 1092, 1093, 1094, 1095, 1096, 1097, 1098, 1099, 1100, 1101, 1102, 1103, 1104, 1105, 1106, 1107, 1108, 1109, 1110, 1111, 1112, 1113, 1114, 1115, 1072, 1073, 1074] (by decide +kernel) (by decide +kernel)
set_option maxRecDepth 20000 in
theorem gL_law_X10_set : GoodIn wsL_law (wsV RL 72 RX10 yX10_set wsX10_set) := goodIn_app (goodIn_of _ (by decide +kernel)) ggL_law_X10_set
set_option maxRecDepth 20000 in
theorem ggL_law_X11_set : GoodIn wsL_law wsX11_set := goodIn_r _ [591, 118, 188, 189, 5, 190, 191, 192, 193, 194, 195, 196, 119, 1052, 1053, 1054, 1055, 1056, 1057, 1058, 1059, 1060, 1061, 1062, 1063, 1064, 1065] (by decide +kernel) (by decide +kernel)
set_option maxRecDepth 20000 in
theorem gL_law_X11_set : GoodIn wsL_law (wsV RL 75 RX11 yX11_set wsX11_set) := goodIn_app (goodIn_of _ (by decide +kernel)) ggL_law_X11_set
set_option maxRecDepth 20000 in
theorem ggL_law_X10_stationOf : GoodIn wsL_law wsX10_stationOf := goodIn_r _ [595, 15, 596, 597, 598, 599, 25, 600, 601, 602, 206, 207, 35, 208, 145, 603, 604, 605, 39, 606, 151, 61, 62, 607, 608, 609, 14, 610, 36, 213, 611, 514, 304, 515, 205, 214, 215, 216, 217, 40, 218, 219, 220, 221, 612, 613, 614, 24, 615, 616, 93, 617, 618, 619, 620, 621, 622, 623, 624, 625, 626, 627, 55, 628, 629, 630, 631, 632, 1045, 1046, 1047, 1048, 1049, 1050, 1051, 1066, 1067, 1068, 1069, 1070, 1071, 1090, 1091, 1092, 1093, 1094, 1095, 1096, 1097, 1098, 1099, 1100, 1101, 1075, 1076, 1077, 1078, 1079, 1080] (by decide +kernel) (by decide +kernel)
set_option maxRecDepth 20000 in
theorem gL_law_X10_stationOf : GoodIn wsL_law (wsV RL 76 RX10 yX10_stationOf wsX10_stationOf) := goodIn_app (goodIn_of _ (by decide +kernel)) ggL_law_X10_stationOf
set_option maxRecDepth 20000 in
theorem ggL_law_X11_stationOf : GoodIn wsL_law wsX11_stationOf := goodIn_r _ [636, 230, 231, 232, 5, 233, 118, 188, 189, 190, 253, 254, 255, 256, 242, 243, 244, 245, 246, 247, 248, 249, 637, 638, 639, 640, 238, 239, 240, 241, 250, 251, 252, 641, 642, 643, 644, 645, 646, 647, 648, 649, 650, 651, 652, 653, 654, 655, 1052, 1053, 1054, 1055, 1056, 1057, 1058, 1059, 1060, 1061, 1062, 1063, 1064, 1065] (by decide +kernel) (by decide +kernel)
set_option maxRecDepth 20000 in
theorem gL_law_X11_stationOf : GoodIn wsL_law (wsV RL 79 RX11 yX11_stationOf wsX11_stationOf) := goodIn_app (goodIn_of _ (by decide +kernel)) ggL_law_X11_stationOf
set_option maxRecDepth 20000 in
theorem ggL_law_X10_bicycleOf : GoodIn wsL_law wsX10_bicycleOf := goodIn_r _ [659, 15, 599, 660, 661, 662, 663, 664, 351, 352, 39, 353, 151, 665, 666, 667, 668, 61, 62, 350, 1045, 1046, 1047, 1048, 1049, 1050, 1051, 1066, 1067, 1068, 1069, 1070, 1071, 1095, 1096, 1097, 1098, 1099, 1100, 1101] (by decide +kernel) (by decide +kernel)
set_option maxRecDepth 20000 in
theorem gL_law_X10_bicycleOf : GoodIn wsL_law (wsV RL 80 RX10 yX10_bicycleOf wsX10_bicycleOf) := goodIn_app (goodIn_of _ (by decide +kernel)) ggL_law_X10_bicycleOf
set_option maxRecDepth 20000 in
theorem ggL_law_X11_bicycleOf : GoodIn wsL_law wsX11_bicycleOf := goodIn_r _ [672, 433, 434, 435, 5, 436, 118, 188, 189, 190, 246, 247, 248, 249, 1052, 1053, 1054, 1055, 1056, 1057, 1058, 1059, 1060, 1061, 1062, 1063, 1064, 1065] (by decide +kernel) (by decide +kernel)
set_option maxRecDepth 20000 in
theorem gL_law_X11_bicycleOf : GoodIn wsL_law (wsV RL 83 RX11 yX11_bicycleOf wsX11_bicycleOf) := goodIn_app (goodIn_of _ (by decide +kernel)) ggL_law_X11_bicycleOf
set_option maxRecDepth 20000 in
theorem ggL_law_X10_riderOf : GoodIn wsL_law wsX10_riderOf := goodIn_r _ [676, 15, 677, 678, 679, 680, 681, 303, 304, 305, 682, 683, 684, 309, 310, 43, 311, 157, 685, 355, 356, 357, 74, 358, 686, 687, 688, 2, 689, 690, 691, 692, 391, 392, 393, 75, 693, 385, 386, 387, 76, 388, 77, 389, 390, 1045, 1046, 1047, 1048, 1049, 1050, 1051, 1066, 1067, 1068, 1069, 1070, 1071, 1102, 1103, 1104, 1105, 1106, 1107, 1108, 1109, 1110, 1111] (by decide +kernel) (by decide +kernel)
set_option maxRecDepth 20000 in
theorem gL_law_X10_riderOf : GoodIn wsL_law (wsV RL 84 RX10 yX10_riderOf wsX10_riderOf) := goodIn_app (goodIn_of _ (by decide +kernel)) ggL_law_X10_riderOf
set_option maxRecDepth 20000 in
theorem ggL_law_X11_riderOf : GoodIn wsL_law wsX11_riderOf := goodIn_r _ [697, 118, 316, 317, 318, 5, 319, 188, 189, 190, 324, 325, 326, 327, 320, 321, 322, 323, 368, 369, 370, 371, 399, 400, 401, 402, 1052, 1053, 1054, 1055, 1056, 1057, 1058, 1059, 1060, 1061, 1062, 1063, 1064, 1065] (by decide +kernel) (by decide +kernel)
set_option maxRecDepth 20000 in
theorem gL_law_X11_riderOf : GoodIn wsL_law (wsV RL 87 RX11 yX11_riderOf wsX11_riderOf) := goodIn_app (goodIn_of _ (by decide +kernel)) ggL_law_X11_riderOf
set_option maxRecDepth 20000 in
theorem ggL_law_X10_vanOf : GoodIn wsL_law wsX10_vanOf := goodIn_r _ [701, 15, 702, 703, 704, 599, 680, 705, 452, 453, 47, 454, 163, 603, 604, 605, 39, 606, 151, 61, 62, 706, 707, 708, 709, 84, 710, 303, 304, 305, 711, 1045, 1046, 1047, 1048, 1049, 1050, 1051, 1066, 1067, 1068, 1069, 1070, 1071, 1112, 1113, 1114, 1115, 1095, 1096, 1097, 1098, 1099, 1100, 1101] (by decide +kernel) (by decide +kernel)
set_option maxRecDepth 20000 in
theorem gL_law_X10_vanOf : GoodIn wsL_law (wsV RL 88 RX10 yX10_vanOf wsX10_vanOf) := goodIn_app (goodIn_of _ (by decide +kernel)) ggL_law_X10_vanOf
set_option maxRecDepth 20000 in
theorem ggL_law_X11_vanOf : GoodIn wsL_law wsX11_vanOf := goodIn_r _ [715, 118, 465, 466, 467, 5, 468, 188, 189, 190, 473, 474, 475, 476, 242, 243, 244, 245, 246, 247, 248, 249, 469, 470, 471, 472, 1052, 1053, 1054, 1055, 1056, 1057, 1058, 1059, 1060, 1061, 1062, 1063, 1064, 1065] (by decide +kernel) (by decide +kernel)
set_option maxRecDepth 20000 in
theorem gL_law_X11_vanOf : GoodIn wsL_law (wsV RL 91 RX11 yX11_vanOf wsX11_vanOf) := goodIn_app (goodIn_of _ (by decide +kernel)) ggL_law_X11_vanOf
set_option maxRecDepth 20000 in
theorem ggL_law_X10_count : GoodIn wsL_law wsX10_count := goodIn_r _ [719, 15, 720, 596, 721, 599, 722, 677, 723, 702, 724, 680, 21, 725, 29, 726, 727, 728, 585, 586, 14, 587, 729, 629, 630, 39, 631, 151, 61, 730, 426, 427, 428, 64, 731, 625, 626, 35, 627, 145, 55, 732, 733, 734, 43, 735, 157, 70, 736, 737, 738, 739, 36, 563, 740, 608, 609, 610, 213, 611, 514, 304, 515, 205, 206, 207, 208, 214, 215, 216, 217, 40, 218, 219, 220, 221, 62, 1045, 1046, 1047, 1048, 1049, 1050, 1051, 1066, 1067, 1068, 1069, 1070, 1071, 1090, 1091, 1092, 1093, 1094, 1095, 1096, 1097, 1098, 1099, 1100, 1101, 1102, 1103, 1104, 1105, 1106, 1107, 1108, 1109, 1110, 1111, 1112, 1113, 1114, 1115, 1072, 1073, 1074, 1081, 1082, 1083, 1084, 1085, 1086, 1087, 1088, 1089] (by decide +kernel) (by decide +kernel)
set_option maxRecDepth 20000 in
theorem gL_law_X10_count : GoodIn wsL_law (wsV RL 92 RX10 yX10_count wsX10_count) := goodIn_app (goodIn_of _ (by decide +kernel)) ggL_law_X10_count
set_option maxRecDepth 20000 in
theorem ggL_law_X11_count : GoodIn wsL_law wsX11_count := goodIn_r _ [744, 118, 196, 745, 746, 648, 649, 650, 5, 651, 246, 247, 248, 249, 437, 438, 439, 440, 652, 653, 654, 655, 253, 254, 255, 256, 747, 748, 749, 750, 324, 325, 326, 327, 751, 752, 753, 754, 637, 638, 639, 640, 238, 239, 240, 241, 242, 243, 244, 245, 250, 251, 252, 641, 642, 643, 188, 189, 190, 1052, 1053, 1054, 1055, 1056, 1057, 1058, 1059, 1060, 1061, 1062, 1063, 1064, 1065] (by decide +kernel) (by decide +kernel)
set_option maxRecDepth 20000 in
theorem gL_law_X11_count : GoodIn wsL_law (wsV RL 95 RX11 yX11_count wsX11_count) := goodIn_app (goodIn_of _ (by decide +kernel)) ggL_law_X11_count
set_option maxRecDepth 20000 in
theorem ggL_law_X10_move : GoodIn wsL_law wsX10_move := goodIn_r _ [758, 25, 15, 759, 760, 761, 762, 763, 764, 24, 765, 766, 767, 768, 769, 616, 622, 770, 215, 216, 14, 217, 40, 218, 219, 220, 39, 221, 151, 61, 62, 771, 210, 211, 212, 36, 213, 205, 206, 207, 35, 208, 145, 214, 772, 773, 774, 775, 776, 777, 778, 779, 623, 780, 514, 304, 515, 632, 781, 608, 609, 610, 611, 782, 510, 511, 512, 54, 513, 516, 1045, 1046, 1047, 1048, 1049, 1050, 1051, 1075, 1076, 1077, 1078, 1079, 1080, 1066, 1067, 1068, 1069, 1070, 1071, 1090, 1091, 1092, 1093, 1094, 1095, 1096, 1097, 1098, 1099, 1100, 1101] (by decide +kernel) (by decide +kernel)
set_option maxRecDepth 20000 in
theorem gL_law_X10_move : GoodIn wsL_law (wsV RL 96 RX10 yX10_move wsX10_move) := goodIn_app (goodIn_of _ (by decide +kernel)) ggL_law_X10_move
set_option maxRecDepth 20000 in
theorem ggL_law_X11_move : GoodIn wsL_law wsX11_move := goodIn_r _ [786, 118, 188, 189, 5, 190, 787, 788, 789, 790, 238, 239, 240, 241, 242, 243, 244, 245, 246, 247, 248, 249, 250, 251, 252, 253, 254, 255, 256, 641, 642, 643, 521, 522, 523, 524, 1052, 1053, 1054, 1055, 1056, 1057, 1058, 1059, 1060, 1061, 1062, 1063, 1064, 1065] (by decide +kernel) (by decide +kernel)
set_option maxRecDepth 20000 in
theorem gL_law_X11_move : GoodIn wsL_law (wsV RL 99 RX11 yX11_move wsX11_move) := goodIn_app (goodIn_of _ (by decide +kernel)) ggL_law_X11_move
set_option maxRecDepth 20000 in
theorem ggL_law_X10_evening : GoodIn wsL_law wsX10_evening := goodIn_r _ [794, 15, 596, 721, 25, 795, 796, 797, 24, 798, 616, 622, 94, 93, 780, 514, 304, 515, 617, 618, 619, 620, 621, 623, 624, 625, 626, 35, 627, 145, 55, 628, 629, 630, 39, 631, 151, 61, 770, 215, 216, 14, 217, 40, 218, 219, 220, 221, 62, 799, 800, 801, 802, 803, 1045, 1046, 1047, 1048, 1049, 1050, 1051, 1066, 1067, 1068, 1069, 1070, 1071, 1090, 1091, 1092, 1093, 1094, 1075, 1076, 1077, 1078, 1079, 1080, 1095, 1096, 1097, 1098, 1099, 1100, 1101] (by decide +kernel) (by decide +kernel)
set_option maxRecDepth 20000 in
theorem gL_law_X10_evening : GoodIn wsL_law (wsV RL 100 RX10 yX10_evening wsX10_evening) := goodIn_app (goodIn_of _ (by decide +kernel)) ggL_law_X10_evening
set_option maxRecDepth 20000 in
theorem ggL_law_X11_evening : GoodIn wsL_law wsX11_evening := goodIn_r _ [807, 118, 253, 254, 255, 5, 256, 238, 239, 240, 241, 242, 243, 244, 245, 246, 247, 248, 249, 250, 251, 252, 644, 645, 646, 647, 648, 649, 650, 651, 652, 653, 654, 655, 1052, 1053, 1054, 1055, 1056, 1057, 1058, 1059, 1060, 1061, 1062, 1063, 1064, 1065] (by decide +kernel) (by decide +kernel)
set_option maxRecDepth 20000 in
theorem gL_law_X11_evening : GoodIn wsL_law (wsV RL 103 RX11 yX11_evening wsX11_evening) := goodIn_app (goodIn_of _ (by decide +kernel)) ggL_law_X11_evening
set_option maxRecDepth 20000 in
theorem ggL_law_X10_keep : GoodIn wsL_law wsX10_keep := goodIn_r _ [811, 17, 15, 727, 680, 132, 133, 134, 14, 135, 36, 40, 44, 48, 50, 136, 137, 138, 139, 140, 141, 142, 143, 35, 144, 145, 54, 146, 55, 56, 57, 147, 148, 149, 39, 150, 151, 61, 152, 62, 63, 64, 65, 66, 153, 154, 155, 43, 156, 157, 70, 158, 71, 72, 73, 74, 75, 76, 77, 78, 159, 160, 161, 47, 162, 163, 82, 164, 83, 84, 1045, 1046, 1047, 1048, 1049, 1050, 1051, 1066, 1067, 1068, 1069, 1070, 1071, 1090, 1091, 1092, 1093, 1094, 1095, 1096, 1097, 1098, 1099, 1100, 1101, 1102, 1103, 1104, 1105, 1106, 1107, 1108, 1109, 1110, 1111, 1112, 1113, 1114, 1115] (by decide +kernel) (by decide +kernel)
set_option maxRecDepth 20000 in
theorem gL_law_X10_keep : GoodIn wsL_law (wsV RL 104 RX10 yX10_keep wsX10_keep) := goodIn_app (goodIn_of _ (by decide +kernel)) ggL_law_X10_keep
set_option maxRecDepth 20000 in
theorem ggL_law_X11_keep : GoodIn wsL_law wsX11_keep := goodIn_r _ [815, 118, 121, 746, 816, 817, 5, 818, 1052, 1053, 1054, 1055, 1056, 1057, 1058, 1059, 1060, 1061, 1062, 1063, 1064, 1065] (by decide +kernel) (by decide +kernel)
set_option maxRecDepth 20000 in
theorem gL_law_X11_keep : GoodIn wsL_law (wsV RL 107 RX11 yX11_keep wsX11_keep) := goodIn_app (goodIn_of _ (by decide +kernel)) ggL_law_X11_keep
set_option maxRecDepth 20000 in
theorem ggL_law_X10_restore : GoodIn wsL_law wsX10_restore := goodIn_r _ [822, 727, 16, 17, 680, 132, 133, 134, 14, 135, 36, 40, 44, 48, 50, 136, 137, 138, 139, 140, 141, 142, 143, 35, 144, 145, 54, 146, 55, 56, 57, 147, 148, 149, 39, 150, 151, 61, 152, 62, 63, 64, 65, 66, 153, 154, 155, 43, 156, 157, 70, 158, 71, 72, 73, 74, 75, 76, 77, 78, 159, 160, 161, 47, 162, 163, 82, 164, 83, 84, 173, 174, 175, 2, 176, 21, 15, 177, 178, 179, 20, 180, 181, 182, 89, 183, 1045, 1046, 1047, 1048, 1049, 1050, 1051, 1066, 1067, 1068, 1069, 1070, 1071, 1090, 1091, 1092, 1093, 1094, 1095, 1096, 1097, 1098, 1099, 1100, 1101, 1102, 1103, 1104, 1105, 1106, 1107, 1108, 1109, 1110, 1111, 1112, 1113, 1114, 1115, 1072, 1073, 1074] (by decide +kernel) (by decide +kernel)
set_option maxRecDepth 20000 in
theorem gL_law_X10_restore : GoodIn wsL_law (wsV RL 108 RX10 yX10_restore wsX10_restore) := goodIn_app (goodIn_of _ (by decide +kernel)) ggL_law_X10_restore
set_option maxRecDepth 20000 in
theorem ggL_law_X11_restore : GoodIn wsL_law wsX11_restore := goodIn_r _ [826, 746, 121, 118, 191, 192, 193, 5, 194, 195, 196, 119, 816, 817, 818, 1052, 1053, 1054, 1055, 1056, 1057, 1058, 1059, 1060, 1061, 1062, 1063, 1064, 1065] (by decide +kernel) (by decide +kernel)
set_option maxRecDepth 20000 in
theorem gL_law_X11_restore : GoodIn wsL_law (wsV RL 111 RX11 yX11_restore wsX11_restore) := goodIn_app (goodIn_of _ (by decide +kernel)) ggL_law_X11_restore
set_option maxRecDepth 20000 in
theorem ggL_law_X10_undo : GoodIn wsL_law wsX10_undo := goodIn_r _ [830, 21, 15, 725, 831, 832, 833, 20, 834, 181, 89, 182, 183, 133, 134, 14, 135, 36, 40, 44, 48, 50, 136, 137, 138, 139, 140, 141, 142, 143, 35, 144, 145, 54, 146, 55, 56, 57, 147, 148, 149, 39, 150, 151, 61, 152, 62, 63, 64, 65, 66, 153, 154, 155, 43, 156, 157, 70, 158, 71, 72, 73, 74, 75, 76, 77, 78, 159, 160, 161, 47, 162, 163, 82, 164, 83, 84, 1045, 1046, 1047, 1048, 1049, 1050, 1051, 1072, 1073, 1074, 1066, 1067, 1068, 1069, 1070, 1071, 1090, 1091, 1092, 1093, 1094, 1095, 1096, 1097, 1098, 1099, 1100, 1101, 1102, 1103, 1104, 1105, 1106, 1107, 1108, 1109, 1110, 1111, 1112, 1113, 1114, 1115] (by decide +kernel) (by decide +kernel)
set_option maxRecDepth 20000 in
theorem gL_law_X10_undo : GoodIn wsL_law (wsV RL 112 RX10 yX10_undo wsX10_undo) := goodIn_app (goodIn_of _ (by decide +kernel)) ggL_law_X10_undo
set_option maxRecDepth 20000 in
theorem ggL_law_X11_undo : GoodIn wsL_law wsX11_undo := goodIn_r _ [838, 196, 118, 119, 1052, 1053, 1054, 1055, 1056, 1057, 1058, 1059, 1060, 1061, 1062, 1063, 1064, 1065] (by decide +kernel) (by decide +kernel)
set_option maxRecDepth 20000 in
theorem gL_law_X11_undo : GoodIn wsL_law (wsV RL 115 RX11 yX11_undo wsX11_undo) := goodIn_app (goodIn_of _ (by decide +kernel)) ggL_law_X11_undo
set_option maxRecDepth 20000 in
theorem ggL_law_X10_type : GoodIn wsL_law wsX10_type := goodIn_r _ [842, 29, 843, 844, 845, 28, 846, 847, 100, 1045, 1046, 1047, 1048, 1049, 1050, 1051, 1081, 1082, 1083, 1084, 1085, 1086, 1087, 1088, 1089] (by decide +kernel) (by decide +kernel)
set_option maxRecDepth 20000 in
theorem gL_law_X10_type : GoodIn wsL_law (wsV RL 116 RX10 yX10_type wsX10_type) := goodIn_app (goodIn_of _ (by decide +kernel)) ggL_law_X10_type
set_option maxRecDepth 20000 in
theorem ggL_law_X11_type : GoodIn wsL_law wsX11_type := goodIn_r _ [851, 745, 122, 188, 189, 5, 190, 1052, 1053, 1054, 1055, 1056, 1057, 1058, 1059, 1060, 1061, 1062, 1063, 1064, 1065] (by decide +kernel) (by decide +kernel)
set_option maxRecDepth 20000 in
theorem gL_law_X11_type : GoodIn wsL_law (wsV RL 119 RX11 yX11_type wsX11_type) := goodIn_app (goodIn_of _ (by decide +kernel)) ggL_law_X11_type
set_option maxRecDepth 20000 in
theorem ggL_law_X10_clearText : GoodIn wsL_law wsX10_clearText := goodIn_r _ [855, 29, 856, 857, 858, 28, 859, 847, 1045, 1046, 1047, 1048, 1049, 1050, 1051, 1081, 1082, 1083, 1084, 1085, 1086, 1087, 1088, 1089] (by decide +kernel) (by decide +kernel)
set_option maxRecDepth 20000 in
theorem gL_law_X10_clearText : GoodIn wsL_law (wsV RL 120 RX10 yX10_clearText wsX10_clearText) := goodIn_app (goodIn_of _ (by decide +kernel)) ggL_law_X10_clearText
set_option maxRecDepth 20000 in
theorem ggL_law_X11_clearText : GoodIn wsL_law wsX11_clearText := goodIn_r _ [863, 745, 1052, 1053, 1054, 1055, 1056, 1057, 1058, 1059, 1060, 1061, 1062, 1063, 1064, 1065] (by decide +kernel) (by decide +kernel)
set_option maxRecDepth 20000 in
theorem gL_law_X11_clearText : GoodIn wsL_law (wsV RL 123 RX11 yX11_clearText wsX11_clearText) := goodIn_app (goodIn_of _ (by decide +kernel)) ggL_law_X11_clearText
set_option maxRecDepth 20000 in
theorem ggL_law_X10_fault : GoodIn wsL_law wsX10_fault := goodIn_r _ [867, 29, 128, 129, 130, 2, 131, 16, 15, 132, 133, 134, 14, 135, 36, 40, 44, 48, 50, 136, 137, 138, 139, 140, 141, 142, 143, 35, 144, 145, 54, 146, 55, 56, 57, 147, 148, 149, 39, 150, 151, 61, 152, 62, 63, 64, 65, 66, 153, 154, 155, 43, 156, 157, 70, 158, 71, 72, 73, 74, 75, 76, 77, 78, 159, 160, 161, 47, 162, 163, 82, 164, 83, 84, 868, 869, 870, 28, 871, 98, 872, 873, 847, 102, 874, 875, 876, 877, 878, 879, 880, 881, 882, 883, 884, 885, 886, 887, 888, 101, 889, 890, 891, 892, 893, 100, 894, 895, 896, 897, 898, 899, 900, 901, 902, 903, 904, 905, 906, 907, 908, 909, 910, 911, 912, 913, 914, 915, 916, 917, 918, 919, 920, 921, 922, 923, 924, 925, 926, 927, 928, 929, 930, 931, 932, 933, 934, 935, 936, 937, 938, 939, 940, 941, 942, 943, 944, 945, 946, 947, 948, 949, 950, 951, 952, 953, 954, 955, 956, 957, 958, 959, 960, 961, 105, 962, 963, 964, 965, 966, 967, 968, 969, 970, 971, 333, 334, 335, 301, 336, 337, 338, 339, 340, 341, 308, 309, 310, 311, 205, 206, 207, 208, 342, 343, 344, 345, 346, 347, 348, 349, 350, 351, 352, 353, 354, 355, 356, 357, 358, 359, 360, 361, 362, 363, 972, 377, 378, 379, 380, 381, 307, 382, 383, 209, 210, 211, 212, 213, 214, 215, 216, 217, 218, 219, 220, 221, 384, 385, 386, 387, 388, 303, 304, 305, 389, 390, 391, 392, 393, 394, 973, 408, 409, 410, 974, 420, 421, 422, 423, 424, 425, 426, 427, 428, 975, 446, 447, 448, 449, 450, 451, 452, 453, 454, 455, 456, 457, 458, 459, 460, 976, 490, 491, 492, 493, 494, 495, 496, 977, 506, 507, 508, 509, 510, 511, 512, 513, 514, 515, 516, 978, 530, 531, 532, 533, 979, 298, 299, 300, 302, 306, 980, 543, 544, 545, 546, 547, 548, 549, 550, 551, 552, 553, 554, 555, 556, 557, 558, 559, 560, 561, 562, 563, 981, 982, 983, 984, 1045, 1046, 1047, 1048, 1049, 1050, 1051, 1066, 1067, 1068, 1069, 1070, 1071, 1090, 1091, 1092, 1093, 1094, 1095, 1096, 1097, 1098, 1099, 1100, 1101, 1102, 1103, 1104, 1105, 1106, 1107, 1108, 1109, 1110, 1111, 1112, 1113, 1114, 1115, 1081, 1082, 1083, 1084, 1085, 1086, 1087, 1088, 1089] (by decide +kernel) (by decide +kernel)
set_option maxRecDepth 20000 in
theorem gL_law_X10_fault : GoodIn wsL_law (wsV RL 124 RX10 yX10_fault wsX10_fault) := goodIn_app (goodIn_of _ (by decide +kernel)) ggL_law_X10_fault
set_option maxRecDepth 20000 in
theorem ggL_law_X11_fault : GoodIn wsL_law wsX11_fault := goodIn_r _ [988, 118, 120, 989, 188, 189, 5, 190, 816, 817, 818, 990, 991, 992, 993, 195, 994, 995, 745, 996, 997, 998, 999, 1000, 122, 1001, 1002, 1003, 1004, 1005, 1006, 1007, 1008, 1009, 1010, 1011, 1012, 1013, 1014, 1015, 1016, 123, 1017, 1018, 1019, 1020, 1021, 1022, 1023, 1024, 1025, 365, 366, 367, 316, 317, 318, 319, 230, 231, 232, 233, 246, 247, 248, 249, 368, 369, 370, 371, 324, 325, 326, 327, 191, 192, 193, 194, 196, 119, 257, 258, 259, 260, 320, 321, 322, 323, 1026, 396, 397, 398, 234, 235, 236, 237, 238, 239, 240, 241, 242, 243, 244, 245, 250, 251, 252, 253, 254, 255, 256, 399, 400, 401, 402, 1027, 412, 413, 414, 1028, 430, 431, 432, 433, 434, 435, 436, 437, 438, 439, 440, 1029, 462, 463, 464, 465, 466, 467, 468, 469, 470, 471, 472, 473, 474, 475, 476, 477, 478, 479, 480, 481, 482, 483, 484, 1030, 498, 499, 500, 1031, 518, 519, 520, 521, 522, 523, 524, 1032, 535, 536, 537, 1033, 313, 314, 315, 1034, 565, 566, 567, 568, 569, 570, 571, 572, 573, 574, 575, 1052, 1053, 1054, 1055, 1056, 1057, 1058, 1059, 1060, 1061, 1062, 1063, 1064, 1065] (by decide +kernel) (by decide +kernel)
set_option maxRecDepth 20000 in
theorem gL_law_X11_fault : GoodIn wsL_law (wsV RL 127 RX11 yX11_fault wsX11_fault) := goodIn_app (goodIn_of _ (by decide +kernel)) ggL_law_X11_fault
set_option maxRecDepth 20000 in
theorem ggL_law_X10_play : GoodIn wsL_law wsX10_play := goodIn_r _ [1038, 29, 1039, 128, 129, 130, 2, 131, 16, 15, 132, 133, 134, 14, 135, 36, 40, 44, 48, 50, 136, 137, 138, 139, 140, 141, 142, 143, 35, 144, 145, 54, 146, 55, 56, 57, 147, 148, 149, 39, 150, 151, 61, 152, 62, 63, 64, 65, 66, 153, 154, 155, 43, 156, 157, 70, 158, 71, 72, 73, 74, 75, 76, 77, 78, 159, 160, 161, 47, 162, 163, 82, 164, 83, 84, 868, 869, 870, 28, 871, 98, 872, 873, 847, 102, 874, 875, 876, 877, 878, 879, 880, 881, 882, 883, 884, 885, 886, 887, 888, 101, 889, 890, 891, 892, 893, 100, 894, 895, 896, 897, 898, 899, 900, 901, 902, 903, 904, 905, 906, 907, 908, 909, 910, 911, 912, 913, 914, 915, 916, 917, 918, 919, 920, 921, 922, 923, 924, 925, 926, 927, 928, 929, 930, 931, 932, 933, 934, 935, 936, 937, 938, 939, 940, 941, 942, 943, 944, 945, 946, 947, 948, 949, 950, 951, 952, 953, 954, 955, 956, 957, 958, 959, 960, 961, 105, 962, 963, 964, 965, 966, 967, 968, 969, 970, 971, 333, 334, 335, 301, 336, 337, 338, 339, 340, 341, 308, 309, 310, 311, 205, 206, 207, 208, 342, 343, 344, 345, 346, 347, 348, 349, 350, 351, 352, 353, 354, 355, 356, 357, 358, 359, 360, 361, 362, 363, 972, 377, 378, 379, 380, 381, 307, 382, 383, 209, 210, 211, 212, 213, 214, 215, 216, 217, 218, 219, 220, 221, 384, 385, 386, 387, 388, 303, 304, 305, 389, 390, 391, 392, 393, 394, 973, 408, 409, 410, 974, 420, 421, 422, 423, 424, 425, 426, 427, 428, 975, 446, 447, 448, 449, 450, 451, 452, 453, 454, 455, 456, 457, 458, 459, 460, 976, 490, 491, 492, 493, 494, 495, 496, 977, 506, 507, 508, 509, 510, 511, 512, 513, 514, 515, 516, 978, 530, 531, 532, 533, 979, 298, 299, 300, 302, 306, 980, 543, 544, 545, 546, 547, 548, 549, 550, 551, 552, 553, 554, 555, 556, 557, 558, 559, 560, 561, 562, 563, 1040, 173, 174, 175, 176, 21, 177, 178, 179, 20, 180, 181, 182, 89, 183, 1045, 1046, 1047, 1048, 1049, 1050, 1051, 1081, 1082, 1083, 1084, 1085, 1086, 1087, 1088, 1089, 1066, 1067, 1068, 1069, 1070, 1071, 1090, 1091, 1092, 1093, 1094, 1095, 1096, 1097, 1098, 1099, 1100, 1101, 1102, 1103, 1104, 1105, 1106, 1107, 1108, 1109, 1110, 1111, 1112, 1113, 1114, 1115, 1072, 1073, 1074] (by decide +kernel) (by decide +kernel)
set_option maxRecDepth 20000 in
theorem gL_law_X10_play : GoodIn wsL_law (wsV RL 128 RX10 yX10_play wsX10_play) := goodIn_app (goodIn_of _ (by decide +kernel)) ggL_law_X10_play
set_option maxRecDepth 20000 in
theorem ggL_law_X11_play : GoodIn wsL_law wsX11_play := goodIn_r _ [1044, 118, 120, 995, 816, 817, 5, 818, 990, 991, 992, 993, 195, 994, 745, 989, 996, 997, 998, 999, 1000, 122, 1001, 1002, 1003, 1004, 1005, 1006, 1007, 1008, 1009, 1010, 1011, 1012, 188, 189, 190, 1013, 1014, 1015, 1016, 123, 1017, 1018, 1019, 1020, 1021, 1022, 1023, 1024, 1025, 365, 366, 367, 316, 317, 318, 319, 230, 231, 232, 233, 246, 247, 248, 249, 368, 369, 370, 371, 324, 325, 326, 327, 191, 192, 193, 194, 196, 119, 257, 258, 259, 260, 320, 321, 322, 323, 1026, 396, 397, 398, 234, 235, 236, 237, 238, 239, 240, 241, 242, 243, 244, 245, 250, 251, 252, 253, 254, 255, 256, 399, 400, 401, 402, 1027, 412, 413, 414, 1028, 430, 431, 432, 433, 434, 435, 436, 437, 438, 439, 440, 1029, 462, 463, 464, 465, 466, 467, 468, 469, 470, 471, 472, 473, 474, 475, 476, 477, 478, 479, 480, 481, 482, 483, 484, 1030, 498, 499, 500, 1031, 518, 519, 520, 521, 522, 523, 524, 1032, 535, 536, 537, 1033, 313, 314, 315, 1034, 565, 566, 567, 568, 569, 570, 571, 572, 573, 574, 575, 1052, 1053, 1054, 1055, 1056, 1057, 1058, 1059, 1060, 1061, 1062, 1063, 1064, 1065] (by decide +kernel) (by decide +kernel)
set_option maxRecDepth 20000 in
theorem gL_law_X11_play : GoodIn wsL_law (wsV RL 131 RX11 yX11_play wsX11_play) := goodIn_app (goodIn_of _ (by decide +kernel)) ggL_law_X11_play
theorem dL_law_0 : decode cL_law 0 = .ok (.new 7, 3) := by decide +kernel
theorem dL_law_3 : decode cL_law 3 = .ok (.dup, 1) := by decide +kernel
theorem dL_law_4 : decode cL_law 4 = .ok (.invokespecial 9, 3) := by decide +kernel
theorem dL_law_7 : decode cL_law 7 = .ok (.astore_n 1, 1) := by decide +kernel
theorem dL_law_8 : decode cL_law 8 = .ok (.new 10, 3) := by decide +kernel
theorem dL_law_11 : decode cL_law 11 = .ok (.dup, 1) := by decide +kernel
theorem dL_law_12 : decode cL_law 12 = .ok (.invokespecial 12, 3) := by decide +kernel
theorem dL_law_15 : decode cL_law 15 = .ok (.astore_n 2, 1) := by decide +kernel
theorem dL_law_16 : decode cL_law 16 = .ok (.iconst 0, 1) := by decide +kernel
theorem dL_law_17 : decode cL_law 17 = .ok (.istore_n 3, 1) := by decide +kernel
theorem dL_law_18 : decode cL_law 18 = .ok (.iload_n 3, 1) := by decide +kernel
theorem dL_law_19 : decode cL_law 19 = .ok (.aload_n 0, 1) := by decide +kernel
theorem dL_law_20 : decode cL_law 20 = .ok (.arraylength, 1) := by decide +kernel
theorem dL_law_21 : decode cL_law 21 = .ok (.iconst 3, 1) := by decide +kernel
theorem dL_law_22 : decode cL_law 22 = .ok (.isub, 1) := by decide +kernel
theorem dL_law_23 : decode cL_law 23 = .ok (.if_icmp .gt 884, 3) := by decide +kernel
theorem dL_law_26 : decode cL_law 26 = .ok (.aload_n 0, 1) := by decide +kernel
theorem dL_law_27 : decode cL_law 27 = .ok (.iload_n 3, 1) := by decide +kernel
theorem dL_law_28 : decode cL_law 28 = .ok (.iaload, 1) := by decide +kernel
theorem dL_law_29 : decode cL_law 29 = .ok (.bipush 31, 2) := by decide +kernel
theorem dL_law_31 : decode cL_law 31 = .ok (.iand, 1) := by decide +kernel
theorem dL_law_32 : decode cL_law 32 = .ok (.tableswitch 869 0 28 #[132, 165, 188, 201, 234, 257, 290, 323, 356, 379, 412, 445, 478, 511, 534, 567, 600, 633, 666, 699, 722, 745, 758, 771, 784, 797, 820, 833, 856], 132) := by decide +kernel
theorem dL_law_164 : decode cL_law 164 = .ok (.aload_n 1, 1) := by decide +kernel
theorem dL_law_165 : decode cL_law 165 = .ok (.aload_n 0, 1) := by decide +kernel
theorem dL_law_166 : decode cL_law 166 = .ok (.iload_n 3, 1) := by decide +kernel
theorem dL_law_167 : decode cL_law 167 = .ok (.iconst 1, 1) := by decide +kernel
theorem dL_law_168 : decode cL_law 168 = .ok (.iadd, 1) := by decide +kernel
theorem dL_law_169 : decode cL_law 169 = .ok (.iaload, 1) := by decide +kernel
theorem dL_law_170 : decode cL_law 170 = .ok (.aload_n 0, 1) := by decide +kernel
theorem dL_law_171 : decode cL_law 171 = .ok (.iload_n 3, 1) := by decide +kernel
theorem dL_law_172 : decode cL_law 172 = .ok (.iconst 2, 1) := by decide +kernel
theorem dL_law_173 : decode cL_law 173 = .ok (.iadd, 1) := by decide +kernel
theorem dL_law_174 : decode cL_law 174 = .ok (.iaload, 1) := by decide +kernel
theorem dL_law_175 : decode cL_law 175 = .ok (.invokevirtual 13, 3) := by decide +kernel
theorem dL_law_178 : decode cL_law 178 = .ok (.aload_n 2, 1) := by decide +kernel
theorem dL_law_179 : decode cL_law 179 = .ok (.aload_n 0, 1) := by decide +kernel
theorem dL_law_180 : decode cL_law 180 = .ok (.iload_n 3, 1) := by decide +kernel
theorem dL_law_181 : decode cL_law 181 = .ok (.iconst 1, 1) := by decide +kernel
theorem dL_law_182 : decode cL_law 182 = .ok (.iadd, 1) := by decide +kernel
theorem dL_law_183 : decode cL_law 183 = .ok (.iaload, 1) := by decide +kernel
theorem dL_law_184 : decode cL_law 184 = .ok (.aload_n 0, 1) := by decide +kernel
theorem dL_law_185 : decode cL_law 185 = .ok (.iload_n 3, 1) := by decide +kernel
theorem dL_law_186 : decode cL_law 186 = .ok (.iconst 2, 1) := by decide +kernel
theorem dL_law_187 : decode cL_law 187 = .ok (.iadd, 1) := by decide +kernel
theorem dL_law_188 : decode cL_law 188 = .ok (.iaload, 1) := by decide +kernel
theorem dL_law_189 : decode cL_law 189 = .ok (.invokevirtual 17, 3) := by decide +kernel
theorem dL_law_192 : decode cL_law 192 = .ok (.if_icmp .eq 709, 3) := by decide +kernel
theorem dL_law_195 : decode cL_law 195 = .ok (.iconst 0, 1) := by decide +kernel
theorem dL_law_196 : decode cL_law 196 = .ok (.ireturn, 1) := by decide +kernel
theorem dL_law_197 : decode cL_law 197 = .ok (.aload_n 1, 1) := by decide +kernel
theorem dL_law_198 : decode cL_law 198 = .ok (.aload_n 0, 1) := by decide +kernel
theorem dL_law_199 : decode cL_law 199 = .ok (.iload_n 3, 1) := by decide +kernel
theorem dL_law_200 : decode cL_law 200 = .ok (.iconst 1, 1) := by decide +kernel
theorem dL_law_201 : decode cL_law 201 = .ok (.iadd, 1) := by decide +kernel
theorem dL_law_202 : decode cL_law 202 = .ok (.iaload, 1) := by decide +kernel
theorem dL_law_203 : decode cL_law 203 = .ok (.invokevirtual 18, 3) := by decide +kernel
theorem dL_law_206 : decode cL_law 206 = .ok (.aload_n 2, 1) := by decide +kernel
theorem dL_law_207 : decode cL_law 207 = .ok (.aload_n 0, 1) := by decide +kernel
theorem dL_law_208 : decode cL_law 208 = .ok (.iload_n 3, 1) := by decide +kernel
theorem dL_law_209 : decode cL_law 209 = .ok (.iconst 1, 1) := by decide +kernel
theorem dL_law_210 : decode cL_law 210 = .ok (.iadd, 1) := by decide +kernel
theorem dL_law_211 : decode cL_law 211 = .ok (.iaload, 1) := by decide +kernel
theorem dL_law_212 : decode cL_law 212 = .ok (.invokevirtual 22, 3) := by decide +kernel
theorem dL_law_215 : decode cL_law 215 = .ok (.if_icmp .eq 686, 3) := by decide +kernel
theorem dL_law_218 : decode cL_law 218 = .ok (.iconst 0, 1) := by decide +kernel
theorem dL_law_219 : decode cL_law 219 = .ok (.ireturn, 1) := by decide +kernel
theorem dL_law_220 : decode cL_law 220 = .ok (.aload_n 1, 1) := by decide +kernel
theorem dL_law_221 : decode cL_law 221 = .ok (.invokevirtual 23, 3) := by decide +kernel
theorem dL_law_224 : decode cL_law 224 = .ok (.aload_n 2, 1) := by decide +kernel
theorem dL_law_225 : decode cL_law 225 = .ok (.invokevirtual 27, 3) := by decide +kernel
theorem dL_law_228 : decode cL_law 228 = .ok (.if_icmp .eq 673, 3) := by decide +kernel
theorem dL_law_231 : decode cL_law 231 = .ok (.iconst 0, 1) := by decide +kernel
theorem dL_law_232 : decode cL_law 232 = .ok (.ireturn, 1) := by decide +kernel
theorem dL_law_233 : decode cL_law 233 = .ok (.aload_n 1, 1) := by decide +kernel
theorem dL_law_234 : decode cL_law 234 = .ok (.aload_n 0, 1) := by decide +kernel
theorem dL_law_235 : decode cL_law 235 = .ok (.iload_n 3, 1) := by decide +kernel
theorem dL_law_236 : decode cL_law 236 = .ok (.iconst 1, 1) := by decide +kernel
theorem dL_law_237 : decode cL_law 237 = .ok (.iadd, 1) := by decide +kernel
theorem dL_law_238 : decode cL_law 238 = .ok (.iaload, 1) := by decide +kernel
theorem dL_law_239 : decode cL_law 239 = .ok (.aload_n 0, 1) := by decide +kernel
theorem dL_law_240 : decode cL_law 240 = .ok (.iload_n 3, 1) := by decide +kernel
theorem dL_law_241 : decode cL_law 241 = .ok (.iconst 2, 1) := by decide +kernel
theorem dL_law_242 : decode cL_law 242 = .ok (.iadd, 1) := by decide +kernel
theorem dL_law_243 : decode cL_law 243 = .ok (.iaload, 1) := by decide +kernel
theorem dL_law_244 : decode cL_law 244 = .ok (.invokevirtual 28, 3) := by decide +kernel
theorem dL_law_247 : decode cL_law 247 = .ok (.aload_n 2, 1) := by decide +kernel
theorem dL_law_248 : decode cL_law 248 = .ok (.aload_n 0, 1) := by decide +kernel
theorem dL_law_249 : decode cL_law 249 = .ok (.iload_n 3, 1) := by decide +kernel
theorem dL_law_250 : decode cL_law 250 = .ok (.iconst 1, 1) := by decide +kernel
theorem dL_law_251 : decode cL_law 251 = .ok (.iadd, 1) := by decide +kernel
