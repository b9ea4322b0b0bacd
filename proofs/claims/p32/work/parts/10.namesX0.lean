theorem dX1_init_0 : decode cX1_init 0 = .ok (.aload_n 0, 1) := by decide +kernel
theorem dX1_init_1 : decode cX1_init 1 = .ok (.invokespecial 3, 3) := by decide +kernel
theorem dX1_init_4 : decode cX1_init 4 = .ok (.aload_n 0, 1) := by decide +kernel
theorem dX1_init_5 : decode cX1_init 5 = .ok (.bipush 16, 2) := by decide +kernel
theorem dX1_init_7 : decode cX1_init 7 = .ok (.newarray .int, 2) := by decide +kernel
theorem dX1_init_9 : decode cX1_init 9 = .ok (.putfield 11, 3) := by decide +kernel
theorem dX1_init_12 : decode cX1_init 12 = .ok (.aload_n 0, 1) := by decide +kernel
theorem dX1_init_13 : decode cX1_init 13 = .ok (.bipush 16, 2) := by decide +kernel
theorem dX1_init_15 : decode cX1_init 15 = .ok (.newarray .int, 2) := by decide +kernel
theorem dX1_init_17 : decode cX1_init 17 = .ok (.putfield 15, 3) := by decide +kernel
theorem dX1_init_20 : decode cX1_init 20 = .ok (.aload_n 0, 1) := by decide +kernel
theorem dX1_init_21 : decode cX1_init 21 = .ok (.bipush 16, 2) := by decide +kernel
theorem dX1_init_23 : decode cX1_init 23 = .ok (.newarray .int, 2) := by decide +kernel
theorem dX1_init_25 : decode cX1_init 25 = .ok (.putfield 18, 3) := by decide +kernel
theorem dX1_init_28 : decode cX1_init 28 = .ok (.aload_n 0, 1) := by decide +kernel
theorem dX1_init_29 : decode cX1_init 29 = .ok (.bipush 16, 2) := by decide +kernel
theorem dX1_init_31 : decode cX1_init 31 = .ok (.newarray .int, 2) := by decide +kernel
theorem dX1_init_33 : decode cX1_init 33 = .ok (.putfield 21, 3) := by decide +kernel
theorem dX1_init_36 : decode cX1_init 36 = .ok (.aload_n 0, 1) := by decide +kernel
theorem dX1_init_37 : decode cX1_init 37 = .ok (.bipush 16, 2) := by decide +kernel
theorem dX1_init_39 : decode cX1_init 39 = .ok (.newarray .int, 2) := by decide +kernel
theorem dX1_init_41 : decode cX1_init 41 = .ok (.putfield 24, 3) := by decide +kernel
theorem dX1_init_44 : decode cX1_init 44 = .ok (.aload_n 0, 1) := by decide +kernel
theorem dX1_init_45 : decode cX1_init 45 = .ok (.bipush 16, 2) := by decide +kernel
theorem dX1_init_47 : decode cX1_init 47 = .ok (.newarray .int, 2) := by decide +kernel
theorem dX1_init_49 : decode cX1_init 49 = .ok (.putfield 27, 3) := by decide +kernel
theorem dX1_init_52 : decode cX1_init 52 = .ok (.return_, 1) := by decide +kernel
theorem dX1_copy_0 : decode cX1_copy 0 = .ok (.aload_n 0, 1) := by decide +kernel
theorem dX1_copy_1 : decode cX1_copy 1 = .ok (.aload_n 1, 1) := by decide +kernel
theorem dX1_copy_2 : decode cX1_copy 2 = .ok (.getfield 30, 3) := by decide +kernel
theorem dX1_copy_5 : decode cX1_copy 5 = .ok (.putfield 30, 3) := by decide +kernel
theorem dX1_copy_8 : decode cX1_copy 8 = .ok (.aload_n 1, 1) := by decide +kernel
theorem dX1_copy_9 : decode cX1_copy 9 = .ok (.getfield 11, 3) := by decide +kernel
theorem dX1_copy_12 : decode cX1_copy 12 = .ok (.iconst 0, 1) := by decide +kernel
theorem dX1_copy_13 : decode cX1_copy 13 = .ok (.aload_n 0, 1) := by decide +kernel
theorem dX1_copy_14 : decode cX1_copy 14 = .ok (.getfield 11, 3) := by decide +kernel
theorem dX1_copy_17 : decode cX1_copy 17 = .ok (.iconst 0, 1) := by decide +kernel
theorem dX1_copy_18 : decode cX1_copy 18 = .ok (.bipush 16, 2) := by decide +kernel
theorem dX1_copy_20 : decode cX1_copy 20 = .ok (.invokestatic 34, 3) := by decide +kernel
theorem dX1_copy_23 : decode cX1_copy 23 = .ok (.aload_n 1, 1) := by decide +kernel
theorem dX1_copy_24 : decode cX1_copy 24 = .ok (.getfield 15, 3) := by decide +kernel
theorem dX1_copy_27 : decode cX1_copy 27 = .ok (.iconst 0, 1) := by decide +kernel
theorem dX1_copy_28 : decode cX1_copy 28 = .ok (.aload_n 0, 1) := by decide +kernel
theorem dX1_copy_29 : decode cX1_copy 29 = .ok (.getfield 15, 3) := by decide +kernel
theorem dX1_copy_32 : decode cX1_copy 32 = .ok (.iconst 0, 1) := by decide +kernel
theorem dX1_copy_33 : decode cX1_copy 33 = .ok (.bipush 16, 2) := by decide +kernel
theorem dX1_copy_35 : decode cX1_copy 35 = .ok (.invokestatic 34, 3) := by decide +kernel
theorem dX1_copy_38 : decode cX1_copy 38 = .ok (.aload_n 1, 1) := by decide +kernel
theorem dX1_copy_39 : decode cX1_copy 39 = .ok (.getfield 18, 3) := by decide +kernel
theorem dX1_copy_42 : decode cX1_copy 42 = .ok (.iconst 0, 1) := by decide +kernel
theorem dX1_copy_43 : decode cX1_copy 43 = .ok (.aload_n 0, 1) := by decide +kernel
theorem dX1_copy_44 : decode cX1_copy 44 = .ok (.getfield 18, 3) := by decide +kernel
theorem dX1_copy_47 : decode cX1_copy 47 = .ok (.iconst 0, 1) := by decide +kernel
theorem dX1_copy_48 : decode cX1_copy 48 = .ok (.bipush 16, 2) := by decide +kernel
theorem dX1_copy_50 : decode cX1_copy 50 = .ok (.invokestatic 34, 3) := by decide +kernel
theorem dX1_copy_53 : decode cX1_copy 53 = .ok (.aload_n 1, 1) := by decide +kernel
theorem dX1_copy_54 : decode cX1_copy 54 = .ok (.getfield 21, 3) := by decide +kernel
theorem dX1_copy_57 : decode cX1_copy 57 = .ok (.iconst 0, 1) := by decide +kernel
theorem dX1_copy_58 : decode cX1_copy 58 = .ok (.aload_n 0, 1) := by decide +kernel
theorem dX1_copy_59 : decode cX1_copy 59 = .ok (.getfield 21, 3) := by decide +kernel
theorem dX1_copy_62 : decode cX1_copy 62 = .ok (.iconst 0, 1) := by decide +kernel
theorem dX1_copy_63 : decode cX1_copy 63 = .ok (.bipush 16, 2) := by decide +kernel
theorem dX1_copy_65 : decode cX1_copy 65 = .ok (.invokestatic 34, 3) := by decide +kernel
theorem dX1_copy_68 : decode cX1_copy 68 = .ok (.aload_n 1, 1) := by decide +kernel
theorem dX1_copy_69 : decode cX1_copy 69 = .ok (.getfield 24, 3) := by decide +kernel
theorem dX1_copy_72 : decode cX1_copy 72 = .ok (.iconst 0, 1) := by decide +kernel
theorem dX1_copy_73 : decode cX1_copy 73 = .ok (.aload_n 0, 1) := by decide +kernel
theorem dX1_copy_74 : decode cX1_copy 74 = .ok (.getfield 24, 3) := by decide +kernel
theorem dX1_copy_77 : decode cX1_copy 77 = .ok (.iconst 0, 1) := by decide +kernel
theorem dX1_copy_78 : decode cX1_copy 78 = .ok (.bipush 16, 2) := by decide +kernel
theorem dX1_copy_80 : decode cX1_copy 80 = .ok (.invokestatic 34, 3) := by decide +kernel
theorem dX1_copy_83 : decode cX1_copy 83 = .ok (.aload_n 1, 1) := by decide +kernel
theorem dX1_copy_84 : decode cX1_copy 84 = .ok (.getfield 27, 3) := by decide +kernel
theorem dX1_copy_87 : decode cX1_copy 87 = .ok (.iconst 0, 1) := by decide +kernel
theorem dX1_copy_88 : decode cX1_copy 88 = .ok (.aload_n 0, 1) := by decide +kernel
theorem dX1_copy_89 : decode cX1_copy 89 = .ok (.getfield 27, 3) := by decide +kernel
theorem dX1_copy_92 : decode cX1_copy 92 = .ok (.iconst 0, 1) := by decide +kernel
theorem dX1_copy_93 : decode cX1_copy 93 = .ok (.bipush 16, 2) := by decide +kernel
theorem dX1_copy_95 : decode cX1_copy 95 = .ok (.invokestatic 34, 3) := by decide +kernel
theorem dX1_copy_98 : decode cX1_copy 98 = .ok (.return_, 1) := by decide +kernel
theorem dX1_has_0 : decode cX1_has 0 = .ok (.iload_n 1, 1) := by decide +kernel
theorem dX1_has_1 : decode cX1_has 1 = .ok (.ifCond .lt 15, 3) := by decide +kernel
theorem dX1_has_4 : decode cX1_has 4 = .ok (.iload_n 1, 1) := by decide +kernel
theorem dX1_has_5 : decode cX1_has 5 = .ok (.aload_n 0, 1) := by decide +kernel
theorem dX1_has_6 : decode cX1_has 6 = .ok (.getfield 30, 3) := by decide +kernel
theorem dX1_has_9 : decode cX1_has 9 = .ok (.if_icmp .ge 7, 3) := by decide +kernel
theorem dX1_has_12 : decode cX1_has 12 = .ok (.iconst 1, 1) := by decide +kernel
theorem dX1_has_13 : decode cX1_has 13 = .ok (.goto 4, 3) := by decide +kernel
theorem dX1_has_16 : decode cX1_has 16 = .ok (.iconst 0, 1) := by decide +kernel
theorem dX1_has_17 : decode cX1_has 17 = .ok (.ireturn, 1) := by decide +kernel
theorem dX1_add_0 : decode cX1_add 0 = .ok (.aload_n 0, 1) := by decide +kernel
theorem dX1_add_1 : decode cX1_add 1 = .ok (.getfield 30, 3) := by decide +kernel
theorem dX1_add_4 : decode cX1_add 4 = .ok (.bipush 16, 2) := by decide +kernel
theorem dX1_add_6 : decode cX1_add 6 = .ok (.if_icmp .lt 6, 3) := by decide +kernel
theorem dX1_add_9 : decode cX1_add 9 = .ok (.bipush (-3), 2) := by decide +kernel
theorem dX1_add_11 : decode cX1_add 11 = .ok (.ireturn, 1) := by decide +kernel
theorem dX1_add_12 : decode cX1_add 12 = .ok (.aload_n 0, 1) := by decide +kernel
theorem dX1_add_13 : decode cX1_add 13 = .ok (.getfield 11, 3) := by decide +kernel
theorem dX1_add_16 : decode cX1_add 16 = .ok (.aload_n 0, 1) := by decide +kernel
theorem dX1_add_17 : decode cX1_add 17 = .ok (.getfield 30, 3) := by decide +kernel
theorem dX1_add_20 : decode cX1_add 20 = .ok (.iconst 0, 1) := by decide +kernel
theorem dX1_add_21 : decode cX1_add 21 = .ok (.iastore, 1) := by decide +kernel
theorem dX1_add_22 : decode cX1_add 22 = .ok (.aload_n 0, 1) := by decide +kernel
theorem dX1_add_23 : decode cX1_add 23 = .ok (.getfield 15, 3) := by decide +kernel
theorem dX1_add_26 : decode cX1_add 26 = .ok (.aload_n 0, 1) := by decide +kernel
theorem dX1_add_27 : decode cX1_add 27 = .ok (.getfield 30, 3) := by decide +kernel
theorem dX1_add_30 : decode cX1_add 30 = .ok (.iload_n 1, 1) := by decide +kernel
theorem dX1_add_31 : decode cX1_add 31 = .ok (.iastore, 1) := by decide +kernel
theorem dX1_add_32 : decode cX1_add 32 = .ok (.aload_n 0, 1) := by decide +kernel
theorem dX1_add_33 : decode cX1_add 33 = .ok (.dup, 1) := by decide +kernel
theorem dX1_add_34 : decode cX1_add 34 = .ok (.getfield 30, 3) := by decide +kernel
theorem dX1_add_37 : decode cX1_add 37 = .ok (.iconst 1, 1) := by decide +kernel
theorem dX1_add_38 : decode cX1_add 38 = .ok (.iadd, 1) := by decide +kernel
theorem dX1_add_39 : decode cX1_add 39 = .ok (.putfield 30, 3) := by decide +kernel
theorem dX1_add_42 : decode cX1_add 42 = .ok (.aload_n 0, 1) := by decide +kernel
theorem dX1_add_43 : decode cX1_add 43 = .ok (.getfield 30, 3) := by decide +kernel
theorem dX1_add_46 : decode cX1_add 46 = .ok (.iconst 1, 1) := by decide +kernel
theorem dX1_add_47 : decode cX1_add 47 = .ok (.isub, 1) := by decide +kernel
theorem dX1_add_48 : decode cX1_add 48 = .ok (.ireturn, 1) := by decide +kernel
set_option maxRecDepth 20000 in
theorem ggX1_isAt_X1_has : GoodIn wsX1_isAt wsX1_has := goodIn_r _ [7, 8, 9, 10, 11, 12, 13, 14, 15] (by decide +kernel) (by decide +kernel)
set_option maxRecDepth 20000 in
theorem gX1_isAt_X1_has : GoodIn wsX1_isAt (wsV RX1 40 RX1 yX1_has wsX1_has) := goodIn_app (goodIn_of _ (by decide +kernel)) ggX1_isAt_X1_has
theorem dX1_isAt_0 : decode cX1_isAt 0 = .ok (.aload_n 0, 1) := by decide +kernel
theorem dX1_isAt_1 : decode cX1_isAt 1 = .ok (.iload_n 1, 1) := by decide +kernel
theorem dX1_isAt_2 : decode cX1_isAt 2 = .ok (.invokevirtual 40, 3) := by decide +kernel
theorem dX1_isAt_5 : decode cX1_isAt 5 = .ok (.ifCond .eq 27, 3) := by decide +kernel
theorem dX1_isAt_8 : decode cX1_isAt 8 = .ok (.aload_n 0, 1) := by decide +kernel
theorem dX1_isAt_9 : decode cX1_isAt 9 = .ok (.getfield 11, 3) := by decide +kernel
theorem dX1_isAt_12 : decode cX1_isAt 12 = .ok (.iload_n 1, 1) := by decide +kernel
theorem dX1_isAt_13 : decode cX1_isAt 13 = .ok (.iaload, 1) := by decide +kernel
theorem dX1_isAt_14 : decode cX1_isAt 14 = .ok (.iload_n 2, 1) := by decide +kernel
theorem dX1_isAt_15 : decode cX1_isAt 15 = .ok (.if_icmp .ne 17, 3) := by decide +kernel
theorem dX1_isAt_18 : decode cX1_isAt 18 = .ok (.aload_n 0, 1) := by decide +kernel
theorem dX1_isAt_19 : decode cX1_isAt 19 = .ok (.getfield 15, 3) := by decide +kernel
theorem dX1_isAt_22 : decode cX1_isAt 22 = .ok (.iload_n 1, 1) := by decide +kernel
theorem dX1_isAt_23 : decode cX1_isAt 23 = .ok (.iaload, 1) := by decide +kernel
theorem dX1_isAt_24 : decode cX1_isAt 24 = .ok (.iload_n 3, 1) := by decide +kernel
theorem dX1_isAt_25 : decode cX1_isAt 25 = .ok (.if_icmp .ne 7, 3) := by decide +kernel
theorem dX1_isAt_28 : decode cX1_isAt 28 = .ok (.iconst 1, 1) := by decide +kernel
theorem dX1_isAt_29 : decode cX1_isAt 29 = .ok (.goto 4, 3) := by decide +kernel
theorem dX1_isAt_32 : decode cX1_isAt 32 = .ok (.iconst 0, 1) := by decide +kernel
theorem dX1_isAt_33 : decode cX1_isAt 33 = .ok (.ireturn, 1) := by decide +kernel
set_option maxRecDepth 20000 in
theorem ggX1_holderOrNotFound_X1_has : GoodIn wsX1_holderOrNotFound wsX1_has := goodIn_r _ [7, 8, 9, 10, 11, 12, 13, 14, 15] (by decide +kernel) (by decide +kernel)
set_option maxRecDepth 20000 in
theorem gX1_holderOrNotFound_X1_has : GoodIn wsX1_holderOrNotFound (wsV RX1 40 RX1 yX1_has wsX1_has) := goodIn_app (goodIn_of _ (by decide +kernel)) ggX1_holderOrNotFound_X1_has
theorem dX1_holderOrNotFound_0 : decode cX1_holderOrNotFound 0 = .ok (.aload_n 0, 1) := by decide +kernel
theorem dX1_holderOrNotFound_1 : decode cX1_holderOrNotFound 1 = .ok (.iload_n 1, 1) := by decide +kernel
theorem dX1_holderOrNotFound_2 : decode cX1_holderOrNotFound 2 = .ok (.invokevirtual 40, 3) := by decide +kernel
theorem dX1_holderOrNotFound_5 : decode cX1_holderOrNotFound 5 = .ok (.ifCond .eq 22, 3) := by decide +kernel
theorem dX1_holderOrNotFound_8 : decode cX1_holderOrNotFound 8 = .ok (.aload_n 0, 1) := by decide +kernel
theorem dX1_holderOrNotFound_9 : decode cX1_holderOrNotFound 9 = .ok (.getfield 11, 3) := by decide +kernel
theorem dX1_holderOrNotFound_12 : decode cX1_holderOrNotFound 12 = .ok (.iload_n 1, 1) := by decide +kernel
theorem dX1_holderOrNotFound_13 : decode cX1_holderOrNotFound 13 = .ok (.iaload, 1) := by decide +kernel
theorem dX1_holderOrNotFound_14 : decode cX1_holderOrNotFound 14 = .ok (.iconst 3, 1) := by decide +kernel
theorem dX1_holderOrNotFound_15 : decode cX1_holderOrNotFound 15 = .ok (.if_icmp .eq 12, 3) := by decide +kernel
theorem dX1_holderOrNotFound_18 : decode cX1_holderOrNotFound 18 = .ok (.aload_n 0, 1) := by decide +kernel
theorem dX1_holderOrNotFound_19 : decode cX1_holderOrNotFound 19 = .ok (.getfield 15, 3) := by decide +kernel
theorem dX1_holderOrNotFound_22 : decode cX1_holderOrNotFound 22 = .ok (.iload_n 1, 1) := by decide +kernel
theorem dX1_holderOrNotFound_23 : decode cX1_holderOrNotFound 23 = .ok (.iaload, 1) := by decide +kernel
theorem dX1_holderOrNotFound_24 : decode cX1_holderOrNotFound 24 = .ok (.goto 5, 3) := by decide +kernel
theorem dX1_holderOrNotFound_27 : decode cX1_holderOrNotFound 27 = .ok (.bipush (-4), 2) := by decide +kernel
theorem dX1_holderOrNotFound_29 : decode cX1_holderOrNotFound 29 = .ok (.ireturn, 1) := by decide +kernel
set_option maxRecDepth 20000 in
theorem ggX1_bring_X1_has : GoodIn wsX1_bring wsX1_has := goodIn_r _ [7, 8, 9, 10, 11, 12, 13, 14, 15] (by decide +kernel) (by decide +kernel)
set_option maxRecDepth 20000 in
theorem gX1_bring_X1_has : GoodIn wsX1_bring (wsV RX1 40 RX1 yX1_has wsX1_has) := goodIn_app (goodIn_of _ (by decide +kernel)) ggX1_bring_X1_has
theorem dX1_bring_0 : decode cX1_bring 0 = .ok (.aload_n 0, 1) := by decide +kernel
theorem dX1_bring_1 : decode cX1_bring 1 = .ok (.iload_n 1, 1) := by decide +kernel
theorem dX1_bring_2 : decode cX1_bring 2 = .ok (.invokevirtual 40, 3) := by decide +kernel
theorem dX1_bring_5 : decode cX1_bring 5 = .ok (.ifCond .eq 17, 3) := by decide +kernel
theorem dX1_bring_8 : decode cX1_bring 8 = .ok (.aload_n 0, 1) := by decide +kernel
theorem dX1_bring_9 : decode cX1_bring 9 = .ok (.getfield 11, 3) := by decide +kernel
theorem dX1_bring_12 : decode cX1_bring 12 = .ok (.iload_n 1, 1) := by decide +kernel
theorem dX1_bring_13 : decode cX1_bring 13 = .ok (.iload_n 2, 1) := by decide +kernel
theorem dX1_bring_14 : decode cX1_bring 14 = .ok (.iastore, 1) := by decide +kernel
theorem dX1_bring_15 : decode cX1_bring 15 = .ok (.aload_n 0, 1) := by decide +kernel
theorem dX1_bring_16 : decode cX1_bring 16 = .ok (.getfield 15, 3) := by decide +kernel
theorem dX1_bring_19 : decode cX1_bring 19 = .ok (.iload_n 1, 1) := by decide +kernel
theorem dX1_bring_20 : decode cX1_bring 20 = .ok (.iload_n 3, 1) := by decide +kernel
theorem dX1_bring_21 : decode cX1_bring 21 = .ok (.iastore, 1) := by decide +kernel
theorem dX1_bring_22 : decode cX1_bring 22 = .ok (.return_, 1) := by decide +kernel
theorem dX1_countWhere_0 : decode cX1_countWhere 0 = .ok (.iconst 0, 1) := by decide +kernel
theorem dX1_countWhere_1 : decode cX1_countWhere 1 = .ok (.istore_n 2, 1) := by decide +kernel
theorem dX1_countWhere_2 : decode cX1_countWhere 2 = .ok (.iconst 0, 1) := by decide +kernel
theorem dX1_countWhere_3 : decode cX1_countWhere 3 = .ok (.istore_n 3, 1) := by decide +kernel
theorem dX1_countWhere_4 : decode cX1_countWhere 4 = .ok (.iload_n 3, 1) := by decide +kernel
theorem dX1_countWhere_5 : decode cX1_countWhere 5 = .ok (.aload_n 0, 1) := by decide +kernel
theorem dX1_countWhere_6 : decode cX1_countWhere 6 = .ok (.getfield 30, 3) := by decide +kernel
theorem dX1_countWhere_9 : decode cX1_countWhere 9 = .ok (.if_icmp .ge 22, 3) := by decide +kernel
theorem dX1_countWhere_12 : decode cX1_countWhere 12 = .ok (.aload_n 0, 1) := by decide +kernel
theorem dX1_countWhere_13 : decode cX1_countWhere 13 = .ok (.getfield 11, 3) := by decide +kernel
theorem dX1_countWhere_16 : decode cX1_countWhere 16 = .ok (.iload_n 3, 1) := by decide +kernel
theorem dX1_countWhere_17 : decode cX1_countWhere 17 = .ok (.iaload, 1) := by decide +kernel
theorem dX1_countWhere_18 : decode cX1_countWhere 18 = .ok (.iload_n 1, 1) := by decide +kernel
theorem dX1_countWhere_19 : decode cX1_countWhere 19 = .ok (.if_icmp .ne 6, 3) := by decide +kernel
theorem dX1_countWhere_22 : decode cX1_countWhere 22 = .ok (.iinc 2 1, 3) := by decide +kernel
theorem dX1_countWhere_25 : decode cX1_countWhere 25 = .ok (.iinc 3 1, 3) := by decide +kernel
theorem dX1_countWhere_28 : decode cX1_countWhere 28 = .ok (.goto (-24), 3) := by decide +kernel
theorem dX1_countWhere_31 : decode cX1_countWhere 31 = .ok (.iload_n 2, 1) := by decide +kernel
theorem dX1_countWhere_32 : decode cX1_countWhere 32 = .ok (.ireturn, 1) := by decide +kernel
theorem dX1_setAt_0 : decode cX1_setAt 0 = .ok (.iconst 0, 1) := by decide +kernel
theorem dX1_setAt_1 : decode cX1_setAt 1 = .ok (.istore_n 3, 1) := by decide +kernel
theorem dX1_setAt_2 : decode cX1_setAt 2 = .ok (.iconst 0, 1) := by decide +kernel
theorem dX1_setAt_3 : decode cX1_setAt 3 = .ok (.istore 4, 2) := by decide +kernel
theorem dX1_setAt_5 : decode cX1_setAt 5 = .ok (.iload 4, 2) := by decide +kernel
theorem dX1_setAt_7 : decode cX1_setAt 7 = .ok (.aload_n 0, 1) := by decide +kernel
theorem dX1_setAt_8 : decode cX1_setAt 8 = .ok (.getfield 30, 3) := by decide +kernel
theorem dX1_setAt_11 : decode cX1_setAt 11 = .ok (.if_icmp .ge 38, 3) := by decide +kernel
theorem dX1_setAt_14 : decode cX1_setAt 14 = .ok (.aload_n 0, 1) := by decide +kernel
theorem dX1_setAt_15 : decode cX1_setAt 15 = .ok (.getfield 11, 3) := by decide +kernel
theorem dX1_setAt_18 : decode cX1_setAt 18 = .ok (.iload 4, 2) := by decide +kernel
theorem dX1_setAt_20 : decode cX1_setAt 20 = .ok (.iaload, 1) := by decide +kernel
theorem dX1_setAt_21 : decode cX1_setAt 21 = .ok (.iload_n 1, 1) := by decide +kernel
theorem dX1_setAt_22 : decode cX1_setAt 22 = .ok (.if_icmp .ne 21, 3) := by decide +kernel
theorem dX1_setAt_25 : decode cX1_setAt 25 = .ok (.aload_n 0, 1) := by decide +kernel
theorem dX1_setAt_26 : decode cX1_setAt 26 = .ok (.getfield 15, 3) := by decide +kernel
theorem dX1_setAt_29 : decode cX1_setAt 29 = .ok (.iload 4, 2) := by decide +kernel
theorem dX1_setAt_31 : decode cX1_setAt 31 = .ok (.iaload, 1) := by decide +kernel
theorem dX1_setAt_32 : decode cX1_setAt 32 = .ok (.iload_n 2, 1) := by decide +kernel
theorem dX1_setAt_33 : decode cX1_setAt 33 = .ok (.if_icmp .ne 10, 3) := by decide +kernel
theorem dX1_setAt_36 : decode cX1_setAt 36 = .ok (.iload_n 3, 1) := by decide +kernel
theorem dX1_setAt_37 : decode cX1_setAt 37 = .ok (.iconst 1, 1) := by decide +kernel
theorem dX1_setAt_38 : decode cX1_setAt 38 = .ok (.iload 4, 2) := by decide +kernel
theorem dX1_setAt_40 : decode cX1_setAt 40 = .ok (.ishl, 1) := by decide +kernel
theorem dX1_setAt_41 : decode cX1_setAt 41 = .ok (.ior, 1) := by decide +kernel
theorem dX1_setAt_42 : decode cX1_setAt 42 = .ok (.istore_n 3, 1) := by decide +kernel
theorem dX1_setAt_43 : decode cX1_setAt 43 = .ok (.iinc 4 1, 3) := by decide +kernel
theorem dX1_setAt_46 : decode cX1_setAt 46 = .ok (.goto (-41), 3) := by decide +kernel
theorem dX1_setAt_49 : decode cX1_setAt 49 = .ok (.iload_n 3, 1) := by decide +kernel
theorem dX1_setAt_50 : decode cX1_setAt 50 = .ok (.ireturn, 1) := by decide +kernel
theorem dX1_countAt_0 : decode cX1_countAt 0 = .ok (.iconst 0, 1) := by decide +kernel
theorem dX1_countAt_1 : decode cX1_countAt 1 = .ok (.istore_n 3, 1) := by decide +kernel
theorem dX1_countAt_2 : decode cX1_countAt 2 = .ok (.iconst 0, 1) := by decide +kernel
theorem dX1_countAt_3 : decode cX1_countAt 3 = .ok (.istore 4, 2) := by decide +kernel
theorem dX1_countAt_5 : decode cX1_countAt 5 = .ok (.iload 4, 2) := by decide +kernel
theorem dX1_countAt_7 : decode cX1_countAt 7 = .ok (.aload_n 0, 1) := by decide +kernel
theorem dX1_countAt_8 : decode cX1_countAt 8 = .ok (.getfield 30, 3) := by decide +kernel
theorem dX1_countAt_11 : decode cX1_countAt 11 = .ok (.if_icmp .ge 34, 3) := by decide +kernel
theorem dX1_countAt_14 : decode cX1_countAt 14 = .ok (.aload_n 0, 1) := by decide +kernel
theorem dX1_countAt_15 : decode cX1_countAt 15 = .ok (.getfield 11, 3) := by decide +kernel
theorem dX1_countAt_18 : decode cX1_countAt 18 = .ok (.iload 4, 2) := by decide +kernel
theorem dX1_countAt_20 : decode cX1_countAt 20 = .ok (.iaload, 1) := by decide +kernel
theorem dX1_countAt_21 : decode cX1_countAt 21 = .ok (.iload_n 1, 1) := by decide +kernel
theorem dX1_countAt_22 : decode cX1_countAt 22 = .ok (.if_icmp .ne 17, 3) := by decide +kernel
theorem dX1_countAt_25 : decode cX1_countAt 25 = .ok (.aload_n 0, 1) := by decide +kernel
theorem dX1_countAt_26 : decode cX1_countAt 26 = .ok (.getfield 15, 3) := by decide +kernel
theorem dX1_countAt_29 : decode cX1_countAt 29 = .ok (.iload 4, 2) := by decide +kernel
theorem dX1_countAt_31 : decode cX1_countAt 31 = .ok (.iaload, 1) := by decide +kernel
theorem dX1_countAt_32 : decode cX1_countAt 32 = .ok (.iload_n 2, 1) := by decide +kernel
theorem dX1_countAt_33 : decode cX1_countAt 33 = .ok (.if_icmp .ne 6, 3) := by decide +kernel
theorem dX1_countAt_36 : decode cX1_countAt 36 = .ok (.iinc 3 1, 3) := by decide +kernel
theorem dX1_countAt_39 : decode cX1_countAt 39 = .ok (.iinc 4 1, 3) := by decide +kernel
theorem dX1_countAt_42 : decode cX1_countAt 42 = .ok (.goto (-37), 3) := by decide +kernel
theorem dX1_countAt_45 : decode cX1_countAt 45 = .ok (.iload_n 3, 1) := by decide +kernel
theorem dX1_countAt_46 : decode cX1_countAt 46 = .ok (.ireturn, 1) := by decide +kernel
theorem dX1_countFaulty_0 : decode cX1_countFaulty 0 = .ok (.iconst 0, 1) := by decide +kernel
theorem dX1_countFaulty_1 : decode cX1_countFaulty 1 = .ok (.istore_n 1, 1) := by decide +kernel
theorem dX1_countFaulty_2 : decode cX1_countFaulty 2 = .ok (.iconst 0, 1) := by decide +kernel
theorem dX1_countFaulty_3 : decode cX1_countFaulty 3 = .ok (.istore_n 2, 1) := by decide +kernel
theorem dX1_countFaulty_4 : decode cX1_countFaulty 4 = .ok (.iload_n 2, 1) := by decide +kernel
theorem dX1_countFaulty_5 : decode cX1_countFaulty 5 = .ok (.aload_n 0, 1) := by decide +kernel
theorem dX1_countFaulty_6 : decode cX1_countFaulty 6 = .ok (.getfield 30, 3) := by decide +kernel
theorem dX1_countFaulty_9 : decode cX1_countFaulty 9 = .ok (.if_icmp .ge 18, 3) := by decide +kernel
theorem dX1_countFaulty_12 : decode cX1_countFaulty 12 = .ok (.iload_n 1, 1) := by decide +kernel
theorem dX1_countFaulty_13 : decode cX1_countFaulty 13 = .ok (.aload_n 0, 1) := by decide +kernel
theorem dX1_countFaulty_14 : decode cX1_countFaulty 14 = .ok (.getfield 21, 3) := by decide +kernel
theorem dX1_countFaulty_17 : decode cX1_countFaulty 17 = .ok (.iload_n 2, 1) := by decide +kernel
theorem dX1_countFaulty_18 : decode cX1_countFaulty 18 = .ok (.iaload, 1) := by decide +kernel
theorem dX1_countFaulty_19 : decode cX1_countFaulty 19 = .ok (.iadd, 1) := by decide +kernel
theorem dX1_countFaulty_20 : decode cX1_countFaulty 20 = .ok (.istore_n 1, 1) := by decide +kernel
theorem dX1_countFaulty_21 : decode cX1_countFaulty 21 = .ok (.iinc 2 1, 3) := by decide +kernel
theorem dX1_countFaulty_24 : decode cX1_countFaulty 24 = .ok (.goto (-20), 3) := by decide +kernel
theorem dX1_countFaulty_27 : decode cX1_countFaulty 27 = .ok (.iload_n 1, 1) := by decide +kernel
theorem dX1_countFaulty_28 : decode cX1_countFaulty 28 = .ok (.ireturn, 1) := by decide +kernel
set_option maxRecDepth 20000 in
theorem ggX1_leastRiddenAt_X1_isAt : GoodIn wsX1_leastRiddenAt wsX1_isAt := goodIn_r _ [8, 9, 10, 11, 12, 13, 7, 14, 1, 15, 16, 17, 18, 19, 20, 21] (by decide +kernel) (by decide +kernel)
set_option maxRecDepth 20000 in
theorem gX1_leastRiddenAt_X1_isAt : GoodIn wsX1_leastRiddenAt (wsV RX1 44 RX1 yX1_isAt wsX1_isAt) := goodIn_app (goodIn_of _ (by decide +kernel)) ggX1_leastRiddenAt_X1_isAt
theorem dX1_leastRiddenAt_0 : decode cX1_leastRiddenAt 0 = .ok (.iconst (-1), 1) := by decide +kernel
theorem dX1_leastRiddenAt_1 : decode cX1_leastRiddenAt 1 = .ok (.istore_n 2, 1) := by decide +kernel
theorem dX1_leastRiddenAt_2 : decode cX1_leastRiddenAt 2 = .ok (.iconst 0, 1) := by decide +kernel
theorem dX1_leastRiddenAt_3 : decode cX1_leastRiddenAt 3 = .ok (.istore_n 3, 1) := by decide +kernel
theorem dX1_leastRiddenAt_4 : decode cX1_leastRiddenAt 4 = .ok (.iload_n 3, 1) := by decide +kernel
theorem dX1_leastRiddenAt_5 : decode cX1_leastRiddenAt 5 = .ok (.aload_n 0, 1) := by decide +kernel
theorem dX1_leastRiddenAt_6 : decode cX1_leastRiddenAt 6 = .ok (.getfield 30, 3) := by decide +kernel
theorem dX1_leastRiddenAt_9 : decode cX1_leastRiddenAt 9 = .ok (.if_icmp .ge 61, 3) := by decide +kernel
theorem dX1_leastRiddenAt_12 : decode cX1_leastRiddenAt 12 = .ok (.aload_n 0, 1) := by decide +kernel
theorem dX1_leastRiddenAt_13 : decode cX1_leastRiddenAt 13 = .ok (.iload_n 3, 1) := by decide +kernel
theorem dX1_leastRiddenAt_14 : decode cX1_leastRiddenAt 14 = .ok (.iconst 0, 1) := by decide +kernel
theorem dX1_leastRiddenAt_15 : decode cX1_leastRiddenAt 15 = .ok (.iload_n 1, 1) := by decide +kernel
theorem dX1_leastRiddenAt_16 : decode cX1_leastRiddenAt 16 = .ok (.invokevirtual 44, 3) := by decide +kernel
theorem dX1_leastRiddenAt_19 : decode cX1_leastRiddenAt 19 = .ok (.ifCond .eq 16, 3) := by decide +kernel
theorem dX1_leastRiddenAt_22 : decode cX1_leastRiddenAt 22 = .ok (.aload_n 0, 1) := by decide +kernel
theorem dX1_leastRiddenAt_23 : decode cX1_leastRiddenAt 23 = .ok (.getfield 21, 3) := by decide +kernel
theorem dX1_leastRiddenAt_26 : decode cX1_leastRiddenAt 26 = .ok (.iload_n 3, 1) := by decide +kernel
theorem dX1_leastRiddenAt_27 : decode cX1_leastRiddenAt 27 = .ok (.iaload, 1) := by decide +kernel
theorem dX1_leastRiddenAt_28 : decode cX1_leastRiddenAt 28 = .ok (.ifCond .ne 7, 3) := by decide +kernel
theorem dX1_leastRiddenAt_31 : decode cX1_leastRiddenAt 31 = .ok (.iconst 1, 1) := by decide +kernel
theorem dX1_leastRiddenAt_32 : decode cX1_leastRiddenAt 32 = .ok (.goto 4, 3) := by decide +kernel
theorem dX1_leastRiddenAt_35 : decode cX1_leastRiddenAt 35 = .ok (.iconst 0, 1) := by decide +kernel
theorem dX1_leastRiddenAt_36 : decode cX1_leastRiddenAt 36 = .ok (.istore 4, 2) := by decide +kernel
theorem dX1_leastRiddenAt_38 : decode cX1_leastRiddenAt 38 = .ok (.iload 4, 2) := by decide +kernel
theorem dX1_leastRiddenAt_40 : decode cX1_leastRiddenAt 40 = .ok (.ifCond .eq 24, 3) := by decide +kernel
theorem dX1_leastRiddenAt_43 : decode cX1_leastRiddenAt 43 = .ok (.iload_n 2, 1) := by decide +kernel
theorem dX1_leastRiddenAt_44 : decode cX1_leastRiddenAt 44 = .ok (.ifCond .lt 18, 3) := by decide +kernel
theorem dX1_leastRiddenAt_47 : decode cX1_leastRiddenAt 47 = .ok (.aload_n 0, 1) := by decide +kernel
theorem dX1_leastRiddenAt_48 : decode cX1_leastRiddenAt 48 = .ok (.getfield 18, 3) := by decide +kernel
theorem dX1_leastRiddenAt_51 : decode cX1_leastRiddenAt 51 = .ok (.iload_n 3, 1) := by decide +kernel
theorem dX1_leastRiddenAt_52 : decode cX1_leastRiddenAt 52 = .ok (.iaload, 1) := by decide +kernel
theorem dX1_leastRiddenAt_53 : decode cX1_leastRiddenAt 53 = .ok (.aload_n 0, 1) := by decide +kernel
theorem dX1_leastRiddenAt_54 : decode cX1_leastRiddenAt 54 = .ok (.getfield 18, 3) := by decide +kernel
theorem dX1_leastRiddenAt_57 : decode cX1_leastRiddenAt 57 = .ok (.iload_n 2, 1) := by decide +kernel
theorem dX1_leastRiddenAt_58 : decode cX1_leastRiddenAt 58 = .ok (.iaload, 1) := by decide +kernel
theorem dX1_leastRiddenAt_59 : decode cX1_leastRiddenAt 59 = .ok (.if_icmp .ge 5, 3) := by decide +kernel
theorem dX1_leastRiddenAt_62 : decode cX1_leastRiddenAt 62 = .ok (.iload_n 3, 1) := by decide +kernel
theorem dX1_leastRiddenAt_63 : decode cX1_leastRiddenAt 63 = .ok (.istore_n 2, 1) := by decide +kernel
theorem dX1_leastRiddenAt_64 : decode cX1_leastRiddenAt 64 = .ok (.iinc 3 1, 3) := by decide +kernel
theorem dX1_leastRiddenAt_67 : decode cX1_leastRiddenAt 67 = .ok (.goto (-63), 3) := by decide +kernel
theorem dX1_leastRiddenAt_70 : decode cX1_leastRiddenAt 70 = .ok (.iload_n 2, 1) := by decide +kernel
theorem dX1_leastRiddenAt_71 : decode cX1_leastRiddenAt 71 = .ok (.ireturn, 1) := by decide +kernel
set_option maxRecDepth 20000 in
theorem ggX1_isReady_X1_has : GoodIn wsX1_isReady wsX1_has := goodIn_r _ [7, 8, 9, 10, 11, 12, 13, 14, 15] (by decide +kernel) (by decide +kernel)
set_option maxRecDepth 20000 in
theorem gX1_isReady_X1_has : GoodIn wsX1_isReady (wsV RX1 40 RX1 yX1_has wsX1_has) := goodIn_app (goodIn_of _ (by decide +kernel)) ggX1_isReady_X1_has
theorem dX1_isReady_0 : decode cX1_isReady 0 = .ok (.aload_n 0, 1) := by decide +kernel
theorem dX1_isReady_1 : decode cX1_isReady 1 = .ok (.iload_n 1, 1) := by decide +kernel
theorem dX1_isReady_2 : decode cX1_isReady 2 = .ok (.invokevirtual 40, 3) := by decide +kernel
theorem dX1_isReady_5 : decode cX1_isReady 5 = .ok (.ifCond .eq 27, 3) := by decide +kernel
theorem dX1_isReady_8 : decode cX1_isReady 8 = .ok (.aload_n 0, 1) := by decide +kernel
theorem dX1_isReady_9 : decode cX1_isReady 9 = .ok (.getfield 11, 3) := by decide +kernel
theorem dX1_isReady_12 : decode cX1_isReady 12 = .ok (.iload_n 1, 1) := by decide +kernel
theorem dX1_isReady_13 : decode cX1_isReady 13 = .ok (.iaload, 1) := by decide +kernel
theorem dX1_isReady_14 : decode cX1_isReady 14 = .ok (.iconst 3, 1) := by decide +kernel
theorem dX1_isReady_15 : decode cX1_isReady 15 = .ok (.if_icmp .ne 17, 3) := by decide +kernel
theorem dX1_isReady_18 : decode cX1_isReady 18 = .ok (.aload_n 0, 1) := by decide +kernel
theorem dX1_isReady_19 : decode cX1_isReady 19 = .ok (.getfield 27, 3) := by decide +kernel
theorem dX1_isReady_22 : decode cX1_isReady 22 = .ok (.iload_n 1, 1) := by decide +kernel
theorem dX1_isReady_23 : decode cX1_isReady 23 = .ok (.iaload, 1) := by decide +kernel
theorem dX1_isReady_24 : decode cX1_isReady 24 = .ok (.iload_n 2, 1) := by decide +kernel
theorem dX1_isReady_25 : decode cX1_isReady 25 = .ok (.if_icmp .gt 7, 3) := by decide +kernel
theorem dX1_isReady_28 : decode cX1_isReady 28 = .ok (.iconst 1, 1) := by decide +kernel
theorem dX1_isReady_29 : decode cX1_isReady 29 = .ok (.goto 4, 3) := by decide +kernel
theorem dX1_isReady_32 : decode cX1_isReady 32 = .ok (.iconst 0, 1) := by decide +kernel
theorem dX1_isReady_33 : decode cX1_isReady 33 = .ok (.ireturn, 1) := by decide +kernel
set_option maxRecDepth 20000 in
theorem ggX1_renew_X1_has : GoodIn wsX1_renew wsX1_has := goodIn_r _ [7, 8, 9, 10, 11, 12, 13, 14, 15] (by decide +kernel) (by decide +kernel)
set_option maxRecDepth 20000 in
theorem gX1_renew_X1_has : GoodIn wsX1_renew (wsV RX1 40 RX1 yX1_has wsX1_has) := goodIn_app (goodIn_of _ (by decide +kernel)) ggX1_renew_X1_has
theorem dX1_renew_0 : decode cX1_renew 0 = .ok (.aload_n 0, 1) := by decide +kernel
theorem dX1_renew_1 : decode cX1_renew 1 = .ok (.iload_n 1, 1) := by decide +kernel
theorem dX1_renew_2 : decode cX1_renew 2 = .ok (.invokevirtual 40, 3) := by decide +kernel
theorem dX1_renew_5 : decode cX1_renew 5 = .ok (.ifCond .eq 17, 3) := by decide +kernel
theorem dX1_renew_8 : decode cX1_renew 8 = .ok (.aload_n 0, 1) := by decide +kernel
theorem dX1_renew_9 : decode cX1_renew 9 = .ok (.getfield 21, 3) := by decide +kernel
theorem dX1_renew_12 : decode cX1_renew 12 = .ok (.iload_n 1, 1) := by decide +kernel
theorem dX1_renew_13 : decode cX1_renew 13 = .ok (.iconst 0, 1) := by decide +kernel
theorem dX1_renew_14 : decode cX1_renew 14 = .ok (.iastore, 1) := by decide +kernel
theorem dX1_renew_15 : decode cX1_renew 15 = .ok (.aload_n 0, 1) := by decide +kernel
theorem dX1_renew_16 : decode cX1_renew 16 = .ok (.getfield 18, 3) := by decide +kernel
theorem dX1_renew_19 : decode cX1_renew 19 = .ok (.iload_n 1, 1) := by decide +kernel
theorem dX1_renew_20 : decode cX1_renew 20 = .ok (.iconst 0, 1) := by decide +kernel
theorem dX1_renew_21 : decode cX1_renew 21 = .ok (.iastore, 1) := by decide +kernel
theorem dX1_renew_22 : decode cX1_renew 22 = .ok (.return_, 1) := by decide +kernel
theorem dX2_init_0 : decode cX2_init 0 = .ok (.aload_n 0, 1) := by decide +kernel
theorem dX2_init_1 : decode cX2_init 1 = .ok (.invokespecial 1, 3) := by decide +kernel
theorem dX2_init_4 : decode cX2_init 4 = .ok (.aload_n 0, 1) := by decide +kernel
theorem dX2_init_5 : decode cX2_init 5 = .ok (.bipush 6, 2) := by decide +kernel
theorem dX2_init_7 : decode cX2_init 7 = .ok (.newarray .int, 2) := by decide +kernel
theorem dX2_init_9 : decode cX2_init 9 = .ok (.putfield 9, 3) := by decide +kernel
theorem dX2_init_12 : decode cX2_init 12 = .ok (.aload_n 0, 1) := by decide +kernel
theorem dX2_init_13 : decode cX2_init 13 = .ok (.bipush 6, 2) := by decide +kernel
theorem dX2_init_15 : decode cX2_init 15 = .ok (.newarray .int, 2) := by decide +kernel
theorem dX2_init_17 : decode cX2_init 17 = .ok (.putfield 15, 3) := by decide +kernel
theorem dX2_init_20 : decode cX2_init 20 = .ok (.return_, 1) := by decide +kernel
set_option maxRecDepth 20000 in
theorem ggX2_aim_X2_findAims : GoodIn wsX2_aim wsX2_findAims := goodIn_r _ [7, 1, 8, 9, 2, 10, 11, 12, 13, 14, 15, 16, 17, 18, 19, 20, 21, 22, 23, 24, 29, 30, 31, 32, 33, 34, 41, 42, 43, 44, 45, 35, 36, 37, 38, 39, 40, 46, 47, 48, 49, 50, 51, 52] (by decide +kernel) (by decide +kernel)
set_option maxRecDepth 20000 in
theorem gX2_aim_X2_findAims : GoodIn wsX2_aim (wsV RX2 18 RX2 yX2_findAims wsX2_findAims) := goodIn_app (goodIn_of _ (by decide +kernel)) ggX2_aim_X2_findAims
set_option maxRecDepth 20000 in
theorem ggX2_aim_X6_has : GoodIn wsX2_aim wsX6_has := goodIn_r _ [28, 16, 41, 42, 43, 44, 45] (by decide +kernel) (by decide +kernel)
set_option maxRecDepth 20000 in
theorem gX2_aim_X6_has : GoodIn wsX2_aim (wsV RX2 28 RX6 yX6_has wsX6_has) := goodIn_app (goodIn_of _ (by decide +kernel)) ggX2_aim_X6_has
theorem dX2_aim_0 : decode cX2_aim 0 = .ok (.aload_n 0, 1) := by decide +kernel
theorem dX2_aim_1 : decode cX2_aim 1 = .ok (.aload_n 1, 1) := by decide +kernel
theorem dX2_aim_2 : decode cX2_aim 2 = .ok (.invokevirtual 18, 3) := by decide +kernel
theorem dX2_aim_5 : decode cX2_aim 5 = .ok (.aload_n 1, 1) := by decide +kernel
theorem dX2_aim_6 : decode cX2_aim 6 = .ok (.getfield 22, 3) := by decide +kernel
theorem dX2_aim_9 : decode cX2_aim 9 = .ok (.iload_n 2, 1) := by decide +kernel
theorem dX2_aim_10 : decode cX2_aim 10 = .ok (.invokevirtual 28, 3) := by decide +kernel
theorem dX2_aim_13 : decode cX2_aim 13 = .ok (.ifCond .eq 12, 3) := by decide +kernel
theorem dX2_aim_16 : decode cX2_aim 16 = .ok (.aload_n 0, 1) := by decide +kernel
theorem dX2_aim_17 : decode cX2_aim 17 = .ok (.getfield 9, 3) := by decide +kernel
theorem dX2_aim_20 : decode cX2_aim 20 = .ok (.iload_n 2, 1) := by decide +kernel
theorem dX2_aim_21 : decode cX2_aim 21 = .ok (.iaload, 1) := by decide +kernel
theorem dX2_aim_22 : decode cX2_aim 22 = .ok (.goto 4, 3) := by decide +kernel
theorem dX2_aim_25 : decode cX2_aim 25 = .ok (.iconst 0, 1) := by decide +kernel
theorem dX2_aim_26 : decode cX2_aim 26 = .ok (.ireturn, 1) := by decide +kernel
set_option maxRecDepth 20000 in
theorem ggX2_findAims_X6_allDocks : GoodIn wsX2_findAims wsX6_allDocks := goodIn_r _ [10, 11, 12, 26, 27, 28, 29, 30] (by decide +kernel) (by decide +kernel)
set_option maxRecDepth 20000 in
theorem gX2_findAims_X6_allDocks : GoodIn wsX2_findAims (wsV RX2 68 RX6 yX6_allDocks wsX6_allDocks) := goodIn_app (goodIn_of _ (by decide +kernel)) ggX2_findAims_X6_allDocks
set_option maxRecDepth 20000 in
theorem ggX2_findAims_X1_countWhere : GoodIn wsX2_findAims wsX1_countWhere := goodIn_r _ [17, 18, 19, 37, 38, 39, 40, 41, 42, 43] (by decide +kernel) (by decide +kernel)
set_option maxRecDepth 20000 in
theorem gX2_findAims_X1_countWhere : GoodIn wsX2_findAims (wsV RX2 78 RX1 yX1_countWhere wsX1_countWhere) := goodIn_app (goodIn_of _ (by decide +kernel)) ggX2_findAims_X1_countWhere
theorem dX2_findAims_0 : decode cX2_findAims 0 = .ok (.aload_n 1, 1) := by decide +kernel
theorem dX2_findAims_1 : decode cX2_findAims 1 = .ok (.getfield 22, 3) := by decide +kernel
theorem dX2_findAims_4 : decode cX2_findAims 4 = .ok (.invokevirtual 68, 3) := by decide +kernel
theorem dX2_findAims_7 : decode cX2_findAims 7 = .ok (.istore_n 2, 1) := by decide +kernel
theorem dX2_findAims_8 : decode cX2_findAims 8 = .ok (.aload_n 1, 1) := by decide +kernel
theorem dX2_findAims_9 : decode cX2_findAims 9 = .ok (.getfield 72, 3) := by decide +kernel
theorem dX2_findAims_12 : decode cX2_findAims 12 = .ok (.iconst 0, 1) := by decide +kernel
theorem dX2_findAims_13 : decode cX2_findAims 13 = .ok (.invokevirtual 78, 3) := by decide +kernel
theorem dX2_findAims_16 : decode cX2_findAims 16 = .ok (.istore_n 3, 1) := by decide +kernel
theorem dX2_findAims_17 : decode cX2_findAims 17 = .ok (.iload_n 3, 1) := by decide +kernel
theorem dX2_findAims_18 : decode cX2_findAims 18 = .ok (.istore 4, 2) := by decide +kernel
theorem dX2_findAims_20 : decode cX2_findAims 20 = .ok (.iconst 0, 1) := by decide +kernel
theorem dX2_findAims_21 : decode cX2_findAims 21 = .ok (.istore 5, 2) := by decide +kernel
theorem dX2_findAims_23 : decode cX2_findAims 23 = .ok (.iload 5, 2) := by decide +kernel
theorem dX2_findAims_25 : decode cX2_findAims 25 = .ok (.aload_n 1, 1) := by decide +kernel
theorem dX2_findAims_26 : decode cX2_findAims 26 = .ok (.getfield 22, 3) := by decide +kernel
theorem dX2_findAims_29 : decode cX2_findAims 29 = .ok (.getfield 45, 3) := by decide +kernel
theorem dX2_findAims_32 : decode cX2_findAims 32 = .ok (.if_icmp .ge 50, 3) := by decide +kernel
theorem dX2_findAims_35 : decode cX2_findAims 35 = .ok (.aload_n 0, 1) := by decide +kernel
theorem dX2_findAims_36 : decode cX2_findAims 36 = .ok (.getfield 9, 3) := by decide +kernel
theorem dX2_findAims_39 : decode cX2_findAims 39 = .ok (.iload 5, 2) := by decide +kernel
theorem dX2_findAims_41 : decode cX2_findAims 41 = .ok (.iload_n 2, 1) := by decide +kernel
theorem dX2_findAims_42 : decode cX2_findAims 42 = .ok (.ifCond .le 20, 3) := by decide +kernel
theorem dX2_findAims_45 : decode cX2_findAims 45 = .ok (.aload_n 1, 1) := by decide +kernel
theorem dX2_findAims_46 : decode cX2_findAims 46 = .ok (.getfield 22, 3) := by decide +kernel
theorem dX2_findAims_49 : decode cX2_findAims 49 = .ok (.getfield 81, 3) := by decide +kernel
theorem dX2_findAims_52 : decode cX2_findAims 52 = .ok (.iload 5, 2) := by decide +kernel
theorem dX2_findAims_54 : decode cX2_findAims 54 = .ok (.iaload, 1) := by decide +kernel
theorem dX2_findAims_55 : decode cX2_findAims 55 = .ok (.iload_n 3, 1) := by decide +kernel
theorem dX2_findAims_56 : decode cX2_findAims 56 = .ok (.imul, 1) := by decide +kernel
theorem dX2_findAims_57 : decode cX2_findAims 57 = .ok (.iload_n 2, 1) := by decide +kernel
theorem dX2_findAims_58 : decode cX2_findAims 58 = .ok (.idiv, 1) := by decide +kernel
theorem dX2_findAims_59 : decode cX2_findAims 59 = .ok (.goto 4, 3) := by decide +kernel
theorem dX2_findAims_62 : decode cX2_findAims 62 = .ok (.iconst 0, 1) := by decide +kernel
theorem dX2_findAims_63 : decode cX2_findAims 63 = .ok (.iastore, 1) := by decide +kernel
theorem dX2_findAims_64 : decode cX2_findAims 64 = .ok (.iload 4, 2) := by decide +kernel
theorem dX2_findAims_66 : decode cX2_findAims 66 = .ok (.aload_n 0, 1) := by decide +kernel
theorem dX2_findAims_67 : decode cX2_findAims 67 = .ok (.getfield 9, 3) := by decide +kernel
theorem dX2_findAims_70 : decode cX2_findAims 70 = .ok (.iload 5, 2) := by decide +kernel
theorem dX2_findAims_72 : decode cX2_findAims 72 = .ok (.iaload, 1) := by decide +kernel
theorem dX2_findAims_73 : decode cX2_findAims 73 = .ok (.isub, 1) := by decide +kernel
theorem dX2_findAims_74 : decode cX2_findAims 74 = .ok (.istore 4, 2) := by decide +kernel
theorem dX2_findAims_76 : decode cX2_findAims 76 = .ok (.iinc 5 1, 3) := by decide +kernel
theorem dX2_findAims_79 : decode cX2_findAims 79 = .ok (.goto (-56), 3) := by decide +kernel
theorem dX2_findAims_82 : decode cX2_findAims 82 = .ok (.iconst 0, 1) := by decide +kernel
theorem dX2_findAims_83 : decode cX2_findAims 83 = .ok (.istore 5, 2) := by decide +kernel
theorem dX2_findAims_85 : decode cX2_findAims 85 = .ok (.iload 5, 2) := by decide +kernel
theorem dX2_findAims_87 : decode cX2_findAims 87 = .ok (.aload_n 1, 1) := by decide +kernel
theorem dX2_findAims_88 : decode cX2_findAims 88 = .ok (.getfield 22, 3) := by decide +kernel
theorem dX2_findAims_91 : decode cX2_findAims 91 = .ok (.getfield 45, 3) := by decide +kernel
theorem dX2_findAims_94 : decode cX2_findAims 94 = .ok (.if_icmp .ge 27, 3) := by decide +kernel
theorem dX2_findAims_97 : decode cX2_findAims 97 = .ok (.iload 5, 2) := by decide +kernel
theorem dX2_findAims_99 : decode cX2_findAims 99 = .ok (.iload 4, 2) := by decide +kernel
theorem dX2_findAims_101 : decode cX2_findAims 101 = .ok (.if_icmp .ge 20, 3) := by decide +kernel
theorem dX2_findAims_104 : decode cX2_findAims 104 = .ok (.aload_n 0, 1) := by decide +kernel
theorem dX2_findAims_105 : decode cX2_findAims 105 = .ok (.getfield 9, 3) := by decide +kernel
theorem dX2_findAims_108 : decode cX2_findAims 108 = .ok (.iload 5, 2) := by decide +kernel
theorem dX2_findAims_110 : decode cX2_findAims 110 = .ok (.dup2, 1) := by decide +kernel
theorem dX2_findAims_111 : decode cX2_findAims 111 = .ok (.iaload, 1) := by decide +kernel
theorem dX2_findAims_112 : decode cX2_findAims 112 = .ok (.iconst 1, 1) := by decide +kernel
theorem dX2_findAims_113 : decode cX2_findAims 113 = .ok (.iadd, 1) := by decide +kernel
theorem dX2_findAims_114 : decode cX2_findAims 114 = .ok (.iastore, 1) := by decide +kernel
theorem dX2_findAims_115 : decode cX2_findAims 115 = .ok (.iinc 5 1, 3) := by decide +kernel
theorem dX2_findAims_118 : decode cX2_findAims 118 = .ok (.goto (-33), 3) := by decide +kernel
theorem dX2_findAims_121 : decode cX2_findAims 121 = .ok (.return_, 1) := by decide +kernel
set_option maxRecDepth 20000 in
theorem ggX3_init_X5_init : GoodIn wsX3_init wsX5_init := goodIn_r _ [9, 10, 2, 3, 11, 12, 13, 14, 15, 16, 17, 18, 19, 20, 21, 22, 23, 24, 25, 26, 27, 28, 29, 30, 31, 32, 33, 34, 35, 36, 37, 38, 39, 40, 41, 42, 43, 44, 45, 46, 47, 48, 49, 50, 51, 52, 53, 54, 55, 56, 57, 58, 59, 60, 61, 62, 72, 73, 74, 75, 76, 63, 64, 65, 66, 67, 68, 77, 78, 79, 80, 81, 82, 83, 84, 85, 86, 87, 88, 89, 90, 91, 92, 93, 94, 95, 96, 97] (by decide +kernel) (by decide +kernel)
set_option maxRecDepth 20000 in
theorem gX3_init_X5_init_n9 : GoodIn wsX3_init (wsX5_init) := ggX3_init_X5_init
theorem dX3_init_0 : decode cX3_init 0 = .ok (.aload_n 0, 1) := by decide +kernel
theorem dX3_init_1 : decode cX3_init 1 = .ok (.invokespecial 1, 3) := by decide +kernel
theorem dX3_init_4 : decode cX3_init 4 = .ok (.aload_n 0, 1) := by decide +kernel
theorem dX3_init_5 : decode cX3_init 5 = .ok (.iconst 4, 1) := by decide +kernel
theorem dX3_init_6 : decode cX3_init 6 = .ok (.anewarray 7, 3) := by decide +kernel
theorem dX3_init_9 : decode cX3_init 9 = .ok (.dup, 1) := by decide +kernel
theorem dX3_init_10 : decode cX3_init 10 = .ok (.iconst 0, 1) := by decide +kernel
theorem dX3_init_11 : decode cX3_init 11 = .ok (.new 7, 3) := by decide +kernel
theorem dX3_init_14 : decode cX3_init 14 = .ok (.dup, 1) := by decide +kernel
theorem dX3_init_15 : decode cX3_init 15 = .ok (.invokespecial 9, 3) := by decide +kernel
theorem dX3_init_18 : decode cX3_init 18 = .ok (.aastore, 1) := by decide +kernel
theorem dX3_init_19 : decode cX3_init 19 = .ok (.dup, 1) := by decide +kernel
theorem dX3_init_20 : decode cX3_init 20 = .ok (.iconst 1, 1) := by decide +kernel
theorem dX3_init_21 : decode cX3_init 21 = .ok (.new 7, 3) := by decide +kernel
theorem dX3_init_24 : decode cX3_init 24 = .ok (.dup, 1) := by decide +kernel
theorem dX3_init_25 : decode cX3_init 25 = .ok (.invokespecial 9, 3) := by decide +kernel
theorem dX3_init_28 : decode cX3_init 28 = .ok (.aastore, 1) := by decide +kernel
theorem dX3_init_29 : decode cX3_init 29 = .ok (.dup, 1) := by decide +kernel
theorem dX3_init_30 : decode cX3_init 30 = .ok (.iconst 2, 1) := by decide +kernel
theorem dX3_init_31 : decode cX3_init 31 = .ok (.new 7, 3) := by decide +kernel
theorem dX3_init_34 : decode cX3_init 34 = .ok (.dup, 1) := by decide +kernel
theorem dX3_init_35 : decode cX3_init 35 = .ok (.invokespecial 9, 3) := by decide +kernel
theorem dX3_init_38 : decode cX3_init 38 = .ok (.aastore, 1) := by decide +kernel
theorem dX3_init_39 : decode cX3_init 39 = .ok (.dup, 1) := by decide +kernel
theorem dX3_init_40 : decode cX3_init 40 = .ok (.iconst 3, 1) := by decide +kernel
theorem dX3_init_41 : decode cX3_init 41 = .ok (.new 7, 3) := by decide +kernel
theorem dX3_init_44 : decode cX3_init 44 = .ok (.dup, 1) := by decide +kernel
theorem dX3_init_45 : decode cX3_init 45 = .ok (.invokespecial 9, 3) := by decide +kernel
theorem dX3_init_48 : decode cX3_init 48 = .ok (.aastore, 1) := by decide +kernel
theorem dX3_init_49 : decode cX3_init 49 = .ok (.putfield 10, 3) := by decide +kernel
theorem dX3_init_52 : decode cX3_init 52 = .ok (.return_, 1) := by decide +kernel
set_option maxRecDepth 20000 in
theorem ggX3_record_X5_copy : GoodIn wsX3_record wsX5_copy := goodIn_r _ [8, 9, 10, 11, 12, 13, 14, 15, 16, 17, 18, 19, 20, 21, 22, 23, 24, 25, 26, 27, 28, 29, 30, 31, 32, 33, 34, 35, 36, 37, 38, 39, 40, 41, 42, 43, 44, 45, 46, 47, 48, 49, 50, 51, 52, 53, 54, 55, 56, 57, 58, 59, 60, 61, 62, 63, 64, 65, 66, 67, 68, 72, 73, 74, 75, 76, 77, 78, 79, 80, 81, 82, 83, 84, 85, 86, 87, 88, 89, 90, 91, 92, 93, 94, 95, 96, 97, 98, 99, 100, 101, 102, 103] (by decide +kernel) (by decide +kernel)
set_option maxRecDepth 20000 in
theorem gX3_record_X5_copy : GoodIn wsX3_record (wsV RX3 23 RX5 yX5_copy wsX5_copy) := goodIn_app (goodIn_of _ (by decide +kernel)) ggX3_record_X5_copy
theorem dX3_record_0 : decode cX3_record 0 = .ok (.aload_n 0, 1) := by decide +kernel
theorem dX3_record_1 : decode cX3_record 1 = .ok (.getfield 16, 3) := by decide +kernel
theorem dX3_record_4 : decode cX3_record 4 = .ok (.iconst 4, 1) := by decide +kernel
theorem dX3_record_5 : decode cX3_record 5 = .ok (.if_icmp .ne 25, 3) := by decide +kernel
theorem dX3_record_8 : decode cX3_record 8 = .ok (.aload_n 0, 1) := by decide +kernel
theorem dX3_record_9 : decode cX3_record 9 = .ok (.aload_n 0, 1) := by decide +kernel
theorem dX3_record_10 : decode cX3_record 10 = .ok (.getfield 20, 3) := by decide +kernel
theorem dX3_record_13 : decode cX3_record 13 = .ok (.iconst 1, 1) := by decide +kernel
theorem dX3_record_14 : decode cX3_record 14 = .ok (.iadd, 1) := by decide +kernel
theorem dX3_record_15 : decode cX3_record 15 = .ok (.iconst 4, 1) := by decide +kernel
theorem dX3_record_16 : decode cX3_record 16 = .ok (.irem, 1) := by decide +kernel
theorem dX3_record_17 : decode cX3_record 17 = .ok (.putfield 20, 3) := by decide +kernel
theorem dX3_record_20 : decode cX3_record 20 = .ok (.aload_n 0, 1) := by decide +kernel
theorem dX3_record_21 : decode cX3_record 21 = .ok (.dup, 1) := by decide +kernel
theorem dX3_record_22 : decode cX3_record 22 = .ok (.getfield 16, 3) := by decide +kernel
theorem dX3_record_25 : decode cX3_record 25 = .ok (.iconst 1, 1) := by decide +kernel
theorem dX3_record_26 : decode cX3_record 26 = .ok (.isub, 1) := by decide +kernel
theorem dX3_record_27 : decode cX3_record 27 = .ok (.putfield 16, 3) := by decide +kernel
theorem dX3_record_30 : decode cX3_record 30 = .ok (.aload_n 0, 1) := by decide +kernel
theorem dX3_record_31 : decode cX3_record 31 = .ok (.getfield 10, 3) := by decide +kernel
theorem dX3_record_34 : decode cX3_record 34 = .ok (.aload_n 0, 1) := by decide +kernel
theorem dX3_record_35 : decode cX3_record 35 = .ok (.getfield 20, 3) := by decide +kernel
theorem dX3_record_38 : decode cX3_record 38 = .ok (.aload_n 0, 1) := by decide +kernel
theorem dX3_record_39 : decode cX3_record 39 = .ok (.getfield 16, 3) := by decide +kernel
theorem dX3_record_42 : decode cX3_record 42 = .ok (.iadd, 1) := by decide +kernel
theorem dX3_record_43 : decode cX3_record 43 = .ok (.iconst 4, 1) := by decide +kernel
theorem dX3_record_44 : decode cX3_record 44 = .ok (.irem, 1) := by decide +kernel
theorem dX3_record_45 : decode cX3_record 45 = .ok (.aaload, 1) := by decide +kernel
theorem dX3_record_46 : decode cX3_record 46 = .ok (.astore_n 2, 1) := by decide +kernel
theorem dX3_record_47 : decode cX3_record 47 = .ok (.aload_n 2, 1) := by decide +kernel
theorem dX3_record_48 : decode cX3_record 48 = .ok (.ifnull 18, 3) := by decide +kernel
theorem dX3_record_51 : decode cX3_record 51 = .ok (.aload_n 2, 1) := by decide +kernel
theorem dX3_record_52 : decode cX3_record 52 = .ok (.aload_n 1, 1) := by decide +kernel
theorem dX3_record_53 : decode cX3_record 53 = .ok (.invokevirtual 23, 3) := by decide +kernel
theorem dX3_record_56 : decode cX3_record 56 = .ok (.aload_n 0, 1) := by decide +kernel
theorem dX3_record_57 : decode cX3_record 57 = .ok (.dup, 1) := by decide +kernel
theorem dX3_record_58 : decode cX3_record 58 = .ok (.getfield 16, 3) := by decide +kernel
theorem dX3_record_61 : decode cX3_record 61 = .ok (.iconst 1, 1) := by decide +kernel
theorem dX3_record_62 : decode cX3_record 62 = .ok (.iadd, 1) := by decide +kernel
theorem dX3_record_63 : decode cX3_record 63 = .ok (.putfield 16, 3) := by decide +kernel
theorem dX3_record_66 : decode cX3_record 66 = .ok (.return_, 1) := by decide +kernel
theorem dX4_init_0 : decode cX4_init 0 = .ok (.aload_n 0, 1) := by decide +kernel
theorem dX4_init_1 : decode cX4_init 1 = .ok (.invokespecial 3, 3) := by decide +kernel
theorem dX4_init_4 : decode cX4_init 4 = .ok (.aload_n 0, 1) := by decide +kernel
theorem dX4_init_5 : decode cX4_init 5 = .ok (.bipush 8, 2) := by decide +kernel
theorem dX4_init_7 : decode cX4_init 7 = .ok (.newarray .int, 2) := by decide +kernel
theorem dX4_init_9 : decode cX4_init 9 = .ok (.putfield 11, 3) := by decide +kernel
theorem dX4_init_12 : decode cX4_init 12 = .ok (.aload_n 0, 1) := by decide +kernel
theorem dX4_init_13 : decode cX4_init 13 = .ok (.bipush 8, 2) := by decide +kernel
theorem dX4_init_15 : decode cX4_init 15 = .ok (.newarray .int, 2) := by decide +kernel
theorem dX4_init_17 : decode cX4_init 17 = .ok (.putfield 15, 3) := by decide +kernel
theorem dX4_init_20 : decode cX4_init 20 = .ok (.aload_n 0, 1) := by decide +kernel
theorem dX4_init_21 : decode cX4_init 21 = .ok (.bipush 8, 2) := by decide +kernel
theorem dX4_init_23 : decode cX4_init 23 = .ok (.newarray .int, 2) := by decide +kernel
theorem dX4_init_25 : decode cX4_init 25 = .ok (.putfield 18, 3) := by decide +kernel
theorem dX4_init_28 : decode cX4_init 28 = .ok (.aload_n 0, 1) := by decide +kernel
theorem dX4_init_29 : decode cX4_init 29 = .ok (.bipush 8, 2) := by decide +kernel
theorem dX4_init_31 : decode cX4_init 31 = .ok (.newarray .int, 2) := by decide +kernel
theorem dX4_init_33 : decode cX4_init 33 = .ok (.putfield 21, 3) := by decide +kernel
theorem dX4_init_36 : decode cX4_init 36 = .ok (.aload_n 0, 1) := by decide +kernel
theorem dX4_init_37 : decode cX4_init 37 = .ok (.bipush 8, 2) := by decide +kernel
theorem dX4_init_39 : decode cX4_init 39 = .ok (.newarray .int, 2) := by decide +kernel
theorem dX4_init_41 : decode cX4_init 41 = .ok (.putfield 24, 3) := by decide +kernel
theorem dX4_init_44 : decode cX4_init 44 = .ok (.aload_n 0, 1) := by decide +kernel
theorem dX4_init_45 : decode cX4_init 45 = .ok (.bipush 8, 2) := by decide +kernel
theorem dX4_init_47 : decode cX4_init 47 = .ok (.newarray .int, 2) := by decide +kernel
theorem dX4_init_49 : decode cX4_init 49 = .ok (.putfield 27, 3) := by decide +kernel
theorem dX4_init_52 : decode cX4_init 52 = .ok (.aload_n 0, 1) := by decide +kernel
theorem dX4_init_53 : decode cX4_init 53 = .ok (.bipush 8, 2) := by decide +kernel
theorem dX4_init_55 : decode cX4_init 55 = .ok (.newarray .int, 2) := by decide +kernel
theorem dX4_init_57 : decode cX4_init 57 = .ok (.putfield 30, 3) := by decide +kernel
theorem dX4_init_60 : decode cX4_init 60 = .ok (.aload_n 0, 1) := by decide +kernel
theorem dX4_init_61 : decode cX4_init 61 = .ok (.bipush 8, 2) := by decide +kernel
theorem dX4_init_63 : decode cX4_init 63 = .ok (.newarray .int, 2) := by decide +kernel
theorem dX4_init_65 : decode cX4_init 65 = .ok (.putfield 33, 3) := by decide +kernel
theorem dX4_init_68 : decode cX4_init 68 = .ok (.aload_n 0, 1) := by decide +kernel
theorem dX4_init_69 : decode cX4_init 69 = .ok (.bipush 8, 2) := by decide +kernel
theorem dX4_init_71 : decode cX4_init 71 = .ok (.newarray .int, 2) := by decide +kernel
theorem dX4_init_73 : decode cX4_init 73 = .ok (.putfield 36, 3) := by decide +kernel
theorem dX4_init_76 : decode cX4_init 76 = .ok (.return_, 1) := by decide +kernel
theorem dX4_copy_0 : decode cX4_copy 0 = .ok (.aload_n 0, 1) := by decide +kernel
theorem dX4_copy_1 : decode cX4_copy 1 = .ok (.aload_n 1, 1) := by decide +kernel
theorem dX4_copy_2 : decode cX4_copy 2 = .ok (.getfield 39, 3) := by decide +kernel
theorem dX4_copy_5 : decode cX4_copy 5 = .ok (.putfield 39, 3) := by decide +kernel
theorem dX4_copy_8 : decode cX4_copy 8 = .ok (.aload_n 1, 1) := by decide +kernel
theorem dX4_copy_9 : decode cX4_copy 9 = .ok (.getfield 11, 3) := by decide +kernel
theorem dX4_copy_12 : decode cX4_copy 12 = .ok (.iconst 0, 1) := by decide +kernel
theorem dX4_copy_13 : decode cX4_copy 13 = .ok (.aload_n 0, 1) := by decide +kernel
theorem dX4_copy_14 : decode cX4_copy 14 = .ok (.getfield 11, 3) := by decide +kernel
theorem dX4_copy_17 : decode cX4_copy 17 = .ok (.iconst 0, 1) := by decide +kernel
theorem dX4_copy_18 : decode cX4_copy 18 = .ok (.bipush 8, 2) := by decide +kernel
theorem dX4_copy_20 : decode cX4_copy 20 = .ok (.invokestatic 43, 3) := by decide +kernel
theorem dX4_copy_23 : decode cX4_copy 23 = .ok (.aload_n 1, 1) := by decide +kernel
theorem dX4_copy_24 : decode cX4_copy 24 = .ok (.getfield 15, 3) := by decide +kernel
theorem dX4_copy_27 : decode cX4_copy 27 = .ok (.iconst 0, 1) := by decide +kernel
theorem dX4_copy_28 : decode cX4_copy 28 = .ok (.aload_n 0, 1) := by decide +kernel
theorem dX4_copy_29 : decode cX4_copy 29 = .ok (.getfield 15, 3) := by decide +kernel
theorem dX4_copy_32 : decode cX4_copy 32 = .ok (.iconst 0, 1) := by decide +kernel
theorem dX4_copy_33 : decode cX4_copy 33 = .ok (.bipush 8, 2) := by decide +kernel
theorem dX4_copy_35 : decode cX4_copy 35 = .ok (.invokestatic 43, 3) := by decide +kernel
theorem dX4_copy_38 : decode cX4_copy 38 = .ok (.aload_n 1, 1) := by decide +kernel
theorem dX4_copy_39 : decode cX4_copy 39 = .ok (.getfield 18, 3) := by decide +kernel
theorem dX4_copy_42 : decode cX4_copy 42 = .ok (.iconst 0, 1) := by decide +kernel
theorem dX4_copy_43 : decode cX4_copy 43 = .ok (.aload_n 0, 1) := by decide +kernel
theorem dX4_copy_44 : decode cX4_copy 44 = .ok (.getfield 18, 3) := by decide +kernel
theorem dX4_copy_47 : decode cX4_copy 47 = .ok (.iconst 0, 1) := by decide +kernel
theorem dX4_copy_48 : decode cX4_copy 48 = .ok (.bipush 8, 2) := by decide +kernel
theorem dX4_copy_50 : decode cX4_copy 50 = .ok (.invokestatic 43, 3) := by decide +kernel
theorem dX4_copy_53 : decode cX4_copy 53 = .ok (.aload_n 1, 1) := by decide +kernel
theorem dX4_copy_54 : decode cX4_copy 54 = .ok (.getfield 21, 3) := by decide +kernel
theorem dX4_copy_57 : decode cX4_copy 57 = .ok (.iconst 0, 1) := by decide +kernel
theorem dX4_copy_58 : decode cX4_copy 58 = .ok (.aload_n 0, 1) := by decide +kernel
theorem dX4_copy_59 : decode cX4_copy 59 = .ok (.getfield 21, 3) := by decide +kernel
theorem dX4_copy_62 : decode cX4_copy 62 = .ok (.iconst 0, 1) := by decide +kernel
theorem dX4_copy_63 : decode cX4_copy 63 = .ok (.bipush 8, 2) := by decide +kernel
theorem dX4_copy_65 : decode cX4_copy 65 = .ok (.invokestatic 43, 3) := by decide +kernel
theorem dX4_copy_68 : decode cX4_copy 68 = .ok (.aload_n 1, 1) := by decide +kernel
theorem dX4_copy_69 : decode cX4_copy 69 = .ok (.getfield 24, 3) := by decide +kernel
theorem dX4_copy_72 : decode cX4_copy 72 = .ok (.iconst 0, 1) := by decide +kernel
theorem dX4_copy_73 : decode cX4_copy 73 = .ok (.aload_n 0, 1) := by decide +kernel
theorem dX4_copy_74 : decode cX4_copy 74 = .ok (.getfield 24, 3) := by decide +kernel
theorem dX4_copy_77 : decode cX4_copy 77 = .ok (.iconst 0, 1) := by decide +kernel
theorem dX4_copy_78 : decode cX4_copy 78 = .ok (.bipush 8, 2) := by decide +kernel
theorem dX4_copy_80 : decode cX4_copy 80 = .ok (.invokestatic 43, 3) := by decide +kernel
theorem dX4_copy_83 : decode cX4_copy 83 = .ok (.aload_n 1, 1) := by decide +kernel
theorem dX4_copy_84 : decode cX4_copy 84 = .ok (.getfield 27, 3) := by decide +kernel
theorem dX4_copy_87 : decode cX4_copy 87 = .ok (.iconst 0, 1) := by decide +kernel
theorem dX4_copy_88 : decode cX4_copy 88 = .ok (.aload_n 0, 1) := by decide +kernel
theorem dX4_copy_89 : decode cX4_copy 89 = .ok (.getfield 27, 3) := by decide +kernel
theorem dX4_copy_92 : decode cX4_copy 92 = .ok (.iconst 0, 1) := by decide +kernel
theorem dX4_copy_93 : decode cX4_copy 93 = .ok (.bipush 8, 2) := by decide +kernel
theorem dX4_copy_95 : decode cX4_copy 95 = .ok (.invokestatic 43, 3) := by decide +kernel
theorem dX4_copy_98 : decode cX4_copy 98 = .ok (.aload_n 1, 1) := by decide +kernel
theorem dX4_copy_99 : decode cX4_copy 99 = .ok (.getfield 30, 3) := by decide +kernel
theorem dX4_copy_102 : decode cX4_copy 102 = .ok (.iconst 0, 1) := by decide +kernel
theorem dX4_copy_103 : decode cX4_copy 103 = .ok (.aload_n 0, 1) := by decide +kernel
theorem dX4_copy_104 : decode cX4_copy 104 = .ok (.getfield 30, 3) := by decide +kernel
theorem dX4_copy_107 : decode cX4_copy 107 = .ok (.iconst 0, 1) := by decide +kernel
theorem dX4_copy_108 : decode cX4_copy 108 = .ok (.bipush 8, 2) := by decide +kernel
theorem dX4_copy_110 : decode cX4_copy 110 = .ok (.invokestatic 43, 3) := by decide +kernel
theorem dX4_copy_113 : decode cX4_copy 113 = .ok (.aload_n 1, 1) := by decide +kernel
theorem dX4_copy_114 : decode cX4_copy 114 = .ok (.getfield 33, 3) := by decide +kernel
theorem dX4_copy_117 : decode cX4_copy 117 = .ok (.iconst 0, 1) := by decide +kernel
theorem dX4_copy_118 : decode cX4_copy 118 = .ok (.aload_n 0, 1) := by decide +kernel
theorem dX4_copy_119 : decode cX4_copy 119 = .ok (.getfield 33, 3) := by decide +kernel
theorem dX4_copy_122 : decode cX4_copy 122 = .ok (.iconst 0, 1) := by decide +kernel
theorem dX4_copy_123 : decode cX4_copy 123 = .ok (.bipush 8, 2) := by decide +kernel
theorem dX4_copy_125 : decode cX4_copy 125 = .ok (.invokestatic 43, 3) := by decide +kernel
theorem dX4_copy_128 : decode cX4_copy 128 = .ok (.aload_n 1, 1) := by decide +kernel
theorem dX4_copy_129 : decode cX4_copy 129 = .ok (.getfield 36, 3) := by decide +kernel
theorem dX4_copy_132 : decode cX4_copy 132 = .ok (.iconst 0, 1) := by decide +kernel
theorem dX4_copy_133 : decode cX4_copy 133 = .ok (.aload_n 0, 1) := by decide +kernel
theorem dX4_copy_134 : decode cX4_copy 134 = .ok (.getfield 36, 3) := by decide +kernel
theorem dX4_copy_137 : decode cX4_copy 137 = .ok (.iconst 0, 1) := by decide +kernel
theorem dX4_copy_138 : decode cX4_copy 138 = .ok (.bipush 8, 2) := by decide +kernel
theorem dX4_copy_140 : decode cX4_copy 140 = .ok (.invokestatic 43, 3) := by decide +kernel
theorem dX4_copy_143 : decode cX4_copy 143 = .ok (.return_, 1) := by decide +kernel
theorem dX4_has_0 : decode cX4_has 0 = .ok (.iload_n 1, 1) := by decide +kernel
theorem dX4_has_1 : decode cX4_has 1 = .ok (.ifCond .lt 15, 3) := by decide +kernel
theorem dX4_has_4 : decode cX4_has 4 = .ok (.iload_n 1, 1) := by decide +kernel
theorem dX4_has_5 : decode cX4_has 5 = .ok (.aload_n 0, 1) := by decide +kernel
theorem dX4_has_6 : decode cX4_has 6 = .ok (.getfield 39, 3) := by decide +kernel
theorem dX4_has_9 : decode cX4_has 9 = .ok (.if_icmp .ge 7, 3) := by decide +kernel
theorem dX4_has_12 : decode cX4_has 12 = .ok (.iconst 1, 1) := by decide +kernel
theorem dX4_has_13 : decode cX4_has 13 = .ok (.goto 4, 3) := by decide +kernel
theorem dX4_has_16 : decode cX4_has 16 = .ok (.iconst 0, 1) := by decide +kernel
theorem dX4_has_17 : decode cX4_has 17 = .ok (.ireturn, 1) := by decide +kernel
theorem dX4_add_0 : decode cX4_add 0 = .ok (.aload_n 0, 1) := by decide +kernel
theorem dX4_add_1 : decode cX4_add 1 = .ok (.getfield 39, 3) := by decide +kernel
theorem dX4_add_4 : decode cX4_add 4 = .ok (.bipush 8, 2) := by decide +kernel
theorem dX4_add_6 : decode cX4_add 6 = .ok (.if_icmp .lt 6, 3) := by decide +kernel
theorem dX4_add_9 : decode cX4_add 9 = .ok (.bipush (-3), 2) := by decide +kernel
theorem dX4_add_11 : decode cX4_add 11 = .ok (.ireturn, 1) := by decide +kernel
theorem dX4_add_12 : decode cX4_add 12 = .ok (.aload_n 0, 1) := by decide +kernel
theorem dX4_add_13 : decode cX4_add 13 = .ok (.getfield 24, 3) := by decide +kernel
theorem dX4_add_16 : decode cX4_add 16 = .ok (.aload_n 0, 1) := by decide +kernel
theorem dX4_add_17 : decode cX4_add 17 = .ok (.getfield 39, 3) := by decide +kernel
theorem dX4_add_20 : decode cX4_add 20 = .ok (.iconst (-1), 1) := by decide +kernel
theorem dX4_add_21 : decode cX4_add 21 = .ok (.iastore, 1) := by decide +kernel
theorem dX4_add_22 : decode cX4_add 22 = .ok (.aload_n 0, 1) := by decide +kernel
theorem dX4_add_23 : decode cX4_add 23 = .ok (.dup, 1) := by decide +kernel
theorem dX4_add_24 : decode cX4_add 24 = .ok (.getfield 39, 3) := by decide +kernel
theorem dX4_add_27 : decode cX4_add 27 = .ok (.iconst 1, 1) := by decide +kernel
theorem dX4_add_28 : decode cX4_add 28 = .ok (.iadd, 1) := by decide +kernel
theorem dX4_add_29 : decode cX4_add 29 = .ok (.putfield 39, 3) := by decide +kernel
theorem dX4_add_32 : decode cX4_add 32 = .ok (.aload_n 0, 1) := by decide +kernel
theorem dX4_add_33 : decode cX4_add 33 = .ok (.getfield 39, 3) := by decide +kernel
theorem dX4_add_36 : decode cX4_add 36 = .ok (.iconst 1, 1) := by decide +kernel
theorem dX4_add_37 : decode cX4_add 37 = .ok (.isub, 1) := by decide +kernel
theorem dX4_add_38 : decode cX4_add 38 = .ok (.ireturn, 1) := by decide +kernel
set_option maxRecDepth 20000 in
theorem ggX4_hasRide_X4_has : GoodIn wsX4_hasRide wsX4_has := goodIn_r _ [6, 7, 8, 9, 10, 11, 12, 13, 14, 15, 16, 17] (by decide +kernel) (by decide +kernel)
set_option maxRecDepth 20000 in
theorem gX4_hasRide_X4_has : GoodIn wsX4_hasRide (wsV RX4 49 RX4 yX4_has wsX4_has) := goodIn_app (goodIn_of _ (by decide +kernel)) ggX4_hasRide_X4_has
theorem dX4_hasRide_0 : decode cX4_hasRide 0 = .ok (.aload_n 0, 1) := by decide +kernel
theorem dX4_hasRide_1 : decode cX4_hasRide 1 = .ok (.iload_n 1, 1) := by decide +kernel
theorem dX4_hasRide_2 : decode cX4_hasRide 2 = .ok (.invokevirtual 49, 3) := by decide +kernel
theorem dX4_hasRide_5 : decode cX4_hasRide 5 = .ok (.ifCond .eq 17, 3) := by decide +kernel
theorem dX4_hasRide_8 : decode cX4_hasRide 8 = .ok (.aload_n 0, 1) := by decide +kernel
theorem dX4_hasRide_9 : decode cX4_hasRide 9 = .ok (.getfield 24, 3) := by decide +kernel
theorem dX4_hasRide_12 : decode cX4_hasRide 12 = .ok (.iload_n 1, 1) := by decide +kernel
theorem dX4_hasRide_13 : decode cX4_hasRide 13 = .ok (.iaload, 1) := by decide +kernel
theorem dX4_hasRide_14 : decode cX4_hasRide 14 = .ok (.iconst (-1), 1) := by decide +kernel
theorem dX4_hasRide_15 : decode cX4_hasRide 15 = .ok (.if_icmp .eq 7, 3) := by decide +kernel
theorem dX4_hasRide_18 : decode cX4_hasRide 18 = .ok (.iconst 1, 1) := by decide +kernel
theorem dX4_hasRide_19 : decode cX4_hasRide 19 = .ok (.goto 4, 3) := by decide +kernel
theorem dX4_hasRide_22 : decode cX4_hasRide 22 = .ok (.iconst 0, 1) := by decide +kernel
theorem dX4_hasRide_23 : decode cX4_hasRide 23 = .ok (.ireturn, 1) := by decide +kernel
set_option maxRecDepth 20000 in
theorem ggX4_rideMinutes_X4_has : GoodIn wsX4_rideMinutes wsX4_has := goodIn_r _ [6, 7, 8, 9, 10, 11, 12, 13, 14, 15, 16, 17] (by decide +kernel) (by decide +kernel)
set_option maxRecDepth 20000 in
theorem gX4_rideMinutes_X4_has : GoodIn wsX4_rideMinutes (wsV RX4 49 RX4 yX4_has wsX4_has) := goodIn_app (goodIn_of _ (by decide +kernel)) ggX4_rideMinutes_X4_has
theorem dX4_rideMinutes_0 : decode cX4_rideMinutes 0 = .ok (.aload_n 0, 1) := by decide +kernel
theorem dX4_rideMinutes_1 : decode cX4_rideMinutes 1 = .ok (.iload_n 1, 1) := by decide +kernel
theorem dX4_rideMinutes_2 : decode cX4_rideMinutes 2 = .ok (.invokevirtual 49, 3) := by decide +kernel
theorem dX4_rideMinutes_5 : decode cX4_rideMinutes 5 = .ok (.ifCond .eq 14, 3) := by decide +kernel
theorem dX4_rideMinutes_8 : decode cX4_rideMinutes 8 = .ok (.iload_n 2, 1) := by decide +kernel
theorem dX4_rideMinutes_9 : decode cX4_rideMinutes 9 = .ok (.aload_n 0, 1) := by decide +kernel
theorem dX4_rideMinutes_10 : decode cX4_rideMinutes 10 = .ok (.getfield 27, 3) := by decide +kernel
theorem dX4_rideMinutes_13 : decode cX4_rideMinutes 13 = .ok (.iload_n 1, 1) := by decide +kernel
theorem dX4_rideMinutes_14 : decode cX4_rideMinutes 14 = .ok (.iaload, 1) := by decide +kernel
theorem dX4_rideMinutes_15 : decode cX4_rideMinutes 15 = .ok (.isub, 1) := by decide +kernel
theorem dX4_rideMinutes_16 : decode cX4_rideMinutes 16 = .ok (.goto 4, 3) := by decide +kernel
theorem dX4_rideMinutes_19 : decode cX4_rideMinutes 19 = .ok (.iconst 0, 1) := by decide +kernel
theorem dX4_rideMinutes_20 : decode cX4_rideMinutes 20 = .ok (.ireturn, 1) := by decide +kernel
set_option maxRecDepth 20000 in
theorem ggX4_fee_X4_hasRide : GoodIn wsX4_fee wsX4_hasRide := goodIn_r _ [11, 12, 13, 14, 15, 10, 16, 17, 23, 24, 25, 26, 27, 28, 29, 30, 31, 32] (by decide +kernel) (by decide +kernel)
set_option maxRecDepth 20000 in
theorem gX4_fee_X4_hasRide : GoodIn wsX4_fee (wsV RX4 53 RX4 yX4_hasRide wsX4_hasRide) := goodIn_app (goodIn_of _ (by decide +kernel)) ggX4_fee_X4_hasRide
set_option maxRecDepth 20000 in
theorem ggX4_fee_X4_rideMinutes : GoodIn wsX4_fee wsX4_rideMinutes := goodIn_r _ [21, 22, 13, 14, 15, 10, 16, 17, 23, 24, 25, 26, 27, 28, 29, 30, 31, 32] (by decide +kernel) (by decide +kernel)
set_option maxRecDepth 20000 in
theorem gX4_fee_X4_rideMinutes : GoodIn wsX4_fee (wsV RX4 56 RX4 yX4_rideMinutes wsX4_rideMinutes) := goodIn_app (goodIn_of _ (by decide +kernel)) ggX4_fee_X4_rideMinutes
theorem dX4_fee_0 : decode cX4_fee 0 = .ok (.aload_n 0, 1) := by decide +kernel
theorem dX4_fee_1 : decode cX4_fee 1 = .ok (.iload_n 1, 1) := by decide +kernel
theorem dX4_fee_2 : decode cX4_fee 2 = .ok (.invokevirtual 53, 3) := by decide +kernel
theorem dX4_fee_5 : decode cX4_fee 5 = .ok (.ifCond .ne 5, 3) := by decide +kernel
theorem dX4_fee_8 : decode cX4_fee 8 = .ok (.iconst 0, 1) := by decide +kernel
theorem dX4_fee_9 : decode cX4_fee 9 = .ok (.ireturn, 1) := by decide +kernel
theorem dX4_fee_10 : decode cX4_fee 10 = .ok (.iconst 0, 1) := by decide +kernel
theorem dX4_fee_11 : decode cX4_fee 11 = .ok (.aload_n 0, 1) := by decide +kernel
theorem dX4_fee_12 : decode cX4_fee 12 = .ok (.iload_n 1, 1) := by decide +kernel
theorem dX4_fee_13 : decode cX4_fee 13 = .ok (.iload_n 2, 1) := by decide +kernel
theorem dX4_fee_14 : decode cX4_fee 14 = .ok (.invokevirtual 56, 3) := by decide +kernel
theorem dX4_fee_17 : decode cX4_fee 17 = .ok (.aload_n 0, 1) := by decide +kernel
theorem dX4_fee_18 : decode cX4_fee 18 = .ok (.getfield 30, 3) := by decide +kernel
theorem dX4_fee_21 : decode cX4_fee 21 = .ok (.iload_n 1, 1) := by decide +kernel
theorem dX4_fee_22 : decode cX4_fee 22 = .ok (.iaload, 1) := by decide +kernel
theorem dX4_fee_23 : decode cX4_fee 23 = .ok (.isub, 1) := by decide +kernel
theorem dX4_fee_24 : decode cX4_fee 24 = .ok (.invokestatic 60, 3) := by decide +kernel
theorem dX4_fee_27 : decode cX4_fee 27 = .ok (.istore_n 3, 1) := by decide +kernel
theorem dX4_fee_28 : decode cX4_fee 28 = .ok (.iload_n 3, 1) := by decide +kernel
theorem dX4_fee_29 : decode cX4_fee 29 = .ok (.iconst 5, 1) := by decide +kernel
theorem dX4_fee_30 : decode cX4_fee 30 = .ok (.iadd, 1) := by decide +kernel
theorem dX4_fee_31 : decode cX4_fee 31 = .ok (.iconst 1, 1) := by decide +kernel
theorem dX4_fee_32 : decode cX4_fee 32 = .ok (.isub, 1) := by decide +kernel
theorem dX4_fee_33 : decode cX4_fee 33 = .ok (.iconst 5, 1) := by decide +kernel
theorem dX4_fee_34 : decode cX4_fee 34 = .ok (.idiv, 1) := by decide +kernel
theorem dX4_fee_35 : decode cX4_fee 35 = .ok (.aload_n 0, 1) := by decide +kernel
theorem dX4_fee_36 : decode cX4_fee 36 = .ok (.getfield 33, 3) := by decide +kernel
theorem dX4_fee_39 : decode cX4_fee 39 = .ok (.iload_n 1, 1) := by decide +kernel
theorem dX4_fee_40 : decode cX4_fee 40 = .ok (.iaload, 1) := by decide +kernel
theorem dX4_fee_41 : decode cX4_fee 41 = .ok (.iadd, 1) := by decide +kernel
theorem dX4_fee_42 : decode cX4_fee 42 = .ok (.ireturn, 1) := by decide +kernel
theorem dX4_allOwed_0 : decode cX4_allOwed 0 = .ok (.iconst 0, 1) := by decide +kernel
theorem dX4_allOwed_1 : decode cX4_allOwed 1 = .ok (.istore_n 1, 1) := by decide +kernel
theorem dX4_allOwed_2 : decode cX4_allOwed 2 = .ok (.iconst 0, 1) := by decide +kernel
theorem dX4_allOwed_3 : decode cX4_allOwed 3 = .ok (.istore_n 2, 1) := by decide +kernel
theorem dX4_allOwed_4 : decode cX4_allOwed 4 = .ok (.iload_n 2, 1) := by decide +kernel
theorem dX4_allOwed_5 : decode cX4_allOwed 5 = .ok (.aload_n 0, 1) := by decide +kernel
theorem dX4_allOwed_6 : decode cX4_allOwed 6 = .ok (.getfield 39, 3) := by decide +kernel
theorem dX4_allOwed_9 : decode cX4_allOwed 9 = .ok (.if_icmp .ge 18, 3) := by decide +kernel
theorem dX4_allOwed_12 : decode cX4_allOwed 12 = .ok (.iload_n 1, 1) := by decide +kernel
theorem dX4_allOwed_13 : decode cX4_allOwed 13 = .ok (.aload_n 0, 1) := by decide +kernel
theorem dX4_allOwed_14 : decode cX4_allOwed 14 = .ok (.getfield 11, 3) := by decide +kernel
theorem dX4_allOwed_17 : decode cX4_allOwed 17 = .ok (.iload_n 2, 1) := by decide +kernel
theorem dX4_allOwed_18 : decode cX4_allOwed 18 = .ok (.iaload, 1) := by decide +kernel
theorem dX4_allOwed_19 : decode cX4_allOwed 19 = .ok (.iadd, 1) := by decide +kernel
theorem dX4_allOwed_20 : decode cX4_allOwed 20 = .ok (.istore_n 1, 1) := by decide +kernel
theorem dX4_allOwed_21 : decode cX4_allOwed 21 = .ok (.iinc 2 1, 3) := by decide +kernel
theorem dX4_allOwed_24 : decode cX4_allOwed 24 = .ok (.goto (-20), 3) := by decide +kernel
theorem dX4_allOwed_27 : decode cX4_allOwed 27 = .ok (.iload_n 1, 1) := by decide +kernel
theorem dX4_allOwed_28 : decode cX4_allOwed 28 = .ok (.ireturn, 1) := by decide +kernel
set_option maxRecDepth 20000 in
theorem ggX5_init_X6_init : GoodIn wsX5_init wsX6_init := goodIn_r _ [23, 24, 2, 3, 20, 25, 26, 27, 28, 56, 57, 58, 59, 60] (by decide +kernel) (by decide +kernel)
set_option maxRecDepth 20000 in
theorem gX5_init_X6_init_n11 : GoodIn wsX5_init (wsX6_init) := ggX5_init_X6_init
set_option maxRecDepth 20000 in
theorem ggX5_init_X1_init : GoodIn wsX5_init wsX1_init := goodIn_r _ [30, 31, 2, 3, 20, 32, 33, 34, 35, 36, 37, 67, 68, 69, 70, 71, 72, 73] (by decide +kernel) (by decide +kernel)
set_option maxRecDepth 20000 in
theorem gX5_init_X1_init_n20 : GoodIn wsX5_init (wsX1_init) := ggX5_init_X1_init
set_option maxRecDepth 20000 in
theorem ggX5_init_X4_init : GoodIn wsX5_init wsX4_init := goodIn_r _ [39, 40, 2, 3, 20, 41, 42, 43, 44, 45, 46, 47, 48, 49, 74, 75, 76, 77, 78, 79, 80, 81, 82, 83] (by decide +kernel) (by decide +kernel)
set_option maxRecDepth 20000 in
theorem gX5_init_X4_init_n27 : GoodIn wsX5_init (wsX4_init) := ggX5_init_X4_init
set_option maxRecDepth 20000 in
theorem ggX5_init_X8_init : GoodIn wsX5_init wsX8_init := goodIn_r _ [51, 52, 2, 3, 20, 53, 54, 55, 84, 85, 86, 87] (by decide +kernel) (by decide +kernel)
set_option maxRecDepth 20000 in
theorem gX5_init_X8_init_n34 : GoodIn wsX5_init (wsX8_init) := ggX5_init_X8_init
theorem dX5_init_0 : decode cX5_init 0 = .ok (.aload_n 0, 1) := by decide +kernel
theorem dX5_init_1 : decode cX5_init 1 = .ok (.invokespecial 3, 3) := by decide +kernel
theorem dX5_init_4 : decode cX5_init 4 = .ok (.aload_n 0, 1) := by decide +kernel
theorem dX5_init_5 : decode cX5_init 5 = .ok (.new 9, 3) := by decide +kernel
theorem dX5_init_8 : decode cX5_init 8 = .ok (.dup, 1) := by decide +kernel
theorem dX5_init_9 : decode cX5_init 9 = .ok (.invokespecial 11, 3) := by decide +kernel
theorem dX5_init_12 : decode cX5_init 12 = .ok (.putfield 12, 3) := by decide +kernel
theorem dX5_init_15 : decode cX5_init 15 = .ok (.aload_n 0, 1) := by decide +kernel
theorem dX5_init_16 : decode cX5_init 16 = .ok (.new 18, 3) := by decide +kernel
theorem dX5_init_19 : decode cX5_init 19 = .ok (.dup, 1) := by decide +kernel
theorem dX5_init_20 : decode cX5_init 20 = .ok (.invokespecial 20, 3) := by decide +kernel
theorem dX5_init_23 : decode cX5_init 23 = .ok (.putfield 21, 3) := by decide +kernel
theorem dX5_init_26 : decode cX5_init 26 = .ok (.aload_n 0, 1) := by decide +kernel
theorem dX5_init_27 : decode cX5_init 27 = .ok (.new 25, 3) := by decide +kernel
theorem dX5_init_30 : decode cX5_init 30 = .ok (.dup, 1) := by decide +kernel
theorem dX5_init_31 : decode cX5_init 31 = .ok (.invokespecial 27, 3) := by decide +kernel
theorem dX5_init_34 : decode cX5_init 34 = .ok (.putfield 28, 3) := by decide +kernel
theorem dX5_init_37 : decode cX5_init 37 = .ok (.aload_n 0, 1) := by decide +kernel
theorem dX5_init_38 : decode cX5_init 38 = .ok (.new 32, 3) := by decide +kernel
theorem dX5_init_41 : decode cX5_init 41 = .ok (.dup, 1) := by decide +kernel
theorem dX5_init_42 : decode cX5_init 42 = .ok (.invokespecial 34, 3) := by decide +kernel
theorem dX5_init_45 : decode cX5_init 45 = .ok (.putfield 35, 3) := by decide +kernel
theorem dX5_init_48 : decode cX5_init 48 = .ok (.aload_n 0, 1) := by decide +kernel
theorem dX5_init_49 : decode cX5_init 49 = .ok (.iconst 3, 1) := by decide +kernel
theorem dX5_init_50 : decode cX5_init 50 = .ok (.newarray .int, 2) := by decide +kernel
theorem dX5_init_52 : decode cX5_init 52 = .ok (.dup, 1) := by decide +kernel
theorem dX5_init_53 : decode cX5_init 53 = .ok (.iconst 0, 1) := by decide +kernel
theorem dX5_init_54 : decode cX5_init 54 = .ok (.bipush 30, 2) := by decide +kernel
theorem dX5_init_56 : decode cX5_init 56 = .ok (.iastore, 1) := by decide +kernel
theorem dX5_init_57 : decode cX5_init 57 = .ok (.dup, 1) := by decide +kernel
theorem dX5_init_58 : decode cX5_init 58 = .ok (.iconst 1, 1) := by decide +kernel
theorem dX5_init_59 : decode cX5_init 59 = .ok (.bipush 60, 2) := by decide +kernel
theorem dX5_init_61 : decode cX5_init 61 = .ok (.iastore, 1) := by decide +kernel
theorem dX5_init_62 : decode cX5_init 62 = .ok (.dup, 1) := by decide +kernel
theorem dX5_init_63 : decode cX5_init 63 = .ok (.iconst 2, 1) := by decide +kernel
theorem dX5_init_64 : decode cX5_init 64 = .ok (.bipush 100, 2) := by decide +kernel
theorem dX5_init_66 : decode cX5_init 66 = .ok (.iastore, 1) := by decide +kernel
theorem dX5_init_67 : decode cX5_init 67 = .ok (.putfield 39, 3) := by decide +kernel
theorem dX5_init_70 : decode cX5_init 70 = .ok (.return_, 1) := by decide +kernel
set_option maxRecDepth 20000 in
theorem ggX5_copy_X6_copy : GoodIn wsX5_copy wsX6_copy := goodIn_r _ [15, 16, 17, 18, 7, 8, 9, 19, 20, 21, 67, 68, 69, 70, 71] (by decide +kernel) (by decide +kernel)
set_option maxRecDepth 20000 in
theorem gX5_copy_X6_copy : GoodIn wsX5_copy (wsV RX5 43 RX6 yX6_copy wsX6_copy) := goodIn_app (goodIn_of _ (by decide +kernel)) ggX5_copy_X6_copy
set_option maxRecDepth 20000 in
theorem ggX5_copy_X1_copy : GoodIn wsX5_copy wsX1_copy := goodIn_r _ [26, 27, 28, 29, 7, 8, 9, 30, 31, 32, 33, 34, 72, 73, 74, 75, 76, 77, 78] (by decide +kernel) (by decide +kernel)
set_option maxRecDepth 20000 in
theorem gX5_copy_X1_copy : GoodIn wsX5_copy (wsV RX5 47 RX1 yX1_copy wsX1_copy) := goodIn_app (goodIn_of _ (by decide +kernel)) ggX5_copy_X1_copy
set_option maxRecDepth 20000 in
theorem ggX5_copy_X4_copy : GoodIn wsX5_copy wsX4_copy := goodIn_r _ [39, 40, 41, 42, 7, 8, 9, 43, 44, 45, 46, 47, 48, 49, 50, 79, 80, 81, 82, 83, 84, 85, 86, 87, 88] (by decide +kernel) (by decide +kernel)
set_option maxRecDepth 20000 in
theorem gX5_copy_X4_copy : GoodIn wsX5_copy (wsV RX5 50 RX4 yX4_copy wsX4_copy) := goodIn_app (goodIn_of _ (by decide +kernel)) ggX5_copy_X4_copy
set_option maxRecDepth 20000 in
theorem ggX5_copy_X8_copy : GoodIn wsX5_copy wsX8_copy := goodIn_r _ [55, 56, 57, 58, 7, 8, 9, 59, 60, 89, 90, 91, 92] (by decide +kernel) (by decide +kernel)
set_option maxRecDepth 20000 in
theorem gX5_copy_X8_copy : GoodIn wsX5_copy (wsV RX5 53 RX8 yX8_copy wsX8_copy) := goodIn_app (goodIn_of _ (by decide +kernel)) ggX5_copy_X8_copy
theorem dX5_copy_0 : decode cX5_copy 0 = .ok (.aload_n 0, 1) := by decide +kernel
theorem dX5_copy_1 : decode cX5_copy 1 = .ok (.getfield 12, 3) := by decide +kernel
theorem dX5_copy_4 : decode cX5_copy 4 = .ok (.aload_n 1, 1) := by decide +kernel
theorem dX5_copy_5 : decode cX5_copy 5 = .ok (.getfield 12, 3) := by decide +kernel
theorem dX5_copy_8 : decode cX5_copy 8 = .ok (.invokevirtual 43, 3) := by decide +kernel
theorem dX5_copy_11 : decode cX5_copy 11 = .ok (.aload_n 0, 1) := by decide +kernel
theorem dX5_copy_12 : decode cX5_copy 12 = .ok (.getfield 21, 3) := by decide +kernel
theorem dX5_copy_15 : decode cX5_copy 15 = .ok (.aload_n 1, 1) := by decide +kernel
theorem dX5_copy_16 : decode cX5_copy 16 = .ok (.getfield 21, 3) := by decide +kernel
theorem dX5_copy_19 : decode cX5_copy 19 = .ok (.invokevirtual 47, 3) := by decide +kernel
theorem dX5_copy_22 : decode cX5_copy 22 = .ok (.aload_n 0, 1) := by decide +kernel
theorem dX5_copy_23 : decode cX5_copy 23 = .ok (.getfield 28, 3) := by decide +kernel
theorem dX5_copy_26 : decode cX5_copy 26 = .ok (.aload_n 1, 1) := by decide +kernel
theorem dX5_copy_27 : decode cX5_copy 27 = .ok (.getfield 28, 3) := by decide +kernel
theorem dX5_copy_30 : decode cX5_copy 30 = .ok (.invokevirtual 50, 3) := by decide +kernel
theorem dX5_copy_33 : decode cX5_copy 33 = .ok (.aload_n 0, 1) := by decide +kernel
theorem dX5_copy_34 : decode cX5_copy 34 = .ok (.getfield 35, 3) := by decide +kernel
theorem dX5_copy_37 : decode cX5_copy 37 = .ok (.aload_n 1, 1) := by decide +kernel
theorem dX5_copy_38 : decode cX5_copy 38 = .ok (.getfield 35, 3) := by decide +kernel
theorem dX5_copy_41 : decode cX5_copy 41 = .ok (.invokevirtual 53, 3) := by decide +kernel
theorem dX5_copy_44 : decode cX5_copy 44 = .ok (.aload_n 1, 1) := by decide +kernel
theorem dX5_copy_45 : decode cX5_copy 45 = .ok (.getfield 39, 3) := by decide +kernel
theorem dX5_copy_48 : decode cX5_copy 48 = .ok (.iconst 0, 1) := by decide +kernel
theorem dX5_copy_49 : decode cX5_copy 49 = .ok (.aload_n 0, 1) := by decide +kernel
theorem dX5_copy_50 : decode cX5_copy 50 = .ok (.getfield 39, 3) := by decide +kernel
theorem dX5_copy_53 : decode cX5_copy 53 = .ok (.iconst 0, 1) := by decide +kernel
theorem dX5_copy_54 : decode cX5_copy 54 = .ok (.iconst 3, 1) := by decide +kernel
theorem dX5_copy_55 : decode cX5_copy 55 = .ok (.invokestatic 56, 3) := by decide +kernel
theorem dX5_copy_58 : decode cX5_copy 58 = .ok (.aload_n 0, 1) := by decide +kernel
theorem dX5_copy_59 : decode cX5_copy 59 = .ok (.aload_n 1, 1) := by decide +kernel
theorem dX5_copy_60 : decode cX5_copy 60 = .ok (.getfield 62, 3) := by decide +kernel
theorem dX5_copy_63 : decode cX5_copy 63 = .ok (.putfield 62, 3) := by decide +kernel
theorem dX5_copy_66 : decode cX5_copy 66 = .ok (.return_, 1) := by decide +kernel
set_option maxRecDepth 20000 in
theorem ggX5_addStation_X6_add : GoodIn wsX5_addStation wsX6_add := goodIn_r _ [6, 7, 8, 9, 16, 17, 18, 19, 20] (by decide +kernel) (by decide +kernel)
set_option maxRecDepth 20000 in
theorem gX5_addStation_X6_add : GoodIn wsX5_addStation (wsV RX5 66 RX6 yX6_add wsX6_add) := goodIn_app (goodIn_of _ (by decide +kernel)) ggX5_addStation_X6_add
theorem dX5_addStation_0 : decode cX5_addStation 0 = .ok (.iload_n 1, 1) := by decide +kernel
theorem dX5_addStation_1 : decode cX5_addStation 1 = .ok (.ifCond .lt 20, 3) := by decide +kernel
theorem dX5_addStation_4 : decode cX5_addStation 4 = .ok (.iload_n 1, 1) := by decide +kernel
theorem dX5_addStation_5 : decode cX5_addStation 5 = .ok (.bipush 99, 2) := by decide +kernel
theorem dX5_addStation_7 : decode cX5_addStation 7 = .ok (.if_icmp .gt 14, 3) := by decide +kernel
theorem dX5_addStation_10 : decode cX5_addStation 10 = .ok (.iload_n 2, 1) := by decide +kernel
theorem dX5_addStation_11 : decode cX5_addStation 11 = .ok (.iconst 1, 1) := by decide +kernel
theorem dX5_addStation_12 : decode cX5_addStation 12 = .ok (.if_icmp .lt 9, 3) := by decide +kernel
theorem dX5_addStation_15 : decode cX5_addStation 15 = .ok (.iload_n 2, 1) := by decide +kernel
theorem dX5_addStation_16 : decode cX5_addStation 16 = .ok (.bipush 8, 2) := by decide +kernel
theorem dX5_addStation_18 : decode cX5_addStation 18 = .ok (.if_icmp .le 5, 3) := by decide +kernel
theorem dX5_addStation_21 : decode cX5_addStation 21 = .ok (.iconst (-1), 1) := by decide +kernel
theorem dX5_addStation_22 : decode cX5_addStation 22 = .ok (.ireturn, 1) := by decide +kernel
theorem dX5_addStation_23 : decode cX5_addStation 23 = .ok (.aload_n 0, 1) := by decide +kernel
theorem dX5_addStation_24 : decode cX5_addStation 24 = .ok (.getfield 12, 3) := by decide +kernel
theorem dX5_addStation_27 : decode cX5_addStation 27 = .ok (.iload_n 1, 1) := by decide +kernel
theorem dX5_addStation_28 : decode cX5_addStation 28 = .ok (.iload_n 2, 1) := by decide +kernel
theorem dX5_addStation_29 : decode cX5_addStation 29 = .ok (.invokevirtual 66, 3) := by decide +kernel
theorem dX5_addStation_32 : decode cX5_addStation 32 = .ok (.ireturn, 1) := by decide +kernel
set_option maxRecDepth 20000 in
theorem ggX5_addBicycle_X6_has : GoodIn wsX5_addBicycle wsX6_has := goodIn_r _ [7, 8, 37, 38, 39, 40, 41] (by decide +kernel) (by decide +kernel)
set_option maxRecDepth 20000 in
theorem gX5_addBicycle_X6_has : GoodIn wsX5_addBicycle (wsV RX5 70 RX6 yX6_has wsX6_has) := goodIn_app (goodIn_of _ (by decide +kernel)) ggX5_addBicycle_X6_has
set_option maxRecDepth 20000 in
theorem ggX5_addBicycle_X5_hasFreeDock : GoodIn wsX5_addBicycle wsX5_hasFreeDock := goodIn_r _ [13, 1, 14, 3, 4, 5, 6, 7, 8, 15, 16, 17, 12, 18, 2, 19, 20, 21, 22, 23, 24, 25, 26, 31, 32, 33, 34, 35, 36, 37, 38, 39, 40, 41, 42, 43, 44, 45, 46, 47, 48] (by decide +kernel) (by decide +kernel)
set_option maxRecDepth 20000 in
theorem gX5_addBicycle_X5_hasFreeDock : GoodIn wsX5_addBicycle (wsV RX5 74 RX5 yX5_hasFreeDock wsX5_hasFreeDock) := goodIn_app (goodIn_of _ (by decide +kernel)) ggX5_addBicycle_X5_hasFreeDock
set_option maxRecDepth 20000 in
theorem ggX5_addBicycle_X1_add : GoodIn wsX5_addBicycle wsX1_add := goodIn_r _ [30, 24, 25, 26, 42, 43, 44, 45, 46, 47, 48] (by decide +kernel) (by decide +kernel)
set_option maxRecDepth 20000 in
theorem gX5_addBicycle_X1_add : GoodIn wsX5_addBicycle (wsV RX5 77 RX1 yX1_add wsX1_add) := goodIn_app (goodIn_of _ (by decide +kernel)) ggX5_addBicycle_X1_add
theorem dX5_addBicycle_0 : decode cX5_addBicycle 0 = .ok (.aload_n 0, 1) := by decide +kernel
theorem dX5_addBicycle_1 : decode cX5_addBicycle 1 = .ok (.getfield 12, 3) := by decide +kernel
theorem dX5_addBicycle_4 : decode cX5_addBicycle 4 = .ok (.iload_n 1, 1) := by decide +kernel
theorem dX5_addBicycle_5 : decode cX5_addBicycle 5 = .ok (.invokevirtual 70, 3) := by decide +kernel
theorem dX5_addBicycle_8 : decode cX5_addBicycle 8 = .ok (.ifCond .ne 5, 3) := by decide +kernel
theorem dX5_addBicycle_11 : decode cX5_addBicycle 11 = .ok (.iconst (-1), 1) := by decide +kernel
theorem dX5_addBicycle_12 : decode cX5_addBicycle 12 = .ok (.ireturn, 1) := by decide +kernel
theorem dX5_addBicycle_13 : decode cX5_addBicycle 13 = .ok (.aload_n 0, 1) := by decide +kernel
theorem dX5_addBicycle_14 : decode cX5_addBicycle 14 = .ok (.iload_n 1, 1) := by decide +kernel
theorem dX5_addBicycle_15 : decode cX5_addBicycle 15 = .ok (.invokevirtual 74, 3) := by decide +kernel
theorem dX5_addBicycle_18 : decode cX5_addBicycle 18 = .ok (.ifCond .eq 14, 3) := by decide +kernel
theorem dX5_addBicycle_21 : decode cX5_addBicycle 21 = .ok (.aload_n 0, 1) := by decide +kernel
theorem dX5_addBicycle_22 : decode cX5_addBicycle 22 = .ok (.getfield 21, 3) := by decide +kernel
theorem dX5_addBicycle_25 : decode cX5_addBicycle 25 = .ok (.iload_n 1, 1) := by decide +kernel
theorem dX5_addBicycle_26 : decode cX5_addBicycle 26 = .ok (.invokevirtual 77, 3) := by decide +kernel
theorem dX5_addBicycle_29 : decode cX5_addBicycle 29 = .ok (.goto 5, 3) := by decide +kernel
theorem dX5_addBicycle_32 : decode cX5_addBicycle 32 = .ok (.bipush (-2), 2) := by decide +kernel
theorem dX5_addBicycle_34 : decode cX5_addBicycle 34 = .ok (.ireturn, 1) := by decide +kernel
set_option maxRecDepth 20000 in
theorem ggX5_addRider_X4_add : GoodIn wsX5_addRider wsX4_add := goodIn_r _ [6, 7, 8, 15, 16, 17, 18, 19, 20, 21, 22, 23, 24] (by decide +kernel) (by decide +kernel)
set_option maxRecDepth 20000 in
theorem gX5_addRider_X4_add : GoodIn wsX5_addRider (wsV RX5 80 RX4 yX4_add wsX4_add) := goodIn_app (goodIn_of _ (by decide +kernel)) ggX5_addRider_X4_add
theorem dX5_addRider_0 : decode cX5_addRider 0 = .ok (.aload_n 0, 1) := by decide +kernel
theorem dX5_addRider_1 : decode cX5_addRider 1 = .ok (.getfield 28, 3) := by decide +kernel
theorem dX5_addRider_4 : decode cX5_addRider 4 = .ok (.invokevirtual 80, 3) := by decide +kernel
theorem dX5_addRider_7 : decode cX5_addRider 7 = .ok (.ireturn, 1) := by decide +kernel
set_option maxRecDepth 20000 in
theorem ggX5_addVan_X6_has : GoodIn wsX5_addVan wsX6_has := goodIn_r _ [7, 8, 23, 24, 25, 26, 27] (by decide +kernel) (by decide +kernel)
set_option maxRecDepth 20000 in
theorem gX5_addVan_X6_has : GoodIn wsX5_addVan (wsV RX5 70 RX6 yX6_has wsX6_has) := goodIn_app (goodIn_of _ (by decide +kernel)) ggX5_addVan_X6_has
set_option maxRecDepth 20000 in
theorem ggX5_addVan_X8_add : GoodIn wsX5_addVan wsX8_add := goodIn_r _ [13, 14, 15, 16, 28, 29, 30, 31] (by decide +kernel) (by decide +kernel)
set_option maxRecDepth 20000 in
theorem gX5_addVan_X8_add : GoodIn wsX5_addVan (wsV RX5 83 RX8 yX8_add wsX8_add) := goodIn_app (goodIn_of _ (by decide +kernel)) ggX5_addVan_X8_add
theorem dX5_addVan_0 : decode cX5_addVan 0 = .ok (.aload_n 0, 1) := by decide +kernel
theorem dX5_addVan_1 : decode cX5_addVan 1 = .ok (.getfield 12, 3) := by decide +kernel
theorem dX5_addVan_4 : decode cX5_addVan 4 = .ok (.iload_n 1, 1) := by decide +kernel
theorem dX5_addVan_5 : decode cX5_addVan 5 = .ok (.invokevirtual 70, 3) := by decide +kernel
theorem dX5_addVan_8 : decode cX5_addVan 8 = .ok (.ifCond .eq 14, 3) := by decide +kernel
theorem dX5_addVan_11 : decode cX5_addVan 11 = .ok (.iload_n 2, 1) := by decide +kernel
theorem dX5_addVan_12 : decode cX5_addVan 12 = .ok (.iconst 1, 1) := by decide +kernel
theorem dX5_addVan_13 : decode cX5_addVan 13 = .ok (.if_icmp .lt 9, 3) := by decide +kernel
theorem dX5_addVan_16 : decode cX5_addVan 16 = .ok (.iload_n 2, 1) := by decide +kernel
theorem dX5_addVan_17 : decode cX5_addVan 17 = .ok (.bipush 6, 2) := by decide +kernel
theorem dX5_addVan_19 : decode cX5_addVan 19 = .ok (.if_icmp .le 5, 3) := by decide +kernel
theorem dX5_addVan_22 : decode cX5_addVan 22 = .ok (.iconst (-1), 1) := by decide +kernel
theorem dX5_addVan_23 : decode cX5_addVan 23 = .ok (.ireturn, 1) := by decide +kernel
theorem dX5_addVan_24 : decode cX5_addVan 24 = .ok (.aload_n 0, 1) := by decide +kernel
theorem dX5_addVan_25 : decode cX5_addVan 25 = .ok (.getfield 35, 3) := by decide +kernel
theorem dX5_addVan_28 : decode cX5_addVan 28 = .ok (.iload_n 1, 1) := by decide +kernel
theorem dX5_addVan_29 : decode cX5_addVan 29 = .ok (.iload_n 2, 1) := by decide +kernel
theorem dX5_addVan_30 : decode cX5_addVan 30 = .ok (.invokevirtual 83, 3) := by decide +kernel
theorem dX5_addVan_33 : decode cX5_addVan 33 = .ok (.ireturn, 1) := by decide +kernel
set_option maxRecDepth 20000 in
theorem ggX5_sellPass_X4_has : GoodIn wsX5_sellPass wsX4_has := goodIn_r _ [15, 16, 23, 24, 25, 26, 27, 28, 29, 30, 31, 32] (by decide +kernel) (by decide +kernel)
set_option maxRecDepth 20000 in
theorem gX5_sellPass_X4_has : GoodIn wsX5_sellPass (wsV RX5 84 RX4 yX4_has wsX4_has) := goodIn_app (goodIn_of _ (by decide +kernel)) ggX5_sellPass_X4_has
theorem dX5_sellPass_0 : decode cX5_sellPass 0 = .ok (.aload_n 0, 1) := by decide +kernel
theorem dX5_sellPass_1 : decode cX5_sellPass 1 = .ok (.getfield 28, 3) := by decide +kernel
theorem dX5_sellPass_4 : decode cX5_sellPass 4 = .ok (.iload_n 1, 1) := by decide +kernel
theorem dX5_sellPass_5 : decode cX5_sellPass 5 = .ok (.invokevirtual 84, 3) := by decide +kernel
theorem dX5_sellPass_8 : decode cX5_sellPass 8 = .ok (.ifCond .ne 5, 3) := by decide +kernel
theorem dX5_sellPass_11 : decode cX5_sellPass 11 = .ok (.iconst (-1), 1) := by decide +kernel
theorem dX5_sellPass_12 : decode cX5_sellPass 12 = .ok (.ireturn, 1) := by decide +kernel
theorem dX5_sellPass_13 : decode cX5_sellPass 13 = .ok (.aload_n 0, 1) := by decide +kernel
theorem dX5_sellPass_14 : decode cX5_sellPass 14 = .ok (.getfield 62, 3) := by decide +kernel
theorem dX5_sellPass_17 : decode cX5_sellPass 17 = .ok (.aload_n 0, 1) := by decide +kernel
theorem dX5_sellPass_18 : decode cX5_sellPass 18 = .ok (.getfield 28, 3) := by decide +kernel
theorem dX5_sellPass_21 : decode cX5_sellPass 21 = .ok (.getfield 85, 3) := by decide +kernel
theorem dX5_sellPass_24 : decode cX5_sellPass 24 = .ok (.iload_n 1, 1) := by decide +kernel
theorem dX5_sellPass_25 : decode cX5_sellPass 25 = .ok (.iaload, 1) := by decide +kernel
theorem dX5_sellPass_26 : decode cX5_sellPass 26 = .ok (.invokestatic 88, 3) := by decide +kernel
theorem dX5_sellPass_29 : decode cX5_sellPass 29 = .ok (.sipush 1000, 3) := by decide +kernel
theorem dX5_sellPass_32 : decode cX5_sellPass 32 = .ok (.iadd, 1) := by decide +kernel
theorem dX5_sellPass_33 : decode cX5_sellPass 33 = .ok (.istore_n 2, 1) := by decide +kernel
theorem dX5_sellPass_34 : decode cX5_sellPass 34 = .ok (.iload_n 2, 1) := by decide +kernel
theorem dX5_sellPass_35 : decode cX5_sellPass 35 = .ok (.sipush 20000, 3) := by decide +kernel
theorem dX5_sellPass_38 : decode cX5_sellPass 38 = .ok (.if_icmp .le 6, 3) := by decide +kernel
theorem dX5_sellPass_41 : decode cX5_sellPass 41 = .ok (.bipush (-3), 2) := by decide +kernel
theorem dX5_sellPass_43 : decode cX5_sellPass 43 = .ok (.ireturn, 1) := by decide +kernel
theorem dX5_sellPass_44 : decode cX5_sellPass 44 = .ok (.aload_n 0, 1) := by decide +kernel
theorem dX5_sellPass_45 : decode cX5_sellPass 45 = .ok (.getfield 28, 3) := by decide +kernel
theorem dX5_sellPass_48 : decode cX5_sellPass 48 = .ok (.getfield 85, 3) := by decide +kernel
theorem dX5_sellPass_51 : decode cX5_sellPass 51 = .ok (.iload_n 1, 1) := by decide +kernel
theorem dX5_sellPass_52 : decode cX5_sellPass 52 = .ok (.iload_n 2, 1) := by decide +kernel
theorem dX5_sellPass_53 : decode cX5_sellPass 53 = .ok (.iastore, 1) := by decide +kernel
theorem dX5_sellPass_54 : decode cX5_sellPass 54 = .ok (.aload_n 0, 1) := by decide +kernel
theorem dX5_sellPass_55 : decode cX5_sellPass 55 = .ok (.getfield 28, 3) := by decide +kernel
theorem dX5_sellPass_58 : decode cX5_sellPass 58 = .ok (.getfield 93, 3) := by decide +kernel
theorem dX5_sellPass_61 : decode cX5_sellPass 61 = .ok (.iload_n 1, 1) := by decide +kernel
theorem dX5_sellPass_62 : decode cX5_sellPass 62 = .ok (.dup2, 1) := by decide +kernel
theorem dX5_sellPass_63 : decode cX5_sellPass 63 = .ok (.iaload, 1) := by decide +kernel
theorem dX5_sellPass_64 : decode cX5_sellPass 64 = .ok (.aload_n 0, 1) := by decide +kernel
theorem dX5_sellPass_65 : decode cX5_sellPass 65 = .ok (.getfield 39, 3) := by decide +kernel
theorem dX5_sellPass_68 : decode cX5_sellPass 68 = .ok (.iconst 2, 1) := by decide +kernel
theorem dX5_sellPass_69 : decode cX5_sellPass 69 = .ok (.iaload, 1) := by decide +kernel
theorem dX5_sellPass_70 : decode cX5_sellPass 70 = .ok (.iadd, 1) := by decide +kernel
theorem dX5_sellPass_71 : decode cX5_sellPass 71 = .ok (.iastore, 1) := by decide +kernel
theorem dX5_sellPass_72 : decode cX5_sellPass 72 = .ok (.aload_n 0, 1) := by decide +kernel
theorem dX5_sellPass_73 : decode cX5_sellPass 73 = .ok (.getfield 28, 3) := by decide +kernel
theorem dX5_sellPass_76 : decode cX5_sellPass 76 = .ok (.getfield 96, 3) := by decide +kernel
theorem dX5_sellPass_79 : decode cX5_sellPass 79 = .ok (.iload_n 1, 1) := by decide +kernel
theorem dX5_sellPass_80 : decode cX5_sellPass 80 = .ok (.dup2, 1) := by decide +kernel
theorem dX5_sellPass_81 : decode cX5_sellPass 81 = .ok (.iaload, 1) := by decide +kernel
theorem dX5_sellPass_82 : decode cX5_sellPass 82 = .ok (.aload_n 0, 1) := by decide +kernel
theorem dX5_sellPass_83 : decode cX5_sellPass 83 = .ok (.getfield 39, 3) := by decide +kernel
theorem dX5_sellPass_86 : decode cX5_sellPass 86 = .ok (.iconst 2, 1) := by decide +kernel
theorem dX5_sellPass_87 : decode cX5_sellPass 87 = .ok (.iaload, 1) := by decide +kernel
theorem dX5_sellPass_88 : decode cX5_sellPass 88 = .ok (.iadd, 1) := by decide +kernel
theorem dX5_sellPass_89 : decode cX5_sellPass 89 = .ok (.iastore, 1) := by decide +kernel
theorem dX5_sellPass_90 : decode cX5_sellPass 90 = .ok (.iload_n 2, 1) := by decide +kernel
theorem dX5_sellPass_91 : decode cX5_sellPass 91 = .ok (.ireturn, 1) := by decide +kernel
set_option maxRecDepth 20000 in
theorem ggX5_beginRide_X4_has : GoodIn wsX5_beginRide wsX4_has := goodIn_r _ [17, 18, 60, 61, 62, 63, 64, 65, 66, 67, 68, 69] (by decide +kernel) (by decide +kernel)
set_option maxRecDepth 20000 in
theorem gX5_beginRide_X4_has : GoodIn wsX5_beginRide (wsV RX5 84 RX4 yX4_has wsX4_has) := goodIn_app (goodIn_of _ (by decide +kernel)) ggX5_beginRide_X4_has
set_option maxRecDepth 20000 in
theorem ggX5_beginRide_X6_has : GoodIn wsX5_beginRide wsX6_has := goodIn_r _ [23, 24, 70, 71, 72, 73, 74] (by decide +kernel) (by decide +kernel)
set_option maxRecDepth 20000 in
theorem gX5_beginRide_X6_has : GoodIn wsX5_beginRide (wsV RX5 70 RX6 yX6_has wsX6_has) := goodIn_app (goodIn_of _ (by decide +kernel)) ggX5_beginRide_X6_has
set_option maxRecDepth 20000 in
theorem ggX5_beginRide_X1_leastRiddenAt : GoodIn wsX5_beginRide wsX1_leastRiddenAt := goodIn_r _ [29, 30, 31, 32, 33, 34, 35, 28, 36, 37, 38, 39, 40, 41, 42, 75, 76, 77, 78, 79, 80, 81] (by decide +kernel) (by decide +kernel)
set_option maxRecDepth 20000 in
theorem gX5_beginRide_X1_leastRiddenAt : GoodIn wsX5_beginRide (wsV RX5 99 RX1 yX1_leastRiddenAt wsX1_leastRiddenAt) := goodIn_app (goodIn_of _ (by decide +kernel)) ggX5_beginRide_X1_leastRiddenAt
set_option maxRecDepth 20000 in
theorem ggX5_beginRide_X4_hasRide : GoodIn wsX5_beginRide wsX4_hasRide := goodIn_r _ [46, 47, 48, 14, 15, 16, 17, 18, 60, 61, 62, 63, 64, 65, 66, 67, 68, 69] (by decide +kernel) (by decide +kernel)
set_option maxRecDepth 20000 in
theorem gX5_beginRide_X4_hasRide : GoodIn wsX5_beginRide (wsV RX5 102 RX4 yX4_hasRide wsX4_hasRide) := goodIn_app (goodIn_of _ (by decide +kernel)) ggX5_beginRide_X4_hasRide
set_option maxRecDepth 20000 in
theorem ggX5_beginRide_X1_has : GoodIn wsX5_beginRide wsX1_has := goodIn_r _ [42, 30, 75, 76, 77, 78, 79, 80, 81] (by decide +kernel) (by decide +kernel)
set_option maxRecDepth 20000 in
theorem gX5_beginRide_X1_has : GoodIn wsX5_beginRide (wsV RX5 105 RX1 yX1_has wsX1_has) := goodIn_app (goodIn_of _ (by decide +kernel)) ggX5_beginRide_X1_has
set_option maxRecDepth 20000 in
theorem ggX5_beginRide_X1_bring : GoodIn wsX5_beginRide wsX1_bring := goodIn_r _ [53, 37, 38, 39, 40, 41, 28, 42, 30, 75, 76, 77, 78, 79, 80, 81] (by decide +kernel) (by decide +kernel)
set_option maxRecDepth 20000 in
theorem gX5_beginRide_X1_bring : GoodIn wsX5_beginRide (wsV RX5 121 RX1 yX1_bring wsX1_bring) := goodIn_app (goodIn_of _ (by decide +kernel)) ggX5_beginRide_X1_bring
theorem dX5_beginRide_0 : decode cX5_beginRide 0 = .ok (.aload_n 0, 1) := by decide +kernel
theorem dX5_beginRide_1 : decode cX5_beginRide 1 = .ok (.getfield 28, 3) := by decide +kernel
theorem dX5_beginRide_4 : decode cX5_beginRide 4 = .ok (.iload_n 1, 1) := by decide +kernel
theorem dX5_beginRide_5 : decode cX5_beginRide 5 = .ok (.invokevirtual 84, 3) := by decide +kernel
theorem dX5_beginRide_8 : decode cX5_beginRide 8 = .ok (.ifCond .eq 14, 3) := by decide +kernel
theorem dX5_beginRide_11 : decode cX5_beginRide 11 = .ok (.aload_n 0, 1) := by decide +kernel
theorem dX5_beginRide_12 : decode cX5_beginRide 12 = .ok (.getfield 12, 3) := by decide +kernel
theorem dX5_beginRide_15 : decode cX5_beginRide 15 = .ok (.iload_n 2, 1) := by decide +kernel
theorem dX5_beginRide_16 : decode cX5_beginRide 16 = .ok (.invokevirtual 70, 3) := by decide +kernel
theorem dX5_beginRide_19 : decode cX5_beginRide 19 = .ok (.ifCond .ne 5, 3) := by decide +kernel
theorem dX5_beginRide_22 : decode cX5_beginRide 22 = .ok (.iconst (-1), 1) := by decide +kernel
theorem dX5_beginRide_23 : decode cX5_beginRide 23 = .ok (.ireturn, 1) := by decide +kernel
theorem dX5_beginRide_24 : decode cX5_beginRide 24 = .ok (.aload_n 0, 1) := by decide +kernel
theorem dX5_beginRide_25 : decode cX5_beginRide 25 = .ok (.getfield 21, 3) := by decide +kernel
theorem dX5_beginRide_28 : decode cX5_beginRide 28 = .ok (.iload_n 2, 1) := by decide +kernel
theorem dX5_beginRide_29 : decode cX5_beginRide 29 = .ok (.invokevirtual 99, 3) := by decide +kernel
theorem dX5_beginRide_32 : decode cX5_beginRide 32 = .ok (.istore_n 3, 1) := by decide +kernel
theorem dX5_beginRide_33 : decode cX5_beginRide 33 = .ok (.aload_n 0, 1) := by decide +kernel
theorem dX5_beginRide_34 : decode cX5_beginRide 34 = .ok (.getfield 28, 3) := by decide +kernel
theorem dX5_beginRide_37 : decode cX5_beginRide 37 = .ok (.iload_n 1, 1) := by decide +kernel
theorem dX5_beginRide_38 : decode cX5_beginRide 38 = .ok (.invokevirtual 102, 3) := by decide +kernel
theorem dX5_beginRide_41 : decode cX5_beginRide 41 = .ok (.ifCond .ne 14, 3) := by decide +kernel
theorem dX5_beginRide_44 : decode cX5_beginRide 44 = .ok (.aload_n 0, 1) := by decide +kernel
theorem dX5_beginRide_45 : decode cX5_beginRide 45 = .ok (.getfield 21, 3) := by decide +kernel
theorem dX5_beginRide_48 : decode cX5_beginRide 48 = .ok (.iload_n 3, 1) := by decide +kernel
theorem dX5_beginRide_49 : decode cX5_beginRide 49 = .ok (.invokevirtual 105, 3) := by decide +kernel
theorem dX5_beginRide_52 : decode cX5_beginRide 52 = .ok (.ifCond .ne 6, 3) := by decide +kernel
theorem dX5_beginRide_55 : decode cX5_beginRide 55 = .ok (.bipush (-2), 2) := by decide +kernel
theorem dX5_beginRide_57 : decode cX5_beginRide 57 = .ok (.ireturn, 1) := by decide +kernel
theorem dX5_beginRide_58 : decode cX5_beginRide 58 = .ok (.aload_n 0, 1) := by decide +kernel
theorem dX5_beginRide_59 : decode cX5_beginRide 59 = .ok (.getfield 62, 3) := by decide +kernel
theorem dX5_beginRide_62 : decode cX5_beginRide 62 = .ok (.aload_n 0, 1) := by decide +kernel
theorem dX5_beginRide_63 : decode cX5_beginRide 63 = .ok (.getfield 28, 3) := by decide +kernel
theorem dX5_beginRide_66 : decode cX5_beginRide 66 = .ok (.getfield 85, 3) := by decide +kernel
theorem dX5_beginRide_69 : decode cX5_beginRide 69 = .ok (.iload_n 1, 1) := by decide +kernel
theorem dX5_beginRide_70 : decode cX5_beginRide 70 = .ok (.iaload, 1) := by decide +kernel
theorem dX5_beginRide_71 : decode cX5_beginRide 71 = .ok (.if_icmp .ge 7, 3) := by decide +kernel
theorem dX5_beginRide_74 : decode cX5_beginRide 74 = .ok (.iconst 1, 1) := by decide +kernel
theorem dX5_beginRide_75 : decode cX5_beginRide 75 = .ok (.goto 4, 3) := by decide +kernel
theorem dX5_beginRide_78 : decode cX5_beginRide 78 = .ok (.iconst 0, 1) := by decide +kernel
theorem dX5_beginRide_79 : decode cX5_beginRide 79 = .ok (.istore 4, 2) := by decide +kernel
theorem dX5_beginRide_81 : decode cX5_beginRide 81 = .ok (.aload_n 0, 1) := by decide +kernel
theorem dX5_beginRide_82 : decode cX5_beginRide 82 = .ok (.getfield 28, 3) := by decide +kernel
theorem dX5_beginRide_85 : decode cX5_beginRide 85 = .ok (.getfield 106, 3) := by decide +kernel
theorem dX5_beginRide_88 : decode cX5_beginRide 88 = .ok (.iload_n 1, 1) := by decide +kernel
theorem dX5_beginRide_89 : decode cX5_beginRide 89 = .ok (.iload_n 3, 1) := by decide +kernel
theorem dX5_beginRide_90 : decode cX5_beginRide 90 = .ok (.iastore, 1) := by decide +kernel
theorem dX5_beginRide_91 : decode cX5_beginRide 91 = .ok (.aload_n 0, 1) := by decide +kernel
theorem dX5_beginRide_92 : decode cX5_beginRide 92 = .ok (.getfield 28, 3) := by decide +kernel
theorem dX5_beginRide_95 : decode cX5_beginRide 95 = .ok (.getfield 109, 3) := by decide +kernel
theorem dX5_beginRide_98 : decode cX5_beginRide 98 = .ok (.iload_n 1, 1) := by decide +kernel
theorem dX5_beginRide_99 : decode cX5_beginRide 99 = .ok (.aload_n 0, 1) := by decide +kernel
theorem dX5_beginRide_100 : decode cX5_beginRide 100 = .ok (.getfield 62, 3) := by decide +kernel
theorem dX5_beginRide_103 : decode cX5_beginRide 103 = .ok (.iastore, 1) := by decide +kernel
theorem dX5_beginRide_104 : decode cX5_beginRide 104 = .ok (.aload_n 0, 1) := by decide +kernel
theorem dX5_beginRide_105 : decode cX5_beginRide 105 = .ok (.getfield 28, 3) := by decide +kernel
theorem dX5_beginRide_108 : decode cX5_beginRide 108 = .ok (.getfield 112, 3) := by decide +kernel
theorem dX5_beginRide_111 : decode cX5_beginRide 111 = .ok (.iload_n 1, 1) := by decide +kernel
theorem dX5_beginRide_112 : decode cX5_beginRide 112 = .ok (.iload 4, 2) := by decide +kernel
theorem dX5_beginRide_114 : decode cX5_beginRide 114 = .ok (.ifCond .eq 12, 3) := by decide +kernel
theorem dX5_beginRide_117 : decode cX5_beginRide 117 = .ok (.aload_n 0, 1) := by decide +kernel
theorem dX5_beginRide_118 : decode cX5_beginRide 118 = .ok (.getfield 39, 3) := by decide +kernel
theorem dX5_beginRide_121 : decode cX5_beginRide 121 = .ok (.iconst 0, 1) := by decide +kernel
theorem dX5_beginRide_122 : decode cX5_beginRide 122 = .ok (.iaload, 1) := by decide +kernel
theorem dX5_beginRide_123 : decode cX5_beginRide 123 = .ok (.goto 4, 3) := by decide +kernel
theorem dX5_beginRide_126 : decode cX5_beginRide 126 = .ok (.iconst 0, 1) := by decide +kernel
theorem dX5_beginRide_127 : decode cX5_beginRide 127 = .ok (.iastore, 1) := by decide +kernel
theorem dX5_beginRide_128 : decode cX5_beginRide 128 = .ok (.aload_n 0, 1) := by decide +kernel
theorem dX5_beginRide_129 : decode cX5_beginRide 129 = .ok (.getfield 28, 3) := by decide +kernel
theorem dX5_beginRide_132 : decode cX5_beginRide 132 = .ok (.getfield 115, 3) := by decide +kernel
theorem dX5_beginRide_135 : decode cX5_beginRide 135 = .ok (.iload_n 1, 1) := by decide +kernel
theorem dX5_beginRide_136 : decode cX5_beginRide 136 = .ok (.iload 4, 2) := by decide +kernel
theorem dX5_beginRide_138 : decode cX5_beginRide 138 = .ok (.ifCond .eq 7, 3) := by decide +kernel
theorem dX5_beginRide_141 : decode cX5_beginRide 141 = .ok (.iconst 0, 1) := by decide +kernel
theorem dX5_beginRide_142 : decode cX5_beginRide 142 = .ok (.goto 4, 3) := by decide +kernel
theorem dX5_beginRide_145 : decode cX5_beginRide 145 = .ok (.iconst 1, 1) := by decide +kernel
theorem dX5_beginRide_146 : decode cX5_beginRide 146 = .ok (.iastore, 1) := by decide +kernel
theorem dX5_beginRide_147 : decode cX5_beginRide 147 = .ok (.aload_n 0, 1) := by decide +kernel
theorem dX5_beginRide_148 : decode cX5_beginRide 148 = .ok (.getfield 28, 3) := by decide +kernel
theorem dX5_beginRide_151 : decode cX5_beginRide 151 = .ok (.getfield 118, 3) := by decide +kernel
theorem dX5_beginRide_154 : decode cX5_beginRide 154 = .ok (.iload_n 1, 1) := by decide +kernel
theorem dX5_beginRide_155 : decode cX5_beginRide 155 = .ok (.iconst 0, 1) := by decide +kernel
theorem dX5_beginRide_156 : decode cX5_beginRide 156 = .ok (.iastore, 1) := by decide +kernel
theorem dX5_beginRide_157 : decode cX5_beginRide 157 = .ok (.aload_n 0, 1) := by decide +kernel
theorem dX5_beginRide_158 : decode cX5_beginRide 158 = .ok (.getfield 21, 3) := by decide +kernel
theorem dX5_beginRide_161 : decode cX5_beginRide 161 = .ok (.iload_n 3, 1) := by decide +kernel
theorem dX5_beginRide_162 : decode cX5_beginRide 162 = .ok (.iconst 1, 1) := by decide +kernel
theorem dX5_beginRide_163 : decode cX5_beginRide 163 = .ok (.iload_n 1, 1) := by decide +kernel
theorem dX5_beginRide_164 : decode cX5_beginRide 164 = .ok (.invokevirtual 121, 3) := by decide +kernel
theorem dX5_beginRide_167 : decode cX5_beginRide 167 = .ok (.aload_n 0, 1) := by decide +kernel
theorem dX5_beginRide_168 : decode cX5_beginRide 168 = .ok (.getfield 12, 3) := by decide +kernel
theorem dX5_beginRide_171 : decode cX5_beginRide 171 = .ok (.getfield 125, 3) := by decide +kernel
theorem dX5_beginRide_174 : decode cX5_beginRide 174 = .ok (.iload_n 2, 1) := by decide +kernel
theorem dX5_beginRide_175 : decode cX5_beginRide 175 = .ok (.dup2, 1) := by decide +kernel
theorem dX5_beginRide_176 : decode cX5_beginRide 176 = .ok (.iaload, 1) := by decide +kernel
theorem dX5_beginRide_177 : decode cX5_beginRide 177 = .ok (.iconst 1, 1) := by decide +kernel
theorem dX5_beginRide_178 : decode cX5_beginRide 178 = .ok (.iadd, 1) := by decide +kernel
theorem dX5_beginRide_179 : decode cX5_beginRide 179 = .ok (.iastore, 1) := by decide +kernel
theorem dX5_beginRide_180 : decode cX5_beginRide 180 = .ok (.iload_n 3, 1) := by decide +kernel
theorem dX5_beginRide_181 : decode cX5_beginRide 181 = .ok (.ireturn, 1) := by decide +kernel
set_option maxRecDepth 20000 in
theorem ggX5_endRide_X4_has : GoodIn wsX5_endRide wsX4_has := goodIn_r _ [15, 16, 78, 79, 80, 81, 82, 83, 84, 85, 86, 87] (by decide +kernel) (by decide +kernel)
set_option maxRecDepth 20000 in
theorem gX5_endRide_X4_has : GoodIn wsX5_endRide (wsV RX5 84 RX4 yX4_has wsX4_has) := goodIn_app (goodIn_of _ (by decide +kernel)) ggX5_endRide_X4_has
set_option maxRecDepth 20000 in
theorem ggX5_endRide_X6_has : GoodIn wsX5_endRide wsX6_has := goodIn_r _ [21, 22, 95, 96, 97, 98, 99] (by decide +kernel) (by decide +kernel)
set_option maxRecDepth 20000 in
theorem gX5_endRide_X6_has : GoodIn wsX5_endRide (wsV RX5 70 RX6 yX6_has wsX6_has) := goodIn_app (goodIn_of _ (by decide +kernel)) ggX5_endRide_X6_has
set_option maxRecDepth 20000 in
theorem ggX5_endRide_X1_has : GoodIn wsX5_endRide wsX1_has := goodIn_r _ [27, 28, 88, 89, 90, 91, 92, 93, 94] (by decide +kernel) (by decide +kernel)
set_option maxRecDepth 20000 in
theorem gX5_endRide_X1_has : GoodIn wsX5_endRide (wsV RX5 105 RX1 yX1_has wsX1_has) := goodIn_app (goodIn_of _ (by decide +kernel)) ggX5_endRide_X1_has
set_option maxRecDepth 20000 in
theorem ggX5_endRide_X5_hasFreeDock : GoodIn wsX5_endRide wsX5_hasFreeDock := goodIn_r _ [33, 2, 34, 17, 18, 19, 20, 21, 22, 35, 36, 37, 32, 38, 4, 39, 40, 41, 26, 42, 28, 43, 44, 72, 73, 74, 75, 76, 77, 95, 96, 97, 98, 99, 88, 89, 90, 91, 92, 93, 94] (by decide +kernel) (by decide +kernel)
set_option maxRecDepth 20000 in
theorem gX5_endRide_X5_hasFreeDock : GoodIn wsX5_endRide (wsV RX5 74 RX5 yX5_hasFreeDock wsX5_hasFreeDock) := goodIn_app (goodIn_of _ (by decide +kernel)) ggX5_endRide_X5_hasFreeDock
set_option maxRecDepth 20000 in
theorem ggX5_endRide_X4_fee : GoodIn wsX5_endRide wsX4_fee := goodIn_r _ [48, 49, 50, 51, 52, 53, 54, 55, 56, 57, 14, 58, 59, 60, 12, 13, 15, 16, 61, 62, 63, 64, 65, 78, 79, 80, 81, 82, 83, 84, 85, 86, 87] (by decide +kernel) (by decide +kernel)
set_option maxRecDepth 20000 in
theorem gX5_endRide_X4_fee : GoodIn wsX5_endRide (wsV RX5 128 RX4 yX4_fee wsX4_fee) := goodIn_app (goodIn_of _ (by decide +kernel)) ggX5_endRide_X4_fee
set_option maxRecDepth 20000 in
theorem ggX5_endRide_X4_rideMinutes : GoodIn wsX5_endRide wsX4_rideMinutes := goodIn_r _ [64, 65, 60, 12, 13, 14, 15, 16, 78, 79, 80, 81, 82, 83, 84, 85, 86, 87] (by decide +kernel) (by decide +kernel)
set_option maxRecDepth 20000 in
theorem gX5_endRide_X4_rideMinutes : GoodIn wsX5_endRide (wsV RX5 134 RX4 yX4_rideMinutes wsX4_rideMinutes) := goodIn_app (goodIn_of _ (by decide +kernel)) ggX5_endRide_X4_rideMinutes
set_option maxRecDepth 20000 in
theorem ggX5_endRide_X1_bring : GoodIn wsX5_endRide wsX1_bring := goodIn_r _ [70, 43, 44, 71, 24, 25, 26, 27, 28, 88, 89, 90, 91, 92, 93, 94] (by decide +kernel) (by decide +kernel)
set_option maxRecDepth 20000 in
theorem gX5_endRide_X1_bring : GoodIn wsX5_endRide (wsV RX5 121 RX1 yX1_bring wsX1_bring) := goodIn_app (goodIn_of _ (by decide +kernel)) ggX5_endRide_X1_bring
theorem dX5_endRide_0 : decode cX5_endRide 0 = .ok (.aload_n 0, 1) := by decide +kernel
theorem dX5_endRide_1 : decode cX5_endRide 1 = .ok (.getfield 28, 3) := by decide +kernel
theorem dX5_endRide_4 : decode cX5_endRide 4 = .ok (.iload_n 1, 1) := by decide +kernel
theorem dX5_endRide_5 : decode cX5_endRide 5 = .ok (.invokevirtual 84, 3) := by decide +kernel
theorem dX5_endRide_8 : decode cX5_endRide 8 = .ok (.ifCond .eq 14, 3) := by decide +kernel
theorem dX5_endRide_11 : decode cX5_endRide 11 = .ok (.aload_n 0, 1) := by decide +kernel
theorem dX5_endRide_12 : decode cX5_endRide 12 = .ok (.getfield 12, 3) := by decide +kernel
theorem dX5_endRide_15 : decode cX5_endRide 15 = .ok (.iload_n 2, 1) := by decide +kernel
theorem dX5_endRide_16 : decode cX5_endRide 16 = .ok (.invokevirtual 70, 3) := by decide +kernel
theorem dX5_endRide_19 : decode cX5_endRide 19 = .ok (.ifCond .ne 5, 3) := by decide +kernel
theorem dX5_endRide_22 : decode cX5_endRide 22 = .ok (.iconst (-1), 1) := by decide +kernel
theorem dX5_endRide_23 : decode cX5_endRide 23 = .ok (.ireturn, 1) := by decide +kernel
theorem dX5_endRide_24 : decode cX5_endRide 24 = .ok (.aload_n 0, 1) := by decide +kernel
theorem dX5_endRide_25 : decode cX5_endRide 25 = .ok (.getfield 28, 3) := by decide +kernel
theorem dX5_endRide_28 : decode cX5_endRide 28 = .ok (.getfield 106, 3) := by decide +kernel
theorem dX5_endRide_31 : decode cX5_endRide 31 = .ok (.iload_n 1, 1) := by decide +kernel
theorem dX5_endRide_32 : decode cX5_endRide 32 = .ok (.iaload, 1) := by decide +kernel
theorem dX5_endRide_33 : decode cX5_endRide 33 = .ok (.istore_n 3, 1) := by decide +kernel
theorem dX5_endRide_34 : decode cX5_endRide 34 = .ok (.aload_n 0, 1) := by decide +kernel
theorem dX5_endRide_35 : decode cX5_endRide 35 = .ok (.getfield 21, 3) := by decide +kernel
theorem dX5_endRide_38 : decode cX5_endRide 38 = .ok (.iload_n 3, 1) := by decide +kernel
theorem dX5_endRide_39 : decode cX5_endRide 39 = .ok (.invokevirtual 105, 3) := by decide +kernel
theorem dX5_endRide_42 : decode cX5_endRide 42 = .ok (.ifCond .eq 11, 3) := by decide +kernel
theorem dX5_endRide_45 : decode cX5_endRide 45 = .ok (.aload_n 0, 1) := by decide +kernel
theorem dX5_endRide_46 : decode cX5_endRide 46 = .ok (.iload_n 2, 1) := by decide +kernel
theorem dX5_endRide_47 : decode cX5_endRide 47 = .ok (.invokevirtual 74, 3) := by decide +kernel
theorem dX5_endRide_50 : decode cX5_endRide 50 = .ok (.ifCond .ne 6, 3) := by decide +kernel
theorem dX5_endRide_53 : decode cX5_endRide 53 = .ok (.bipush (-2), 2) := by decide +kernel
theorem dX5_endRide_55 : decode cX5_endRide 55 = .ok (.ireturn, 1) := by decide +kernel
theorem dX5_endRide_56 : decode cX5_endRide 56 = .ok (.aload_n 0, 1) := by decide +kernel
theorem dX5_endRide_57 : decode cX5_endRide 57 = .ok (.getfield 28, 3) := by decide +kernel
theorem dX5_endRide_60 : decode cX5_endRide 60 = .ok (.iload_n 1, 1) := by decide +kernel
theorem dX5_endRide_61 : decode cX5_endRide 61 = .ok (.aload_n 0, 1) := by decide +kernel
theorem dX5_endRide_62 : decode cX5_endRide 62 = .ok (.getfield 62, 3) := by decide +kernel
theorem dX5_endRide_65 : decode cX5_endRide 65 = .ok (.invokevirtual 128, 3) := by decide +kernel
theorem dX5_endRide_68 : decode cX5_endRide 68 = .ok (.istore 4, 2) := by decide +kernel
theorem dX5_endRide_70 : decode cX5_endRide 70 = .ok (.aload_n 0, 1) := by decide +kernel
theorem dX5_endRide_71 : decode cX5_endRide 71 = .ok (.getfield 21, 3) := by decide +kernel
theorem dX5_endRide_74 : decode cX5_endRide 74 = .ok (.getfield 131, 3) := by decide +kernel
theorem dX5_endRide_77 : decode cX5_endRide 77 = .ok (.iload_n 3, 1) := by decide +kernel
theorem dX5_endRide_78 : decode cX5_endRide 78 = .ok (.dup2, 1) := by decide +kernel
theorem dX5_endRide_79 : decode cX5_endRide 79 = .ok (.iaload, 1) := by decide +kernel
theorem dX5_endRide_80 : decode cX5_endRide 80 = .ok (.aload_n 0, 1) := by decide +kernel
theorem dX5_endRide_81 : decode cX5_endRide 81 = .ok (.getfield 28, 3) := by decide +kernel
theorem dX5_endRide_84 : decode cX5_endRide 84 = .ok (.iload_n 1, 1) := by decide +kernel
theorem dX5_endRide_85 : decode cX5_endRide 85 = .ok (.aload_n 0, 1) := by decide +kernel
theorem dX5_endRide_86 : decode cX5_endRide 86 = .ok (.getfield 62, 3) := by decide +kernel
theorem dX5_endRide_89 : decode cX5_endRide 89 = .ok (.invokevirtual 134, 3) := by decide +kernel
theorem dX5_endRide_92 : decode cX5_endRide 92 = .ok (.iadd, 1) := by decide +kernel
theorem dX5_endRide_93 : decode cX5_endRide 93 = .ok (.iastore, 1) := by decide +kernel
theorem dX5_endRide_94 : decode cX5_endRide 94 = .ok (.aload_n 0, 1) := by decide +kernel
theorem dX5_endRide_95 : decode cX5_endRide 95 = .ok (.getfield 21, 3) := by decide +kernel
theorem dX5_endRide_98 : decode cX5_endRide 98 = .ok (.getfield 137, 3) := by decide +kernel
theorem dX5_endRide_101 : decode cX5_endRide 101 = .ok (.iload_n 3, 1) := by decide +kernel
theorem dX5_endRide_102 : decode cX5_endRide 102 = .ok (.dup2, 1) := by decide +kernel
theorem dX5_endRide_103 : decode cX5_endRide 103 = .ok (.iaload, 1) := by decide +kernel
theorem dX5_endRide_104 : decode cX5_endRide 104 = .ok (.iconst 1, 1) := by decide +kernel
theorem dX5_endRide_105 : decode cX5_endRide 105 = .ok (.iadd, 1) := by decide +kernel
theorem dX5_endRide_106 : decode cX5_endRide 106 = .ok (.iastore, 1) := by decide +kernel
theorem dX5_endRide_107 : decode cX5_endRide 107 = .ok (.aload_n 0, 1) := by decide +kernel
theorem dX5_endRide_108 : decode cX5_endRide 108 = .ok (.getfield 21, 3) := by decide +kernel
theorem dX5_endRide_111 : decode cX5_endRide 111 = .ok (.iload_n 3, 1) := by decide +kernel
theorem dX5_endRide_112 : decode cX5_endRide 112 = .ok (.iconst 0, 1) := by decide +kernel
theorem dX5_endRide_113 : decode cX5_endRide 113 = .ok (.iload_n 2, 1) := by decide +kernel
theorem dX5_endRide_114 : decode cX5_endRide 114 = .ok (.invokevirtual 121, 3) := by decide +kernel
theorem dX5_endRide_117 : decode cX5_endRide 117 = .ok (.aload_n 0, 1) := by decide +kernel
theorem dX5_endRide_118 : decode cX5_endRide 118 = .ok (.getfield 28, 3) := by decide +kernel
theorem dX5_endRide_121 : decode cX5_endRide 121 = .ok (.getfield 96, 3) := by decide +kernel
theorem dX5_endRide_124 : decode cX5_endRide 124 = .ok (.iload_n 1, 1) := by decide +kernel
theorem dX5_endRide_125 : decode cX5_endRide 125 = .ok (.dup2, 1) := by decide +kernel
theorem dX5_endRide_126 : decode cX5_endRide 126 = .ok (.iaload, 1) := by decide +kernel
theorem dX5_endRide_127 : decode cX5_endRide 127 = .ok (.iload 4, 2) := by decide +kernel
theorem dX5_endRide_129 : decode cX5_endRide 129 = .ok (.iadd, 1) := by decide +kernel
theorem dX5_endRide_130 : decode cX5_endRide 130 = .ok (.iastore, 1) := by decide +kernel
theorem dX5_endRide_131 : decode cX5_endRide 131 = .ok (.aload_n 0, 1) := by decide +kernel
theorem dX5_endRide_132 : decode cX5_endRide 132 = .ok (.getfield 28, 3) := by decide +kernel
theorem dX5_endRide_135 : decode cX5_endRide 135 = .ok (.getfield 140, 3) := by decide +kernel
theorem dX5_endRide_138 : decode cX5_endRide 138 = .ok (.iload_n 1, 1) := by decide +kernel
theorem dX5_endRide_139 : decode cX5_endRide 139 = .ok (.dup2, 1) := by decide +kernel
theorem dX5_endRide_140 : decode cX5_endRide 140 = .ok (.iaload, 1) := by decide +kernel
theorem dX5_endRide_141 : decode cX5_endRide 141 = .ok (.iconst 1, 1) := by decide +kernel
theorem dX5_endRide_142 : decode cX5_endRide 142 = .ok (.iadd, 1) := by decide +kernel
theorem dX5_endRide_143 : decode cX5_endRide 143 = .ok (.iastore, 1) := by decide +kernel
theorem dX5_endRide_144 : decode cX5_endRide 144 = .ok (.aload_n 0, 1) := by decide +kernel
theorem dX5_endRide_145 : decode cX5_endRide 145 = .ok (.getfield 28, 3) := by decide +kernel
theorem dX5_endRide_148 : decode cX5_endRide 148 = .ok (.getfield 106, 3) := by decide +kernel
theorem dX5_endRide_151 : decode cX5_endRide 151 = .ok (.iload_n 1, 1) := by decide +kernel
theorem dX5_endRide_152 : decode cX5_endRide 152 = .ok (.iconst (-1), 1) := by decide +kernel
theorem dX5_endRide_153 : decode cX5_endRide 153 = .ok (.iastore, 1) := by decide +kernel
theorem dX5_endRide_154 : decode cX5_endRide 154 = .ok (.aload_n 0, 1) := by decide +kernel
theorem dX5_endRide_155 : decode cX5_endRide 155 = .ok (.getfield 12, 3) := by decide +kernel
theorem dX5_endRide_158 : decode cX5_endRide 158 = .ok (.getfield 141, 3) := by decide +kernel
theorem dX5_endRide_161 : decode cX5_endRide 161 = .ok (.iload_n 2, 1) := by decide +kernel
theorem dX5_endRide_162 : decode cX5_endRide 162 = .ok (.dup2, 1) := by decide +kernel
theorem dX5_endRide_163 : decode cX5_endRide 163 = .ok (.iaload, 1) := by decide +kernel
theorem dX5_endRide_164 : decode cX5_endRide 164 = .ok (.iconst 1, 1) := by decide +kernel
theorem dX5_endRide_165 : decode cX5_endRide 165 = .ok (.iadd, 1) := by decide +kernel
theorem dX5_endRide_166 : decode cX5_endRide 166 = .ok (.iastore, 1) := by decide +kernel
theorem dX5_endRide_167 : decode cX5_endRide 167 = .ok (.iload 4, 2) := by decide +kernel
theorem dX5_endRide_169 : decode cX5_endRide 169 = .ok (.ireturn, 1) := by decide +kernel
set_option maxRecDepth 20000 in
theorem ggX5_tellFull_X4_has : GoodIn wsX5_tellFull wsX4_has := goodIn_r _ [9, 10, 48, 49, 50, 51, 52, 53, 54, 55, 56, 57] (by decide +kernel) (by decide +kernel)
set_option maxRecDepth 20000 in
theorem gX5_tellFull_X4_has : GoodIn wsX5_tellFull (wsV RX5 84 RX4 yX4_has wsX4_has) := goodIn_app (goodIn_of _ (by decide +kernel)) ggX5_tellFull_X4_has
set_option maxRecDepth 20000 in
theorem ggX5_tellFull_X6_has : GoodIn wsX5_tellFull wsX6_has := goodIn_r _ [15, 16, 58, 59, 60, 61, 62] (by decide +kernel) (by decide +kernel)
set_option maxRecDepth 20000 in
theorem gX5_tellFull_X6_has : GoodIn wsX5_tellFull (wsV RX5 70 RX6 yX6_has wsX6_has) := goodIn_app (goodIn_of _ (by decide +kernel)) ggX5_tellFull_X6_has
set_option maxRecDepth 20000 in
theorem ggX5_tellFull_X4_hasRide : GoodIn wsX5_tellFull wsX4_hasRide := goodIn_r _ [20, 21, 22, 6, 7, 8, 9, 10, 48, 49, 50, 51, 52, 53, 54, 55, 56, 57] (by decide +kernel) (by decide +kernel)
set_option maxRecDepth 20000 in
theorem gX5_tellFull_X4_hasRide : GoodIn wsX5_tellFull (wsV RX5 102 RX4 yX4_hasRide wsX4_hasRide) := goodIn_app (goodIn_of _ (by decide +kernel)) ggX5_tellFull_X4_hasRide
set_option maxRecDepth 20000 in
theorem ggX5_tellFull_X5_hasFreeDock : GoodIn wsX5_tellFull wsX5_hasFreeDock := goodIn_r _ [27, 2, 28, 11, 12, 13, 14, 15, 16, 29, 30, 31, 26, 32, 33, 34, 35, 36, 37, 38, 39, 40, 41, 42, 43, 44, 45, 46, 47, 58, 59, 60, 61, 62, 63, 64, 65, 66, 67, 68, 69] (by decide +kernel) (by decide +kernel)
set_option maxRecDepth 20000 in
theorem gX5_tellFull_X5_hasFreeDock : GoodIn wsX5_tellFull (wsV RX5 74 RX5 yX5_hasFreeDock wsX5_hasFreeDock) := goodIn_app (goodIn_of _ (by decide +kernel)) ggX5_tellFull_X5_hasFreeDock
theorem dX5_tellFull_0 : decode cX5_tellFull 0 = .ok (.aload_n 0, 1) := by decide +kernel
theorem dX5_tellFull_1 : decode cX5_tellFull 1 = .ok (.getfield 28, 3) := by decide +kernel
theorem dX5_tellFull_4 : decode cX5_tellFull 4 = .ok (.iload_n 1, 1) := by decide +kernel
theorem dX5_tellFull_5 : decode cX5_tellFull 5 = .ok (.invokevirtual 84, 3) := by decide +kernel
theorem dX5_tellFull_8 : decode cX5_tellFull 8 = .ok (.ifCond .eq 14, 3) := by decide +kernel
theorem dX5_tellFull_11 : decode cX5_tellFull 11 = .ok (.aload_n 0, 1) := by decide +kernel
theorem dX5_tellFull_12 : decode cX5_tellFull 12 = .ok (.getfield 12, 3) := by decide +kernel
theorem dX5_tellFull_15 : decode cX5_tellFull 15 = .ok (.iload_n 2, 1) := by decide +kernel
theorem dX5_tellFull_16 : decode cX5_tellFull 16 = .ok (.invokevirtual 70, 3) := by decide +kernel
theorem dX5_tellFull_19 : decode cX5_tellFull 19 = .ok (.ifCond .ne 5, 3) := by decide +kernel
theorem dX5_tellFull_22 : decode cX5_tellFull 22 = .ok (.iconst (-1), 1) := by decide +kernel
theorem dX5_tellFull_23 : decode cX5_tellFull 23 = .ok (.ireturn, 1) := by decide +kernel
theorem dX5_tellFull_24 : decode cX5_tellFull 24 = .ok (.aload_n 0, 1) := by decide +kernel
theorem dX5_tellFull_25 : decode cX5_tellFull 25 = .ok (.getfield 28, 3) := by decide +kernel
theorem dX5_tellFull_28 : decode cX5_tellFull 28 = .ok (.getfield 118, 3) := by decide +kernel
theorem dX5_tellFull_31 : decode cX5_tellFull 31 = .ok (.iload_n 1, 1) := by decide +kernel
theorem dX5_tellFull_32 : decode cX5_tellFull 32 = .ok (.iaload, 1) := by decide +kernel
theorem dX5_tellFull_33 : decode cX5_tellFull 33 = .ok (.iconst 1, 1) := by decide +kernel
theorem dX5_tellFull_34 : decode cX5_tellFull 34 = .ok (.iload_n 2, 1) := by decide +kernel
theorem dX5_tellFull_35 : decode cX5_tellFull 35 = .ok (.ishl, 1) := by decide +kernel
theorem dX5_tellFull_36 : decode cX5_tellFull 36 = .ok (.iand, 1) := by decide +kernel
theorem dX5_tellFull_37 : decode cX5_tellFull 37 = .ok (.ifCond .eq 7, 3) := by decide +kernel
theorem dX5_tellFull_40 : decode cX5_tellFull 40 = .ok (.iconst 1, 1) := by decide +kernel
theorem dX5_tellFull_41 : decode cX5_tellFull 41 = .ok (.goto 4, 3) := by decide +kernel
theorem dX5_tellFull_44 : decode cX5_tellFull 44 = .ok (.iconst 0, 1) := by decide +kernel
theorem dX5_tellFull_45 : decode cX5_tellFull 45 = .ok (.istore_n 3, 1) := by decide +kernel
theorem dX5_tellFull_46 : decode cX5_tellFull 46 = .ok (.aload_n 0, 1) := by decide +kernel
theorem dX5_tellFull_47 : decode cX5_tellFull 47 = .ok (.getfield 28, 3) := by decide +kernel
theorem dX5_tellFull_50 : decode cX5_tellFull 50 = .ok (.iload_n 1, 1) := by decide +kernel
theorem dX5_tellFull_51 : decode cX5_tellFull 51 = .ok (.invokevirtual 102, 3) := by decide +kernel
theorem dX5_tellFull_54 : decode cX5_tellFull 54 = .ok (.ifCond .eq 15, 3) := by decide +kernel
theorem dX5_tellFull_57 : decode cX5_tellFull 57 = .ok (.aload_n 0, 1) := by decide +kernel
theorem dX5_tellFull_58 : decode cX5_tellFull 58 = .ok (.iload_n 2, 1) := by decide +kernel
theorem dX5_tellFull_59 : decode cX5_tellFull 59 = .ok (.invokevirtual 74, 3) := by decide +kernel
theorem dX5_tellFull_62 : decode cX5_tellFull 62 = .ok (.ifCond .ne 7, 3) := by decide +kernel
theorem dX5_tellFull_65 : decode cX5_tellFull 65 = .ok (.iload_n 3, 1) := by decide +kernel
theorem dX5_tellFull_66 : decode cX5_tellFull 66 = .ok (.ifCond .eq 6, 3) := by decide +kernel
theorem dX5_tellFull_69 : decode cX5_tellFull 69 = .ok (.bipush (-2), 2) := by decide +kernel
theorem dX5_tellFull_71 : decode cX5_tellFull 71 = .ok (.ireturn, 1) := by decide +kernel
theorem dX5_tellFull_72 : decode cX5_tellFull 72 = .ok (.aload_n 0, 1) := by decide +kernel
theorem dX5_tellFull_73 : decode cX5_tellFull 73 = .ok (.getfield 28, 3) := by decide +kernel
theorem dX5_tellFull_76 : decode cX5_tellFull 76 = .ok (.getfield 118, 3) := by decide +kernel
theorem dX5_tellFull_79 : decode cX5_tellFull 79 = .ok (.iload_n 1, 1) := by decide +kernel
theorem dX5_tellFull_80 : decode cX5_tellFull 80 = .ok (.dup2, 1) := by decide +kernel
theorem dX5_tellFull_81 : decode cX5_tellFull 81 = .ok (.iaload, 1) := by decide +kernel
theorem dX5_tellFull_82 : decode cX5_tellFull 82 = .ok (.iconst 1, 1) := by decide +kernel
theorem dX5_tellFull_83 : decode cX5_tellFull 83 = .ok (.iload_n 2, 1) := by decide +kernel
theorem dX5_tellFull_84 : decode cX5_tellFull 84 = .ok (.ishl, 1) := by decide +kernel
theorem dX5_tellFull_85 : decode cX5_tellFull 85 = .ok (.ior, 1) := by decide +kernel
theorem dX5_tellFull_86 : decode cX5_tellFull 86 = .ok (.iastore, 1) := by decide +kernel
theorem dX5_tellFull_87 : decode cX5_tellFull 87 = .ok (.aload_n 0, 1) := by decide +kernel
theorem dX5_tellFull_88 : decode cX5_tellFull 88 = .ok (.getfield 28, 3) := by decide +kernel
theorem dX5_tellFull_91 : decode cX5_tellFull 91 = .ok (.getfield 112, 3) := by decide +kernel
theorem dX5_tellFull_94 : decode cX5_tellFull 94 = .ok (.iload_n 1, 1) := by decide +kernel
theorem dX5_tellFull_95 : decode cX5_tellFull 95 = .ok (.dup2, 1) := by decide +kernel
theorem dX5_tellFull_96 : decode cX5_tellFull 96 = .ok (.iaload, 1) := by decide +kernel
theorem dX5_tellFull_97 : decode cX5_tellFull 97 = .ok (.bipush 15, 2) := by decide +kernel
theorem dX5_tellFull_99 : decode cX5_tellFull 99 = .ok (.iadd, 1) := by decide +kernel
theorem dX5_tellFull_100 : decode cX5_tellFull 100 = .ok (.iastore, 1) := by decide +kernel
theorem dX5_tellFull_101 : decode cX5_tellFull 101 = .ok (.aload_n 0, 1) := by decide +kernel
theorem dX5_tellFull_102 : decode cX5_tellFull 102 = .ok (.getfield 28, 3) := by decide +kernel
theorem dX5_tellFull_105 : decode cX5_tellFull 105 = .ok (.getfield 112, 3) := by decide +kernel
theorem dX5_tellFull_108 : decode cX5_tellFull 108 = .ok (.iload_n 1, 1) := by decide +kernel
theorem dX5_tellFull_109 : decode cX5_tellFull 109 = .ok (.iaload, 1) := by decide +kernel
theorem dX5_tellFull_110 : decode cX5_tellFull 110 = .ok (.ireturn, 1) := by decide +kernel
set_option maxRecDepth 20000 in
theorem ggX5_tellFaulty_X1_has : GoodIn wsX5_tellFaulty wsX1_has := goodIn_r _ [8, 9, 21, 22, 23, 24, 25, 26, 27] (by decide +kernel) (by decide +kernel)
set_option maxRecDepth 20000 in
theorem gX5_tellFaulty_X1_has : GoodIn wsX5_tellFaulty (wsV RX5 105 RX1 yX1_has wsX1_has) := goodIn_app (goodIn_of _ (by decide +kernel)) ggX5_tellFaulty_X1_has
set_option maxRecDepth 20000 in
theorem ggX5_tellFaulty_X1_countFaulty : GoodIn wsX5_tellFaulty wsX1_countFaulty := goodIn_r _ [13, 9, 14, 21, 22, 23, 24, 25, 26, 27] (by decide +kernel) (by decide +kernel)
set_option maxRecDepth 20000 in
theorem gX5_tellFaulty_X1_countFaulty : GoodIn wsX5_tellFaulty (wsV RX5 150 RX1 yX1_countFaulty wsX1_countFaulty) := goodIn_app (goodIn_of _ (by decide +kernel)) ggX5_tellFaulty_X1_countFaulty
theorem dX5_tellFaulty_0 : decode cX5_tellFaulty 0 = .ok (.aload_n 0, 1) := by decide +kernel
theorem dX5_tellFaulty_1 : decode cX5_tellFaulty 1 = .ok (.getfield 21, 3) := by decide +kernel
theorem dX5_tellFaulty_4 : decode cX5_tellFaulty 4 = .ok (.iload_n 1, 1) := by decide +kernel
theorem dX5_tellFaulty_5 : decode cX5_tellFaulty 5 = .ok (.invokevirtual 105, 3) := by decide +kernel
theorem dX5_tellFaulty_8 : decode cX5_tellFaulty 8 = .ok (.ifCond .ne 5, 3) := by decide +kernel
theorem dX5_tellFaulty_11 : decode cX5_tellFaulty 11 = .ok (.iconst (-1), 1) := by decide +kernel
theorem dX5_tellFaulty_12 : decode cX5_tellFaulty 12 = .ok (.ireturn, 1) := by decide +kernel
theorem dX5_tellFaulty_13 : decode cX5_tellFaulty 13 = .ok (.aload_n 0, 1) := by decide +kernel
theorem dX5_tellFaulty_14 : decode cX5_tellFaulty 14 = .ok (.getfield 21, 3) := by decide +kernel
theorem dX5_tellFaulty_17 : decode cX5_tellFaulty 17 = .ok (.getfield 144, 3) := by decide +kernel
theorem dX5_tellFaulty_20 : decode cX5_tellFaulty 20 = .ok (.iload_n 1, 1) := by decide +kernel
theorem dX5_tellFaulty_21 : decode cX5_tellFaulty 21 = .ok (.iaload, 1) := by decide +kernel
theorem dX5_tellFaulty_22 : decode cX5_tellFaulty 22 = .ok (.istore_n 2, 1) := by decide +kernel
theorem dX5_tellFaulty_23 : decode cX5_tellFaulty 23 = .ok (.iload_n 2, 1) := by decide +kernel
theorem dX5_tellFaulty_24 : decode cX5_tellFaulty 24 = .ok (.ifCond .eq 8, 3) := by decide +kernel
theorem dX5_tellFaulty_27 : decode cX5_tellFaulty 27 = .ok (.iload_n 2, 1) := by decide +kernel
theorem dX5_tellFaulty_28 : decode cX5_tellFaulty 28 = .ok (.iconst 1, 1) := by decide +kernel
theorem dX5_tellFaulty_29 : decode cX5_tellFaulty 29 = .ok (.if_icmp .ne 7, 3) := by decide +kernel
theorem dX5_tellFaulty_32 : decode cX5_tellFaulty 32 = .ok (.iconst 1, 1) := by decide +kernel
theorem dX5_tellFaulty_33 : decode cX5_tellFaulty 33 = .ok (.goto 4, 3) := by decide +kernel
theorem dX5_tellFaulty_36 : decode cX5_tellFaulty 36 = .ok (.iconst 0, 1) := by decide +kernel
theorem dX5_tellFaulty_37 : decode cX5_tellFaulty 37 = .ok (.istore_n 3, 1) := by decide +kernel
theorem dX5_tellFaulty_38 : decode cX5_tellFaulty 38 = .ok (.iload_n 3, 1) := by decide +kernel
theorem dX5_tellFaulty_39 : decode cX5_tellFaulty 39 = .ok (.ifCond .eq 15, 3) := by decide +kernel
theorem dX5_tellFaulty_42 : decode cX5_tellFaulty 42 = .ok (.aload_n 0, 1) := by decide +kernel
theorem dX5_tellFaulty_43 : decode cX5_tellFaulty 43 = .ok (.getfield 21, 3) := by decide +kernel
theorem dX5_tellFaulty_46 : decode cX5_tellFaulty 46 = .ok (.getfield 147, 3) := by decide +kernel
theorem dX5_tellFaulty_49 : decode cX5_tellFaulty 49 = .ok (.iload_n 1, 1) := by decide +kernel
theorem dX5_tellFaulty_50 : decode cX5_tellFaulty 50 = .ok (.iaload, 1) := by decide +kernel
theorem dX5_tellFaulty_51 : decode cX5_tellFaulty 51 = .ok (.ifCond .eq 6, 3) := by decide +kernel
theorem dX5_tellFaulty_54 : decode cX5_tellFaulty 54 = .ok (.bipush (-2), 2) := by decide +kernel
theorem dX5_tellFaulty_56 : decode cX5_tellFaulty 56 = .ok (.ireturn, 1) := by decide +kernel
theorem dX5_tellFaulty_57 : decode cX5_tellFaulty 57 = .ok (.aload_n 0, 1) := by decide +kernel
theorem dX5_tellFaulty_58 : decode cX5_tellFaulty 58 = .ok (.getfield 21, 3) := by decide +kernel
theorem dX5_tellFaulty_61 : decode cX5_tellFaulty 61 = .ok (.getfield 147, 3) := by decide +kernel
theorem dX5_tellFaulty_64 : decode cX5_tellFaulty 64 = .ok (.iload_n 1, 1) := by decide +kernel
theorem dX5_tellFaulty_65 : decode cX5_tellFaulty 65 = .ok (.iconst 1, 1) := by decide +kernel
theorem dX5_tellFaulty_66 : decode cX5_tellFaulty 66 = .ok (.iastore, 1) := by decide +kernel
theorem dX5_tellFaulty_67 : decode cX5_tellFaulty 67 = .ok (.aload_n 0, 1) := by decide +kernel
theorem dX5_tellFaulty_68 : decode cX5_tellFaulty 68 = .ok (.getfield 21, 3) := by decide +kernel
theorem dX5_tellFaulty_71 : decode cX5_tellFaulty 71 = .ok (.invokevirtual 150, 3) := by decide +kernel
theorem dX5_tellFaulty_74 : decode cX5_tellFaulty 74 = .ok (.ireturn, 1) := by decide +kernel
set_option maxRecDepth 20000 in
theorem ggX5_load_X8_has : GoodIn wsX5_load wsX8_has := goodIn_r _ [9, 10, 45, 46, 47, 48] (by decide +kernel) (by decide +kernel)
set_option maxRecDepth 20000 in
theorem gX5_load_X8_has : GoodIn wsX5_load (wsV RX5 153 RX8 yX8_has wsX8_has) := goodIn_app (goodIn_of _ (by decide +kernel)) ggX5_load_X8_has
set_option maxRecDepth 20000 in
theorem ggX5_load_X1_has : GoodIn wsX5_load wsX1_has := goodIn_r _ [15, 16, 49, 50, 51, 52, 53, 54, 55] (by decide +kernel) (by decide +kernel)
set_option maxRecDepth 20000 in
theorem gX5_load_X1_has : GoodIn wsX5_load (wsV RX5 105 RX1 yX1_has wsX1_has) := goodIn_app (goodIn_of _ (by decide +kernel)) ggX5_load_X1_has
set_option maxRecDepth 20000 in
theorem ggX5_load_X1_countAt : GoodIn wsX5_load wsX1_countAt := goodIn_r _ [20, 16, 21, 22, 49, 50, 51, 52, 53, 54, 55] (by decide +kernel) (by decide +kernel)
set_option maxRecDepth 20000 in
theorem gX5_load_X1_countAt : GoodIn wsX5_load (wsV RX5 154 RX1 yX1_countAt wsX1_countAt) := goodIn_app (goodIn_of _ (by decide +kernel)) ggX5_load_X1_countAt
set_option maxRecDepth 20000 in
theorem ggX5_load_X1_isAt : GoodIn wsX5_load wsX1_isAt := goodIn_r _ [26, 21, 22, 27, 12, 13, 14, 15, 16, 49, 50, 51, 52, 53, 54, 55] (by decide +kernel) (by decide +kernel)
set_option maxRecDepth 20000 in
theorem gX5_load_X1_isAt : GoodIn wsX5_load (wsV RX5 160 RX1 yX1_isAt wsX1_isAt) := goodIn_app (goodIn_of _ (by decide +kernel)) ggX5_load_X1_isAt
set_option maxRecDepth 20000 in
theorem ggX5_load_X5_isUnderWay : GoodIn wsX5_load wsX5_isUnderWay := goodIn_r _ [32, 1, 33, 34, 5, 6, 7, 8, 9, 10, 39, 40, 41, 42, 43, 44, 45, 46, 47, 48] (by decide +kernel) (by decide +kernel)
set_option maxRecDepth 20000 in
theorem gX5_load_X5_isUnderWay : GoodIn wsX5_load (wsV RX5 164 RX5 yX5_isUnderWay wsX5_isUnderWay) := goodIn_app (goodIn_of _ (by decide +kernel)) ggX5_load_X5_isUnderWay
set_option maxRecDepth 20000 in
theorem ggX5_load_X1_bring : GoodIn wsX5_load wsX1_bring := goodIn_r _ [38, 21, 22, 27, 12, 13, 14, 15, 16, 49, 50, 51, 52, 53, 54, 55] (by decide +kernel) (by decide +kernel)
set_option maxRecDepth 20000 in
theorem gX5_load_X1_bring : GoodIn wsX5_load (wsV RX5 121 RX1 yX1_bring wsX1_bring) := goodIn_app (goodIn_of _ (by decide +kernel)) ggX5_load_X1_bring
theorem dX5_load_0 : decode cX5_load 0 = .ok (.aload_n 0, 1) := by decide +kernel
theorem dX5_load_1 : decode cX5_load 1 = .ok (.getfield 35, 3) := by decide +kernel
theorem dX5_load_4 : decode cX5_load 4 = .ok (.iload_n 1, 1) := by decide +kernel
theorem dX5_load_5 : decode cX5_load 5 = .ok (.invokevirtual 153, 3) := by decide +kernel
theorem dX5_load_8 : decode cX5_load 8 = .ok (.ifCond .eq 14, 3) := by decide +kernel
theorem dX5_load_11 : decode cX5_load 11 = .ok (.aload_n 0, 1) := by decide +kernel
theorem dX5_load_12 : decode cX5_load 12 = .ok (.getfield 21, 3) := by decide +kernel
theorem dX5_load_15 : decode cX5_load 15 = .ok (.iload_n 2, 1) := by decide +kernel
theorem dX5_load_16 : decode cX5_load 16 = .ok (.invokevirtual 105, 3) := by decide +kernel
theorem dX5_load_19 : decode cX5_load 19 = .ok (.ifCond .ne 5, 3) := by decide +kernel
theorem dX5_load_22 : decode cX5_load 22 = .ok (.iconst (-1), 1) := by decide +kernel
theorem dX5_load_23 : decode cX5_load 23 = .ok (.ireturn, 1) := by decide +kernel
theorem dX5_load_24 : decode cX5_load 24 = .ok (.aload_n 0, 1) := by decide +kernel
theorem dX5_load_25 : decode cX5_load 25 = .ok (.getfield 21, 3) := by decide +kernel
theorem dX5_load_28 : decode cX5_load 28 = .ok (.iconst 2, 1) := by decide +kernel
theorem dX5_load_29 : decode cX5_load 29 = .ok (.iload_n 1, 1) := by decide +kernel
theorem dX5_load_30 : decode cX5_load 30 = .ok (.invokevirtual 154, 3) := by decide +kernel
theorem dX5_load_33 : decode cX5_load 33 = .ok (.istore_n 3, 1) := by decide +kernel
theorem dX5_load_34 : decode cX5_load 34 = .ok (.aload_n 0, 1) := by decide +kernel
theorem dX5_load_35 : decode cX5_load 35 = .ok (.getfield 21, 3) := by decide +kernel
theorem dX5_load_38 : decode cX5_load 38 = .ok (.iload_n 2, 1) := by decide +kernel
theorem dX5_load_39 : decode cX5_load 39 = .ok (.iconst 0, 1) := by decide +kernel
theorem dX5_load_40 : decode cX5_load 40 = .ok (.aload_n 0, 1) := by decide +kernel
theorem dX5_load_41 : decode cX5_load 41 = .ok (.getfield 35, 3) := by decide +kernel
theorem dX5_load_44 : decode cX5_load 44 = .ok (.getfield 157, 3) := by decide +kernel
theorem dX5_load_47 : decode cX5_load 47 = .ok (.iload_n 1, 1) := by decide +kernel
theorem dX5_load_48 : decode cX5_load 48 = .ok (.iaload, 1) := by decide +kernel
theorem dX5_load_49 : decode cX5_load 49 = .ok (.invokevirtual 160, 3) := by decide +kernel
theorem dX5_load_52 : decode cX5_load 52 = .ok (.istore 4, 2) := by decide +kernel
theorem dX5_load_54 : decode cX5_load 54 = .ok (.aload_n 0, 1) := by decide +kernel
theorem dX5_load_55 : decode cX5_load 55 = .ok (.iload_n 1, 1) := by decide +kernel
theorem dX5_load_56 : decode cX5_load 56 = .ok (.invokevirtual 164, 3) := by decide +kernel
theorem dX5_load_59 : decode cX5_load 59 = .ok (.ifCond .ne 21, 3) := by decide +kernel
theorem dX5_load_62 : decode cX5_load 62 = .ok (.iload_n 3, 1) := by decide +kernel
theorem dX5_load_63 : decode cX5_load 63 = .ok (.aload_n 0, 1) := by decide +kernel
theorem dX5_load_64 : decode cX5_load 64 = .ok (.getfield 35, 3) := by decide +kernel
theorem dX5_load_67 : decode cX5_load 67 = .ok (.getfield 167, 3) := by decide +kernel
theorem dX5_load_70 : decode cX5_load 70 = .ok (.iload_n 1, 1) := by decide +kernel
theorem dX5_load_71 : decode cX5_load 71 = .ok (.iaload, 1) := by decide +kernel
theorem dX5_load_72 : decode cX5_load 72 = .ok (.if_icmp .ge 8, 3) := by decide +kernel
theorem dX5_load_75 : decode cX5_load 75 = .ok (.iload 4, 2) := by decide +kernel
theorem dX5_load_77 : decode cX5_load 77 = .ok (.ifCond .ne 6, 3) := by decide +kernel
theorem dX5_load_80 : decode cX5_load 80 = .ok (.bipush (-2), 2) := by decide +kernel
theorem dX5_load_82 : decode cX5_load 82 = .ok (.ireturn, 1) := by decide +kernel
theorem dX5_load_83 : decode cX5_load 83 = .ok (.aload_n 0, 1) := by decide +kernel
theorem dX5_load_84 : decode cX5_load 84 = .ok (.getfield 21, 3) := by decide +kernel
theorem dX5_load_87 : decode cX5_load 87 = .ok (.iload_n 2, 1) := by decide +kernel
theorem dX5_load_88 : decode cX5_load 88 = .ok (.iconst 2, 1) := by decide +kernel
