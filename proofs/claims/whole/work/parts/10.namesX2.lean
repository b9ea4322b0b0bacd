theorem dX7_readSign_0 : decode cX7_readSign 0 = .ok (.aload_n 0, 1) := by decide +kernel
theorem dX7_readSign_1 : decode cX7_readSign 1 = .ok (.getfield 46, 3) := by decide +kernel
theorem dX7_readSign_4 : decode cX7_readSign 4 = .ok (.aload_n 0, 1) := by decide +kernel
theorem dX7_readSign_5 : decode cX7_readSign 5 = .ok (.getfield 33, 3) := by decide +kernel
theorem dX7_readSign_8 : decode cX7_readSign 8 = .ok (.if_icmp .ge 16, 3) := by decide +kernel
theorem dX7_readSign_11 : decode cX7_readSign 11 = .ok (.aload_n 0, 1) := by decide +kernel
theorem dX7_readSign_12 : decode cX7_readSign 12 = .ok (.getfield 15, 3) := by decide +kernel
theorem dX7_readSign_15 : decode cX7_readSign 15 = .ok (.aload_n 0, 1) := by decide +kernel
theorem dX7_readSign_16 : decode cX7_readSign 16 = .ok (.getfield 46, 3) := by decide +kernel
theorem dX7_readSign_19 : decode cX7_readSign 19 = .ok (.caload, 1) := by decide +kernel
theorem dX7_readSign_20 : decode cX7_readSign 20 = .ok (.iload_n 1, 1) := by decide +kernel
theorem dX7_readSign_21 : decode cX7_readSign 21 = .ok (.if_icmp .eq 5, 3) := by decide +kernel
theorem dX7_readSign_24 : decode cX7_readSign 24 = .ok (.iconst 0, 1) := by decide +kernel
theorem dX7_readSign_25 : decode cX7_readSign 25 = .ok (.ireturn, 1) := by decide +kernel
theorem dX7_readSign_26 : decode cX7_readSign 26 = .ok (.aload_n 0, 1) := by decide +kernel
theorem dX7_readSign_27 : decode cX7_readSign 27 = .ok (.dup, 1) := by decide +kernel
theorem dX7_readSign_28 : decode cX7_readSign 28 = .ok (.getfield 46, 3) := by decide +kernel
theorem dX7_readSign_31 : decode cX7_readSign 31 = .ok (.iconst 1, 1) := by decide +kernel
theorem dX7_readSign_32 : decode cX7_readSign 32 = .ok (.iadd, 1) := by decide +kernel
theorem dX7_readSign_33 : decode cX7_readSign 33 = .ok (.putfield 46, 3) := by decide +kernel
theorem dX7_readSign_36 : decode cX7_readSign 36 = .ok (.iconst 1, 1) := by decide +kernel
theorem dX7_readSign_37 : decode cX7_readSign 37 = .ok (.ireturn, 1) := by decide +kernel
theorem dX8_init_0 : decode cX8_init 0 = .ok (.aload_n 0, 1) := by decide +kernel
theorem dX8_init_1 : decode cX8_init 1 = .ok (.invokespecial 3, 3) := by decide +kernel
theorem dX8_init_4 : decode cX8_init 4 = .ok (.aload_n 0, 1) := by decide +kernel
theorem dX8_init_5 : decode cX8_init 5 = .ok (.iconst 2, 1) := by decide +kernel
theorem dX8_init_6 : decode cX8_init 6 = .ok (.newarray .int, 2) := by decide +kernel
theorem dX8_init_8 : decode cX8_init 8 = .ok (.putfield 11, 3) := by decide +kernel
theorem dX8_init_11 : decode cX8_init 11 = .ok (.aload_n 0, 1) := by decide +kernel
theorem dX8_init_12 : decode cX8_init 12 = .ok (.iconst 2, 1) := by decide +kernel
theorem dX8_init_13 : decode cX8_init 13 = .ok (.newarray .int, 2) := by decide +kernel
theorem dX8_init_15 : decode cX8_init 15 = .ok (.putfield 15, 3) := by decide +kernel
theorem dX8_init_18 : decode cX8_init 18 = .ok (.aload_n 0, 1) := by decide +kernel
theorem dX8_init_19 : decode cX8_init 19 = .ok (.iconst 2, 1) := by decide +kernel
theorem dX8_init_20 : decode cX8_init 20 = .ok (.newarray .int, 2) := by decide +kernel
theorem dX8_init_22 : decode cX8_init 22 = .ok (.putfield 18, 3) := by decide +kernel
theorem dX8_init_25 : decode cX8_init 25 = .ok (.return_, 1) := by decide +kernel
theorem dX8_copy_0 : decode cX8_copy 0 = .ok (.aload_n 0, 1) := by decide +kernel
theorem dX8_copy_1 : decode cX8_copy 1 = .ok (.aload_n 1, 1) := by decide +kernel
theorem dX8_copy_2 : decode cX8_copy 2 = .ok (.getfield 21, 3) := by decide +kernel
theorem dX8_copy_5 : decode cX8_copy 5 = .ok (.putfield 21, 3) := by decide +kernel
theorem dX8_copy_8 : decode cX8_copy 8 = .ok (.aload_n 1, 1) := by decide +kernel
theorem dX8_copy_9 : decode cX8_copy 9 = .ok (.getfield 11, 3) := by decide +kernel
theorem dX8_copy_12 : decode cX8_copy 12 = .ok (.iconst 0, 1) := by decide +kernel
theorem dX8_copy_13 : decode cX8_copy 13 = .ok (.aload_n 0, 1) := by decide +kernel
theorem dX8_copy_14 : decode cX8_copy 14 = .ok (.getfield 11, 3) := by decide +kernel
theorem dX8_copy_17 : decode cX8_copy 17 = .ok (.iconst 0, 1) := by decide +kernel
theorem dX8_copy_18 : decode cX8_copy 18 = .ok (.iconst 2, 1) := by decide +kernel
theorem dX8_copy_19 : decode cX8_copy 19 = .ok (.invokestatic 25, 3) := by decide +kernel
theorem dX8_copy_22 : decode cX8_copy 22 = .ok (.aload_n 1, 1) := by decide +kernel
theorem dX8_copy_23 : decode cX8_copy 23 = .ok (.getfield 15, 3) := by decide +kernel
theorem dX8_copy_26 : decode cX8_copy 26 = .ok (.iconst 0, 1) := by decide +kernel
theorem dX8_copy_27 : decode cX8_copy 27 = .ok (.aload_n 0, 1) := by decide +kernel
theorem dX8_copy_28 : decode cX8_copy 28 = .ok (.getfield 15, 3) := by decide +kernel
theorem dX8_copy_31 : decode cX8_copy 31 = .ok (.iconst 0, 1) := by decide +kernel
theorem dX8_copy_32 : decode cX8_copy 32 = .ok (.iconst 2, 1) := by decide +kernel
theorem dX8_copy_33 : decode cX8_copy 33 = .ok (.invokestatic 25, 3) := by decide +kernel
theorem dX8_copy_36 : decode cX8_copy 36 = .ok (.aload_n 1, 1) := by decide +kernel
theorem dX8_copy_37 : decode cX8_copy 37 = .ok (.getfield 18, 3) := by decide +kernel
theorem dX8_copy_40 : decode cX8_copy 40 = .ok (.iconst 0, 1) := by decide +kernel
theorem dX8_copy_41 : decode cX8_copy 41 = .ok (.aload_n 0, 1) := by decide +kernel
theorem dX8_copy_42 : decode cX8_copy 42 = .ok (.getfield 18, 3) := by decide +kernel
theorem dX8_copy_45 : decode cX8_copy 45 = .ok (.iconst 0, 1) := by decide +kernel
theorem dX8_copy_46 : decode cX8_copy 46 = .ok (.iconst 2, 1) := by decide +kernel
theorem dX8_copy_47 : decode cX8_copy 47 = .ok (.invokestatic 25, 3) := by decide +kernel
theorem dX8_copy_50 : decode cX8_copy 50 = .ok (.return_, 1) := by decide +kernel
theorem dX8_has_0 : decode cX8_has 0 = .ok (.iload_n 1, 1) := by decide +kernel
theorem dX8_has_1 : decode cX8_has 1 = .ok (.ifCond .lt 15, 3) := by decide +kernel
theorem dX8_has_4 : decode cX8_has 4 = .ok (.iload_n 1, 1) := by decide +kernel
theorem dX8_has_5 : decode cX8_has 5 = .ok (.aload_n 0, 1) := by decide +kernel
theorem dX8_has_6 : decode cX8_has 6 = .ok (.getfield 21, 3) := by decide +kernel
theorem dX8_has_9 : decode cX8_has 9 = .ok (.if_icmp .ge 7, 3) := by decide +kernel
theorem dX8_has_12 : decode cX8_has 12 = .ok (.iconst 1, 1) := by decide +kernel
theorem dX8_has_13 : decode cX8_has 13 = .ok (.goto 4, 3) := by decide +kernel
theorem dX8_has_16 : decode cX8_has 16 = .ok (.iconst 0, 1) := by decide +kernel
theorem dX8_has_17 : decode cX8_has 17 = .ok (.ireturn, 1) := by decide +kernel
theorem dX8_add_0 : decode cX8_add 0 = .ok (.aload_n 0, 1) := by decide +kernel
theorem dX8_add_1 : decode cX8_add 1 = .ok (.getfield 21, 3) := by decide +kernel
theorem dX8_add_4 : decode cX8_add 4 = .ok (.iconst 2, 1) := by decide +kernel
theorem dX8_add_5 : decode cX8_add 5 = .ok (.if_icmp .lt 6, 3) := by decide +kernel
theorem dX8_add_8 : decode cX8_add 8 = .ok (.bipush (-3), 2) := by decide +kernel
theorem dX8_add_10 : decode cX8_add 10 = .ok (.ireturn, 1) := by decide +kernel
theorem dX8_add_11 : decode cX8_add 11 = .ok (.aload_n 0, 1) := by decide +kernel
theorem dX8_add_12 : decode cX8_add 12 = .ok (.getfield 11, 3) := by decide +kernel
theorem dX8_add_15 : decode cX8_add 15 = .ok (.aload_n 0, 1) := by decide +kernel
theorem dX8_add_16 : decode cX8_add 16 = .ok (.getfield 21, 3) := by decide +kernel
theorem dX8_add_19 : decode cX8_add 19 = .ok (.iload_n 1, 1) := by decide +kernel
theorem dX8_add_20 : decode cX8_add 20 = .ok (.iastore, 1) := by decide +kernel
theorem dX8_add_21 : decode cX8_add 21 = .ok (.aload_n 0, 1) := by decide +kernel
theorem dX8_add_22 : decode cX8_add 22 = .ok (.getfield 15, 3) := by decide +kernel
theorem dX8_add_25 : decode cX8_add 25 = .ok (.aload_n 0, 1) := by decide +kernel
theorem dX8_add_26 : decode cX8_add 26 = .ok (.getfield 21, 3) := by decide +kernel
theorem dX8_add_29 : decode cX8_add 29 = .ok (.iload_n 2, 1) := by decide +kernel
theorem dX8_add_30 : decode cX8_add 30 = .ok (.iastore, 1) := by decide +kernel
theorem dX8_add_31 : decode cX8_add 31 = .ok (.aload_n 0, 1) := by decide +kernel
theorem dX8_add_32 : decode cX8_add 32 = .ok (.dup, 1) := by decide +kernel
theorem dX8_add_33 : decode cX8_add 33 = .ok (.getfield 21, 3) := by decide +kernel
theorem dX8_add_36 : decode cX8_add 36 = .ok (.iconst 1, 1) := by decide +kernel
theorem dX8_add_37 : decode cX8_add 37 = .ok (.iadd, 1) := by decide +kernel
theorem dX8_add_38 : decode cX8_add 38 = .ok (.putfield 21, 3) := by decide +kernel
theorem dX8_add_41 : decode cX8_add 41 = .ok (.aload_n 0, 1) := by decide +kernel
theorem dX8_add_42 : decode cX8_add 42 = .ok (.getfield 21, 3) := by decide +kernel
theorem dX8_add_45 : decode cX8_add 45 = .ok (.iconst 1, 1) := by decide +kernel
theorem dX8_add_46 : decode cX8_add 46 = .ok (.isub, 1) := by decide +kernel
theorem dX8_add_47 : decode cX8_add 47 = .ok (.ireturn, 1) := by decide +kernel
set_option maxRecDepth 20000 in
theorem ggX8_minutesLeft_X8_has : GoodIn wsX8_minutesLeft wsX8_has := goodIn_r _ [10, 11, 12, 13, 14, 15] (by decide +kernel) (by decide +kernel)
set_option maxRecDepth 20000 in
theorem gX8_minutesLeft_X8_has : GoodIn wsX8_minutesLeft (wsV RX8 31 RX8 yX8_has wsX8_has) := goodIn_app (goodIn_of _ (by decide +kernel)) ggX8_minutesLeft_X8_has
theorem dX8_minutesLeft_0 : decode cX8_minutesLeft 0 = .ok (.aload_n 0, 1) := by decide +kernel
theorem dX8_minutesLeft_1 : decode cX8_minutesLeft 1 = .ok (.iload_n 1, 1) := by decide +kernel
theorem dX8_minutesLeft_2 : decode cX8_minutesLeft 2 = .ok (.invokevirtual 31, 3) := by decide +kernel
theorem dX8_minutesLeft_5 : decode cX8_minutesLeft 5 = .ok (.ifCond .eq 18, 3) := by decide +kernel
theorem dX8_minutesLeft_8 : decode cX8_minutesLeft 8 = .ok (.iconst 0, 1) := by decide +kernel
theorem dX8_minutesLeft_9 : decode cX8_minutesLeft 9 = .ok (.aload_n 0, 1) := by decide +kernel
theorem dX8_minutesLeft_10 : decode cX8_minutesLeft 10 = .ok (.getfield 18, 3) := by decide +kernel
theorem dX8_minutesLeft_13 : decode cX8_minutesLeft 13 = .ok (.iload_n 1, 1) := by decide +kernel
theorem dX8_minutesLeft_14 : decode cX8_minutesLeft 14 = .ok (.iaload, 1) := by decide +kernel
theorem dX8_minutesLeft_15 : decode cX8_minutesLeft 15 = .ok (.iload_n 2, 1) := by decide +kernel
theorem dX8_minutesLeft_16 : decode cX8_minutesLeft 16 = .ok (.isub, 1) := by decide +kernel
theorem dX8_minutesLeft_17 : decode cX8_minutesLeft 17 = .ok (.invokestatic 35, 3) := by decide +kernel
theorem dX8_minutesLeft_20 : decode cX8_minutesLeft 20 = .ok (.goto 4, 3) := by decide +kernel
theorem dX8_minutesLeft_23 : decode cX8_minutesLeft 23 = .ok (.iconst 0, 1) := by decide +kernel
theorem dX8_minutesLeft_24 : decode cX8_minutesLeft 24 = .ok (.ireturn, 1) := by decide +kernel
theorem dX9_values_0 : decode cX9_values 0 = .ok (.getstatic 34, 3) := by decide +kernel
theorem dX9_values_3 : decode cX9_values 3 = .ok (.invokevirtual 38, 3) := by decide +kernel
theorem dX9_values_6 : decode cX9_values 6 = .ok (.checkcast 39, 3) := by decide +kernel
theorem dX9_values_9 : decode cX9_values 9 = .ok (.areturn, 1) := by decide +kernel
set_option maxRecDepth 20000 in
theorem ggX9_doOn_Jx29ce0_ordinal_8abf5 : GoodIn wsX9_doOn wsJx29ce0_ordinal_8abf5 := goodIn_r _ [7, 8] (by decide +kernel) (by decide +kernel)
set_option maxRecDepth 20000 in
theorem gX9_doOn_Jx29ce0_ordinal_8abf5_u67X9 : GoodIn wsX9_doOn (va_wsU RX9 67 RX9 "java/lang/Enum" ⟨"DockedBikes$Verb", "ordinal", "()I"⟩ yJx29ce0_ordinal_8abf5 wsJx29ce0_ordinal_8abf5) := goodIn_app (goodIn_of _ (by decide +kernel)) ggX9_doOn_Jx29ce0_ordinal_8abf5
set_option maxRecDepth 20000 in
theorem ggX9_doOn_X5_beginRide : GoodIn wsX9_doOn wsX5_beginRide := goodIn_r _ [13, 14, 15, 16, 17, 18, 19, 20, 21, 22, 23, 24, 25, 26, 27, 28, 29, 30, 31, 32, 33, 34, 35, 36, 37, 38, 39, 40, 41, 42, 43, 44, 45, 46, 47, 48, 49, 50, 51, 52, 53, 54, 55, 56, 57, 58, 59, 60, 61, 62, 63, 64, 65, 66, 194, 195, 196, 197, 198, 199, 200, 201, 202, 203, 204, 205, 206, 207, 208, 209, 210, 211, 212, 213, 214, 215, 216, 217, 218, 219, 220, 221] (by decide +kernel) (by decide +kernel)
set_option maxRecDepth 20000 in
theorem gX9_doOn_X5_beginRide : GoodIn wsX9_doOn (wsV RX9 71 RX5 yX5_beginRide wsX5_beginRide) := goodIn_app (goodIn_of _ (by decide +kernel)) ggX9_doOn_X5_beginRide
set_option maxRecDepth 20000 in
theorem ggX9_doOn_X5_endRide : GoodIn wsX9_doOn wsX5_endRide := goodIn_r _ [70, 14, 15, 19, 16, 17, 71, 72, 73, 74, 75, 26, 27, 28, 29, 30, 31, 32, 33, 34, 35, 36, 37, 62, 53, 54, 41, 55, 43, 76, 77, 78, 12, 79, 80, 81, 82, 83, 84, 85, 86, 87, 88, 50, 51, 89, 90, 91, 92, 93, 94, 95, 96, 97, 98, 99, 57, 58, 59, 60, 61, 100, 101, 102, 103, 104, 105, 63, 64, 65, 66, 52, 194, 195, 196, 197, 198, 199, 200, 201, 202, 203, 204, 205, 206, 207, 208, 209, 215, 216, 217, 218, 219, 220, 221, 210, 211, 212, 213, 214] (by decide +kernel) (by decide +kernel)
set_option maxRecDepth 20000 in
theorem gX9_doOn_X5_endRide : GoodIn wsX9_doOn (wsV RX9 77 RX5 yX5_endRide wsX5_endRide) := goodIn_app (goodIn_of _ (by decide +kernel)) ggX9_doOn_X5_endRide
set_option maxRecDepth 20000 in
theorem ggX9_doOn_X5_tellFull : GoodIn wsX9_doOn wsX5_tellFull := goodIn_r _ [109, 14, 15, 24, 21, 26, 27, 28, 29, 30, 31, 32, 33, 34, 35, 36, 37, 56, 57, 58, 59, 60, 61, 76, 77, 78, 12, 79, 80, 81, 82, 83, 84, 16, 85, 86, 87, 41, 88, 43, 50, 51, 194, 195, 196, 197, 198, 199, 200, 201, 202, 203, 204, 205, 206, 207, 208, 209, 210, 211, 212, 213, 214, 215, 216, 217, 218, 219, 220, 221] (by decide +kernel) (by decide +kernel)
set_option maxRecDepth 20000 in
theorem gX9_doOn_X5_tellFull : GoodIn wsX9_doOn (wsV RX9 80 RX5 yX5_tellFull wsX5_tellFull) := goodIn_app (goodIn_of _ (by decide +kernel)) ggX9_doOn_X5_tellFull
set_option maxRecDepth 20000 in
theorem ggX9_doOn_X5_tellFaulty : GoodIn wsX9_doOn wsX5_tellFaulty := goodIn_r _ [113, 16, 114, 115, 62, 53, 54, 41, 55, 43, 116, 117, 118, 119, 44, 194, 195, 196, 197, 198, 199, 215, 216, 217, 218, 219, 220, 221] (by decide +kernel) (by decide +kernel)
set_option maxRecDepth 20000 in
theorem gX9_doOn_X5_tellFaulty : GoodIn wsX9_doOn (wsV RX9 83 RX5 yX5_tellFaulty wsX5_tellFaulty) := goodIn_app (goodIn_of _ (by decide +kernel)) ggX9_doOn_X5_tellFaulty
set_option maxRecDepth 20000 in
theorem ggX9_doOn_X5_load : GoodIn wsX9_doOn wsX5_load := goodIn_r _ [123, 124, 16, 125, 126, 127, 128, 129, 130, 131, 132, 62, 53, 54, 41, 55, 43, 85, 86, 87, 88, 50, 51, 133, 47, 48, 49, 52, 134, 135, 136, 12, 137, 138, 17, 63, 64, 65, 66, 194, 195, 196, 197, 198, 199, 222, 223, 224, 225, 215, 216, 217, 218, 219, 220, 221] (by decide +kernel) (by decide +kernel)
set_option maxRecDepth 20000 in
theorem gX9_doOn_X5_load : GoodIn wsX9_doOn (wsV RX9 87 RX5 yX5_load wsX5_load) := goodIn_app (goodIn_of _ (by decide +kernel)) ggX9_doOn_X5_load
set_option maxRecDepth 20000 in
theorem ggX9_doOn_X5_unload : GoodIn wsX9_doOn wsX5_unload := goodIn_r _ [142, 124, 16, 125, 127, 128, 129, 130, 131, 132, 62, 53, 54, 41, 55, 43, 143, 144, 145, 12, 146, 134, 135, 136, 137, 138, 17, 133, 47, 48, 49, 50, 51, 52, 76, 77, 78, 79, 15, 80, 32, 33, 34, 35, 36, 37, 81, 82, 83, 84, 85, 86, 87, 88, 63, 64, 65, 66, 194, 195, 196, 197, 198, 199, 222, 223, 224, 225, 215, 216, 217, 218, 219, 220, 221, 210, 211, 212, 213, 214] (by decide +kernel) (by decide +kernel)
set_option maxRecDepth 20000 in
theorem gX9_doOn_X5_unload : GoodIn wsX9_doOn (wsV RX9 90 RX5 yX5_unload wsX5_unload) := goodIn_app (goodIn_of _ (by decide +kernel)) ggX9_doOn_X5_unload
set_option maxRecDepth 20000 in
theorem ggX9_doOn_X5_sendVan : GoodIn wsX9_doOn wsX5_sendVan := goodIn_r _ [150, 124, 15, 125, 17, 138, 127, 128, 129, 130, 131, 132, 32, 33, 34, 35, 36, 37, 134, 135, 136, 12, 137, 151, 152, 153, 154, 155, 156, 157, 96, 158, 159, 194, 195, 196, 197, 198, 199, 222, 223, 224, 225, 210, 211, 212, 213, 214] (by decide +kernel) (by decide +kernel)
set_option maxRecDepth 20000 in
theorem gX9_doOn_X5_sendVan : GoodIn wsX9_doOn (wsV RX9 93 RX5 yX5_sendVan wsX5_sendVan) := goodIn_app (goodIn_of _ (by decide +kernel)) ggX9_doOn_X5_sendVan
set_option maxRecDepth 20000 in
theorem ggX9_doOn_X5_handOver : GoodIn wsX9_doOn wsX5_handOver := goodIn_r _ [163, 124, 16, 125, 164, 17, 22, 127, 128, 129, 130, 131, 132, 62, 53, 54, 41, 55, 43, 143, 144, 145, 12, 146, 134, 135, 136, 137, 138, 133, 47, 48, 49, 50, 51, 52, 63, 64, 65, 66, 194, 195, 196, 197, 198, 199, 222, 223, 224, 225, 215, 216, 217, 218, 219, 220, 221] (by decide +kernel) (by decide +kernel)
set_option maxRecDepth 20000 in
theorem gX9_doOn_X5_handOver : GoodIn wsX9_doOn (wsV RX9 96 RX5 yX5_handOver wsX5_handOver) := goodIn_app (goodIn_of _ (by decide +kernel)) ggX9_doOn_X5_handOver
set_option maxRecDepth 20000 in
theorem ggX9_doOn_X5_sellPass : GoodIn wsX9_doOn wsX5_sellPass := goodIn_r _ [168, 14, 17, 18, 169, 95, 96, 97, 170, 22, 73, 26, 27, 28, 29, 30, 31, 194, 195, 196, 197, 198, 199, 200, 201, 202, 203, 204, 205, 206, 207, 208, 209] (by decide +kernel) (by decide +kernel)
set_option maxRecDepth 20000 in
theorem gX9_doOn_X5_sellPass : GoodIn wsX9_doOn (wsV RX9 99 RX5 yX5_sellPass wsX5_sellPass) := goodIn_app (goodIn_of _ (by decide +kernel)) ggX9_doOn_X5_sellPass
set_option maxRecDepth 20000 in
theorem ggX9_doOn_X5_letGoBy : GoodIn wsX9_doOn wsX5_letGoBy := goodIn_r _ [174, 17, 175, 176, 177, 12, 178, 16, 179, 180, 181, 182, 41, 183, 50, 184, 52, 53, 54, 55, 43, 185, 186, 187, 188, 44, 45, 189, 190, 191, 192, 15, 193, 80, 85, 86, 87, 88, 51, 63, 64, 65, 66, 194, 195, 196, 197, 198, 199, 215, 216, 217, 218, 219, 220, 221, 210, 211, 212, 213, 214] (by decide +kernel) (by decide +kernel)
set_option maxRecDepth 20000 in
theorem gX9_doOn_X5_letGoBy : GoodIn wsX9_doOn (wsV RX9 102 RX5 yX5_letGoBy wsX5_letGoBy) := goodIn_app (goodIn_of _ (by decide +kernel)) ggX9_doOn_X5_letGoBy
theorem dX9_doOn_0 : decode cX9_doOn 0 = .ok (.getstatic 61, 3) := by decide +kernel
theorem dX9_doOn_3 : decode cX9_doOn 3 = .ok (.aload_n 0, 1) := by decide +kernel
theorem dX9_doOn_4 : decode cX9_doOn 4 = .ok (.invokevirtual 67, 3) := by decide +kernel
theorem dX9_doOn_7 : decode cX9_doOn 7 = .ok (.iaload, 1) := by decide +kernel
theorem dX9_doOn_8 : decode cX9_doOn 8 = .ok (.tableswitch 113 1 9 #[52, 59, 66, 73, 79, 86, 93, 100, 107], 52) := by decide +kernel
theorem dX9_doOn_60 : decode cX9_doOn 60 = .ok (.aload_n 1, 1) := by decide +kernel
theorem dX9_doOn_61 : decode cX9_doOn 61 = .ok (.iload_n 2, 1) := by decide +kernel
theorem dX9_doOn_62 : decode cX9_doOn 62 = .ok (.iload_n 3, 1) := by decide +kernel
theorem dX9_doOn_63 : decode cX9_doOn 63 = .ok (.invokevirtual 71, 3) := by decide +kernel
theorem dX9_doOn_66 : decode cX9_doOn 66 = .ok (.ireturn, 1) := by decide +kernel
theorem dX9_doOn_67 : decode cX9_doOn 67 = .ok (.aload_n 1, 1) := by decide +kernel
theorem dX9_doOn_68 : decode cX9_doOn 68 = .ok (.iload_n 2, 1) := by decide +kernel
theorem dX9_doOn_69 : decode cX9_doOn 69 = .ok (.iload_n 3, 1) := by decide +kernel
theorem dX9_doOn_70 : decode cX9_doOn 70 = .ok (.invokevirtual 77, 3) := by decide +kernel
theorem dX9_doOn_73 : decode cX9_doOn 73 = .ok (.ireturn, 1) := by decide +kernel
theorem dX9_doOn_74 : decode cX9_doOn 74 = .ok (.aload_n 1, 1) := by decide +kernel
theorem dX9_doOn_75 : decode cX9_doOn 75 = .ok (.iload_n 2, 1) := by decide +kernel
theorem dX9_doOn_76 : decode cX9_doOn 76 = .ok (.iload_n 3, 1) := by decide +kernel
theorem dX9_doOn_77 : decode cX9_doOn 77 = .ok (.invokevirtual 80, 3) := by decide +kernel
theorem dX9_doOn_80 : decode cX9_doOn 80 = .ok (.ireturn, 1) := by decide +kernel
theorem dX9_doOn_81 : decode cX9_doOn 81 = .ok (.aload_n 1, 1) := by decide +kernel
theorem dX9_doOn_82 : decode cX9_doOn 82 = .ok (.iload_n 2, 1) := by decide +kernel
theorem dX9_doOn_83 : decode cX9_doOn 83 = .ok (.invokevirtual 83, 3) := by decide +kernel
theorem dX9_doOn_86 : decode cX9_doOn 86 = .ok (.ireturn, 1) := by decide +kernel
theorem dX9_doOn_87 : decode cX9_doOn 87 = .ok (.aload_n 1, 1) := by decide +kernel
theorem dX9_doOn_88 : decode cX9_doOn 88 = .ok (.iload_n 2, 1) := by decide +kernel
theorem dX9_doOn_89 : decode cX9_doOn 89 = .ok (.iload_n 3, 1) := by decide +kernel
theorem dX9_doOn_90 : decode cX9_doOn 90 = .ok (.invokevirtual 87, 3) := by decide +kernel
theorem dX9_doOn_93 : decode cX9_doOn 93 = .ok (.ireturn, 1) := by decide +kernel
theorem dX9_doOn_94 : decode cX9_doOn 94 = .ok (.aload_n 1, 1) := by decide +kernel
theorem dX9_doOn_95 : decode cX9_doOn 95 = .ok (.iload_n 2, 1) := by decide +kernel
theorem dX9_doOn_96 : decode cX9_doOn 96 = .ok (.iload_n 3, 1) := by decide +kernel
theorem dX9_doOn_97 : decode cX9_doOn 97 = .ok (.invokevirtual 90, 3) := by decide +kernel
theorem dX9_doOn_100 : decode cX9_doOn 100 = .ok (.ireturn, 1) := by decide +kernel
theorem dX9_doOn_101 : decode cX9_doOn 101 = .ok (.aload_n 1, 1) := by decide +kernel
theorem dX9_doOn_102 : decode cX9_doOn 102 = .ok (.iload_n 2, 1) := by decide +kernel
theorem dX9_doOn_103 : decode cX9_doOn 103 = .ok (.iload_n 3, 1) := by decide +kernel
theorem dX9_doOn_104 : decode cX9_doOn 104 = .ok (.invokevirtual 93, 3) := by decide +kernel
theorem dX9_doOn_107 : decode cX9_doOn 107 = .ok (.ireturn, 1) := by decide +kernel
theorem dX9_doOn_108 : decode cX9_doOn 108 = .ok (.aload_n 1, 1) := by decide +kernel
theorem dX9_doOn_109 : decode cX9_doOn 109 = .ok (.iload_n 2, 1) := by decide +kernel
theorem dX9_doOn_110 : decode cX9_doOn 110 = .ok (.iload_n 3, 1) := by decide +kernel
theorem dX9_doOn_111 : decode cX9_doOn 111 = .ok (.invokevirtual 96, 3) := by decide +kernel
theorem dX9_doOn_114 : decode cX9_doOn 114 = .ok (.ireturn, 1) := by decide +kernel
theorem dX9_doOn_115 : decode cX9_doOn 115 = .ok (.aload_n 1, 1) := by decide +kernel
theorem dX9_doOn_116 : decode cX9_doOn 116 = .ok (.iload_n 2, 1) := by decide +kernel
theorem dX9_doOn_117 : decode cX9_doOn 117 = .ok (.invokevirtual 99, 3) := by decide +kernel
theorem dX9_doOn_120 : decode cX9_doOn 120 = .ok (.ireturn, 1) := by decide +kernel
theorem dX9_doOn_121 : decode cX9_doOn 121 = .ok (.aload_n 1, 1) := by decide +kernel
theorem dX9_doOn_122 : decode cX9_doOn 122 = .ok (.iload_n 2, 1) := by decide +kernel
theorem dX9_doOn_123 : decode cX9_doOn 123 = .ok (.invokevirtual 102, 3) := by decide +kernel
theorem dX9_doOn_126 : decode cX9_doOn 126 = .ok (.ireturn, 1) := by decide +kernel
set_option maxRecDepth 20000 in
theorem ggX10_init_X5_init : GoodIn wsX10_init wsX5_init := goodIn_r _ [23, 24, 2, 3, 25, 26, 27, 28, 29, 30, 31, 32, 33, 34, 35, 36, 37, 38, 39, 40, 41, 42, 43, 44, 45, 46, 47, 48, 49, 50, 51, 52, 53, 54, 55, 56, 57, 58, 59, 60, 61, 62, 63, 64, 65, 66, 67, 68, 69, 70, 71, 72, 73, 74, 75, 76, 137, 138, 139, 140, 141, 106, 107, 108, 109, 110, 111, 142, 143, 144, 145, 146, 147, 148, 149, 150, 151, 152, 153, 154, 155, 156, 157, 158, 159, 160, 161, 162] (by decide +kernel) (by decide +kernel)
set_option maxRecDepth 20000 in
theorem gX10_init_X5_init_n9 : GoodIn wsX10_init (wsX5_init) := ggX10_init_X5_init
set_option maxRecDepth 20000 in
theorem ggX10_init_X3_init : GoodIn wsX10_init wsX3_init := goodIn_r _ [78, 79, 2, 3, 80, 5, 6, 81, 22, 23, 24, 25, 26, 27, 28, 29, 30, 31, 32, 33, 34, 35, 36, 37, 38, 39, 40, 41, 42, 43, 44, 45, 46, 47, 48, 49, 50, 51, 52, 53, 54, 55, 56, 57, 58, 59, 60, 61, 62, 63, 64, 65, 66, 67, 68, 69, 70, 71, 72, 73, 74, 75, 76, 106, 107, 108, 109, 110, 111, 119, 120, 121, 137, 138, 139, 140, 141, 142, 143, 144, 145, 146, 147, 148, 149, 150, 151, 152, 153, 154, 155, 156, 157, 158, 159, 160, 161, 162] (by decide +kernel) (by decide +kernel)
set_option maxRecDepth 20000 in
theorem gX10_init_X3_init_n24 : GoodIn wsX10_init (wsX3_init) := ggX10_init_X3_init
set_option maxRecDepth 20000 in
theorem ggX10_init_X2_init : GoodIn wsX10_init wsX2_init := goodIn_r _ [83, 84, 2, 3, 41, 85, 86, 122, 123, 124, 125, 126, 127] (by decide +kernel) (by decide +kernel)
set_option maxRecDepth 20000 in
theorem gX10_init_X2_init_n31 : GoodIn wsX10_init (wsX2_init) := ggX10_init_X2_init
set_option maxRecDepth 20000 in
theorem ggX10_init_X7_init : GoodIn wsX10_init wsX7_init := goodIn_r _ [88, 89, 2, 3, 90, 91, 92, 93, 41, 94, 95, 96, 97, 98, 99, 100, 101, 102, 103, 104, 105, 128, 129, 130, 131, 132, 133, 134, 135, 136] (by decide +kernel) (by decide +kernel)
set_option maxRecDepth 20000 in
theorem gX10_init_X7_init_n38 : GoodIn wsX10_init (wsX7_init) := ggX10_init_X7_init
theorem dX10_init_0 : decode cX10_init 0 = .ok (.aload_n 0, 1) := by decide +kernel
theorem dX10_init_1 : decode cX10_init 1 = .ok (.invokespecial 1, 3) := by decide +kernel
theorem dX10_init_4 : decode cX10_init 4 = .ok (.aload_n 0, 1) := by decide +kernel
theorem dX10_init_5 : decode cX10_init 5 = .ok (.new 7, 3) := by decide +kernel
theorem dX10_init_8 : decode cX10_init 8 = .ok (.dup, 1) := by decide +kernel
theorem dX10_init_9 : decode cX10_init 9 = .ok (.invokespecial 9, 3) := by decide +kernel
theorem dX10_init_12 : decode cX10_init 12 = .ok (.putfield 10, 3) := by decide +kernel
theorem dX10_init_15 : decode cX10_init 15 = .ok (.aload_n 0, 1) := by decide +kernel
theorem dX10_init_16 : decode cX10_init 16 = .ok (.new 7, 3) := by decide +kernel
theorem dX10_init_19 : decode cX10_init 19 = .ok (.dup, 1) := by decide +kernel
theorem dX10_init_20 : decode cX10_init 20 = .ok (.invokespecial 9, 3) := by decide +kernel
theorem dX10_init_23 : decode cX10_init 23 = .ok (.putfield 16, 3) := by decide +kernel
theorem dX10_init_26 : decode cX10_init 26 = .ok (.aload_n 0, 1) := by decide +kernel
theorem dX10_init_27 : decode cX10_init 27 = .ok (.new 7, 3) := by decide +kernel
theorem dX10_init_30 : decode cX10_init 30 = .ok (.dup, 1) := by decide +kernel
theorem dX10_init_31 : decode cX10_init 31 = .ok (.invokespecial 9, 3) := by decide +kernel
theorem dX10_init_34 : decode cX10_init 34 = .ok (.putfield 19, 3) := by decide +kernel
theorem dX10_init_37 : decode cX10_init 37 = .ok (.aload_n 0, 1) := by decide +kernel
theorem dX10_init_38 : decode cX10_init 38 = .ok (.new 22, 3) := by decide +kernel
theorem dX10_init_41 : decode cX10_init 41 = .ok (.dup, 1) := by decide +kernel
theorem dX10_init_42 : decode cX10_init 42 = .ok (.invokespecial 24, 3) := by decide +kernel
theorem dX10_init_45 : decode cX10_init 45 = .ok (.putfield 25, 3) := by decide +kernel
theorem dX10_init_48 : decode cX10_init 48 = .ok (.aload_n 0, 1) := by decide +kernel
theorem dX10_init_49 : decode cX10_init 49 = .ok (.new 29, 3) := by decide +kernel
theorem dX10_init_52 : decode cX10_init 52 = .ok (.dup, 1) := by decide +kernel
theorem dX10_init_53 : decode cX10_init 53 = .ok (.invokespecial 31, 3) := by decide +kernel
theorem dX10_init_56 : decode cX10_init 56 = .ok (.putfield 32, 3) := by decide +kernel
theorem dX10_init_59 : decode cX10_init 59 = .ok (.aload_n 0, 1) := by decide +kernel
theorem dX10_init_60 : decode cX10_init 60 = .ok (.new 36, 3) := by decide +kernel
theorem dX10_init_63 : decode cX10_init 63 = .ok (.dup, 1) := by decide +kernel
theorem dX10_init_64 : decode cX10_init 64 = .ok (.invokespecial 38, 3) := by decide +kernel
theorem dX10_init_67 : decode cX10_init 67 = .ok (.putfield 39, 3) := by decide +kernel
theorem dX10_init_70 : decode cX10_init 70 = .ok (.return_, 1) := by decide +kernel
set_option maxRecDepth 20000 in
theorem ggX10_station_X10_freshDraft : GoodIn wsX10_station wsX10_freshDraft := goodIn_r _ [5, 6, 7, 8, 9, 10, 11, 12, 13, 14, 15, 16, 17, 18, 19, 20, 21, 22, 23, 24, 25, 26, 27, 28, 29, 30, 31, 32, 33, 34, 35, 36, 37, 38, 39, 40, 41, 42, 43, 44, 45, 46, 47, 48, 49, 50, 51, 52, 53, 54, 55, 56, 57, 58, 59, 60, 61, 62, 63, 64, 65, 66, 67, 68, 69, 70, 71, 72, 95, 96, 97, 98, 99, 100, 101, 102, 103, 104, 105, 106, 107, 108, 109, 110, 111, 112, 113, 114, 115, 116, 117, 118, 119, 120, 121, 122, 123, 124, 125, 126, 127, 128, 129, 130, 131, 132, 133] (by decide +kernel) (by decide +kernel)
set_option maxRecDepth 20000 in
theorem gX10_station_X10_freshDraft : GoodIn wsX10_station (wsV RX10 43 RX10 yX10_freshDraft wsX10_freshDraft) := goodIn_app (goodIn_of _ (by decide +kernel)) ggX10_station_X10_freshDraft
set_option maxRecDepth 20000 in
theorem ggX10_station_X5_addStation : GoodIn wsX10_station wsX5_addStation := goodIn_r _ [76, 13, 77, 78, 79, 26, 80, 28, 29, 31, 102, 103, 104, 105, 106, 107, 108, 109, 110, 111, 112] (by decide +kernel) (by decide +kernel)
set_option maxRecDepth 20000 in
theorem gX10_station_X5_addStation : GoodIn wsX10_station (wsV RX10 47 RX5 yX5_addStation wsX5_addStation) := goodIn_app (goodIn_of _ (by decide +kernel)) ggX10_station_X5_addStation
set_option maxRecDepth 20000 in
theorem ggX10_station_X10_settle : GoodIn wsX10_station wsX10_settle := goodIn_r _ [84, 85, 7, 6, 86, 87, 88, 89, 90, 91, 92, 93, 94, 9, 10, 11, 12, 13, 14, 15, 16, 17, 18, 19, 20, 21, 22, 23, 24, 25, 26, 27, 28, 29, 30, 31, 32, 33, 34, 35, 36, 37, 38, 39, 40, 41, 42, 43, 44, 45, 46, 47, 48, 49, 50, 51, 52, 53, 54, 55, 56, 57, 58, 59, 60, 61, 62, 63, 64, 65, 66, 67, 68, 69, 70, 71, 72, 8, 95, 96, 97, 98, 99, 100, 101, 134, 135, 136, 102, 103, 104, 105, 106, 107, 108, 109, 110, 111, 112, 113, 114, 115, 116, 117, 118, 119, 120, 121, 122, 123, 124, 125, 126, 127, 128, 129, 130, 131, 132, 133] (by decide +kernel) (by decide +kernel)
set_option maxRecDepth 20000 in
theorem gX10_station_X10_settle : GoodIn wsX10_station (wsV RX10 51 RX10 yX10_settle wsX10_settle) := goodIn_app (goodIn_of _ (by decide +kernel)) ggX10_station_X10_settle
theorem dX10_station_0 : decode cX10_station 0 = .ok (.aload_n 0, 1) := by decide +kernel
theorem dX10_station_1 : decode cX10_station 1 = .ok (.aload_n 0, 1) := by decide +kernel
theorem dX10_station_2 : decode cX10_station 2 = .ok (.invokevirtual 43, 3) := by decide +kernel
theorem dX10_station_5 : decode cX10_station 5 = .ok (.iload_n 1, 1) := by decide +kernel
theorem dX10_station_6 : decode cX10_station 6 = .ok (.iload_n 2, 1) := by decide +kernel
theorem dX10_station_7 : decode cX10_station 7 = .ok (.invokevirtual 47, 3) := by decide +kernel
theorem dX10_station_10 : decode cX10_station 10 = .ok (.invokevirtual 51, 3) := by decide +kernel
theorem dX10_station_13 : decode cX10_station 13 = .ok (.ireturn, 1) := by decide +kernel
set_option maxRecDepth 20000 in
theorem ggX10_bicycle_X10_freshDraft : GoodIn wsX10_bicycle wsX10_freshDraft := goodIn_r _ [5, 6, 7, 8, 9, 10, 11, 12, 13, 14, 15, 16, 17, 18, 19, 20, 21, 22, 23, 24, 25, 26, 27, 28, 29, 30, 31, 32, 33, 34, 35, 36, 37, 38, 39, 40, 41, 42, 43, 44, 45, 46, 47, 48, 49, 50, 51, 52, 53, 54, 55, 56, 57, 58, 59, 60, 61, 62, 63, 64, 65, 66, 67, 68, 69, 70, 71, 72, 112, 113, 114, 115, 116, 117, 118, 119, 120, 121, 122, 123, 124, 125, 126, 127, 128, 129, 130, 131, 132, 133, 134, 135, 136, 137, 138, 139, 140, 141, 142, 143, 144, 145, 146, 147, 148, 149, 150] (by decide +kernel) (by decide +kernel)
set_option maxRecDepth 20000 in
theorem gX10_bicycle_X10_freshDraft : GoodIn wsX10_bicycle (wsV RX10 43 RX10 yX10_freshDraft wsX10_freshDraft) := goodIn_app (goodIn_of _ (by decide +kernel)) ggX10_bicycle_X10_freshDraft
set_option maxRecDepth 20000 in
theorem ggX10_bicycle_X5_addBicycle : GoodIn wsX10_bicycle wsX5_addBicycle := goodIn_r _ [76, 13, 14, 77, 78, 79, 26, 80, 28, 81, 82, 83, 11, 84, 85, 86, 87, 88, 89, 90, 91, 92, 37, 93, 39, 40, 42, 94, 95, 96, 97, 119, 120, 121, 122, 123, 124, 125, 126, 127, 128, 129, 130, 131, 132, 133, 134, 135, 136] (by decide +kernel) (by decide +kernel)
set_option maxRecDepth 20000 in
theorem gX10_bicycle_X5_addBicycle : GoodIn wsX10_bicycle (wsV RX10 55 RX5 yX5_addBicycle wsX5_addBicycle) := goodIn_app (goodIn_of _ (by decide +kernel)) ggX10_bicycle_X5_addBicycle
set_option maxRecDepth 20000 in
theorem ggX10_bicycle_X10_settle : GoodIn wsX10_bicycle wsX10_settle := goodIn_r _ [101, 102, 7, 6, 103, 104, 105, 106, 107, 108, 109, 110, 111, 9, 10, 11, 12, 13, 14, 15, 16, 17, 18, 19, 20, 21, 22, 23, 24, 25, 26, 27, 28, 29, 30, 31, 32, 33, 34, 35, 36, 37, 38, 39, 40, 41, 42, 43, 44, 45, 46, 47, 48, 49, 50, 51, 52, 53, 54, 55, 56, 57, 58, 59, 60, 61, 62, 63, 64, 65, 66, 67, 68, 69, 70, 71, 72, 8, 112, 113, 114, 115, 116, 117, 118, 151, 152, 153, 119, 120, 121, 122, 123, 124, 125, 126, 127, 128, 129, 130, 131, 132, 133, 134, 135, 136, 137, 138, 139, 140, 141, 142, 143, 144, 145, 146, 147, 148, 149, 150] (by decide +kernel) (by decide +kernel)
set_option maxRecDepth 20000 in
theorem gX10_bicycle_X10_settle : GoodIn wsX10_bicycle (wsV RX10 51 RX10 yX10_settle wsX10_settle) := goodIn_app (goodIn_of _ (by decide +kernel)) ggX10_bicycle_X10_settle
theorem dX10_bicycle_0 : decode cX10_bicycle 0 = .ok (.aload_n 0, 1) := by decide +kernel
theorem dX10_bicycle_1 : decode cX10_bicycle 1 = .ok (.aload_n 0, 1) := by decide +kernel
theorem dX10_bicycle_2 : decode cX10_bicycle 2 = .ok (.invokevirtual 43, 3) := by decide +kernel
theorem dX10_bicycle_5 : decode cX10_bicycle 5 = .ok (.iload_n 1, 1) := by decide +kernel
theorem dX10_bicycle_6 : decode cX10_bicycle 6 = .ok (.invokevirtual 55, 3) := by decide +kernel
theorem dX10_bicycle_9 : decode cX10_bicycle 9 = .ok (.invokevirtual 51, 3) := by decide +kernel
theorem dX10_bicycle_12 : decode cX10_bicycle 12 = .ok (.ireturn, 1) := by decide +kernel
set_option maxRecDepth 20000 in
theorem ggX10_rider_X10_freshDraft : GoodIn wsX10_rider wsX10_freshDraft := goodIn_r _ [5, 6, 7, 8, 9, 10, 11, 12, 13, 14, 15, 16, 17, 18, 19, 20, 21, 22, 23, 24, 25, 26, 27, 28, 29, 30, 31, 32, 33, 34, 35, 36, 37, 38, 39, 40, 41, 42, 43, 44, 45, 46, 47, 48, 49, 50, 51, 52, 53, 54, 55, 56, 57, 58, 59, 60, 61, 62, 63, 64, 65, 66, 67, 68, 69, 70, 71, 72, 95, 96, 97, 98, 99, 100, 101, 102, 103, 104, 105, 106, 107, 108, 109, 110, 111, 112, 113, 114, 115, 116, 117, 118, 119, 120, 121, 122, 123, 124, 125, 126, 127, 128, 129, 130, 131, 132, 133] (by decide +kernel) (by decide +kernel)
set_option maxRecDepth 20000 in
theorem gX10_rider_X10_freshDraft : GoodIn wsX10_rider (wsV RX10 43 RX10 yX10_freshDraft wsX10_freshDraft) := goodIn_app (goodIn_of _ (by decide +kernel)) ggX10_rider_X10_freshDraft
set_option maxRecDepth 20000 in
theorem ggX10_rider_X5_addRider : GoodIn wsX10_rider wsX5_addRider := goodIn_r _ [76, 15, 77, 78, 79, 50, 80, 52, 58, 102, 103, 104, 105, 106, 107, 120, 121, 122, 123, 124, 125, 126, 127, 128, 129] (by decide +kernel) (by decide +kernel)
set_option maxRecDepth 20000 in
theorem gX10_rider_X5_addRider : GoodIn wsX10_rider (wsV RX10 58 RX5 yX5_addRider wsX5_addRider) := goodIn_app (goodIn_of _ (by decide +kernel)) ggX10_rider_X5_addRider
set_option maxRecDepth 20000 in
theorem ggX10_rider_X10_settle : GoodIn wsX10_rider wsX10_settle := goodIn_r _ [84, 85, 7, 6, 86, 87, 88, 89, 90, 91, 92, 93, 94, 9, 10, 11, 12, 13, 14, 15, 16, 17, 18, 19, 20, 21, 22, 23, 24, 25, 26, 27, 28, 29, 30, 31, 32, 33, 34, 35, 36, 37, 38, 39, 40, 41, 42, 43, 44, 45, 46, 47, 48, 49, 50, 51, 52, 53, 54, 55, 56, 57, 58, 59, 60, 61, 62, 63, 64, 65, 66, 67, 68, 69, 70, 71, 72, 8, 95, 96, 97, 98, 99, 100, 101, 134, 135, 136, 102, 103, 104, 105, 106, 107, 108, 109, 110, 111, 112, 113, 114, 115, 116, 117, 118, 119, 120, 121, 122, 123, 124, 125, 126, 127, 128, 129, 130, 131, 132, 133] (by decide +kernel) (by decide +kernel)
set_option maxRecDepth 20000 in
theorem gX10_rider_X10_settle : GoodIn wsX10_rider (wsV RX10 51 RX10 yX10_settle wsX10_settle) := goodIn_app (goodIn_of _ (by decide +kernel)) ggX10_rider_X10_settle
theorem dX10_rider_0 : decode cX10_rider 0 = .ok (.aload_n 0, 1) := by decide +kernel
theorem dX10_rider_1 : decode cX10_rider 1 = .ok (.aload_n 0, 1) := by decide +kernel
theorem dX10_rider_2 : decode cX10_rider 2 = .ok (.invokevirtual 43, 3) := by decide +kernel
theorem dX10_rider_5 : decode cX10_rider 5 = .ok (.invokevirtual 58, 3) := by decide +kernel
theorem dX10_rider_8 : decode cX10_rider 8 = .ok (.invokevirtual 51, 3) := by decide +kernel
theorem dX10_rider_11 : decode cX10_rider 11 = .ok (.ireturn, 1) := by decide +kernel
set_option maxRecDepth 20000 in
theorem ggX10_van_X10_freshDraft : GoodIn wsX10_van wsX10_freshDraft := goodIn_r _ [5, 6, 7, 8, 9, 10, 11, 12, 13, 14, 15, 16, 17, 18, 19, 20, 21, 22, 23, 24, 25, 26, 27, 28, 29, 30, 31, 32, 33, 34, 35, 36, 37, 38, 39, 40, 41, 42, 43, 44, 45, 46, 47, 48, 49, 50, 51, 52, 53, 54, 55, 56, 57, 58, 59, 60, 61, 62, 63, 64, 65, 66, 67, 68, 69, 70, 71, 72, 99, 100, 101, 102, 103, 104, 105, 106, 107, 108, 109, 110, 111, 112, 113, 114, 115, 116, 117, 118, 119, 120, 121, 122, 123, 124, 125, 126, 127, 128, 129, 130, 131, 132, 133, 134, 135, 136, 137] (by decide +kernel) (by decide +kernel)
set_option maxRecDepth 20000 in
theorem gX10_van_X10_freshDraft : GoodIn wsX10_van (wsV RX10 43 RX10 yX10_freshDraft wsX10_freshDraft) := goodIn_app (goodIn_of _ (by decide +kernel)) ggX10_van_X10_freshDraft
set_option maxRecDepth 20000 in
theorem ggX10_van_X5_addVan : GoodIn wsX10_van wsX5_addVan := goodIn_r _ [76, 13, 16, 77, 78, 79, 26, 80, 28, 81, 82, 83, 66, 84, 68, 69, 71, 106, 107, 108, 109, 110, 111, 112, 113, 114, 115, 116, 134, 135, 136, 137] (by decide +kernel) (by decide +kernel)
set_option maxRecDepth 20000 in
theorem gX10_van_X5_addVan : GoodIn wsX10_van (wsV RX10 62 RX5 yX5_addVan wsX5_addVan) := goodIn_app (goodIn_of _ (by decide +kernel)) ggX10_van_X5_addVan
set_option maxRecDepth 20000 in
theorem ggX10_van_X10_settle : GoodIn wsX10_van wsX10_settle := goodIn_r _ [88, 89, 7, 6, 90, 91, 92, 93, 94, 95, 96, 97, 98, 9, 10, 11, 12, 13, 14, 15, 16, 17, 18, 19, 20, 21, 22, 23, 24, 25, 26, 27, 28, 29, 30, 31, 32, 33, 34, 35, 36, 37, 38, 39, 40, 41, 42, 43, 44, 45, 46, 47, 48, 49, 50, 51, 52, 53, 54, 55, 56, 57, 58, 59, 60, 61, 62, 63, 64, 65, 66, 67, 68, 69, 70, 71, 72, 8, 99, 100, 101, 102, 103, 104, 105, 138, 139, 140, 106, 107, 108, 109, 110, 111, 112, 113, 114, 115, 116, 117, 118, 119, 120, 121, 122, 123, 124, 125, 126, 127, 128, 129, 130, 131, 132, 133, 134, 135, 136, 137] (by decide +kernel) (by decide +kernel)
set_option maxRecDepth 20000 in
theorem gX10_van_X10_settle : GoodIn wsX10_van (wsV RX10 51 RX10 yX10_settle wsX10_settle) := goodIn_app (goodIn_of _ (by decide +kernel)) ggX10_van_X10_settle
theorem dX10_van_0 : decode cX10_van 0 = .ok (.aload_n 0, 1) := by decide +kernel
theorem dX10_van_1 : decode cX10_van 1 = .ok (.aload_n 0, 1) := by decide +kernel
theorem dX10_van_2 : decode cX10_van 2 = .ok (.invokevirtual 43, 3) := by decide +kernel
theorem dX10_van_5 : decode cX10_van 5 = .ok (.iload_n 1, 1) := by decide +kernel
theorem dX10_van_6 : decode cX10_van 6 = .ok (.iload_n 2, 1) := by decide +kernel
theorem dX10_van_7 : decode cX10_van 7 = .ok (.invokevirtual 62, 3) := by decide +kernel
theorem dX10_van_10 : decode cX10_van 10 = .ok (.invokevirtual 51, 3) := by decide +kernel
theorem dX10_van_13 : decode cX10_van 13 = .ok (.ireturn, 1) := by decide +kernel
set_option maxRecDepth 20000 in
theorem ggX10_pass_X10_freshDraft : GoodIn wsX10_pass wsX10_freshDraft := goodIn_r _ [5, 6, 7, 8, 9, 10, 11, 12, 13, 14, 15, 16, 17, 18, 19, 20, 21, 22, 23, 24, 25, 26, 27, 28, 29, 30, 31, 32, 33, 34, 35, 36, 37, 38, 39, 40, 41, 42, 43, 44, 45, 46, 47, 48, 49, 50, 51, 52, 53, 54, 55, 56, 57, 58, 59, 60, 61, 62, 63, 64, 65, 66, 67, 68, 69, 70, 71, 72, 102, 103, 104, 105, 106, 107, 108, 109, 110, 111, 112, 113, 114, 115, 116, 117, 118, 119, 120, 121, 122, 123, 124, 125, 126, 127, 128, 129, 130, 131, 132, 133, 134, 135, 136, 137, 138, 139, 140] (by decide +kernel) (by decide +kernel)
set_option maxRecDepth 20000 in
theorem gX10_pass_X10_freshDraft : GoodIn wsX10_pass (wsV RX10 43 RX10 yX10_freshDraft wsX10_freshDraft) := goodIn_app (goodIn_of _ (by decide +kernel)) ggX10_pass_X10_freshDraft
set_option maxRecDepth 20000 in
theorem ggX10_pass_X5_sellPass : GoodIn wsX10_pass wsX5_sellPass := goodIn_r _ [76, 15, 22, 77, 78, 79, 80, 81, 82, 17, 83, 84, 85, 86, 50, 87, 52, 109, 110, 111, 112, 113, 114, 127, 128, 129, 130, 131, 132, 133, 134, 135, 136] (by decide +kernel) (by decide +kernel)
set_option maxRecDepth 20000 in
theorem gX10_pass_X5_sellPass : GoodIn wsX10_pass (wsV RX10 65 RX5 yX5_sellPass wsX5_sellPass) := goodIn_app (goodIn_of _ (by decide +kernel)) ggX10_pass_X5_sellPass
set_option maxRecDepth 20000 in
theorem ggX10_pass_X10_settle : GoodIn wsX10_pass wsX10_settle := goodIn_r _ [91, 92, 7, 6, 93, 94, 95, 96, 97, 98, 99, 100, 101, 9, 10, 11, 12, 13, 14, 15, 16, 17, 18, 19, 20, 21, 22, 23, 24, 25, 26, 27, 28, 29, 30, 31, 32, 33, 34, 35, 36, 37, 38, 39, 40, 41, 42, 43, 44, 45, 46, 47, 48, 49, 50, 51, 52, 53, 54, 55, 56, 57, 58, 59, 60, 61, 62, 63, 64, 65, 66, 67, 68, 69, 70, 71, 72, 8, 102, 103, 104, 105, 106, 107, 108, 141, 142, 143, 109, 110, 111, 112, 113, 114, 115, 116, 117, 118, 119, 120, 121, 122, 123, 124, 125, 126, 127, 128, 129, 130, 131, 132, 133, 134, 135, 136, 137, 138, 139, 140] (by decide +kernel) (by decide +kernel)
set_option maxRecDepth 20000 in
theorem gX10_pass_X10_settle : GoodIn wsX10_pass (wsV RX10 51 RX10 yX10_settle wsX10_settle) := goodIn_app (goodIn_of _ (by decide +kernel)) ggX10_pass_X10_settle
theorem dX10_pass_0 : decode cX10_pass 0 = .ok (.aload_n 0, 1) := by decide +kernel
theorem dX10_pass_1 : decode cX10_pass 1 = .ok (.aload_n 0, 1) := by decide +kernel
theorem dX10_pass_2 : decode cX10_pass 2 = .ok (.invokevirtual 43, 3) := by decide +kernel
theorem dX10_pass_5 : decode cX10_pass 5 = .ok (.iload_n 1, 1) := by decide +kernel
theorem dX10_pass_6 : decode cX10_pass 6 = .ok (.invokevirtual 65, 3) := by decide +kernel
theorem dX10_pass_9 : decode cX10_pass 9 = .ok (.invokevirtual 51, 3) := by decide +kernel
theorem dX10_pass_12 : decode cX10_pass 12 = .ok (.ireturn, 1) := by decide +kernel
set_option maxRecDepth 20000 in
theorem ggX10_rent_X10_freshDraft : GoodIn wsX10_rent wsX10_freshDraft := goodIn_r _ [5, 6, 7, 8, 9, 10, 11, 12, 13, 14, 15, 16, 17, 18, 19, 20, 21, 22, 23, 24, 25, 26, 27, 28, 29, 30, 31, 32, 33, 34, 35, 36, 37, 38, 39, 40, 41, 42, 43, 44, 45, 46, 47, 48, 49, 50, 51, 52, 53, 54, 55, 56, 57, 58, 59, 60, 61, 62, 63, 64, 65, 66, 67, 68, 69, 70, 71, 72, 128, 129, 130, 131, 132, 133, 134, 135, 136, 137, 138, 139, 140, 141, 142, 143, 144, 145, 146, 147, 148, 149, 150, 151, 152, 153, 154, 155, 156, 157, 158, 159, 160, 161, 162, 163, 164, 165, 166] (by decide +kernel) (by decide +kernel)
set_option maxRecDepth 20000 in
theorem gX10_rent_X10_freshDraft : GoodIn wsX10_rent (wsV RX10 43 RX10 yX10_freshDraft wsX10_freshDraft) := goodIn_app (goodIn_of _ (by decide +kernel)) ggX10_rent_X10_freshDraft
set_option maxRecDepth 20000 in
theorem ggX10_rent_X5_beginRide : GoodIn wsX10_rent wsX5_beginRide := goodIn_r _ [76, 15, 13, 14, 22, 77, 78, 79, 80, 17, 81, 82, 83, 84, 85, 86, 50, 87, 52, 88, 89, 90, 26, 91, 28, 92, 93, 94, 37, 95, 39, 44, 43, 96, 97, 98, 99, 40, 42, 100, 101, 102, 103, 104, 105, 106, 107, 58, 108, 109, 110, 111, 112, 113, 135, 136, 137, 138, 139, 140, 153, 154, 155, 156, 157, 158, 159, 160, 161, 162, 141, 142, 143, 144, 145, 146, 147, 148, 149, 150, 151, 152] (by decide +kernel) (by decide +kernel)
set_option maxRecDepth 20000 in
theorem gX10_rent_X5_beginRide : GoodIn wsX10_rent (wsV RX10 68 RX5 yX5_beginRide wsX5_beginRide) := goodIn_app (goodIn_of _ (by decide +kernel)) ggX10_rent_X5_beginRide
set_option maxRecDepth 20000 in
theorem ggX10_rent_X10_settle : GoodIn wsX10_rent wsX10_settle := goodIn_r _ [117, 118, 7, 6, 119, 120, 121, 122, 123, 124, 125, 126, 127, 9, 10, 11, 12, 13, 14, 15, 16, 17, 18, 19, 20, 21, 22, 23, 24, 25, 26, 27, 28, 29, 30, 31, 32, 33, 34, 35, 36, 37, 38, 39, 40, 41, 42, 43, 44, 45, 46, 47, 48, 49, 50, 51, 52, 53, 54, 55, 56, 57, 58, 59, 60, 61, 62, 63, 64, 65, 66, 67, 68, 69, 70, 71, 72, 8, 128, 129, 130, 131, 132, 133, 134, 167, 168, 169, 135, 136, 137, 138, 139, 140, 141, 142, 143, 144, 145, 146, 147, 148, 149, 150, 151, 152, 153, 154, 155, 156, 157, 158, 159, 160, 161, 162, 163, 164, 165, 166] (by decide +kernel) (by decide +kernel)
set_option maxRecDepth 20000 in
theorem gX10_rent_X10_settle : GoodIn wsX10_rent (wsV RX10 51 RX10 yX10_settle wsX10_settle) := goodIn_app (goodIn_of _ (by decide +kernel)) ggX10_rent_X10_settle
theorem dX10_rent_0 : decode cX10_rent 0 = .ok (.aload_n 0, 1) := by decide +kernel
theorem dX10_rent_1 : decode cX10_rent 1 = .ok (.aload_n 0, 1) := by decide +kernel
theorem dX10_rent_2 : decode cX10_rent 2 = .ok (.invokevirtual 43, 3) := by decide +kernel
theorem dX10_rent_5 : decode cX10_rent 5 = .ok (.iload_n 1, 1) := by decide +kernel
theorem dX10_rent_6 : decode cX10_rent 6 = .ok (.iload_n 2, 1) := by decide +kernel
theorem dX10_rent_7 : decode cX10_rent 7 = .ok (.invokevirtual 68, 3) := by decide +kernel
theorem dX10_rent_10 : decode cX10_rent 10 = .ok (.invokevirtual 51, 3) := by decide +kernel
theorem dX10_rent_13 : decode cX10_rent 13 = .ok (.ireturn, 1) := by decide +kernel
set_option maxRecDepth 20000 in
theorem ggX10_back_X10_freshDraft : GoodIn wsX10_back wsX10_freshDraft := goodIn_r _ [5, 6, 7, 8, 9, 10, 11, 12, 13, 14, 15, 16, 17, 18, 19, 20, 21, 22, 23, 24, 25, 26, 27, 28, 29, 30, 31, 32, 33, 34, 35, 36, 37, 38, 39, 40, 41, 42, 43, 44, 45, 46, 47, 48, 49, 50, 51, 52, 53, 54, 55, 56, 57, 58, 59, 60, 61, 62, 63, 64, 65, 66, 67, 68, 69, 70, 71, 72, 145, 146, 147, 148, 149, 150, 151, 152, 153, 154, 155, 156, 157, 158, 159, 160, 161, 162, 163, 164, 165, 166, 167, 168, 169, 170, 171, 172, 173, 174, 175, 176, 177, 178, 179, 180, 181, 182, 183] (by decide +kernel) (by decide +kernel)
set_option maxRecDepth 20000 in
theorem gX10_back_X10_freshDraft : GoodIn wsX10_back (wsV RX10 43 RX10 yX10_freshDraft wsX10_freshDraft) := goodIn_app (goodIn_of _ (by decide +kernel)) ggX10_back_X10_freshDraft
set_option maxRecDepth 20000 in
theorem ggX10_back_X5_endRide : GoodIn wsX10_back wsX5_endRide := goodIn_r _ [76, 15, 13, 77, 14, 22, 78, 79, 80, 81, 82, 83, 84, 85, 50, 86, 52, 87, 88, 89, 26, 90, 28, 91, 92, 93, 37, 94, 39, 95, 96, 97, 11, 98, 99, 100, 101, 102, 103, 104, 105, 106, 107, 40, 42, 108, 109, 110, 111, 60, 112, 113, 114, 115, 61, 116, 117, 118, 119, 58, 120, 121, 122, 123, 124, 59, 125, 126, 127, 128, 129, 130, 152, 153, 154, 155, 156, 157, 170, 171, 172, 173, 174, 175, 176, 177, 178, 179, 163, 164, 165, 166, 167, 168, 169, 158, 159, 160, 161, 162] (by decide +kernel) (by decide +kernel)
set_option maxRecDepth 20000 in
theorem gX10_back_X5_endRide : GoodIn wsX10_back (wsV RX10 71 RX5 yX5_endRide wsX5_endRide) := goodIn_app (goodIn_of _ (by decide +kernel)) ggX10_back_X5_endRide
set_option maxRecDepth 20000 in
theorem ggX10_back_X10_settle : GoodIn wsX10_back wsX10_settle := goodIn_r _ [134, 135, 7, 6, 136, 137, 138, 139, 140, 141, 142, 143, 144, 9, 10, 11, 12, 13, 14, 15, 16, 17, 18, 19, 20, 21, 22, 23, 24, 25, 26, 27, 28, 29, 30, 31, 32, 33, 34, 35, 36, 37, 38, 39, 40, 41, 42, 43, 44, 45, 46, 47, 48, 49, 50, 51, 52, 53, 54, 55, 56, 57, 58, 59, 60, 61, 62, 63, 64, 65, 66, 67, 68, 69, 70, 71, 72, 8, 145, 146, 147, 148, 149, 150, 151, 184, 185, 186, 152, 153, 154, 155, 156, 157, 158, 159, 160, 161, 162, 163, 164, 165, 166, 167, 168, 169, 170, 171, 172, 173, 174, 175, 176, 177, 178, 179, 180, 181, 182, 183] (by decide +kernel) (by decide +kernel)
set_option maxRecDepth 20000 in
theorem gX10_back_X10_settle : GoodIn wsX10_back (wsV RX10 51 RX10 yX10_settle wsX10_settle) := goodIn_app (goodIn_of _ (by decide +kernel)) ggX10_back_X10_settle
theorem dX10_back_0 : decode cX10_back 0 = .ok (.aload_n 0, 1) := by decide +kernel
theorem dX10_back_1 : decode cX10_back 1 = .ok (.aload_n 0, 1) := by decide +kernel
theorem dX10_back_2 : decode cX10_back 2 = .ok (.invokevirtual 43, 3) := by decide +kernel
theorem dX10_back_5 : decode cX10_back 5 = .ok (.iload_n 1, 1) := by decide +kernel
theorem dX10_back_6 : decode cX10_back 6 = .ok (.iload_n 2, 1) := by decide +kernel
theorem dX10_back_7 : decode cX10_back 7 = .ok (.invokevirtual 71, 3) := by decide +kernel
theorem dX10_back_10 : decode cX10_back 10 = .ok (.invokevirtual 51, 3) := by decide +kernel
theorem dX10_back_13 : decode cX10_back 13 = .ok (.ireturn, 1) := by decide +kernel
set_option maxRecDepth 20000 in
theorem ggX10_full_X10_freshDraft : GoodIn wsX10_full wsX10_freshDraft := goodIn_r _ [5, 6, 7, 8, 9, 10, 11, 12, 13, 14, 15, 16, 17, 18, 19, 20, 21, 22, 23, 24, 25, 26, 27, 28, 29, 30, 31, 32, 33, 34, 35, 36, 37, 38, 39, 40, 41, 42, 43, 44, 45, 46, 47, 48, 49, 50, 51, 52, 53, 54, 55, 56, 57, 58, 59, 60, 61, 62, 63, 64, 65, 66, 67, 68, 69, 70, 71, 72, 119, 120, 121, 122, 123, 124, 125, 126, 127, 128, 129, 130, 131, 132, 133, 134, 135, 136, 137, 138, 139, 140, 141, 142, 143, 144, 145, 146, 147, 148, 149, 150, 151, 152, 153, 154, 155, 156, 157] (by decide +kernel) (by decide +kernel)
set_option maxRecDepth 20000 in
theorem gX10_full_X10_freshDraft : GoodIn wsX10_full (wsV RX10 43 RX10 yX10_freshDraft wsX10_freshDraft) := goodIn_app (goodIn_of _ (by decide +kernel)) ggX10_full_X10_freshDraft
set_option maxRecDepth 20000 in
theorem ggX10_full_X5_tellFull : GoodIn wsX10_full wsX5_tellFull := goodIn_r _ [76, 15, 13, 77, 78, 79, 80, 81, 50, 82, 52, 83, 84, 85, 26, 86, 28, 87, 88, 89, 90, 58, 91, 92, 93, 94, 11, 95, 96, 97, 98, 99, 100, 14, 101, 102, 103, 37, 104, 39, 40, 42, 126, 127, 128, 129, 130, 131, 144, 145, 146, 147, 148, 149, 150, 151, 152, 153, 132, 133, 134, 135, 136, 137, 138, 139, 140, 141, 142, 143] (by decide +kernel) (by decide +kernel)
set_option maxRecDepth 20000 in
theorem gX10_full_X5_tellFull : GoodIn wsX10_full (wsV RX10 74 RX5 yX5_tellFull wsX5_tellFull) := goodIn_app (goodIn_of _ (by decide +kernel)) ggX10_full_X5_tellFull
set_option maxRecDepth 20000 in
theorem ggX10_full_X10_settle : GoodIn wsX10_full wsX10_settle := goodIn_r _ [108, 109, 7, 6, 110, 111, 112, 113, 114, 115, 116, 117, 118, 9, 10, 11, 12, 13, 14, 15, 16, 17, 18, 19, 20, 21, 22, 23, 24, 25, 26, 27, 28, 29, 30, 31, 32, 33, 34, 35, 36, 37, 38, 39, 40, 41, 42, 43, 44, 45, 46, 47, 48, 49, 50, 51, 52, 53, 54, 55, 56, 57, 58, 59, 60, 61, 62, 63, 64, 65, 66, 67, 68, 69, 70, 71, 72, 8, 119, 120, 121, 122, 123, 124, 125, 158, 159, 160, 126, 127, 128, 129, 130, 131, 132, 133, 134, 135, 136, 137, 138, 139, 140, 141, 142, 143, 144, 145, 146, 147, 148, 149, 150, 151, 152, 153, 154, 155, 156, 157] (by decide +kernel) (by decide +kernel)
set_option maxRecDepth 20000 in
theorem gX10_full_X10_settle : GoodIn wsX10_full (wsV RX10 51 RX10 yX10_settle wsX10_settle) := goodIn_app (goodIn_of _ (by decide +kernel)) ggX10_full_X10_settle
theorem dX10_full_0 : decode cX10_full 0 = .ok (.aload_n 0, 1) := by decide +kernel
theorem dX10_full_1 : decode cX10_full 1 = .ok (.aload_n 0, 1) := by decide +kernel
theorem dX10_full_2 : decode cX10_full 2 = .ok (.invokevirtual 43, 3) := by decide +kernel
theorem dX10_full_5 : decode cX10_full 5 = .ok (.iload_n 1, 1) := by decide +kernel
theorem dX10_full_6 : decode cX10_full 6 = .ok (.iload_n 2, 1) := by decide +kernel
theorem dX10_full_7 : decode cX10_full 7 = .ok (.invokevirtual 74, 3) := by decide +kernel
theorem dX10_full_10 : decode cX10_full 10 = .ok (.invokevirtual 51, 3) := by decide +kernel
theorem dX10_full_13 : decode cX10_full 13 = .ok (.ireturn, 1) := by decide +kernel
set_option maxRecDepth 20000 in
theorem ggX10_report_X10_freshDraft : GoodIn wsX10_report wsX10_freshDraft := goodIn_r _ [5, 6, 7, 8, 9, 10, 11, 12, 13, 14, 15, 16, 17, 18, 19, 20, 21, 22, 23, 24, 25, 26, 27, 28, 29, 30, 31, 32, 33, 34, 35, 36, 37, 38, 39, 40, 41, 42, 43, 44, 45, 46, 47, 48, 49, 50, 51, 52, 53, 54, 55, 56, 57, 58, 59, 60, 61, 62, 63, 64, 65, 66, 67, 68, 69, 70, 71, 72, 101, 102, 103, 104, 105, 106, 107, 108, 109, 110, 111, 112, 113, 114, 115, 116, 117, 118, 119, 120, 121, 122, 123, 124, 125, 126, 127, 128, 129, 130, 131, 132, 133, 134, 135, 136, 137, 138, 139] (by decide +kernel) (by decide +kernel)
set_option maxRecDepth 20000 in
theorem gX10_report_X10_freshDraft : GoodIn wsX10_report (wsV RX10 43 RX10 yX10_freshDraft wsX10_freshDraft) := goodIn_app (goodIn_of _ (by decide +kernel)) ggX10_report_X10_freshDraft
set_option maxRecDepth 20000 in
theorem ggX10_report_X5_tellFaulty : GoodIn wsX10_report wsX5_tellFaulty := goodIn_r _ [76, 14, 77, 78, 79, 80, 81, 37, 82, 39, 83, 84, 85, 86, 44, 108, 109, 110, 111, 112, 113, 119, 120, 121, 122, 123, 124, 125] (by decide +kernel) (by decide +kernel)
set_option maxRecDepth 20000 in
theorem gX10_report_X5_tellFaulty : GoodIn wsX10_report (wsV RX10 77 RX5 yX5_tellFaulty wsX5_tellFaulty) := goodIn_app (goodIn_of _ (by decide +kernel)) ggX10_report_X5_tellFaulty
set_option maxRecDepth 20000 in
theorem ggX10_report_X10_settle : GoodIn wsX10_report wsX10_settle := goodIn_r _ [90, 91, 7, 6, 92, 93, 94, 95, 96, 97, 98, 99, 100, 9, 10, 11, 12, 13, 14, 15, 16, 17, 18, 19, 20, 21, 22, 23, 24, 25, 26, 27, 28, 29, 30, 31, 32, 33, 34, 35, 36, 37, 38, 39, 40, 41, 42, 43, 44, 45, 46, 47, 48, 49, 50, 51, 52, 53, 54, 55, 56, 57, 58, 59, 60, 61, 62, 63, 64, 65, 66, 67, 68, 69, 70, 71, 72, 8, 101, 102, 103, 104, 105, 106, 107, 140, 141, 142, 108, 109, 110, 111, 112, 113, 114, 115, 116, 117, 118, 119, 120, 121, 122, 123, 124, 125, 126, 127, 128, 129, 130, 131, 132, 133, 134, 135, 136, 137, 138, 139] (by decide +kernel) (by decide +kernel)
set_option maxRecDepth 20000 in
theorem gX10_report_X10_settle : GoodIn wsX10_report (wsV RX10 51 RX10 yX10_settle wsX10_settle) := goodIn_app (goodIn_of _ (by decide +kernel)) ggX10_report_X10_settle
theorem dX10_report_0 : decode cX10_report 0 = .ok (.aload_n 0, 1) := by decide +kernel
theorem dX10_report_1 : decode cX10_report 1 = .ok (.aload_n 0, 1) := by decide +kernel
theorem dX10_report_2 : decode cX10_report 2 = .ok (.invokevirtual 43, 3) := by decide +kernel
theorem dX10_report_5 : decode cX10_report 5 = .ok (.iload_n 1, 1) := by decide +kernel
theorem dX10_report_6 : decode cX10_report 6 = .ok (.invokevirtual 77, 3) := by decide +kernel
theorem dX10_report_9 : decode cX10_report 9 = .ok (.invokevirtual 51, 3) := by decide +kernel
theorem dX10_report_12 : decode cX10_report 12 = .ok (.ireturn, 1) := by decide +kernel
set_option maxRecDepth 20000 in
theorem ggX10_take_X10_freshDraft : GoodIn wsX10_take wsX10_freshDraft := goodIn_r _ [5, 6, 7, 8, 9, 10, 11, 12, 13, 14, 15, 16, 17, 18, 19, 20, 21, 22, 23, 24, 25, 26, 27, 28, 29, 30, 31, 32, 33, 34, 35, 36, 37, 38, 39, 40, 41, 42, 43, 44, 45, 46, 47, 48, 49, 50, 51, 52, 53, 54, 55, 56, 57, 58, 59, 60, 61, 62, 63, 64, 65, 66, 67, 68, 69, 70, 71, 72, 119, 120, 121, 122, 123, 124, 125, 126, 127, 128, 129, 130, 131, 132, 133, 134, 135, 136, 137, 138, 139, 140, 141, 142, 143, 144, 145, 146, 147, 148, 149, 150, 151, 152, 153, 154, 155, 156, 157] (by decide +kernel) (by decide +kernel)
set_option maxRecDepth 20000 in
theorem gX10_take_X10_freshDraft : GoodIn wsX10_take (wsV RX10 43 RX10 yX10_freshDraft wsX10_freshDraft) := goodIn_app (goodIn_of _ (by decide +kernel)) ggX10_take_X10_freshDraft
set_option maxRecDepth 20000 in
theorem ggX10_take_X5_load : GoodIn wsX10_take wsX5_load := goodIn_r _ [76, 16, 14, 77, 78, 79, 80, 81, 66, 82, 68, 83, 84, 85, 37, 86, 39, 87, 88, 89, 90, 40, 42, 91, 92, 93, 94, 95, 96, 97, 98, 11, 99, 100, 22, 101, 102, 103, 104, 126, 127, 128, 129, 130, 131, 154, 155, 156, 157, 137, 138, 139, 140, 141, 142, 143] (by decide +kernel) (by decide +kernel)
set_option maxRecDepth 20000 in
theorem gX10_take_X5_load : GoodIn wsX10_take (wsV RX10 80 RX5 yX5_load wsX5_load) := goodIn_app (goodIn_of _ (by decide +kernel)) ggX10_take_X5_load
set_option maxRecDepth 20000 in
theorem ggX10_take_X10_settle : GoodIn wsX10_take wsX10_settle := goodIn_r _ [108, 109, 7, 6, 110, 111, 112, 113, 114, 115, 116, 117, 118, 9, 10, 11, 12, 13, 14, 15, 16, 17, 18, 19, 20, 21, 22, 23, 24, 25, 26, 27, 28, 29, 30, 31, 32, 33, 34, 35, 36, 37, 38, 39, 40, 41, 42, 43, 44, 45, 46, 47, 48, 49, 50, 51, 52, 53, 54, 55, 56, 57, 58, 59, 60, 61, 62, 63, 64, 65, 66, 67, 68, 69, 70, 71, 72, 8, 119, 120, 121, 122, 123, 124, 125, 158, 159, 160, 126, 127, 128, 129, 130, 131, 132, 133, 134, 135, 136, 137, 138, 139, 140, 141, 142, 143, 144, 145, 146, 147, 148, 149, 150, 151, 152, 153, 154, 155, 156, 157] (by decide +kernel) (by decide +kernel)
set_option maxRecDepth 20000 in
theorem gX10_take_X10_settle : GoodIn wsX10_take (wsV RX10 51 RX10 yX10_settle wsX10_settle) := goodIn_app (goodIn_of _ (by decide +kernel)) ggX10_take_X10_settle
theorem dX10_take_0 : decode cX10_take 0 = .ok (.aload_n 0, 1) := by decide +kernel
theorem dX10_take_1 : decode cX10_take 1 = .ok (.aload_n 0, 1) := by decide +kernel
theorem dX10_take_2 : decode cX10_take 2 = .ok (.invokevirtual 43, 3) := by decide +kernel
theorem dX10_take_5 : decode cX10_take 5 = .ok (.iload_n 1, 1) := by decide +kernel
theorem dX10_take_6 : decode cX10_take 6 = .ok (.iload_n 2, 1) := by decide +kernel
theorem dX10_take_7 : decode cX10_take 7 = .ok (.invokevirtual 80, 3) := by decide +kernel
theorem dX10_take_10 : decode cX10_take 10 = .ok (.invokevirtual 51, 3) := by decide +kernel
theorem dX10_take_13 : decode cX10_take 13 = .ok (.ireturn, 1) := by decide +kernel
set_option maxRecDepth 20000 in
theorem ggX10_put_X10_freshDraft : GoodIn wsX10_put wsX10_freshDraft := goodIn_r _ [5, 6, 7, 8, 9, 10, 11, 12, 13, 14, 15, 16, 17, 18, 19, 20, 21, 22, 23, 24, 25, 26, 27, 28, 29, 30, 31, 32, 33, 34, 35, 36, 37, 38, 39, 40, 41, 42, 43, 44, 45, 46, 47, 48, 49, 50, 51, 52, 53, 54, 55, 56, 57, 58, 59, 60, 61, 62, 63, 64, 65, 66, 67, 68, 69, 70, 71, 72, 135, 136, 137, 138, 139, 140, 141, 142, 143, 144, 145, 146, 147, 148, 149, 150, 151, 152, 153, 154, 155, 156, 157, 158, 159, 160, 161, 162, 163, 164, 165, 166, 167, 168, 169, 170, 171, 172, 173] (by decide +kernel) (by decide +kernel)
set_option maxRecDepth 20000 in
theorem gX10_put_X10_freshDraft : GoodIn wsX10_put (wsV RX10 43 RX10 yX10_freshDraft wsX10_freshDraft) := goodIn_app (goodIn_of _ (by decide +kernel)) ggX10_put_X10_freshDraft
set_option maxRecDepth 20000 in
theorem ggX10_put_X5_unload : GoodIn wsX10_put wsX5_unload := goodIn_r _ [76, 16, 14, 77, 78, 79, 80, 66, 81, 68, 82, 83, 84, 37, 85, 39, 86, 87, 88, 11, 89, 90, 91, 92, 93, 94, 22, 95, 96, 97, 98, 40, 42, 99, 100, 101, 102, 103, 13, 104, 105, 106, 107, 26, 108, 28, 109, 110, 111, 112, 113, 114, 115, 116, 117, 118, 119, 120, 142, 143, 144, 145, 146, 147, 170, 171, 172, 173, 153, 154, 155, 156, 157, 158, 159, 148, 149, 150, 151, 152] (by decide +kernel) (by decide +kernel)
set_option maxRecDepth 20000 in
theorem gX10_put_X5_unload : GoodIn wsX10_put (wsV RX10 83 RX5 yX5_unload wsX5_unload) := goodIn_app (goodIn_of _ (by decide +kernel)) ggX10_put_X5_unload
set_option maxRecDepth 20000 in
theorem ggX10_put_X10_settle : GoodIn wsX10_put wsX10_settle := goodIn_r _ [124, 125, 7, 6, 126, 127, 128, 129, 130, 131, 132, 133, 134, 9, 10, 11, 12, 13, 14, 15, 16, 17, 18, 19, 20, 21, 22, 23, 24, 25, 26, 27, 28, 29, 30, 31, 32, 33, 34, 35, 36, 37, 38, 39, 40, 41, 42, 43, 44, 45, 46, 47, 48, 49, 50, 51, 52, 53, 54, 55, 56, 57, 58, 59, 60, 61, 62, 63, 64, 65, 66, 67, 68, 69, 70, 71, 72, 8, 135, 136, 137, 138, 139, 140, 141, 174, 175, 176, 142, 143, 144, 145, 146, 147, 148, 149, 150, 151, 152, 153, 154, 155, 156, 157, 158, 159, 160, 161, 162, 163, 164, 165, 166, 167, 168, 169, 170, 171, 172, 173] (by decide +kernel) (by decide +kernel)
set_option maxRecDepth 20000 in
theorem gX10_put_X10_settle : GoodIn wsX10_put (wsV RX10 51 RX10 yX10_settle wsX10_settle) := goodIn_app (goodIn_of _ (by decide +kernel)) ggX10_put_X10_settle
theorem dX10_put_0 : decode cX10_put 0 = .ok (.aload_n 0, 1) := by decide +kernel
theorem dX10_put_1 : decode cX10_put 1 = .ok (.aload_n 0, 1) := by decide +kernel
theorem dX10_put_2 : decode cX10_put 2 = .ok (.invokevirtual 43, 3) := by decide +kernel
theorem dX10_put_5 : decode cX10_put 5 = .ok (.iload_n 1, 1) := by decide +kernel
theorem dX10_put_6 : decode cX10_put 6 = .ok (.iload_n 2, 1) := by decide +kernel
theorem dX10_put_7 : decode cX10_put 7 = .ok (.invokevirtual 83, 3) := by decide +kernel
theorem dX10_put_10 : decode cX10_put 10 = .ok (.invokevirtual 51, 3) := by decide +kernel
theorem dX10_put_13 : decode cX10_put 13 = .ok (.ireturn, 1) := by decide +kernel
set_option maxRecDepth 20000 in
theorem ggX10_go_X10_freshDraft : GoodIn wsX10_go wsX10_freshDraft := goodIn_r _ [5, 6, 7, 8, 9, 10, 11, 12, 13, 14, 15, 16, 17, 18, 19, 20, 21, 22, 23, 24, 25, 26, 27, 28, 29, 30, 31, 32, 33, 34, 35, 36, 37, 38, 39, 40, 41, 42, 43, 44, 45, 46, 47, 48, 49, 50, 51, 52, 53, 54, 55, 56, 57, 58, 59, 60, 61, 62, 63, 64, 65, 66, 67, 68, 69, 70, 71, 72, 114, 115, 116, 117, 118, 119, 120, 121, 122, 123, 124, 125, 126, 127, 128, 129, 130, 131, 132, 133, 134, 135, 136, 137, 138, 139, 140, 141, 142, 143, 144, 145, 146, 147, 148, 149, 150, 151, 152] (by decide +kernel) (by decide +kernel)
set_option maxRecDepth 20000 in
theorem gX10_go_X10_freshDraft : GoodIn wsX10_go (wsV RX10 43 RX10 yX10_freshDraft wsX10_freshDraft) := goodIn_app (goodIn_of _ (by decide +kernel)) ggX10_go_X10_freshDraft
set_option maxRecDepth 20000 in
theorem ggX10_go_X5_sendVan : GoodIn wsX10_go wsX5_sendVan := goodIn_r _ [76, 16, 13, 77, 22, 78, 79, 80, 81, 66, 82, 68, 83, 84, 85, 26, 86, 28, 87, 88, 89, 11, 90, 91, 92, 93, 94, 29, 95, 96, 97, 98, 99, 121, 122, 123, 124, 125, 126, 149, 150, 151, 152, 127, 128, 129, 130, 131] (by decide +kernel) (by decide +kernel)
set_option maxRecDepth 20000 in
theorem gX10_go_X5_sendVan : GoodIn wsX10_go (wsV RX10 86 RX5 yX5_sendVan wsX5_sendVan) := goodIn_app (goodIn_of _ (by decide +kernel)) ggX10_go_X5_sendVan
set_option maxRecDepth 20000 in
theorem ggX10_go_X10_settle : GoodIn wsX10_go wsX10_settle := goodIn_r _ [103, 104, 7, 6, 105, 106, 107, 108, 109, 110, 111, 112, 113, 9, 10, 11, 12, 13, 14, 15, 16, 17, 18, 19, 20, 21, 22, 23, 24, 25, 26, 27, 28, 29, 30, 31, 32, 33, 34, 35, 36, 37, 38, 39, 40, 41, 42, 43, 44, 45, 46, 47, 48, 49, 50, 51, 52, 53, 54, 55, 56, 57, 58, 59, 60, 61, 62, 63, 64, 65, 66, 67, 68, 69, 70, 71, 72, 8, 114, 115, 116, 117, 118, 119, 120, 153, 154, 155, 121, 122, 123, 124, 125, 126, 127, 128, 129, 130, 131, 132, 133, 134, 135, 136, 137, 138, 139, 140, 141, 142, 143, 144, 145, 146, 147, 148, 149, 150, 151, 152] (by decide +kernel) (by decide +kernel)
set_option maxRecDepth 20000 in
theorem gX10_go_X10_settle : GoodIn wsX10_go (wsV RX10 51 RX10 yX10_settle wsX10_settle) := goodIn_app (goodIn_of _ (by decide +kernel)) ggX10_go_X10_settle
theorem dX10_go_0 : decode cX10_go 0 = .ok (.aload_n 0, 1) := by decide +kernel
theorem dX10_go_1 : decode cX10_go 1 = .ok (.aload_n 0, 1) := by decide +kernel
theorem dX10_go_2 : decode cX10_go 2 = .ok (.invokevirtual 43, 3) := by decide +kernel
theorem dX10_go_5 : decode cX10_go 5 = .ok (.iload_n 1, 1) := by decide +kernel
theorem dX10_go_6 : decode cX10_go 6 = .ok (.iload_n 2, 1) := by decide +kernel
theorem dX10_go_7 : decode cX10_go 7 = .ok (.invokevirtual 86, 3) := by decide +kernel
theorem dX10_go_10 : decode cX10_go 10 = .ok (.invokevirtual 51, 3) := by decide +kernel
theorem dX10_go_13 : decode cX10_go 13 = .ok (.ireturn, 1) := by decide +kernel
set_option maxRecDepth 20000 in
theorem ggX10_mend_X10_freshDraft : GoodIn wsX10_mend wsX10_freshDraft := goodIn_r _ [5, 6, 7, 8, 9, 10, 11, 12, 13, 14, 15, 16, 17, 18, 19, 20, 21, 22, 23, 24, 25, 26, 27, 28, 29, 30, 31, 32, 33, 34, 35, 36, 37, 38, 39, 40, 41, 42, 43, 44, 45, 46, 47, 48, 49, 50, 51, 52, 53, 54, 55, 56, 57, 58, 59, 60, 61, 62, 63, 64, 65, 66, 67, 68, 69, 70, 71, 72, 119, 120, 121, 122, 123, 124, 125, 126, 127, 128, 129, 130, 131, 132, 133, 134, 135, 136, 137, 138, 139, 140, 141, 142, 143, 144, 145, 146, 147, 148, 149, 150, 151, 152, 153, 154, 155, 156, 157] (by decide +kernel) (by decide +kernel)
set_option maxRecDepth 20000 in
theorem gX10_mend_X10_freshDraft : GoodIn wsX10_mend (wsV RX10 43 RX10 yX10_freshDraft wsX10_freshDraft) := goodIn_app (goodIn_of _ (by decide +kernel)) ggX10_mend_X10_freshDraft
set_option maxRecDepth 20000 in
theorem ggX10_mend_X5_handOver : GoodIn wsX10_mend wsX5_handOver := goodIn_r _ [76, 16, 14, 77, 78, 22, 17, 79, 80, 81, 66, 82, 68, 83, 84, 85, 37, 86, 39, 87, 88, 89, 11, 90, 91, 92, 93, 94, 95, 96, 97, 98, 99, 40, 42, 100, 101, 102, 103, 104, 126, 127, 128, 129, 130, 131, 154, 155, 156, 157, 137, 138, 139, 140, 141, 142, 143] (by decide +kernel) (by decide +kernel)
set_option maxRecDepth 20000 in
theorem gX10_mend_X5_handOver : GoodIn wsX10_mend (wsV RX10 89 RX5 yX5_handOver wsX5_handOver) := goodIn_app (goodIn_of _ (by decide +kernel)) ggX10_mend_X5_handOver
set_option maxRecDepth 20000 in
theorem ggX10_mend_X10_settle : GoodIn wsX10_mend wsX10_settle := goodIn_r _ [108, 109, 7, 6, 110, 111, 112, 113, 114, 115, 116, 117, 118, 9, 10, 11, 12, 13, 14, 15, 16, 17, 18, 19, 20, 21, 22, 23, 24, 25, 26, 27, 28, 29, 30, 31, 32, 33, 34, 35, 36, 37, 38, 39, 40, 41, 42, 43, 44, 45, 46, 47, 48, 49, 50, 51, 52, 53, 54, 55, 56, 57, 58, 59, 60, 61, 62, 63, 64, 65, 66, 67, 68, 69, 70, 71, 72, 8, 119, 120, 121, 122, 123, 124, 125, 158, 159, 160, 126, 127, 128, 129, 130, 131, 132, 133, 134, 135, 136, 137, 138, 139, 140, 141, 142, 143, 144, 145, 146, 147, 148, 149, 150, 151, 152, 153, 154, 155, 156, 157] (by decide +kernel) (by decide +kernel)
set_option maxRecDepth 20000 in
theorem gX10_mend_X10_settle : GoodIn wsX10_mend (wsV RX10 51 RX10 yX10_settle wsX10_settle) := goodIn_app (goodIn_of _ (by decide +kernel)) ggX10_mend_X10_settle
theorem dX10_mend_0 : decode cX10_mend 0 = .ok (.aload_n 0, 1) := by decide +kernel
theorem dX10_mend_1 : decode cX10_mend 1 = .ok (.aload_n 0, 1) := by decide +kernel
theorem dX10_mend_2 : decode cX10_mend 2 = .ok (.invokevirtual 43, 3) := by decide +kernel
theorem dX10_mend_5 : decode cX10_mend 5 = .ok (.iload_n 1, 1) := by decide +kernel
theorem dX10_mend_6 : decode cX10_mend 6 = .ok (.iload_n 2, 1) := by decide +kernel
theorem dX10_mend_7 : decode cX10_mend 7 = .ok (.invokevirtual 89, 3) := by decide +kernel
theorem dX10_mend_10 : decode cX10_mend 10 = .ok (.invokevirtual 51, 3) := by decide +kernel
theorem dX10_mend_13 : decode cX10_mend 13 = .ok (.ireturn, 1) := by decide +kernel
set_option maxRecDepth 20000 in
theorem ggX10_pause_X10_freshDraft : GoodIn wsX10_pause wsX10_freshDraft := goodIn_r _ [5, 6, 7, 8, 9, 10, 11, 12, 13, 14, 15, 16, 17, 18, 19, 20, 21, 22, 23, 24, 25, 26, 27, 28, 29, 30, 31, 32, 33, 34, 35, 36, 37, 38, 39, 40, 41, 42, 43, 44, 45, 46, 47, 48, 49, 50, 51, 52, 53, 54, 55, 56, 57, 58, 59, 60, 61, 62, 63, 64, 65, 66, 67, 68, 69, 70, 71, 72, 122, 123, 124, 125, 126, 127, 128, 129, 130, 131, 132, 133, 134, 135, 136, 137, 138, 139, 140, 141, 142, 143, 144, 145, 146, 147, 148, 149, 150, 151, 152, 153, 154, 155, 156, 157, 158, 159, 160] (by decide +kernel) (by decide +kernel)
set_option maxRecDepth 20000 in
theorem gX10_pause_X10_freshDraft : GoodIn wsX10_pause (wsV RX10 43 RX10 yX10_freshDraft wsX10_freshDraft) := goodIn_app (goodIn_of _ (by decide +kernel)) ggX10_pause_X10_freshDraft
set_option maxRecDepth 20000 in
theorem ggX10_pause_X5_letGoBy : GoodIn wsX10_pause wsX5_letGoBy := goodIn_r _ [76, 22, 77, 78, 79, 11, 80, 14, 81, 82, 83, 84, 37, 85, 40, 46, 86, 87, 88, 89, 39, 90, 91, 92, 93, 44, 43, 94, 95, 96, 97, 13, 98, 99, 100, 101, 102, 103, 42, 104, 105, 106, 107, 129, 130, 131, 132, 133, 134, 140, 141, 142, 143, 144, 145, 146, 135, 136, 137, 138, 139] (by decide +kernel) (by decide +kernel)
set_option maxRecDepth 20000 in
theorem gX10_pause_X5_letGoBy : GoodIn wsX10_pause (wsV RX10 92 RX5 yX5_letGoBy wsX5_letGoBy) := goodIn_app (goodIn_of _ (by decide +kernel)) ggX10_pause_X5_letGoBy
set_option maxRecDepth 20000 in
theorem ggX10_pause_X10_settle : GoodIn wsX10_pause wsX10_settle := goodIn_r _ [111, 112, 7, 6, 113, 114, 115, 116, 117, 118, 119, 120, 121, 9, 10, 11, 12, 13, 14, 15, 16, 17, 18, 19, 20, 21, 22, 23, 24, 25, 26, 27, 28, 29, 30, 31, 32, 33, 34, 35, 36, 37, 38, 39, 40, 41, 42, 43, 44, 45, 46, 47, 48, 49, 50, 51, 52, 53, 54, 55, 56, 57, 58, 59, 60, 61, 62, 63, 64, 65, 66, 67, 68, 69, 70, 71, 72, 8, 122, 123, 124, 125, 126, 127, 128, 161, 162, 163, 129, 130, 131, 132, 133, 134, 135, 136, 137, 138, 139, 140, 141, 142, 143, 144, 145, 146, 147, 148, 149, 150, 151, 152, 153, 154, 155, 156, 157, 158, 159, 160] (by decide +kernel) (by decide +kernel)
set_option maxRecDepth 20000 in
theorem gX10_pause_X10_settle : GoodIn wsX10_pause (wsV RX10 51 RX10 yX10_settle wsX10_settle) := goodIn_app (goodIn_of _ (by decide +kernel)) ggX10_pause_X10_settle
theorem dX10_pause_0 : decode cX10_pause 0 = .ok (.aload_n 0, 1) := by decide +kernel
theorem dX10_pause_1 : decode cX10_pause 1 = .ok (.aload_n 0, 1) := by decide +kernel
theorem dX10_pause_2 : decode cX10_pause 2 = .ok (.invokevirtual 43, 3) := by decide +kernel
theorem dX10_pause_5 : decode cX10_pause 5 = .ok (.iload_n 1, 1) := by decide +kernel
theorem dX10_pause_6 : decode cX10_pause 6 = .ok (.invokevirtual 92, 3) := by decide +kernel
theorem dX10_pause_9 : decode cX10_pause 9 = .ok (.invokevirtual 51, 3) := by decide +kernel
theorem dX10_pause_12 : decode cX10_pause 12 = .ok (.ireturn, 1) := by decide +kernel
set_option maxRecDepth 20000 in
theorem ggX10_set_X10_freshDraft : GoodIn wsX10_set wsX10_freshDraft := goodIn_r _ [5, 6, 7, 8, 9, 10, 11, 12, 13, 14, 15, 16, 17, 18, 19, 20, 21, 22, 23, 24, 25, 26, 27, 28, 29, 30, 31, 32, 33, 34, 35, 36, 37, 38, 39, 40, 41, 42, 43, 44, 45, 46, 47, 48, 49, 50, 51, 52, 53, 54, 55, 56, 57, 58, 59, 60, 61, 62, 63, 64, 65, 66, 67, 68, 69, 70, 71, 72, 95, 96, 97, 98, 99, 100, 101, 102, 103, 104, 105, 106, 107, 108, 109, 110, 111, 112, 113, 114, 115, 116, 117, 118, 119, 120, 121, 122, 123, 124, 125, 126, 127, 128, 129, 130, 131, 132, 133] (by decide +kernel) (by decide +kernel)
set_option maxRecDepth 20000 in
theorem gX10_set_X10_freshDraft : GoodIn wsX10_set (wsV RX10 43 RX10 yX10_freshDraft wsX10_freshDraft) := goodIn_app (goodIn_of _ (by decide +kernel)) ggX10_set_X10_freshDraft
set_option maxRecDepth 20000 in
theorem ggX10_set_X5_changeSetting : GoodIn wsX10_set wsX5_changeSetting := goodIn_r _ [76, 17, 77, 78, 79, 11, 80, 102, 103, 104, 105, 106, 107] (by decide +kernel) (by decide +kernel)
set_option maxRecDepth 20000 in
theorem gX10_set_X5_changeSetting : GoodIn wsX10_set (wsV RX10 95 RX5 yX5_changeSetting wsX5_changeSetting) := goodIn_app (goodIn_of _ (by decide +kernel)) ggX10_set_X5_changeSetting
set_option maxRecDepth 20000 in
theorem ggX10_set_X10_settle : GoodIn wsX10_set wsX10_settle := goodIn_r _ [84, 85, 7, 6, 86, 87, 88, 89, 90, 91, 92, 93, 94, 9, 10, 11, 12, 13, 14, 15, 16, 17, 18, 19, 20, 21, 22, 23, 24, 25, 26, 27, 28, 29, 30, 31, 32, 33, 34, 35, 36, 37, 38, 39, 40, 41, 42, 43, 44, 45, 46, 47, 48, 49, 50, 51, 52, 53, 54, 55, 56, 57, 58, 59, 60, 61, 62, 63, 64, 65, 66, 67, 68, 69, 70, 71, 72, 8, 95, 96, 97, 98, 99, 100, 101, 134, 135, 136, 102, 103, 104, 105, 106, 107, 108, 109, 110, 111, 112, 113, 114, 115, 116, 117, 118, 119, 120, 121, 122, 123, 124, 125, 126, 127, 128, 129, 130, 131, 132, 133] (by decide +kernel) (by decide +kernel)
set_option maxRecDepth 20000 in
theorem gX10_set_X10_settle : GoodIn wsX10_set (wsV RX10 51 RX10 yX10_settle wsX10_settle) := goodIn_app (goodIn_of _ (by decide +kernel)) ggX10_set_X10_settle
theorem dX10_set_0 : decode cX10_set 0 = .ok (.aload_n 0, 1) := by decide +kernel
theorem dX10_set_1 : decode cX10_set 1 = .ok (.aload_n 0, 1) := by decide +kernel
theorem dX10_set_2 : decode cX10_set 2 = .ok (.invokevirtual 43, 3) := by decide +kernel
theorem dX10_set_5 : decode cX10_set 5 = .ok (.iload_n 1, 1) := by decide +kernel
theorem dX10_set_6 : decode cX10_set 6 = .ok (.iload_n 2, 1) := by decide +kernel
theorem dX10_set_7 : decode cX10_set 7 = .ok (.invokevirtual 95, 3) := by decide +kernel
theorem dX10_set_10 : decode cX10_set 10 = .ok (.invokevirtual 51, 3) := by decide +kernel
theorem dX10_set_13 : decode cX10_set 13 = .ok (.ireturn, 1) := by decide +kernel
set_option maxRecDepth 20000 in
theorem ggX10_stationOf_X6_has : GoodIn wsX10_stationOf wsX6_has := goodIn_r _ [13, 14, 81, 82, 83, 84, 85] (by decide +kernel) (by decide +kernel)
set_option maxRecDepth 20000 in
theorem gX10_stationOf_X6_has : GoodIn wsX10_stationOf (wsV RX10 102 RX6 yX6_has wsX6_has) := goodIn_app (goodIn_of _ (by decide +kernel)) ggX10_stationOf_X6_has
set_option maxRecDepth 20000 in
theorem ggX10_stationOf_X1_setAt : GoodIn wsX10_stationOf wsX1_setAt := goodIn_r _ [19, 20, 21, 22, 86, 87, 88, 89, 90, 91, 92] (by decide +kernel) (by decide +kernel)
set_option maxRecDepth 20000 in
theorem gX10_stationOf_X1_setAt : GoodIn wsX10_stationOf (wsV RX10 121 RX1 yX1_setAt wsX1_setAt) := goodIn_app (goodIn_of _ (by decide +kernel)) ggX10_stationOf_X1_setAt
set_option maxRecDepth 20000 in
theorem ggX10_stationOf_X5_unevenness : GoodIn wsX10_stationOf wsX5_unevenness := goodIn_r _ [27, 28, 29, 30, 31, 32, 33, 34, 10, 11, 12, 13, 14, 35, 36, 37, 26, 38, 39, 40, 41, 42, 18, 43, 20, 21, 22, 75, 76, 77, 78, 79, 80, 81, 82, 83, 84, 85, 86, 87, 88, 89, 90, 91, 92] (by decide +kernel) (by decide +kernel)
set_option maxRecDepth 20000 in
theorem gX10_stationOf_X5_unevenness : GoodIn wsX10_stationOf (wsV RX10 124 RX5 yX5_unevenness wsX5_unevenness) := goodIn_app (goodIn_of _ (by decide +kernel)) ggX10_stationOf_X5_unevenness
set_option maxRecDepth 20000 in
theorem ggX10_stationOf_X2_aim : GoodIn wsX10_stationOf wsX2_aim := goodIn_r _ [48, 49, 50, 51, 52, 53, 47, 54, 55, 56, 57, 58, 59, 60, 12, 61, 14, 62, 63, 64, 65, 18, 66, 20, 21, 67, 10, 11, 13, 75, 76, 77, 78, 79, 80, 93, 94, 95, 96, 97, 98, 81, 82, 83, 84, 85, 86, 87, 88, 89, 90, 91, 92] (by decide +kernel) (by decide +kernel)
set_option maxRecDepth 20000 in
theorem gX10_stationOf_X2_aim : GoodIn wsX10_stationOf (wsV RX10 127 RX2 yX2_aim wsX2_aim) := goodIn_app (goodIn_of _ (by decide +kernel)) ggX10_stationOf_X2_aim
theorem dX10_stationOf_0 : decode cX10_stationOf 0 = .ok (.aload_n 0, 1) := by decide +kernel
theorem dX10_stationOf_1 : decode cX10_stationOf 1 = .ok (.getfield 10, 3) := by decide +kernel
theorem dX10_stationOf_4 : decode cX10_stationOf 4 = .ok (.getfield 98, 3) := by decide +kernel
theorem dX10_stationOf_7 : decode cX10_stationOf 7 = .ok (.iload_n 1, 1) := by decide +kernel
theorem dX10_stationOf_8 : decode cX10_stationOf 8 = .ok (.invokevirtual 102, 3) := by decide +kernel
theorem dX10_stationOf_11 : decode cX10_stationOf 11 = .ok (.ifCond .ne 5, 3) := by decide +kernel
theorem dX10_stationOf_14 : decode cX10_stationOf 14 = .ok (.iconst (-1), 1) := by decide +kernel
theorem dX10_stationOf_15 : decode cX10_stationOf 15 = .ok (.ireturn, 1) := by decide +kernel
theorem dX10_stationOf_16 : decode cX10_stationOf 16 = .ok (.iload_n 2, 1) := by decide +kernel
theorem dX10_stationOf_17 : decode cX10_stationOf 17 = .ok (.tableswitch 130 0 6 #[43, 56, 69, 82, 91, 104, 117], 43) := by decide +kernel
theorem dX10_stationOf_60 : decode cX10_stationOf 60 = .ok (.aload_n 0, 1) := by decide +kernel
theorem dX10_stationOf_61 : decode cX10_stationOf 61 = .ok (.getfield 10, 3) := by decide +kernel
theorem dX10_stationOf_64 : decode cX10_stationOf 64 = .ok (.getfield 98, 3) := by decide +kernel
theorem dX10_stationOf_67 : decode cX10_stationOf 67 = .ok (.getfield 108, 3) := by decide +kernel
theorem dX10_stationOf_70 : decode cX10_stationOf 70 = .ok (.iload_n 1, 1) := by decide +kernel
theorem dX10_stationOf_71 : decode cX10_stationOf 71 = .ok (.iaload, 1) := by decide +kernel
theorem dX10_stationOf_72 : decode cX10_stationOf 72 = .ok (.ireturn, 1) := by decide +kernel
theorem dX10_stationOf_73 : decode cX10_stationOf 73 = .ok (.aload_n 0, 1) := by decide +kernel
theorem dX10_stationOf_74 : decode cX10_stationOf 74 = .ok (.getfield 10, 3) := by decide +kernel
theorem dX10_stationOf_77 : decode cX10_stationOf 77 = .ok (.getfield 98, 3) := by decide +kernel
theorem dX10_stationOf_80 : decode cX10_stationOf 80 = .ok (.getfield 112, 3) := by decide +kernel
theorem dX10_stationOf_83 : decode cX10_stationOf 83 = .ok (.iload_n 1, 1) := by decide +kernel
theorem dX10_stationOf_84 : decode cX10_stationOf 84 = .ok (.iaload, 1) := by decide +kernel
theorem dX10_stationOf_85 : decode cX10_stationOf 85 = .ok (.ireturn, 1) := by decide +kernel
theorem dX10_stationOf_86 : decode cX10_stationOf 86 = .ok (.aload_n 0, 1) := by decide +kernel
theorem dX10_stationOf_87 : decode cX10_stationOf 87 = .ok (.getfield 10, 3) := by decide +kernel
theorem dX10_stationOf_90 : decode cX10_stationOf 90 = .ok (.getfield 115, 3) := by decide +kernel
theorem dX10_stationOf_93 : decode cX10_stationOf 93 = .ok (.iconst 0, 1) := by decide +kernel
theorem dX10_stationOf_94 : decode cX10_stationOf 94 = .ok (.iload_n 1, 1) := by decide +kernel
theorem dX10_stationOf_95 : decode cX10_stationOf 95 = .ok (.invokevirtual 121, 3) := by decide +kernel
theorem dX10_stationOf_98 : decode cX10_stationOf 98 = .ok (.ireturn, 1) := by decide +kernel
theorem dX10_stationOf_99 : decode cX10_stationOf 99 = .ok (.aload_n 0, 1) := by decide +kernel
theorem dX10_stationOf_100 : decode cX10_stationOf 100 = .ok (.getfield 10, 3) := by decide +kernel
theorem dX10_stationOf_103 : decode cX10_stationOf 103 = .ok (.iload_n 1, 1) := by decide +kernel
theorem dX10_stationOf_104 : decode cX10_stationOf 104 = .ok (.invokevirtual 124, 3) := by decide +kernel
theorem dX10_stationOf_107 : decode cX10_stationOf 107 = .ok (.ireturn, 1) := by decide +kernel
theorem dX10_stationOf_108 : decode cX10_stationOf 108 = .ok (.aload_n 0, 1) := by decide +kernel
theorem dX10_stationOf_109 : decode cX10_stationOf 109 = .ok (.getfield 32, 3) := by decide +kernel
theorem dX10_stationOf_112 : decode cX10_stationOf 112 = .ok (.aload_n 0, 1) := by decide +kernel
theorem dX10_stationOf_113 : decode cX10_stationOf 113 = .ok (.getfield 10, 3) := by decide +kernel
theorem dX10_stationOf_116 : decode cX10_stationOf 116 = .ok (.iload_n 1, 1) := by decide +kernel
theorem dX10_stationOf_117 : decode cX10_stationOf 117 = .ok (.invokevirtual 127, 3) := by decide +kernel
theorem dX10_stationOf_120 : decode cX10_stationOf 120 = .ok (.ireturn, 1) := by decide +kernel
theorem dX10_stationOf_121 : decode cX10_stationOf 121 = .ok (.aload_n 0, 1) := by decide +kernel
theorem dX10_stationOf_122 : decode cX10_stationOf 122 = .ok (.getfield 10, 3) := by decide +kernel
theorem dX10_stationOf_125 : decode cX10_stationOf 125 = .ok (.getfield 98, 3) := by decide +kernel
theorem dX10_stationOf_128 : decode cX10_stationOf 128 = .ok (.getfield 131, 3) := by decide +kernel
theorem dX10_stationOf_131 : decode cX10_stationOf 131 = .ok (.iload_n 1, 1) := by decide +kernel
theorem dX10_stationOf_132 : decode cX10_stationOf 132 = .ok (.iaload, 1) := by decide +kernel
theorem dX10_stationOf_133 : decode cX10_stationOf 133 = .ok (.ireturn, 1) := by decide +kernel
theorem dX10_stationOf_134 : decode cX10_stationOf 134 = .ok (.aload_n 0, 1) := by decide +kernel
theorem dX10_stationOf_135 : decode cX10_stationOf 135 = .ok (.getfield 10, 3) := by decide +kernel
theorem dX10_stationOf_138 : decode cX10_stationOf 138 = .ok (.getfield 98, 3) := by decide +kernel
theorem dX10_stationOf_141 : decode cX10_stationOf 141 = .ok (.getfield 134, 3) := by decide +kernel
theorem dX10_stationOf_144 : decode cX10_stationOf 144 = .ok (.iload_n 1, 1) := by decide +kernel
theorem dX10_stationOf_145 : decode cX10_stationOf 145 = .ok (.iaload, 1) := by decide +kernel
theorem dX10_stationOf_146 : decode cX10_stationOf 146 = .ok (.ireturn, 1) := by decide +kernel
theorem dX10_stationOf_147 : decode cX10_stationOf 147 = .ok (.iconst (-1), 1) := by decide +kernel
theorem dX10_stationOf_148 : decode cX10_stationOf 148 = .ok (.ireturn, 1) := by decide +kernel
set_option maxRecDepth 20000 in
theorem ggX10_bicycleOf_X1_has : GoodIn wsX10_bicycleOf wsX1_has := goodIn_r _ [11, 12, 33, 34, 35, 36, 37, 38, 39] (by decide +kernel) (by decide +kernel)
set_option maxRecDepth 20000 in
theorem gX10_bicycleOf_X1_has : GoodIn wsX10_bicycleOf (wsV RX10 137 RX1 yX1_has wsX1_has) := goodIn_app (goodIn_of _ (by decide +kernel)) ggX10_bicycleOf_X1_has
set_option maxRecDepth 20000 in
theorem ggX10_bicycleOf_X1_holderOrNotFound : GoodIn wsX10_bicycleOf wsX1_holderOrNotFound := goodIn_r _ [16, 17, 18, 19, 8, 9, 10, 11, 12, 33, 34, 35, 36, 37, 38, 39] (by decide +kernel) (by decide +kernel)
set_option maxRecDepth 20000 in
theorem gX10_bicycleOf_X1_holderOrNotFound : GoodIn wsX10_bicycleOf (wsV RX10 141 RX1 yX1_holderOrNotFound wsX1_holderOrNotFound) := goodIn_app (goodIn_of _ (by decide +kernel)) ggX10_bicycleOf_X1_holderOrNotFound
theorem dX10_bicycleOf_0 : decode cX10_bicycleOf 0 = .ok (.aload_n 0, 1) := by decide +kernel
theorem dX10_bicycleOf_1 : decode cX10_bicycleOf 1 = .ok (.getfield 10, 3) := by decide +kernel
theorem dX10_bicycleOf_4 : decode cX10_bicycleOf 4 = .ok (.getfield 115, 3) := by decide +kernel
theorem dX10_bicycleOf_7 : decode cX10_bicycleOf 7 = .ok (.iload_n 1, 1) := by decide +kernel
theorem dX10_bicycleOf_8 : decode cX10_bicycleOf 8 = .ok (.invokevirtual 137, 3) := by decide +kernel
theorem dX10_bicycleOf_11 : decode cX10_bicycleOf 11 = .ok (.ifCond .ne 5, 3) := by decide +kernel
theorem dX10_bicycleOf_14 : decode cX10_bicycleOf 14 = .ok (.iconst (-1), 1) := by decide +kernel
theorem dX10_bicycleOf_15 : decode cX10_bicycleOf 15 = .ok (.ireturn, 1) := by decide +kernel
theorem dX10_bicycleOf_16 : decode cX10_bicycleOf 16 = .ok (.iload_n 2, 1) := by decide +kernel
theorem dX10_bicycleOf_17 : decode cX10_bicycleOf 17 = .ok (.tableswitch 99 0 4 #[35, 48, 60, 73, 86], 35) := by decide +kernel
theorem dX10_bicycleOf_52 : decode cX10_bicycleOf 52 = .ok (.aload_n 0, 1) := by decide +kernel
theorem dX10_bicycleOf_53 : decode cX10_bicycleOf 53 = .ok (.getfield 10, 3) := by decide +kernel
theorem dX10_bicycleOf_56 : decode cX10_bicycleOf 56 = .ok (.getfield 115, 3) := by decide +kernel
theorem dX10_bicycleOf_59 : decode cX10_bicycleOf 59 = .ok (.getfield 138, 3) := by decide +kernel
theorem dX10_bicycleOf_62 : decode cX10_bicycleOf 62 = .ok (.iload_n 1, 1) := by decide +kernel
theorem dX10_bicycleOf_63 : decode cX10_bicycleOf 63 = .ok (.iaload, 1) := by decide +kernel
theorem dX10_bicycleOf_64 : decode cX10_bicycleOf 64 = .ok (.ireturn, 1) := by decide +kernel
theorem dX10_bicycleOf_65 : decode cX10_bicycleOf 65 = .ok (.aload_n 0, 1) := by decide +kernel
theorem dX10_bicycleOf_66 : decode cX10_bicycleOf 66 = .ok (.getfield 10, 3) := by decide +kernel
theorem dX10_bicycleOf_69 : decode cX10_bicycleOf 69 = .ok (.getfield 115, 3) := by decide +kernel
theorem dX10_bicycleOf_72 : decode cX10_bicycleOf 72 = .ok (.iload_n 1, 1) := by decide +kernel
theorem dX10_bicycleOf_73 : decode cX10_bicycleOf 73 = .ok (.invokevirtual 141, 3) := by decide +kernel
theorem dX10_bicycleOf_76 : decode cX10_bicycleOf 76 = .ok (.ireturn, 1) := by decide +kernel
theorem dX10_bicycleOf_77 : decode cX10_bicycleOf 77 = .ok (.aload_n 0, 1) := by decide +kernel
theorem dX10_bicycleOf_78 : decode cX10_bicycleOf 78 = .ok (.getfield 10, 3) := by decide +kernel
theorem dX10_bicycleOf_81 : decode cX10_bicycleOf 81 = .ok (.getfield 115, 3) := by decide +kernel
theorem dX10_bicycleOf_84 : decode cX10_bicycleOf 84 = .ok (.getfield 144, 3) := by decide +kernel
theorem dX10_bicycleOf_87 : decode cX10_bicycleOf 87 = .ok (.iload_n 1, 1) := by decide +kernel
theorem dX10_bicycleOf_88 : decode cX10_bicycleOf 88 = .ok (.iaload, 1) := by decide +kernel
theorem dX10_bicycleOf_89 : decode cX10_bicycleOf 89 = .ok (.ireturn, 1) := by decide +kernel
theorem dX10_bicycleOf_90 : decode cX10_bicycleOf 90 = .ok (.aload_n 0, 1) := by decide +kernel
theorem dX10_bicycleOf_91 : decode cX10_bicycleOf 91 = .ok (.getfield 10, 3) := by decide +kernel
theorem dX10_bicycleOf_94 : decode cX10_bicycleOf 94 = .ok (.getfield 115, 3) := by decide +kernel
theorem dX10_bicycleOf_97 : decode cX10_bicycleOf 97 = .ok (.getfield 147, 3) := by decide +kernel
theorem dX10_bicycleOf_100 : decode cX10_bicycleOf 100 = .ok (.iload_n 1, 1) := by decide +kernel
theorem dX10_bicycleOf_101 : decode cX10_bicycleOf 101 = .ok (.iaload, 1) := by decide +kernel
theorem dX10_bicycleOf_102 : decode cX10_bicycleOf 102 = .ok (.ireturn, 1) := by decide +kernel
theorem dX10_bicycleOf_103 : decode cX10_bicycleOf 103 = .ok (.aload_n 0, 1) := by decide +kernel
theorem dX10_bicycleOf_104 : decode cX10_bicycleOf 104 = .ok (.getfield 10, 3) := by decide +kernel
theorem dX10_bicycleOf_107 : decode cX10_bicycleOf 107 = .ok (.getfield 115, 3) := by decide +kernel
theorem dX10_bicycleOf_110 : decode cX10_bicycleOf 110 = .ok (.getfield 150, 3) := by decide +kernel
theorem dX10_bicycleOf_113 : decode cX10_bicycleOf 113 = .ok (.iload_n 1, 1) := by decide +kernel
theorem dX10_bicycleOf_114 : decode cX10_bicycleOf 114 = .ok (.iaload, 1) := by decide +kernel
theorem dX10_bicycleOf_115 : decode cX10_bicycleOf 115 = .ok (.ireturn, 1) := by decide +kernel
theorem dX10_bicycleOf_116 : decode cX10_bicycleOf 116 = .ok (.iconst (-1), 1) := by decide +kernel
theorem dX10_bicycleOf_117 : decode cX10_bicycleOf 117 = .ok (.ireturn, 1) := by decide +kernel
set_option maxRecDepth 20000 in
theorem ggX10_riderOf_X4_has : GoodIn wsX10_riderOf wsX4_has := goodIn_r _ [16, 17, 58, 59, 60, 61, 62, 63, 64, 65, 66, 67] (by decide +kernel) (by decide +kernel)
set_option maxRecDepth 20000 in
theorem gX10_riderOf_X4_has : GoodIn wsX10_riderOf (wsV RX10 157 RX4 yX4_has wsX4_has) := goodIn_app (goodIn_of _ (by decide +kernel)) ggX10_riderOf_X4_has
set_option maxRecDepth 20000 in
theorem ggX10_riderOf_X4_hasRide : GoodIn wsX10_riderOf wsX4_hasRide := goodIn_r _ [21, 22, 23, 13, 14, 15, 16, 17, 58, 59, 60, 61, 62, 63, 64, 65, 66, 67] (by decide +kernel) (by decide +kernel)
set_option maxRecDepth 20000 in
theorem gX10_riderOf_X4_hasRide : GoodIn wsX10_riderOf (wsV RX10 160 RX4 yX4_hasRide wsX4_hasRide) := goodIn_app (goodIn_of _ (by decide +kernel)) ggX10_riderOf_X4_hasRide
set_option maxRecDepth 20000 in
theorem ggX10_riderOf_X10_rideOf : GoodIn wsX10_riderOf wsX10_rideOf := goodIn_r _ [28, 1, 2, 29, 5, 30, 31, 32, 33, 15, 34, 35, 23, 13, 14, 16, 17, 36, 37, 38, 39, 40, 41, 7, 8, 9, 42, 43, 19, 20, 21, 22, 44, 45, 46, 47, 48, 49, 50, 51, 52, 53, 54, 55, 56, 57, 58, 59, 60, 61, 62, 63, 64, 65, 66, 67] (by decide +kernel) (by decide +kernel)
set_option maxRecDepth 20000 in
theorem gX10_riderOf_X10_rideOf : GoodIn wsX10_riderOf (wsV RX10 163 RX10 yX10_rideOf wsX10_rideOf) := goodIn_app (goodIn_of _ (by decide +kernel)) ggX10_riderOf_X10_rideOf
theorem dX10_riderOf_0 : decode cX10_riderOf 0 = .ok (.aload_n 0, 1) := by decide +kernel
theorem dX10_riderOf_1 : decode cX10_riderOf 1 = .ok (.getfield 10, 3) := by decide +kernel
theorem dX10_riderOf_4 : decode cX10_riderOf 4 = .ok (.getfield 153, 3) := by decide +kernel
theorem dX10_riderOf_7 : decode cX10_riderOf 7 = .ok (.iload_n 1, 1) := by decide +kernel
theorem dX10_riderOf_8 : decode cX10_riderOf 8 = .ok (.invokevirtual 157, 3) := by decide +kernel
theorem dX10_riderOf_11 : decode cX10_riderOf 11 = .ok (.ifCond .eq 13, 3) := by decide +kernel
theorem dX10_riderOf_14 : decode cX10_riderOf 14 = .ok (.iload_n 2, 1) := by decide +kernel
theorem dX10_riderOf_15 : decode cX10_riderOf 15 = .ok (.ifCond .lt 9, 3) := by decide +kernel
theorem dX10_riderOf_18 : decode cX10_riderOf 18 = .ok (.iload_n 2, 1) := by decide +kernel
theorem dX10_riderOf_19 : decode cX10_riderOf 19 = .ok (.bipush 7, 2) := by decide +kernel
theorem dX10_riderOf_21 : decode cX10_riderOf 21 = .ok (.if_icmp .le 5, 3) := by decide +kernel
theorem dX10_riderOf_24 : decode cX10_riderOf 24 = .ok (.iconst (-1), 1) := by decide +kernel
theorem dX10_riderOf_25 : decode cX10_riderOf 25 = .ok (.ireturn, 1) := by decide +kernel
theorem dX10_riderOf_26 : decode cX10_riderOf 26 = .ok (.iload_n 2, 1) := by decide +kernel
theorem dX10_riderOf_27 : decode cX10_riderOf 27 = .ok (.iconst 2, 1) := by decide +kernel
theorem dX10_riderOf_28 : decode cX10_riderOf 28 = .ok (.if_icmp .lt 34, 3) := by decide +kernel
theorem dX10_riderOf_31 : decode cX10_riderOf 31 = .ok (.iload_n 2, 1) := by decide +kernel
theorem dX10_riderOf_32 : decode cX10_riderOf 32 = .ok (.iconst 5, 1) := by decide +kernel
theorem dX10_riderOf_33 : decode cX10_riderOf 33 = .ok (.if_icmp .gt 29, 3) := by decide +kernel
theorem dX10_riderOf_36 : decode cX10_riderOf 36 = .ok (.aload_n 0, 1) := by decide +kernel
theorem dX10_riderOf_37 : decode cX10_riderOf 37 = .ok (.getfield 10, 3) := by decide +kernel
theorem dX10_riderOf_40 : decode cX10_riderOf 40 = .ok (.getfield 153, 3) := by decide +kernel
theorem dX10_riderOf_43 : decode cX10_riderOf 43 = .ok (.iload_n 1, 1) := by decide +kernel
theorem dX10_riderOf_44 : decode cX10_riderOf 44 = .ok (.invokevirtual 160, 3) := by decide +kernel
theorem dX10_riderOf_47 : decode cX10_riderOf 47 = .ok (.ifCond .eq 12, 3) := by decide +kernel
theorem dX10_riderOf_50 : decode cX10_riderOf 50 = .ok (.aload_n 0, 1) := by decide +kernel
theorem dX10_riderOf_51 : decode cX10_riderOf 51 = .ok (.iload_n 1, 1) := by decide +kernel
theorem dX10_riderOf_52 : decode cX10_riderOf 52 = .ok (.iload_n 2, 1) := by decide +kernel
theorem dX10_riderOf_53 : decode cX10_riderOf 53 = .ok (.invokevirtual 163, 3) := by decide +kernel
theorem dX10_riderOf_56 : decode cX10_riderOf 56 = .ok (.goto 5, 3) := by decide +kernel
theorem dX10_riderOf_59 : decode cX10_riderOf 59 = .ok (.bipush (-4), 2) := by decide +kernel
theorem dX10_riderOf_61 : decode cX10_riderOf 61 = .ok (.ireturn, 1) := by decide +kernel
theorem dX10_riderOf_62 : decode cX10_riderOf 62 = .ok (.iload_n 2, 1) := by decide +kernel
theorem dX10_riderOf_63 : decode cX10_riderOf 63 = .ok (.lookupswitch 84 #[(0, 33), (1, 46), (6, 71)], 33) := by decide +kernel
theorem dX10_riderOf_96 : decode cX10_riderOf 96 = .ok (.aload_n 0, 1) := by decide +kernel
theorem dX10_riderOf_97 : decode cX10_riderOf 97 = .ok (.getfield 10, 3) := by decide +kernel
theorem dX10_riderOf_100 : decode cX10_riderOf 100 = .ok (.getfield 153, 3) := by decide +kernel
theorem dX10_riderOf_103 : decode cX10_riderOf 103 = .ok (.getfield 166, 3) := by decide +kernel
theorem dX10_riderOf_106 : decode cX10_riderOf 106 = .ok (.iload_n 1, 1) := by decide +kernel
theorem dX10_riderOf_107 : decode cX10_riderOf 107 = .ok (.iaload, 1) := by decide +kernel
theorem dX10_riderOf_108 : decode cX10_riderOf 108 = .ok (.ireturn, 1) := by decide +kernel
theorem dX10_riderOf_109 : decode cX10_riderOf 109 = .ok (.iconst 0, 1) := by decide +kernel
theorem dX10_riderOf_110 : decode cX10_riderOf 110 = .ok (.aload_n 0, 1) := by decide +kernel
theorem dX10_riderOf_111 : decode cX10_riderOf 111 = .ok (.getfield 10, 3) := by decide +kernel
theorem dX10_riderOf_114 : decode cX10_riderOf 114 = .ok (.getfield 153, 3) := by decide +kernel
theorem dX10_riderOf_117 : decode cX10_riderOf 117 = .ok (.getfield 169, 3) := by decide +kernel
theorem dX10_riderOf_120 : decode cX10_riderOf 120 = .ok (.iload_n 1, 1) := by decide +kernel
theorem dX10_riderOf_121 : decode cX10_riderOf 121 = .ok (.iaload, 1) := by decide +kernel
theorem dX10_riderOf_122 : decode cX10_riderOf 122 = .ok (.aload_n 0, 1) := by decide +kernel
theorem dX10_riderOf_123 : decode cX10_riderOf 123 = .ok (.getfield 10, 3) := by decide +kernel
theorem dX10_riderOf_126 : decode cX10_riderOf 126 = .ok (.getfield 172, 3) := by decide +kernel
theorem dX10_riderOf_129 : decode cX10_riderOf 129 = .ok (.isub, 1) := by decide +kernel
theorem dX10_riderOf_130 : decode cX10_riderOf 130 = .ok (.invokestatic 176, 3) := by decide +kernel
theorem dX10_riderOf_133 : decode cX10_riderOf 133 = .ok (.ireturn, 1) := by decide +kernel
theorem dX10_riderOf_134 : decode cX10_riderOf 134 = .ok (.aload_n 0, 1) := by decide +kernel
theorem dX10_riderOf_135 : decode cX10_riderOf 135 = .ok (.getfield 10, 3) := by decide +kernel
theorem dX10_riderOf_138 : decode cX10_riderOf 138 = .ok (.getfield 153, 3) := by decide +kernel
theorem dX10_riderOf_141 : decode cX10_riderOf 141 = .ok (.getfield 181, 3) := by decide +kernel
theorem dX10_riderOf_144 : decode cX10_riderOf 144 = .ok (.iload_n 1, 1) := by decide +kernel
theorem dX10_riderOf_145 : decode cX10_riderOf 145 = .ok (.iaload, 1) := by decide +kernel
theorem dX10_riderOf_146 : decode cX10_riderOf 146 = .ok (.ireturn, 1) := by decide +kernel
theorem dX10_riderOf_147 : decode cX10_riderOf 147 = .ok (.aload_n 0, 1) := by decide +kernel
theorem dX10_riderOf_148 : decode cX10_riderOf 148 = .ok (.getfield 10, 3) := by decide +kernel
theorem dX10_riderOf_151 : decode cX10_riderOf 151 = .ok (.getfield 153, 3) := by decide +kernel
theorem dX10_riderOf_154 : decode cX10_riderOf 154 = .ok (.getfield 182, 3) := by decide +kernel
theorem dX10_riderOf_157 : decode cX10_riderOf 157 = .ok (.iload_n 1, 1) := by decide +kernel
theorem dX10_riderOf_158 : decode cX10_riderOf 158 = .ok (.iaload, 1) := by decide +kernel
theorem dX10_riderOf_159 : decode cX10_riderOf 159 = .ok (.ireturn, 1) := by decide +kernel
set_option maxRecDepth 20000 in
theorem ggX10_vanOf_X8_has : GoodIn wsX10_vanOf wsX8_has := goodIn_r _ [11, 12, 44, 45, 46, 47] (by decide +kernel) (by decide +kernel)
set_option maxRecDepth 20000 in
theorem gX10_vanOf_X8_has : GoodIn wsX10_vanOf (wsV RX10 189 RX8 yX8_has wsX8_has) := goodIn_app (goodIn_of _ (by decide +kernel)) ggX10_vanOf_X8_has
set_option maxRecDepth 20000 in
theorem ggX10_vanOf_X1_setAt : GoodIn wsX10_vanOf wsX1_setAt := goodIn_r _ [17, 18, 19, 20, 48, 49, 50, 51, 52, 53, 54] (by decide +kernel) (by decide +kernel)
set_option maxRecDepth 20000 in
theorem gX10_vanOf_X1_setAt : GoodIn wsX10_vanOf (wsV RX10 121 RX1 yX1_setAt wsX1_setAt) := goodIn_app (goodIn_of _ (by decide +kernel)) ggX10_vanOf_X1_setAt
set_option maxRecDepth 20000 in
theorem ggX10_vanOf_X8_minutesLeft : GoodIn wsX10_vanOf wsX8_minutesLeft := goodIn_r _ [24, 25, 26, 27, 28, 29, 30, 8, 9, 10, 11, 12, 44, 45, 46, 47] (by decide +kernel) (by decide +kernel)
set_option maxRecDepth 20000 in
theorem gX10_vanOf_X8_minutesLeft : GoodIn wsX10_vanOf (wsV RX10 198 RX8 yX8_minutesLeft wsX8_minutesLeft) := goodIn_app (goodIn_of _ (by decide +kernel)) ggX10_vanOf_X8_minutesLeft
theorem dX10_vanOf_0 : decode cX10_vanOf 0 = .ok (.aload_n 0, 1) := by decide +kernel
theorem dX10_vanOf_1 : decode cX10_vanOf 1 = .ok (.getfield 10, 3) := by decide +kernel
theorem dX10_vanOf_4 : decode cX10_vanOf 4 = .ok (.getfield 185, 3) := by decide +kernel
theorem dX10_vanOf_7 : decode cX10_vanOf 7 = .ok (.iload_n 1, 1) := by decide +kernel
theorem dX10_vanOf_8 : decode cX10_vanOf 8 = .ok (.invokevirtual 189, 3) := by decide +kernel
theorem dX10_vanOf_11 : decode cX10_vanOf 11 = .ok (.ifCond .ne 5, 3) := by decide +kernel
theorem dX10_vanOf_14 : decode cX10_vanOf 14 = .ok (.iconst (-1), 1) := by decide +kernel
theorem dX10_vanOf_15 : decode cX10_vanOf 15 = .ok (.ireturn, 1) := by decide +kernel
theorem dX10_vanOf_16 : decode cX10_vanOf 16 = .ok (.iload_n 2, 1) := by decide +kernel
theorem dX10_vanOf_17 : decode cX10_vanOf 17 = .ok (.tableswitch 89 0 3 #[31, 44, 57, 70], 31) := by decide +kernel
theorem dX10_vanOf_48 : decode cX10_vanOf 48 = .ok (.aload_n 0, 1) := by decide +kernel
theorem dX10_vanOf_49 : decode cX10_vanOf 49 = .ok (.getfield 10, 3) := by decide +kernel
theorem dX10_vanOf_52 : decode cX10_vanOf 52 = .ok (.getfield 185, 3) := by decide +kernel
theorem dX10_vanOf_55 : decode cX10_vanOf 55 = .ok (.getfield 192, 3) := by decide +kernel
theorem dX10_vanOf_58 : decode cX10_vanOf 58 = .ok (.iload_n 1, 1) := by decide +kernel
theorem dX10_vanOf_59 : decode cX10_vanOf 59 = .ok (.iaload, 1) := by decide +kernel
theorem dX10_vanOf_60 : decode cX10_vanOf 60 = .ok (.ireturn, 1) := by decide +kernel
theorem dX10_vanOf_61 : decode cX10_vanOf 61 = .ok (.aload_n 0, 1) := by decide +kernel
theorem dX10_vanOf_62 : decode cX10_vanOf 62 = .ok (.getfield 10, 3) := by decide +kernel
theorem dX10_vanOf_65 : decode cX10_vanOf 65 = .ok (.getfield 185, 3) := by decide +kernel
theorem dX10_vanOf_68 : decode cX10_vanOf 68 = .ok (.getfield 195, 3) := by decide +kernel
theorem dX10_vanOf_71 : decode cX10_vanOf 71 = .ok (.iload_n 1, 1) := by decide +kernel
theorem dX10_vanOf_72 : decode cX10_vanOf 72 = .ok (.iaload, 1) := by decide +kernel
theorem dX10_vanOf_73 : decode cX10_vanOf 73 = .ok (.ireturn, 1) := by decide +kernel
theorem dX10_vanOf_74 : decode cX10_vanOf 74 = .ok (.aload_n 0, 1) := by decide +kernel
theorem dX10_vanOf_75 : decode cX10_vanOf 75 = .ok (.getfield 10, 3) := by decide +kernel
theorem dX10_vanOf_78 : decode cX10_vanOf 78 = .ok (.getfield 115, 3) := by decide +kernel
theorem dX10_vanOf_81 : decode cX10_vanOf 81 = .ok (.iconst 2, 1) := by decide +kernel
theorem dX10_vanOf_82 : decode cX10_vanOf 82 = .ok (.iload_n 1, 1) := by decide +kernel
theorem dX10_vanOf_83 : decode cX10_vanOf 83 = .ok (.invokevirtual 121, 3) := by decide +kernel
theorem dX10_vanOf_86 : decode cX10_vanOf 86 = .ok (.ireturn, 1) := by decide +kernel
theorem dX10_vanOf_87 : decode cX10_vanOf 87 = .ok (.aload_n 0, 1) := by decide +kernel
theorem dX10_vanOf_88 : decode cX10_vanOf 88 = .ok (.getfield 10, 3) := by decide +kernel
theorem dX10_vanOf_91 : decode cX10_vanOf 91 = .ok (.getfield 185, 3) := by decide +kernel
theorem dX10_vanOf_94 : decode cX10_vanOf 94 = .ok (.iload_n 1, 1) := by decide +kernel
theorem dX10_vanOf_95 : decode cX10_vanOf 95 = .ok (.aload_n 0, 1) := by decide +kernel
theorem dX10_vanOf_96 : decode cX10_vanOf 96 = .ok (.getfield 10, 3) := by decide +kernel
theorem dX10_vanOf_99 : decode cX10_vanOf 99 = .ok (.getfield 172, 3) := by decide +kernel
theorem dX10_vanOf_102 : decode cX10_vanOf 102 = .ok (.invokevirtual 198, 3) := by decide +kernel
theorem dX10_vanOf_105 : decode cX10_vanOf 105 = .ok (.ireturn, 1) := by decide +kernel
theorem dX10_vanOf_106 : decode cX10_vanOf 106 = .ok (.iconst (-1), 1) := by decide +kernel
theorem dX10_vanOf_107 : decode cX10_vanOf 107 = .ok (.ireturn, 1) := by decide +kernel
set_option maxRecDepth 20000 in
theorem ggX10_count_X5_isSetting : GoodIn wsX10_count wsX5_isSetting := goodIn_r _ [21] (by decide +kernel) (by decide +kernel)
set_option maxRecDepth 20000 in
theorem gX10_count_X5_isSetting : GoodIn wsX10_count (wsV RX10 201 RX5 yX5_isSetting wsX5_isSetting) := goodIn_app (goodIn_of _ (by decide +kernel)) ggX10_count_X5_isSetting
set_option maxRecDepth 20000 in
theorem ggX10_count_X1_countWhere : GoodIn wsX10_count wsX1_countWhere := goodIn_r _ [26, 27, 28, 95, 96, 97, 98, 99, 100, 101] (by decide +kernel) (by decide +kernel)
set_option maxRecDepth 20000 in
theorem gX10_count_X1_countWhere : GoodIn wsX10_count (wsV RX10 213 RX1 yX1_countWhere wsX1_countWhere) := goodIn_app (goodIn_of _ (by decide +kernel)) ggX10_count_X1_countWhere
set_option maxRecDepth 20000 in
theorem ggX10_count_X1_countFaulty : GoodIn wsX10_count wsX1_countFaulty := goodIn_r _ [32, 27, 33, 95, 96, 97, 98, 99, 100, 101] (by decide +kernel) (by decide +kernel)
set_option maxRecDepth 20000 in
theorem gX10_count_X1_countFaulty : GoodIn wsX10_count (wsV RX10 216 RX1 yX1_countFaulty wsX1_countFaulty) := goodIn_app (goodIn_of _ (by decide +kernel)) ggX10_count_X1_countFaulty
set_option maxRecDepth 20000 in
theorem ggX10_count_X6_allDocks : GoodIn wsX10_count wsX6_allDocks := goodIn_r _ [38, 39, 40, 90, 91, 92, 93, 94] (by decide +kernel) (by decide +kernel)
set_option maxRecDepth 20000 in
theorem gX10_count_X6_allDocks : GoodIn wsX10_count (wsV RX10 219 RX6 yX6_allDocks wsX6_allDocks) := goodIn_app (goodIn_of _ (by decide +kernel)) ggX10_count_X6_allDocks
set_option maxRecDepth 20000 in
theorem ggX10_count_X4_allOwed : GoodIn wsX10_count wsX4_allOwed := goodIn_r _ [45, 46, 47, 102, 103, 104, 105, 106, 107, 108, 109, 110, 111] (by decide +kernel) (by decide +kernel)
set_option maxRecDepth 20000 in
theorem gX10_count_X4_allOwed : GoodIn wsX10_count (wsV RX10 222 RX4 yX4_allOwed wsX4_allOwed) := goodIn_app (goodIn_of _ (by decide +kernel)) ggX10_count_X4_allOwed
set_option maxRecDepth 20000 in
theorem ggX10_count_X5_allUnevenness : GoodIn wsX10_count wsX5_allUnevenness := goodIn_r _ [51, 52, 53, 54, 55, 56, 20, 57, 58, 59, 60, 61, 62, 63, 64, 65, 37, 66, 39, 67, 68, 69, 70, 71, 72, 73, 74, 25, 75, 27, 28, 76, 84, 85, 86, 87, 88, 89, 90, 91, 92, 93, 94, 95, 96, 97, 98, 99, 100, 101] (by decide +kernel) (by decide +kernel)
set_option maxRecDepth 20000 in
theorem gX10_count_X5_allUnevenness : GoodIn wsX10_count (wsV RX10 225 RX5 yX5_allUnevenness wsX5_allUnevenness) := goodIn_app (goodIn_of _ (by decide +kernel)) ggX10_count_X5_allUnevenness
theorem dX10_count_0 : decode cX10_count 0 = .ok (.aload_n 0, 1) := by decide +kernel
theorem dX10_count_1 : decode cX10_count 1 = .ok (.getfield 10, 3) := by decide +kernel
theorem dX10_count_4 : decode cX10_count 4 = .ok (.iload_n 1, 1) := by decide +kernel
theorem dX10_count_5 : decode cX10_count 5 = .ok (.bipush 20, 2) := by decide +kernel
theorem dX10_count_7 : decode cX10_count 7 = .ok (.isub, 1) := by decide +kernel
theorem dX10_count_8 : decode cX10_count 8 = .ok (.invokevirtual 201, 3) := by decide +kernel
theorem dX10_count_11 : decode cX10_count 11 = .ok (.ifCond .eq 16, 3) := by decide +kernel
theorem dX10_count_14 : decode cX10_count 14 = .ok (.aload_n 0, 1) := by decide +kernel
theorem dX10_count_15 : decode cX10_count 15 = .ok (.getfield 10, 3) := by decide +kernel
theorem dX10_count_18 : decode cX10_count 18 = .ok (.getfield 204, 3) := by decide +kernel
theorem dX10_count_21 : decode cX10_count 21 = .ok (.iload_n 1, 1) := by decide +kernel
theorem dX10_count_22 : decode cX10_count 22 = .ok (.bipush 20, 2) := by decide +kernel
theorem dX10_count_24 : decode cX10_count 24 = .ok (.isub, 1) := by decide +kernel
theorem dX10_count_25 : decode cX10_count 25 = .ok (.iaload, 1) := by decide +kernel
theorem dX10_count_26 : decode cX10_count 26 = .ok (.ireturn, 1) := by decide +kernel
theorem dX10_count_27 : decode cX10_count 27 = .ok (.iload_n 1, 1) := by decide +kernel
theorem dX10_count_28 : decode cX10_count 28 = .ok (.tableswitch 250 0 15 #[80, 91, 102, 113, 124, 132, 144, 156, 168, 180, 191, 202, 213, 221, 229, 237], 80) := by decide +kernel
theorem dX10_count_108 : decode cX10_count 108 = .ok (.aload_n 0, 1) := by decide +kernel
theorem dX10_count_109 : decode cX10_count 109 = .ok (.getfield 10, 3) := by decide +kernel
theorem dX10_count_112 : decode cX10_count 112 = .ok (.getfield 98, 3) := by decide +kernel
theorem dX10_count_115 : decode cX10_count 115 = .ok (.getfield 207, 3) := by decide +kernel
theorem dX10_count_118 : decode cX10_count 118 = .ok (.ireturn, 1) := by decide +kernel
theorem dX10_count_119 : decode cX10_count 119 = .ok (.aload_n 0, 1) := by decide +kernel
theorem dX10_count_120 : decode cX10_count 120 = .ok (.getfield 10, 3) := by decide +kernel
theorem dX10_count_123 : decode cX10_count 123 = .ok (.getfield 115, 3) := by decide +kernel
theorem dX10_count_126 : decode cX10_count 126 = .ok (.getfield 210, 3) := by decide +kernel
theorem dX10_count_129 : decode cX10_count 129 = .ok (.ireturn, 1) := by decide +kernel
theorem dX10_count_130 : decode cX10_count 130 = .ok (.aload_n 0, 1) := by decide +kernel
theorem dX10_count_131 : decode cX10_count 131 = .ok (.getfield 10, 3) := by decide +kernel
theorem dX10_count_134 : decode cX10_count 134 = .ok (.getfield 153, 3) := by decide +kernel
theorem dX10_count_137 : decode cX10_count 137 = .ok (.getfield 211, 3) := by decide +kernel
theorem dX10_count_140 : decode cX10_count 140 = .ok (.ireturn, 1) := by decide +kernel
theorem dX10_count_141 : decode cX10_count 141 = .ok (.aload_n 0, 1) := by decide +kernel
theorem dX10_count_142 : decode cX10_count 142 = .ok (.getfield 10, 3) := by decide +kernel
theorem dX10_count_145 : decode cX10_count 145 = .ok (.getfield 185, 3) := by decide +kernel
theorem dX10_count_148 : decode cX10_count 148 = .ok (.getfield 212, 3) := by decide +kernel
theorem dX10_count_151 : decode cX10_count 151 = .ok (.ireturn, 1) := by decide +kernel
theorem dX10_count_152 : decode cX10_count 152 = .ok (.aload_n 0, 1) := by decide +kernel
theorem dX10_count_153 : decode cX10_count 153 = .ok (.getfield 10, 3) := by decide +kernel
theorem dX10_count_156 : decode cX10_count 156 = .ok (.getfield 172, 3) := by decide +kernel
theorem dX10_count_159 : decode cX10_count 159 = .ok (.ireturn, 1) := by decide +kernel
theorem dX10_count_160 : decode cX10_count 160 = .ok (.aload_n 0, 1) := by decide +kernel
theorem dX10_count_161 : decode cX10_count 161 = .ok (.getfield 10, 3) := by decide +kernel
theorem dX10_count_164 : decode cX10_count 164 = .ok (.getfield 115, 3) := by decide +kernel
theorem dX10_count_167 : decode cX10_count 167 = .ok (.iconst 0, 1) := by decide +kernel
theorem dX10_count_168 : decode cX10_count 168 = .ok (.invokevirtual 213, 3) := by decide +kernel
theorem dX10_count_171 : decode cX10_count 171 = .ok (.ireturn, 1) := by decide +kernel
theorem dX10_count_172 : decode cX10_count 172 = .ok (.aload_n 0, 1) := by decide +kernel
theorem dX10_count_173 : decode cX10_count 173 = .ok (.getfield 10, 3) := by decide +kernel
theorem dX10_count_176 : decode cX10_count 176 = .ok (.getfield 115, 3) := by decide +kernel
theorem dX10_count_179 : decode cX10_count 179 = .ok (.iconst 1, 1) := by decide +kernel
theorem dX10_count_180 : decode cX10_count 180 = .ok (.invokevirtual 213, 3) := by decide +kernel
theorem dX10_count_183 : decode cX10_count 183 = .ok (.ireturn, 1) := by decide +kernel
theorem dX10_count_184 : decode cX10_count 184 = .ok (.aload_n 0, 1) := by decide +kernel
theorem dX10_count_185 : decode cX10_count 185 = .ok (.getfield 10, 3) := by decide +kernel
theorem dX10_count_188 : decode cX10_count 188 = .ok (.getfield 115, 3) := by decide +kernel
theorem dX10_count_191 : decode cX10_count 191 = .ok (.iconst 2, 1) := by decide +kernel
theorem dX10_count_192 : decode cX10_count 192 = .ok (.invokevirtual 213, 3) := by decide +kernel
theorem dX10_count_195 : decode cX10_count 195 = .ok (.ireturn, 1) := by decide +kernel
theorem dX10_count_196 : decode cX10_count 196 = .ok (.aload_n 0, 1) := by decide +kernel
theorem dX10_count_197 : decode cX10_count 197 = .ok (.getfield 10, 3) := by decide +kernel
theorem dX10_count_200 : decode cX10_count 200 = .ok (.getfield 115, 3) := by decide +kernel
theorem dX10_count_203 : decode cX10_count 203 = .ok (.iconst 3, 1) := by decide +kernel
theorem dX10_count_204 : decode cX10_count 204 = .ok (.invokevirtual 213, 3) := by decide +kernel
theorem dX10_count_207 : decode cX10_count 207 = .ok (.ireturn, 1) := by decide +kernel
theorem dX10_count_208 : decode cX10_count 208 = .ok (.aload_n 0, 1) := by decide +kernel
theorem dX10_count_209 : decode cX10_count 209 = .ok (.getfield 10, 3) := by decide +kernel
theorem dX10_count_212 : decode cX10_count 212 = .ok (.getfield 115, 3) := by decide +kernel
theorem dX10_count_215 : decode cX10_count 215 = .ok (.invokevirtual 216, 3) := by decide +kernel
theorem dX10_count_218 : decode cX10_count 218 = .ok (.ireturn, 1) := by decide +kernel
theorem dX10_count_219 : decode cX10_count 219 = .ok (.aload_n 0, 1) := by decide +kernel
theorem dX10_count_220 : decode cX10_count 220 = .ok (.getfield 10, 3) := by decide +kernel
theorem dX10_count_223 : decode cX10_count 223 = .ok (.getfield 98, 3) := by decide +kernel
theorem dX10_count_226 : decode cX10_count 226 = .ok (.invokevirtual 219, 3) := by decide +kernel
theorem dX10_count_229 : decode cX10_count 229 = .ok (.ireturn, 1) := by decide +kernel
theorem dX10_count_230 : decode cX10_count 230 = .ok (.aload_n 0, 1) := by decide +kernel
theorem dX10_count_231 : decode cX10_count 231 = .ok (.getfield 10, 3) := by decide +kernel
theorem dX10_count_234 : decode cX10_count 234 = .ok (.getfield 153, 3) := by decide +kernel
theorem dX10_count_237 : decode cX10_count 237 = .ok (.invokevirtual 222, 3) := by decide +kernel
theorem dX10_count_240 : decode cX10_count 240 = .ok (.ireturn, 1) := by decide +kernel
theorem dX10_count_241 : decode cX10_count 241 = .ok (.aload_n 0, 1) := by decide +kernel
theorem dX10_count_242 : decode cX10_count 242 = .ok (.getfield 10, 3) := by decide +kernel
theorem dX10_count_245 : decode cX10_count 245 = .ok (.invokevirtual 225, 3) := by decide +kernel
theorem dX10_count_248 : decode cX10_count 248 = .ok (.ireturn, 1) := by decide +kernel
theorem dX10_count_249 : decode cX10_count 249 = .ok (.aload_n 0, 1) := by decide +kernel
theorem dX10_count_250 : decode cX10_count 250 = .ok (.getfield 25, 3) := by decide +kernel
theorem dX10_count_253 : decode cX10_count 253 = .ok (.getfield 228, 3) := by decide +kernel
theorem dX10_count_256 : decode cX10_count 256 = .ok (.ireturn, 1) := by decide +kernel
theorem dX10_count_257 : decode cX10_count 257 = .ok (.aload_n 0, 1) := by decide +kernel
theorem dX10_count_258 : decode cX10_count 258 = .ok (.getfield 39, 3) := by decide +kernel
theorem dX10_count_261 : decode cX10_count 261 = .ok (.getfield 229, 3) := by decide +kernel
theorem dX10_count_264 : decode cX10_count 264 = .ok (.ireturn, 1) := by decide +kernel
theorem dX10_count_265 : decode cX10_count 265 = .ok (.aload_n 0, 1) := by decide +kernel
theorem dX10_count_266 : decode cX10_count 266 = .ok (.getfield 232, 3) := by decide +kernel
theorem dX10_count_269 : decode cX10_count 269 = .ok (.ifCond .eq 7, 3) := by decide +kernel
theorem dX10_count_272 : decode cX10_count 272 = .ok (.iconst 1, 1) := by decide +kernel
theorem dX10_count_273 : decode cX10_count 273 = .ok (.goto 4, 3) := by decide +kernel
theorem dX10_count_276 : decode cX10_count 276 = .ok (.iconst 0, 1) := by decide +kernel
theorem dX10_count_277 : decode cX10_count 277 = .ok (.ireturn, 1) := by decide +kernel
theorem dX10_count_278 : decode cX10_count 278 = .ok (.iconst (-1), 1) := by decide +kernel
theorem dX10_count_279 : decode cX10_count 279 = .ok (.ireturn, 1) := by decide +kernel
set_option maxRecDepth 20000 in
theorem ggX10_move_X2_findMove : GoodIn wsX10_move wsX2_findMove := goodIn_r _ [10, 11, 12, 13, 14, 15, 16, 17, 18, 19, 20, 21, 22, 23, 24, 25, 26, 27, 28, 29, 30, 31, 32, 33, 34, 35, 36, 37, 38, 39, 40, 41, 42, 43, 44, 45, 46, 9, 47, 48, 49, 50, 51, 52, 53, 54, 55, 56, 57, 58, 59, 60, 61, 62, 63, 64, 65, 66, 67, 68, 69, 77, 78, 79, 80, 81, 82, 83, 84, 85, 86, 87, 88, 89, 90, 91, 92, 93, 94, 95, 96, 97, 98, 99, 100] (by decide +kernel) (by decide +kernel)
set_option maxRecDepth 20000 in
theorem gX10_move_X2_findMove : GoodIn wsX10_move (wsV RX10 236 RX2 yX2_findMove wsX2_findMove) := goodIn_app (goodIn_of _ (by decide +kernel)) ggX10_move_X2_findMove
theorem dX10_move_0 : decode cX10_move 0 = .ok (.iload_n 1, 1) := by decide +kernel
theorem dX10_move_1 : decode cX10_move 1 = .ok (.ifCond .lt 8, 3) := by decide +kernel
theorem dX10_move_4 : decode cX10_move 4 = .ok (.iload_n 1, 1) := by decide +kernel
theorem dX10_move_5 : decode cX10_move 5 = .ok (.iconst 2, 1) := by decide +kernel
theorem dX10_move_6 : decode cX10_move 6 = .ok (.if_icmp .le 5, 3) := by decide +kernel
theorem dX10_move_9 : decode cX10_move 9 = .ok (.iconst (-1), 1) := by decide +kernel
theorem dX10_move_10 : decode cX10_move 10 = .ok (.ireturn, 1) := by decide +kernel
theorem dX10_move_11 : decode cX10_move 11 = .ok (.aload_n 0, 1) := by decide +kernel
theorem dX10_move_12 : decode cX10_move 12 = .ok (.getfield 32, 3) := by decide +kernel
theorem dX10_move_15 : decode cX10_move 15 = .ok (.aload_n 0, 1) := by decide +kernel
theorem dX10_move_16 : decode cX10_move 16 = .ok (.getfield 10, 3) := by decide +kernel
theorem dX10_move_19 : decode cX10_move 19 = .ok (.invokevirtual 236, 3) := by decide +kernel
theorem dX10_move_22 : decode cX10_move 22 = .ok (.ifCond .ne 6, 3) := by decide +kernel
theorem dX10_move_25 : decode cX10_move 25 = .ok (.bipush (-4), 2) := by decide +kernel
theorem dX10_move_27 : decode cX10_move 27 = .ok (.ireturn, 1) := by decide +kernel
theorem dX10_move_28 : decode cX10_move 28 = .ok (.iload_n 1, 1) := by decide +kernel
theorem dX10_move_29 : decode cX10_move 29 = .ok (.lookupswitch 43 #[(0, 27), (1, 35)], 27) := by decide +kernel
theorem dX10_move_56 : decode cX10_move 56 = .ok (.aload_n 0, 1) := by decide +kernel
theorem dX10_move_57 : decode cX10_move 57 = .ok (.getfield 32, 3) := by decide +kernel
theorem dX10_move_60 : decode cX10_move 60 = .ok (.getfield 240, 3) := by decide +kernel
theorem dX10_move_63 : decode cX10_move 63 = .ok (.ireturn, 1) := by decide +kernel
theorem dX10_move_64 : decode cX10_move 64 = .ok (.aload_n 0, 1) := by decide +kernel
theorem dX10_move_65 : decode cX10_move 65 = .ok (.getfield 32, 3) := by decide +kernel
theorem dX10_move_68 : decode cX10_move 68 = .ok (.getfield 243, 3) := by decide +kernel
theorem dX10_move_71 : decode cX10_move 71 = .ok (.ireturn, 1) := by decide +kernel
theorem dX10_move_72 : decode cX10_move 72 = .ok (.aload_n 0, 1) := by decide +kernel
theorem dX10_move_73 : decode cX10_move 73 = .ok (.getfield 32, 3) := by decide +kernel
theorem dX10_move_76 : decode cX10_move 76 = .ok (.getfield 246, 3) := by decide +kernel
theorem dX10_move_79 : decode cX10_move 79 = .ok (.ireturn, 1) := by decide +kernel
set_option maxRecDepth 20000 in
theorem ggX10_evening_X2_leastWay : GoodIn wsX10_evening wsX2_leastWay := goodIn_r _ [9, 10, 11, 12, 13, 14, 15, 16, 17, 18, 19, 20, 8, 21, 22, 23, 24, 25, 26, 27, 28, 29, 30, 31, 32, 33, 34, 35, 36, 37, 38, 39, 40, 41, 42, 43, 44, 45, 46, 47, 48, 49, 50, 51, 52, 53, 61, 62, 63, 64, 65, 66, 67, 68, 69, 70, 71, 72, 73, 74, 75, 76, 77, 78, 79, 80, 81, 82, 83, 84] (by decide +kernel) (by decide +kernel)
set_option maxRecDepth 20000 in
theorem gX10_evening_X2_leastWay : GoodIn wsX10_evening (wsV RX10 249 RX2 yX2_leastWay wsX2_leastWay) := goodIn_app (goodIn_of _ (by decide +kernel)) ggX10_evening_X2_leastWay
theorem dX10_evening_0 : decode cX10_evening 0 = .ok (.aload_n 0, 1) := by decide +kernel
theorem dX10_evening_1 : decode cX10_evening 1 = .ok (.getfield 10, 3) := by decide +kernel
theorem dX10_evening_4 : decode cX10_evening 4 = .ok (.getfield 98, 3) := by decide +kernel
theorem dX10_evening_7 : decode cX10_evening 7 = .ok (.getfield 207, 3) := by decide +kernel
theorem dX10_evening_10 : decode cX10_evening 10 = .ok (.ifCond .ne 8, 3) := by decide +kernel
theorem dX10_evening_13 : decode cX10_evening 13 = .ok (.bipush (-4), 2) := by decide +kernel
theorem dX10_evening_15 : decode cX10_evening 15 = .ok (.goto 14, 3) := by decide +kernel
theorem dX10_evening_18 : decode cX10_evening 18 = .ok (.aload_n 0, 1) := by decide +kernel
theorem dX10_evening_19 : decode cX10_evening 19 = .ok (.getfield 32, 3) := by decide +kernel
theorem dX10_evening_22 : decode cX10_evening 22 = .ok (.aload_n 0, 1) := by decide +kernel
theorem dX10_evening_23 : decode cX10_evening 23 = .ok (.getfield 10, 3) := by decide +kernel
theorem dX10_evening_26 : decode cX10_evening 26 = .ok (.invokevirtual 249, 3) := by decide +kernel
theorem dX10_evening_29 : decode cX10_evening 29 = .ok (.ireturn, 1) := by decide +kernel
set_option maxRecDepth 20000 in
theorem ggX10_keep_X5_copy : GoodIn wsX10_keep wsX5_copy := goodIn_r _ [9, 10, 11, 12, 13, 14, 15, 16, 17, 18, 19, 20, 21, 22, 23, 24, 25, 26, 27, 28, 29, 30, 31, 32, 33, 34, 35, 36, 37, 38, 39, 40, 41, 42, 43, 44, 45, 46, 47, 48, 49, 50, 51, 52, 53, 54, 55, 56, 57, 58, 59, 60, 61, 62, 63, 64, 65, 66, 67, 68, 69, 77, 78, 79, 80, 81, 82, 83, 84, 85, 86, 87, 88, 89, 90, 91, 92, 93, 94, 95, 96, 97, 98, 99, 100, 101, 102, 103, 104, 105, 106, 107, 108] (by decide +kernel) (by decide +kernel)
set_option maxRecDepth 20000 in
theorem gX10_keep_X5_copy : GoodIn wsX10_keep (wsV RX10 253 RX5 yX5_copy wsX5_copy) := goodIn_app (goodIn_of _ (by decide +kernel)) ggX10_keep_X5_copy
theorem dX10_keep_0 : decode cX10_keep 0 = .ok (.aload_n 0, 1) := by decide +kernel
theorem dX10_keep_1 : decode cX10_keep 1 = .ok (.getfield 19, 3) := by decide +kernel
theorem dX10_keep_4 : decode cX10_keep 4 = .ok (.aload_n 0, 1) := by decide +kernel
theorem dX10_keep_5 : decode cX10_keep 5 = .ok (.getfield 10, 3) := by decide +kernel
theorem dX10_keep_8 : decode cX10_keep 8 = .ok (.invokevirtual 253, 3) := by decide +kernel
theorem dX10_keep_11 : decode cX10_keep 11 = .ok (.aload_n 0, 1) := by decide +kernel
theorem dX10_keep_12 : decode cX10_keep 12 = .ok (.iconst 1, 1) := by decide +kernel
theorem dX10_keep_13 : decode cX10_keep 13 = .ok (.putfield 232, 3) := by decide +kernel
theorem dX10_keep_16 : decode cX10_keep 16 = .ok (.aload_n 0, 1) := by decide +kernel
theorem dX10_keep_17 : decode cX10_keep 17 = .ok (.getfield 10, 3) := by decide +kernel
theorem dX10_keep_20 : decode cX10_keep 20 = .ok (.getfield 172, 3) := by decide +kernel
theorem dX10_keep_23 : decode cX10_keep 23 = .ok (.ireturn, 1) := by decide +kernel
set_option maxRecDepth 20000 in
theorem ggX10_restore_X5_copy : GoodIn wsX10_restore wsX5_copy := goodIn_r _ [9, 10, 11, 12, 13, 14, 15, 16, 17, 18, 19, 20, 21, 22, 23, 24, 25, 26, 27, 28, 29, 30, 31, 32, 33, 34, 35, 36, 37, 38, 39, 40, 41, 42, 43, 44, 45, 46, 47, 48, 49, 50, 51, 52, 53, 54, 55, 56, 57, 58, 59, 60, 61, 62, 63, 64, 65, 66, 67, 68, 69, 93, 94, 95, 96, 97, 98, 99, 100, 101, 102, 103, 104, 105, 106, 107, 108, 109, 110, 111, 112, 113, 114, 115, 116, 117, 118, 119, 120, 121, 122, 123, 124] (by decide +kernel) (by decide +kernel)
set_option maxRecDepth 20000 in
theorem gX10_restore_X5_copy : GoodIn wsX10_restore (wsV RX10 253 RX5 yX5_copy wsX5_copy) := goodIn_app (goodIn_of _ (by decide +kernel)) ggX10_restore_X5_copy
set_option maxRecDepth 20000 in
theorem ggX10_restore_X10_settle : GoodIn wsX10_restore wsX10_settle := goodIn_r _ [74, 75, 76, 2, 77, 78, 79, 80, 81, 82, 83, 84, 85, 6, 7, 8, 9, 10, 11, 12, 13, 14, 15, 16, 17, 18, 19, 20, 21, 22, 23, 24, 25, 26, 27, 28, 29, 30, 31, 32, 33, 34, 35, 36, 37, 38, 39, 40, 41, 42, 43, 44, 45, 46, 47, 48, 49, 50, 51, 52, 53, 54, 55, 56, 57, 58, 59, 60, 61, 62, 63, 64, 65, 66, 67, 68, 69, 5, 86, 87, 88, 89, 90, 91, 92, 125, 126, 127, 93, 94, 95, 96, 97, 98, 99, 100, 101, 102, 103, 104, 105, 106, 107, 108, 109, 110, 111, 112, 113, 114, 115, 116, 117, 118, 119, 120, 121, 122, 123, 124] (by decide +kernel) (by decide +kernel)
set_option maxRecDepth 20000 in
theorem gX10_restore_X10_settle : GoodIn wsX10_restore (wsV RX10 51 RX10 yX10_settle wsX10_settle) := goodIn_app (goodIn_of _ (by decide +kernel)) ggX10_restore_X10_settle
theorem dX10_restore_0 : decode cX10_restore 0 = .ok (.aload_n 0, 1) := by decide +kernel
theorem dX10_restore_1 : decode cX10_restore 1 = .ok (.getfield 232, 3) := by decide +kernel
theorem dX10_restore_4 : decode cX10_restore 4 = .ok (.ifCond .ne 6, 3) := by decide +kernel
theorem dX10_restore_7 : decode cX10_restore 7 = .ok (.bipush (-2), 2) := by decide +kernel
theorem dX10_restore_9 : decode cX10_restore 9 = .ok (.ireturn, 1) := by decide +kernel
theorem dX10_restore_10 : decode cX10_restore 10 = .ok (.aload_n 0, 1) := by decide +kernel
theorem dX10_restore_11 : decode cX10_restore 11 = .ok (.getfield 16, 3) := by decide +kernel
theorem dX10_restore_14 : decode cX10_restore 14 = .ok (.aload_n 0, 1) := by decide +kernel
theorem dX10_restore_15 : decode cX10_restore 15 = .ok (.getfield 19, 3) := by decide +kernel
theorem dX10_restore_18 : decode cX10_restore 18 = .ok (.invokevirtual 253, 3) := by decide +kernel
theorem dX10_restore_21 : decode cX10_restore 21 = .ok (.aload_n 0, 1) := by decide +kernel
theorem dX10_restore_22 : decode cX10_restore 22 = .ok (.aload_n 0, 1) := by decide +kernel
theorem dX10_restore_23 : decode cX10_restore 23 = .ok (.getfield 16, 3) := by decide +kernel
theorem dX10_restore_26 : decode cX10_restore 26 = .ok (.getfield 172, 3) := by decide +kernel
theorem dX10_restore_29 : decode cX10_restore 29 = .ok (.invokevirtual 51, 3) := by decide +kernel
theorem dX10_restore_32 : decode cX10_restore 32 = .ok (.ireturn, 1) := by decide +kernel
set_option maxRecDepth 20000 in
theorem ggX10_undo_X3_takeLatest : GoodIn wsX10_undo wsX3_takeLatest := goodIn_r _ [8, 9, 10, 11, 12, 13, 14, 15, 16, 17, 18, 19, 20, 21, 22, 23, 24, 25, 26, 27, 28, 29, 30, 31, 32, 33, 34, 35, 36, 37, 38, 39, 40, 41, 42, 43, 44, 45, 46, 47, 48, 49, 50, 51, 52, 53, 54, 55, 56, 57, 58, 59, 60, 61, 62, 63, 64, 65, 66, 67, 68, 69, 70, 71, 72, 73, 74, 75, 76, 84, 85, 86, 87, 88, 89, 90, 91, 92, 93, 94, 95, 96, 97, 98, 99, 100, 101, 102, 103, 104, 105, 106, 107, 108, 109, 110, 111, 112, 113, 114, 115, 116, 117, 118] (by decide +kernel) (by decide +kernel)
set_option maxRecDepth 20000 in
theorem gX10_undo_X3_takeLatest : GoodIn wsX10_undo (wsV RX10 257 RX3 yX3_takeLatest wsX3_takeLatest) := goodIn_app (goodIn_of _ (by decide +kernel)) ggX10_undo_X3_takeLatest
theorem dX10_undo_0 : decode cX10_undo 0 = .ok (.aload_n 0, 1) := by decide +kernel
theorem dX10_undo_1 : decode cX10_undo 1 = .ok (.getfield 25, 3) := by decide +kernel
theorem dX10_undo_4 : decode cX10_undo 4 = .ok (.aload_n 0, 1) := by decide +kernel
theorem dX10_undo_5 : decode cX10_undo 5 = .ok (.getfield 10, 3) := by decide +kernel
theorem dX10_undo_8 : decode cX10_undo 8 = .ok (.invokevirtual 257, 3) := by decide +kernel
theorem dX10_undo_11 : decode cX10_undo 11 = .ok (.ifCond .eq 13, 3) := by decide +kernel
theorem dX10_undo_14 : decode cX10_undo 14 = .ok (.aload_n 0, 1) := by decide +kernel
theorem dX10_undo_15 : decode cX10_undo 15 = .ok (.getfield 25, 3) := by decide +kernel
theorem dX10_undo_18 : decode cX10_undo 18 = .ok (.getfield 228, 3) := by decide +kernel
theorem dX10_undo_21 : decode cX10_undo 21 = .ok (.goto 5, 3) := by decide +kernel
theorem dX10_undo_24 : decode cX10_undo 24 = .ok (.bipush (-2), 2) := by decide +kernel
theorem dX10_undo_26 : decode cX10_undo 26 = .ok (.ireturn, 1) := by decide +kernel
set_option maxRecDepth 20000 in
theorem ggX10_type_X7_append : GoodIn wsX10_type wsX7_append := goodIn_r _ [6, 7, 8, 16, 17, 18, 19, 20, 21, 22, 23, 24] (by decide +kernel) (by decide +kernel)
set_option maxRecDepth 20000 in
theorem gX10_type_X7_append : GoodIn wsX10_type (wsV RX10 260 RX7 yX7_append wsX7_append) := goodIn_app (goodIn_of _ (by decide +kernel)) ggX10_type_X7_append
theorem dX10_type_0 : decode cX10_type 0 = .ok (.aload_n 0, 1) := by decide +kernel
theorem dX10_type_1 : decode cX10_type 1 = .ok (.getfield 39, 3) := by decide +kernel
theorem dX10_type_4 : decode cX10_type 4 = .ok (.iload_n 1, 1) := by decide +kernel
theorem dX10_type_5 : decode cX10_type 5 = .ok (.invokevirtual 260, 3) := by decide +kernel
theorem dX10_type_8 : decode cX10_type 8 = .ok (.ireturn, 1) := by decide +kernel
set_option maxRecDepth 20000 in
theorem ggX10_clearText_X7_empty : GoodIn wsX10_clearText wsX7_empty := goodIn_r _ [6, 7, 15, 16, 17, 18, 19, 20, 21, 22, 23] (by decide +kernel) (by decide +kernel)
set_option maxRecDepth 20000 in
theorem gX10_clearText_X7_empty : GoodIn wsX10_clearText (wsV RX10 263 RX7 yX7_empty wsX7_empty) := goodIn_app (goodIn_of _ (by decide +kernel)) ggX10_clearText_X7_empty
theorem dX10_clearText_0 : decode cX10_clearText 0 = .ok (.aload_n 0, 1) := by decide +kernel
theorem dX10_clearText_1 : decode cX10_clearText 1 = .ok (.getfield 39, 3) := by decide +kernel
theorem dX10_clearText_4 : decode cX10_clearText 4 = .ok (.invokevirtual 263, 3) := by decide +kernel
theorem dX10_clearText_7 : decode cX10_clearText 7 = .ok (.ireturn, 1) := by decide +kernel
set_option maxRecDepth 20000 in
theorem ggX10_fault_X10_freshDraft : GoodIn wsX10_fault wsX10_freshDraft := goodIn_r _ [6, 7, 8, 9, 10, 11, 12, 13, 14, 15, 16, 17, 18, 19, 20, 21, 22, 23, 24, 25, 26, 27, 28, 29, 30, 31, 32, 33, 34, 35, 36, 37, 38, 39, 40, 41, 42, 43, 44, 45, 46, 47, 48, 49, 50, 51, 52, 53, 54, 55, 56, 57, 58, 59, 60, 61, 62, 63, 64, 65, 66, 67, 68, 69, 70, 71, 72, 73, 348, 349, 350, 351, 352, 353, 354, 355, 356, 357, 358, 359, 360, 361, 362, 363, 364, 365, 366, 367, 368, 369, 370, 371, 372, 373, 374, 375, 376, 377, 378, 379, 380, 381, 382, 383, 384, 385, 386] (by decide +kernel) (by decide +kernel)
set_option maxRecDepth 20000 in
theorem gX10_fault_X10_freshDraft : GoodIn wsX10_fault (wsV RX10 43 RX10 yX10_freshDraft wsX10_freshDraft) := goodIn_app (goodIn_of _ (by decide +kernel)) ggX10_fault_X10_freshDraft
set_option maxRecDepth 20000 in
theorem ggX10_fault_X7_tryOn : GoodIn wsX10_fault wsX7_tryOn := goodIn_r _ [78, 79, 80, 81, 82, 83, 84, 85, 86, 87, 88, 77, 89, 90, 91, 92, 93, 94, 95, 96, 97, 98, 99, 100, 101, 102, 103, 104, 105, 106, 107, 108, 109, 110, 111, 112, 113, 114, 115, 116, 117, 118, 119, 120, 121, 122, 123, 124, 125, 126, 127, 128, 129, 130, 131, 132, 133, 134, 135, 136, 137, 138, 139, 140, 141, 142, 143, 144, 145, 146, 147, 148, 149, 150, 151, 152, 153, 154, 155, 156, 157, 158, 159, 160, 161, 162, 163, 164, 165, 166, 167, 168, 169, 170, 171, 172, 173, 174, 175, 176, 177, 178, 179, 180, 181, 182, 183, 184, 185, 186, 12, 187, 16, 14, 15, 23, 188, 189, 190, 191, 18, 192, 193, 194, 195, 196, 197, 51, 198, 53, 199, 200, 201, 27, 202, 29, 203, 204, 205, 38, 206, 40, 45, 44, 207, 208, 209, 210, 41, 43, 211, 212, 213, 214, 215, 216, 217, 218, 59, 219, 220, 221, 222, 223, 224, 225, 226, 227, 228, 229, 230, 231, 232, 233, 234, 235, 236, 237, 238, 239, 240, 241, 242, 243, 244, 245, 246, 247, 248, 249, 250, 61, 251, 252, 253, 254, 62, 255, 256, 257, 258, 259, 60, 260, 261, 262, 263, 264, 265, 266, 267, 268, 269, 270, 271, 272, 273, 274, 275, 276, 277, 278, 17, 279, 280, 281, 282, 283, 67, 284, 69, 285, 286, 287, 288, 289, 290, 291, 292, 293, 294, 295, 296, 297, 298, 299, 300, 301, 302, 303, 304, 305, 306, 30, 307, 308, 309, 310, 311, 312, 313, 314, 315, 316, 317, 318, 319, 320, 321, 322, 323, 324, 325, 326, 327, 328, 329, 330, 331, 332, 333, 334, 47, 335, 336, 337, 338, 339, 340, 341, 342, 343, 387, 388, 389, 390, 391, 392, 393, 394, 395, 355, 356, 357, 358, 359, 360, 373, 374, 375, 376, 377, 378, 379, 380, 381, 382, 361, 362, 363, 364, 365, 366, 367, 368, 369, 370, 371, 372, 383, 384, 385, 386] (by decide +kernel) (by decide +kernel)
set_option maxRecDepth 20000 in
theorem gX10_fault_X7_tryOn : GoodIn wsX10_fault (wsV RX10 266 RX7 yX7_tryOn wsX7_tryOn) := goodIn_app (goodIn_of _ (by decide +kernel)) ggX10_fault_X7_tryOn
set_option maxRecDepth 20000 in
theorem ggX10_fault_X7_aboutFault : GoodIn wsX10_fault wsX7_aboutFault := goodIn_r _ [347, 84, 79, 85, 86, 87, 88, 77, 89, 387, 388, 389, 390, 391, 392, 393, 394, 395] (by decide +kernel) (by decide +kernel)
set_option maxRecDepth 20000 in
theorem gX10_fault_X7_aboutFault : GoodIn wsX10_fault (wsV RX10 269 RX7 yX7_aboutFault wsX7_aboutFault) := goodIn_app (goodIn_of _ (by decide +kernel)) ggX10_fault_X7_aboutFault
theorem dX10_fault_0 : decode cX10_fault 0 = .ok (.iload_n 1, 1) := by decide +kernel
theorem dX10_fault_1 : decode cX10_fault 1 = .ok (.ifCond .lt 8, 3) := by decide +kernel
theorem dX10_fault_4 : decode cX10_fault 4 = .ok (.iload_n 1, 1) := by decide +kernel
theorem dX10_fault_5 : decode cX10_fault 5 = .ok (.iconst 2, 1) := by decide +kernel
theorem dX10_fault_6 : decode cX10_fault 6 = .ok (.if_icmp .le 5, 3) := by decide +kernel
theorem dX10_fault_9 : decode cX10_fault 9 = .ok (.iconst (-1), 1) := by decide +kernel
theorem dX10_fault_10 : decode cX10_fault 10 = .ok (.ireturn, 1) := by decide +kernel
theorem dX10_fault_11 : decode cX10_fault 11 = .ok (.aload_n 0, 1) := by decide +kernel
theorem dX10_fault_12 : decode cX10_fault 12 = .ok (.getfield 39, 3) := by decide +kernel
theorem dX10_fault_15 : decode cX10_fault 15 = .ok (.aload_n 0, 1) := by decide +kernel
theorem dX10_fault_16 : decode cX10_fault 16 = .ok (.invokevirtual 43, 3) := by decide +kernel
theorem dX10_fault_19 : decode cX10_fault 19 = .ok (.invokevirtual 266, 3) := by decide +kernel
theorem dX10_fault_22 : decode cX10_fault 22 = .ok (.aload_n 0, 1) := by decide +kernel
theorem dX10_fault_23 : decode cX10_fault 23 = .ok (.getfield 39, 3) := by decide +kernel
theorem dX10_fault_26 : decode cX10_fault 26 = .ok (.iload_n 1, 1) := by decide +kernel
theorem dX10_fault_27 : decode cX10_fault 27 = .ok (.invokevirtual 269, 3) := by decide +kernel
theorem dX10_fault_30 : decode cX10_fault 30 = .ok (.ireturn, 1) := by decide +kernel
set_option maxRecDepth 20000 in
theorem ggX10_play_X10_freshDraft : GoodIn wsX10_play wsX10_freshDraft := goodIn_r _ [7, 8, 9, 10, 11, 12, 13, 14, 15, 16, 17, 18, 19, 20, 21, 22, 23, 24, 25, 26, 27, 28, 29, 30, 31, 32, 33, 34, 35, 36, 37, 38, 39, 40, 41, 42, 43, 44, 45, 46, 47, 48, 49, 50, 51, 52, 53, 54, 55, 56, 57, 58, 59, 60, 61, 62, 63, 64, 65, 66, 67, 68, 69, 70, 71, 72, 73, 74, 360, 361, 362, 363, 364, 365, 366, 376, 377, 378, 379, 380, 381, 382, 383, 384, 385, 386, 387, 388, 389, 390, 391, 392, 393, 394, 395, 396, 397, 398, 399, 400, 401, 402, 403, 404, 405, 406, 407] (by decide +kernel) (by decide +kernel)
set_option maxRecDepth 20000 in
theorem gX10_play_X10_freshDraft : GoodIn wsX10_play (wsV RX10 43 RX10 yX10_freshDraft wsX10_freshDraft) := goodIn_app (goodIn_of _ (by decide +kernel)) ggX10_play_X10_freshDraft
set_option maxRecDepth 20000 in
theorem ggX10_play_X7_tryOn : GoodIn wsX10_play wsX7_tryOn := goodIn_r _ [79, 80, 81, 82, 83, 84, 85, 86, 87, 88, 89, 78, 90, 91, 92, 93, 94, 95, 96, 97, 98, 99, 100, 101, 102, 103, 104, 105, 106, 107, 108, 109, 110, 111, 112, 113, 114, 115, 116, 117, 118, 119, 120, 121, 122, 123, 124, 125, 126, 127, 128, 129, 130, 131, 132, 133, 134, 135, 136, 137, 138, 139, 140, 141, 142, 143, 144, 145, 146, 147, 148, 149, 150, 151, 152, 153, 154, 155, 156, 157, 158, 159, 160, 161, 162, 163, 164, 165, 166, 167, 168, 169, 170, 171, 172, 173, 174, 175, 176, 177, 178, 179, 180, 181, 182, 183, 184, 185, 186, 187, 13, 188, 17, 15, 16, 24, 189, 190, 191, 192, 19, 193, 194, 195, 196, 197, 198, 52, 199, 54, 200, 201, 202, 28, 203, 30, 204, 205, 206, 39, 207, 41, 46, 45, 208, 209, 210, 211, 42, 44, 212, 213, 214, 215, 216, 217, 218, 219, 60, 220, 221, 222, 223, 224, 225, 226, 227, 228, 229, 230, 231, 232, 233, 234, 235, 236, 237, 238, 239, 240, 241, 242, 243, 244, 245, 246, 247, 248, 249, 250, 251, 62, 252, 253, 254, 255, 63, 256, 257, 258, 259, 260, 61, 261, 262, 263, 264, 265, 266, 267, 268, 269, 270, 271, 272, 273, 274, 275, 276, 277, 278, 279, 18, 280, 281, 282, 283, 284, 68, 285, 70, 286, 287, 288, 289, 290, 291, 292, 293, 294, 295, 296, 297, 298, 299, 300, 301, 302, 303, 304, 305, 306, 307, 31, 308, 309, 310, 311, 312, 313, 314, 315, 316, 317, 318, 319, 320, 321, 322, 323, 324, 325, 326, 327, 328, 329, 330, 331, 332, 333, 334, 335, 48, 336, 337, 338, 339, 340, 341, 342, 343, 344, 367, 368, 369, 370, 371, 372, 373, 374, 375, 376, 377, 378, 379, 380, 381, 394, 395, 396, 397, 398, 399, 400, 401, 402, 403, 382, 383, 384, 385, 386, 387, 388, 389, 390, 391, 392, 393, 404, 405, 406, 407] (by decide +kernel) (by decide +kernel)
set_option maxRecDepth 20000 in
theorem gX10_play_X7_tryOn : GoodIn wsX10_play (wsV RX10 266 RX7 yX7_tryOn wsX7_tryOn) := goodIn_app (goodIn_of _ (by decide +kernel)) ggX10_play_X7_tryOn
set_option maxRecDepth 20000 in
theorem ggX10_play_X7_hasFault : GoodIn wsX10_play wsX7_hasFault := goodIn_r _ [90, 80, 367, 368, 369, 370, 371, 372, 373, 374, 375] (by decide +kernel) (by decide +kernel)
set_option maxRecDepth 20000 in
theorem gX10_play_X7_hasFault : GoodIn wsX10_play (wsV RX10 272 RX7 yX7_hasFault wsX7_hasFault) := goodIn_app (goodIn_of _ (by decide +kernel)) ggX10_play_X7_hasFault
set_option maxRecDepth 20000 in
theorem ggX10_play_X10_settle : GoodIn wsX10_play wsX10_settle := goodIn_r _ [349, 350, 9, 8, 351, 352, 353, 354, 355, 356, 357, 358, 359, 11, 12, 13, 14, 15, 16, 17, 18, 19, 20, 21, 22, 23, 24, 25, 26, 27, 28, 29, 30, 31, 32, 33, 34, 35, 36, 37, 38, 39, 40, 41, 42, 43, 44, 45, 46, 47, 48, 49, 50, 51, 52, 53, 54, 55, 56, 57, 58, 59, 60, 61, 62, 63, 64, 65, 66, 67, 68, 69, 70, 71, 72, 73, 74, 10, 360, 361, 362, 363, 364, 365, 366, 408, 409, 410, 376, 377, 378, 379, 380, 381, 382, 383, 384, 385, 386, 387, 388, 389, 390, 391, 392, 393, 394, 395, 396, 397, 398, 399, 400, 401, 402, 403, 404, 405, 406, 407] (by decide +kernel) (by decide +kernel)
set_option maxRecDepth 20000 in
theorem gX10_play_X10_settle : GoodIn wsX10_play (wsV RX10 51 RX10 yX10_settle wsX10_settle) := goodIn_app (goodIn_of _ (by decide +kernel)) ggX10_play_X10_settle
theorem dX10_play_0 : decode cX10_play 0 = .ok (.aload_n 0, 1) := by decide +kernel
theorem dX10_play_1 : decode cX10_play 1 = .ok (.getfield 39, 3) := by decide +kernel
theorem dX10_play_4 : decode cX10_play 4 = .ok (.aload_n 0, 1) := by decide +kernel
theorem dX10_play_5 : decode cX10_play 5 = .ok (.invokevirtual 43, 3) := by decide +kernel
theorem dX10_play_8 : decode cX10_play 8 = .ok (.invokevirtual 266, 3) := by decide +kernel
theorem dX10_play_11 : decode cX10_play 11 = .ok (.aload_n 0, 1) := by decide +kernel
theorem dX10_play_12 : decode cX10_play 12 = .ok (.getfield 39, 3) := by decide +kernel
theorem dX10_play_15 : decode cX10_play 15 = .ok (.invokevirtual 272, 3) := by decide +kernel
theorem dX10_play_18 : decode cX10_play 18 = .ok (.ifCond .eq 8, 3) := by decide +kernel
theorem dX10_play_21 : decode cX10_play 21 = .ok (.bipush (-2), 2) := by decide +kernel
theorem dX10_play_23 : decode cX10_play 23 = .ok (.goto 14, 3) := by decide +kernel
theorem dX10_play_26 : decode cX10_play 26 = .ok (.aload_n 0, 1) := by decide +kernel
theorem dX10_play_27 : decode cX10_play 27 = .ok (.aload_n 0, 1) := by decide +kernel
theorem dX10_play_28 : decode cX10_play 28 = .ok (.getfield 39, 3) := by decide +kernel
theorem dX10_play_31 : decode cX10_play 31 = .ok (.getfield 276, 3) := by decide +kernel
theorem dX10_play_34 : decode cX10_play 34 = .ok (.invokevirtual 51, 3) := by decide +kernel
theorem dX10_play_37 : decode cX10_play 37 = .ok (.ireturn, 1) := by decide +kernel
set_option maxRecDepth 20000 in
theorem ggX10_rideOf_X4_rideMinutes : GoodIn wsX10_rideOf wsX4_rideMinutes := goodIn_r _ [10, 11, 12, 13, 14, 9, 15, 16, 46, 47, 48, 49, 50, 51, 52, 53, 54, 55] (by decide +kernel) (by decide +kernel)
set_option maxRecDepth 20000 in
theorem gX10_rideOf_X4_rideMinutes : GoodIn wsX10_rideOf (wsV RX10 282 RX4 yX4_rideMinutes wsX4_rideMinutes) := goodIn_app (goodIn_of _ (by decide +kernel)) ggX10_rideOf_X4_rideMinutes
set_option maxRecDepth 20000 in
theorem ggX10_rideOf_X4_fee : GoodIn wsX10_rideOf wsX4_fee := goodIn_r _ [20, 21, 22, 23, 24, 25, 26, 27, 28, 29, 9, 30, 31, 12, 13, 14, 15, 16, 32, 7, 8, 10, 11, 46, 47, 48, 49, 50, 51, 52, 53, 54, 55] (by decide +kernel) (by decide +kernel)
set_option maxRecDepth 20000 in
theorem gX10_rideOf_X4_fee : GoodIn wsX10_rideOf (wsV RX10 288 RX4 yX4_fee wsX4_fee) := goodIn_app (goodIn_of _ (by decide +kernel)) ggX10_rideOf_X4_fee
theorem dX10_rideOf_0 : decode cX10_rideOf 0 = .ok (.iload_n 2, 1) := by decide +kernel
theorem dX10_rideOf_1 : decode cX10_rideOf 1 = .ok (.tableswitch 72 2 4 #[27, 40, 59], 27) := by decide +kernel
theorem dX10_rideOf_28 : decode cX10_rideOf 28 = .ok (.aload_n 0, 1) := by decide +kernel
theorem dX10_rideOf_29 : decode cX10_rideOf 29 = .ok (.getfield 10, 3) := by decide +kernel
theorem dX10_rideOf_32 : decode cX10_rideOf 32 = .ok (.getfield 153, 3) := by decide +kernel
theorem dX10_rideOf_35 : decode cX10_rideOf 35 = .ok (.getfield 279, 3) := by decide +kernel
theorem dX10_rideOf_38 : decode cX10_rideOf 38 = .ok (.iload_n 1, 1) := by decide +kernel
theorem dX10_rideOf_39 : decode cX10_rideOf 39 = .ok (.iaload, 1) := by decide +kernel
theorem dX10_rideOf_40 : decode cX10_rideOf 40 = .ok (.ireturn, 1) := by decide +kernel
theorem dX10_rideOf_41 : decode cX10_rideOf 41 = .ok (.aload_n 0, 1) := by decide +kernel
theorem dX10_rideOf_42 : decode cX10_rideOf 42 = .ok (.getfield 10, 3) := by decide +kernel
theorem dX10_rideOf_45 : decode cX10_rideOf 45 = .ok (.getfield 153, 3) := by decide +kernel
theorem dX10_rideOf_48 : decode cX10_rideOf 48 = .ok (.iload_n 1, 1) := by decide +kernel
theorem dX10_rideOf_49 : decode cX10_rideOf 49 = .ok (.aload_n 0, 1) := by decide +kernel
theorem dX10_rideOf_50 : decode cX10_rideOf 50 = .ok (.getfield 10, 3) := by decide +kernel
theorem dX10_rideOf_53 : decode cX10_rideOf 53 = .ok (.getfield 172, 3) := by decide +kernel
theorem dX10_rideOf_56 : decode cX10_rideOf 56 = .ok (.invokevirtual 282, 3) := by decide +kernel
theorem dX10_rideOf_59 : decode cX10_rideOf 59 = .ok (.ireturn, 1) := by decide +kernel
theorem dX10_rideOf_60 : decode cX10_rideOf 60 = .ok (.aload_n 0, 1) := by decide +kernel
theorem dX10_rideOf_61 : decode cX10_rideOf 61 = .ok (.getfield 10, 3) := by decide +kernel
theorem dX10_rideOf_64 : decode cX10_rideOf 64 = .ok (.getfield 153, 3) := by decide +kernel
theorem dX10_rideOf_67 : decode cX10_rideOf 67 = .ok (.getfield 285, 3) := by decide +kernel
theorem dX10_rideOf_70 : decode cX10_rideOf 70 = .ok (.iload_n 1, 1) := by decide +kernel
theorem dX10_rideOf_71 : decode cX10_rideOf 71 = .ok (.iaload, 1) := by decide +kernel
theorem dX10_rideOf_72 : decode cX10_rideOf 72 = .ok (.ireturn, 1) := by decide +kernel
theorem dX10_rideOf_73 : decode cX10_rideOf 73 = .ok (.aload_n 0, 1) := by decide +kernel
theorem dX10_rideOf_74 : decode cX10_rideOf 74 = .ok (.getfield 10, 3) := by decide +kernel
theorem dX10_rideOf_77 : decode cX10_rideOf 77 = .ok (.getfield 153, 3) := by decide +kernel
theorem dX10_rideOf_80 : decode cX10_rideOf 80 = .ok (.iload_n 1, 1) := by decide +kernel
theorem dX10_rideOf_81 : decode cX10_rideOf 81 = .ok (.aload_n 0, 1) := by decide +kernel
theorem dX10_rideOf_82 : decode cX10_rideOf 82 = .ok (.getfield 10, 3) := by decide +kernel
theorem dX10_rideOf_85 : decode cX10_rideOf 85 = .ok (.getfield 172, 3) := by decide +kernel
theorem dX10_rideOf_88 : decode cX10_rideOf 88 = .ok (.invokevirtual 288, 3) := by decide +kernel
theorem dX10_rideOf_91 : decode cX10_rideOf 91 = .ok (.ireturn, 1) := by decide +kernel
set_option maxRecDepth 20000 in
theorem ggX10_freshDraft_X5_copy : GoodIn wsX10_freshDraft wsX5_copy := goodIn_r _ [7, 8, 9, 10, 11, 12, 13, 14, 15, 16, 17, 18, 19, 20, 21, 22, 23, 24, 25, 26, 27, 28, 29, 30, 31, 32, 33, 34, 35, 36, 37, 38, 39, 40, 41, 42, 43, 44, 45, 46, 47, 48, 49, 50, 51, 52, 53, 54, 55, 56, 57, 58, 59, 60, 61, 62, 63, 64, 65, 66, 67, 75, 76, 77, 78, 79, 80, 81, 82, 83, 84, 85, 86, 87, 88, 89, 90, 91, 92, 93, 94, 95, 96, 97, 98, 99, 100, 101, 102, 103, 104, 105, 106] (by decide +kernel) (by decide +kernel)
set_option maxRecDepth 20000 in
theorem gX10_freshDraft_X5_copy : GoodIn wsX10_freshDraft (wsV RX10 253 RX5 yX5_copy wsX5_copy) := goodIn_app (goodIn_of _ (by decide +kernel)) ggX10_freshDraft_X5_copy
theorem dX10_freshDraft_0 : decode cX10_freshDraft 0 = .ok (.aload_n 0, 1) := by decide +kernel
theorem dX10_freshDraft_1 : decode cX10_freshDraft 1 = .ok (.getfield 16, 3) := by decide +kernel
theorem dX10_freshDraft_4 : decode cX10_freshDraft 4 = .ok (.aload_n 0, 1) := by decide +kernel
theorem dX10_freshDraft_5 : decode cX10_freshDraft 5 = .ok (.getfield 10, 3) := by decide +kernel
theorem dX10_freshDraft_8 : decode cX10_freshDraft 8 = .ok (.invokevirtual 253, 3) := by decide +kernel
theorem dX10_freshDraft_11 : decode cX10_freshDraft 11 = .ok (.aload_n 0, 1) := by decide +kernel
theorem dX10_freshDraft_12 : decode cX10_freshDraft 12 = .ok (.getfield 16, 3) := by decide +kernel
theorem dX10_freshDraft_15 : decode cX10_freshDraft 15 = .ok (.areturn, 1) := by decide +kernel
set_option maxRecDepth 20000 in
theorem ggX10_settle_X3_record : GoodIn wsX10_settle wsX3_record := goodIn_r _ [8, 9, 10, 11, 12, 13, 14, 15, 16, 17, 18, 19, 20, 21, 22, 23, 24, 25, 26, 27, 28, 29, 30, 31, 32, 33, 34, 35, 36, 37, 38, 39, 40, 41, 42, 43, 44, 45, 46, 47, 48, 49, 50, 51, 52, 53, 54, 55, 56, 57, 58, 59, 60, 61, 62, 63, 64, 65, 66, 67, 68, 69, 70, 71, 72, 73, 74, 75, 76, 85, 86, 87, 88, 89, 90, 91, 92, 93, 94, 95, 96, 97, 98, 99, 100, 101, 102, 103, 104, 105, 106, 107, 108, 109, 110, 111, 112, 113, 114, 115, 116, 117, 118, 119] (by decide +kernel) (by decide +kernel)
set_option maxRecDepth 20000 in
theorem gX10_settle_X3_record : GoodIn wsX10_settle (wsV RX10 291 RX3 yX3_record wsX3_record) := goodIn_app (goodIn_of _ (by decide +kernel)) ggX10_settle_X3_record
set_option maxRecDepth 20000 in
theorem ggX10_settle_X5_copy : GoodIn wsX10_settle wsX5_copy := goodIn_r _ [16, 17, 18, 19, 20, 21, 22, 23, 24, 25, 26, 27, 28, 29, 30, 31, 32, 33, 34, 35, 36, 37, 38, 39, 40, 41, 42, 43, 44, 45, 46, 47, 48, 49, 50, 51, 52, 53, 54, 55, 56, 57, 58, 59, 60, 61, 62, 63, 64, 65, 66, 67, 68, 69, 70, 71, 72, 73, 74, 75, 76, 88, 89, 90, 91, 92, 93, 94, 95, 96, 97, 98, 99, 100, 101, 102, 103, 104, 105, 106, 107, 108, 109, 110, 111, 112, 113, 114, 115, 116, 117, 118, 119] (by decide +kernel) (by decide +kernel)
set_option maxRecDepth 20000 in
theorem gX10_settle_X5_copy : GoodIn wsX10_settle (wsV RX10 253 RX5 yX5_copy wsX5_copy) := goodIn_app (goodIn_of _ (by decide +kernel)) ggX10_settle_X5_copy
theorem dX10_settle_0 : decode cX10_settle 0 = .ok (.iload_n 1, 1) := by decide +kernel
theorem dX10_settle_1 : decode cX10_settle 1 = .ok (.ifCond .lt 25, 3) := by decide +kernel
theorem dX10_settle_4 : decode cX10_settle 4 = .ok (.aload_n 0, 1) := by decide +kernel
theorem dX10_settle_5 : decode cX10_settle 5 = .ok (.getfield 25, 3) := by decide +kernel
theorem dX10_settle_8 : decode cX10_settle 8 = .ok (.aload_n 0, 1) := by decide +kernel
theorem dX10_settle_9 : decode cX10_settle 9 = .ok (.getfield 10, 3) := by decide +kernel
theorem dX10_settle_12 : decode cX10_settle 12 = .ok (.invokevirtual 291, 3) := by decide +kernel
theorem dX10_settle_15 : decode cX10_settle 15 = .ok (.aload_n 0, 1) := by decide +kernel
theorem dX10_settle_16 : decode cX10_settle 16 = .ok (.getfield 10, 3) := by decide +kernel
theorem dX10_settle_19 : decode cX10_settle 19 = .ok (.aload_n 0, 1) := by decide +kernel
theorem dX10_settle_20 : decode cX10_settle 20 = .ok (.getfield 16, 3) := by decide +kernel
theorem dX10_settle_23 : decode cX10_settle 23 = .ok (.invokevirtual 253, 3) := by decide +kernel
theorem dX10_settle_26 : decode cX10_settle 26 = .ok (.iload_n 1, 1) := by decide +kernel
theorem dX10_settle_27 : decode cX10_settle 27 = .ok (.ireturn, 1) := by decide +kernel
