theorem dJx29ce0_ordinal_8abf5_0 : decode cJx29ce0_ordinal_8abf5 0 = .ok (.aload_n 0, 1) := by decide +kernel
theorem dJx29ce0_ordinal_8abf5_1 : decode cJx29ce0_ordinal_8abf5 1 = .ok (.getfield 7, 3) := by decide +kernel
theorem dJx29ce0_ordinal_8abf5_4 : decode cJx29ce0_ordinal_8abf5 4 = .ok (.ireturn, 1) := by decide +kernel
theorem dJ9_abs_0f7a4_0 : decode cJ9_abs_0f7a4 0 = .ok (.iload_n 0, 1) := by decide +kernel
theorem dJ9_abs_0f7a4_1 : decode cJ9_abs_0f7a4 1 = .ok (.ifCond .ge 8, 3) := by decide +kernel
theorem dJ9_abs_0f7a4_4 : decode cJ9_abs_0f7a4 4 = .ok (.iload_n 0, 1) := by decide +kernel
theorem dJ9_abs_0f7a4_5 : decode cJ9_abs_0f7a4 5 = .ok (.ineg, 1) := by decide +kernel
theorem dJ9_abs_0f7a4_6 : decode cJ9_abs_0f7a4 6 = .ok (.goto 4, 3) := by decide +kernel
theorem dJ9_abs_0f7a4_9 : decode cJ9_abs_0f7a4 9 = .ok (.iload_n 0, 1) := by decide +kernel
theorem dJ9_abs_0f7a4_10 : decode cJ9_abs_0f7a4 10 = .ok (.ireturn, 1) := by decide +kernel
theorem dJ9_max_7cf53_0 : decode cJ9_max_7cf53 0 = .ok (.iload_n 0, 1) := by decide +kernel
theorem dJ9_max_7cf53_1 : decode cJ9_max_7cf53 1 = .ok (.iload_n 1, 1) := by decide +kernel
theorem dJ9_max_7cf53_2 : decode cJ9_max_7cf53 2 = .ok (.if_icmp .lt 7, 3) := by decide +kernel
theorem dJ9_max_7cf53_5 : decode cJ9_max_7cf53 5 = .ok (.iload_n 0, 1) := by decide +kernel
theorem dJ9_max_7cf53_6 : decode cJ9_max_7cf53 6 = .ok (.goto 4, 3) := by decide +kernel
theorem dJ9_max_7cf53_9 : decode cJ9_max_7cf53 9 = .ok (.iload_n 1, 1) := by decide +kernel
theorem dJ9_max_7cf53_10 : decode cJ9_max_7cf53 10 = .ok (.ireturn, 1) := by decide +kernel
set_option maxRecDepth 20000 in
theorem ggJ0_length_8abf5_J0_coder_7d493 : GoodIn wsJ0_length_8abf5 wsJ0_coder_7d493 := goodIn_r _ [6, 7, 8] (by decide +kernel) (by decide +kernel)
set_option maxRecDepth 20000 in
theorem gJ0_length_8abf5_J0_coder_7d493 : GoodIn wsJ0_length_8abf5 (wsV RJ0 335 RJ0 yJ0_coder_7d493 wsJ0_coder_7d493) := goodIn_app (goodIn_of _ (by decide +kernel)) ggJ0_length_8abf5_J0_coder_7d493
theorem dJ0_length_8abf5_0 : decode cJ0_length_8abf5 0 = .ok (.aload_n 0, 1) := by decide +kernel
theorem dJ0_length_8abf5_1 : decode cJ0_length_8abf5 1 = .ok (.getfield 9, 3) := by decide +kernel
theorem dJ0_length_8abf5_4 : decode cJ0_length_8abf5 4 = .ok (.arraylength, 1) := by decide +kernel
theorem dJ0_length_8abf5_5 : decode cJ0_length_8abf5 5 = .ok (.aload_n 0, 1) := by decide +kernel
theorem dJ0_length_8abf5_6 : decode cJ0_length_8abf5 6 = .ok (.invokevirtual 335, 3) := by decide +kernel
theorem dJ0_length_8abf5_9 : decode cJ0_length_8abf5 9 = .ok (.ishr, 1) := by decide +kernel
theorem dJ0_length_8abf5_10 : decode cJ0_length_8abf5 10 = .ok (.ireturn, 1) := by decide +kernel
set_option maxRecDepth 20000 in
theorem ggJ0_charAt_5068e_J0_isLatin1_aae02 : GoodIn wsJ0_charAt_5068e wsJ0_isLatin1_aae02 := goodIn_r _ [6, 7, 8] (by decide +kernel) (by decide +kernel)
set_option maxRecDepth 20000 in
theorem gJ0_charAt_5068e_J0_isLatin1_aae02 : GoodIn wsJ0_charAt_5068e (wsV RJ0 492 RJ0 yJ0_isLatin1_aae02 wsJ0_isLatin1_aae02) := goodIn_app (goodIn_of _ (by decide +kernel)) ggJ0_charAt_5068e_J0_isLatin1_aae02
set_option maxRecDepth 20000 in
theorem ggJ0_charAt_5068e_J1_charAt_3b067 : GoodIn wsJ0_charAt_5068e wsJ1_charAt_3b067 := goodIn_r _ [12, 13, 14, 5, 15, 16, 17, 18, 19, 20] (by decide +kernel) (by decide +kernel)
set_option maxRecDepth 20000 in
theorem gJ0_charAt_5068e_J1_charAt_3b067 : GoodIn wsJ0_charAt_5068e (va_wsS RJ0 495 yJ1_charAt_3b067 wsJ1_charAt_3b067) := goodIn_app (goodIn_of _ (by decide +kernel)) ggJ0_charAt_5068e_J1_charAt_3b067
set_option maxRecDepth 20000 in
theorem ggJ0_charAt_5068e_J2_charAt_3b067 : GoodIn wsJ0_charAt_5068e wsJ2_charAt_3b067 := goodIn_r _ [24, 25, 26, 23, 27, 28, 29, 30, 31, 14, 5, 15, 16, 17, 18, 19, 20, 32, 33, 34, 35, 36, 37] (by decide +kernel) (by decide +kernel)
set_option maxRecDepth 20000 in
theorem gJ0_charAt_5068e_J2_charAt_3b067 : GoodIn wsJ0_charAt_5068e (va_wsS RJ0 498 yJ2_charAt_3b067 wsJ2_charAt_3b067) := goodIn_app (goodIn_of _ (by decide +kernel)) ggJ0_charAt_5068e_J2_charAt_3b067
theorem dJ0_charAt_5068e_0 : decode cJ0_charAt_5068e 0 = .ok (.aload_n 0, 1) := by decide +kernel
theorem dJ0_charAt_5068e_1 : decode cJ0_charAt_5068e 1 = .ok (.invokevirtual 492, 3) := by decide +kernel
theorem dJ0_charAt_5068e_4 : decode cJ0_charAt_5068e 4 = .ok (.ifCond .eq 12, 3) := by decide +kernel
theorem dJ0_charAt_5068e_7 : decode cJ0_charAt_5068e 7 = .ok (.aload_n 0, 1) := by decide +kernel
theorem dJ0_charAt_5068e_8 : decode cJ0_charAt_5068e 8 = .ok (.getfield 9, 3) := by decide +kernel
theorem dJ0_charAt_5068e_11 : decode cJ0_charAt_5068e 11 = .ok (.iload_n 1, 1) := by decide +kernel
theorem dJ0_charAt_5068e_12 : decode cJ0_charAt_5068e 12 = .ok (.invokestatic 495, 3) := by decide +kernel
theorem dJ0_charAt_5068e_15 : decode cJ0_charAt_5068e 15 = .ok (.ireturn, 1) := by decide +kernel
theorem dJ0_charAt_5068e_16 : decode cJ0_charAt_5068e 16 = .ok (.aload_n 0, 1) := by decide +kernel
theorem dJ0_charAt_5068e_17 : decode cJ0_charAt_5068e 17 = .ok (.getfield 9, 3) := by decide +kernel
theorem dJ0_charAt_5068e_20 : decode cJ0_charAt_5068e 20 = .ok (.iload_n 1, 1) := by decide +kernel
theorem dJ0_charAt_5068e_21 : decode cJ0_charAt_5068e 21 = .ok (.invokestatic 498, 3) := by decide +kernel
theorem dJ0_charAt_5068e_24 : decode cJ0_charAt_5068e 24 = .ok (.ireturn, 1) := by decide +kernel
theorem dJ0_coder_7d493_0 : decode cJ0_coder_7d493 0 = .ok (.getstatic 38, 3) := by decide +kernel
theorem dJ0_coder_7d493_3 : decode cJ0_coder_7d493 3 = .ok (.ifCond .eq 10, 3) := by decide +kernel
theorem dJ0_coder_7d493_6 : decode cJ0_coder_7d493 6 = .ok (.aload_n 0, 1) := by decide +kernel
theorem dJ0_coder_7d493_7 : decode cJ0_coder_7d493 7 = .ok (.getfield 15, 3) := by decide +kernel
theorem dJ0_coder_7d493_10 : decode cJ0_coder_7d493 10 = .ok (.goto 4, 3) := by decide +kernel
theorem dJ0_coder_7d493_13 : decode cJ0_coder_7d493 13 = .ok (.iconst 1, 1) := by decide +kernel
theorem dJ0_coder_7d493_14 : decode cJ0_coder_7d493 14 = .ok (.ireturn, 1) := by decide +kernel
theorem dJ0_isLatin1_aae02_0 : decode cJ0_isLatin1_aae02 0 = .ok (.getstatic 38, 3) := by decide +kernel
theorem dJ0_isLatin1_aae02_3 : decode cJ0_isLatin1_aae02 3 = .ok (.ifCond .eq 14, 3) := by decide +kernel
theorem dJ0_isLatin1_aae02_6 : decode cJ0_isLatin1_aae02 6 = .ok (.aload_n 0, 1) := by decide +kernel
theorem dJ0_isLatin1_aae02_7 : decode cJ0_isLatin1_aae02 7 = .ok (.getfield 15, 3) := by decide +kernel
theorem dJ0_isLatin1_aae02_10 : decode cJ0_isLatin1_aae02 10 = .ok (.ifCond .ne 7, 3) := by decide +kernel
theorem dJ0_isLatin1_aae02_13 : decode cJ0_isLatin1_aae02 13 = .ok (.iconst 1, 1) := by decide +kernel
theorem dJ0_isLatin1_aae02_14 : decode cJ0_isLatin1_aae02 14 = .ok (.goto 4, 3) := by decide +kernel
theorem dJ0_isLatin1_aae02_17 : decode cJ0_isLatin1_aae02 17 = .ok (.iconst 0, 1) := by decide +kernel
theorem dJ0_isLatin1_aae02_18 : decode cJ0_isLatin1_aae02 18 = .ok (.ireturn, 1) := by decide +kernel
set_option maxRecDepth 20000 in
theorem ggJ0_checkIndex_df160_J3_checkIndex_8e157 : GoodIn wsJ0_checkIndex_df160 wsJ3_checkIndex_8e157 := goodIn_r _ [5] (by decide +kernel) (by decide +kernel)
set_option maxRecDepth 20000 in
theorem gJ0_checkIndex_df160_J3_checkIndex_8e157 : GoodIn wsJ0_checkIndex_df160 (va_wsS RJ0 1059 yJ3_checkIndex_8e157 wsJ3_checkIndex_8e157) := goodIn_app (goodIn_of _ (by decide +kernel)) ggJ0_checkIndex_df160_J3_checkIndex_8e157
theorem dJ0_checkIndex_df160_0 : decode cJ0_checkIndex_df160 0 = .ok (.iload_n 0, 1) := by decide +kernel
theorem dJ0_checkIndex_df160_1 : decode cJ0_checkIndex_df160 1 = .ok (.iload_n 1, 1) := by decide +kernel
theorem dJ0_checkIndex_df160_2 : decode cJ0_checkIndex_df160 2 = .ok (.getstatic 1053, 3) := by decide +kernel
theorem dJ0_checkIndex_df160_5 : decode cJ0_checkIndex_df160 5 = .ok (.invokestatic 1059, 3) := by decide +kernel
theorem dJ0_checkIndex_df160_8 : decode cJ0_checkIndex_df160 8 = .ok (.pop, 1) := by decide +kernel
theorem dJ0_checkIndex_df160_9 : decode cJ0_checkIndex_df160 9 = .ok (.return_, 1) := by decide +kernel
set_option maxRecDepth 20000 in
theorem ggJ1_charAt_3b067_J0_checkIndex_df160 : GoodIn wsJ1_charAt_3b067 wsJ0_checkIndex_df160 := goodIn_r _ [4, 5, 6, 7, 8, 9] (by decide +kernel) (by decide +kernel)
set_option maxRecDepth 20000 in
theorem gJ1_charAt_3b067_J0_checkIndex_df160 : GoodIn wsJ1_charAt_3b067 (va_wsS RJ1 9 yJ0_checkIndex_df160 wsJ0_checkIndex_df160) := goodIn_app (goodIn_of _ (by decide +kernel)) ggJ1_charAt_3b067_J0_checkIndex_df160
theorem dJ1_charAt_3b067_0 : decode cJ1_charAt_3b067 0 = .ok (.iload_n 1, 1) := by decide +kernel
theorem dJ1_charAt_3b067_1 : decode cJ1_charAt_3b067 1 = .ok (.aload_n 0, 1) := by decide +kernel
theorem dJ1_charAt_3b067_2 : decode cJ1_charAt_3b067 2 = .ok (.arraylength, 1) := by decide +kernel
theorem dJ1_charAt_3b067_3 : decode cJ1_charAt_3b067 3 = .ok (.invokestatic 9, 3) := by decide +kernel
theorem dJ1_charAt_3b067_6 : decode cJ1_charAt_3b067 6 = .ok (.aload_n 0, 1) := by decide +kernel
theorem dJ1_charAt_3b067_7 : decode cJ1_charAt_3b067 7 = .ok (.iload_n 1, 1) := by decide +kernel
theorem dJ1_charAt_3b067_8 : decode cJ1_charAt_3b067 8 = .ok (.baload, 1) := by decide +kernel
theorem dJ1_charAt_3b067_9 : decode cJ1_charAt_3b067 9 = .ok (.sipush 255, 3) := by decide +kernel
theorem dJ1_charAt_3b067_12 : decode cJ1_charAt_3b067 12 = .ok (.iand, 1) := by decide +kernel
theorem dJ1_charAt_3b067_13 : decode cJ1_charAt_3b067 13 = .ok (.i2c, 1) := by decide +kernel
theorem dJ1_charAt_3b067_14 : decode cJ1_charAt_3b067 14 = .ok (.ireturn, 1) := by decide +kernel
set_option maxRecDepth 20000 in
theorem ggJ2_getChar_3b067_J2_length_9d52b : GoodIn wsJ2_getChar_3b067 wsJ2_length_9d52b := goodIn_r _ [7] (by decide +kernel) (by decide +kernel)
set_option maxRecDepth 20000 in
theorem gJ2_getChar_3b067_J2_length_9d52b : GoodIn wsJ2_getChar_3b067 (va_wsS RJ2 48 yJ2_length_9d52b wsJ2_length_9d52b) := goodIn_app (goodIn_of _ (by decide +kernel)) ggJ2_getChar_3b067_J2_length_9d52b
theorem dJ2_getChar_3b067_0 : decode cJ2_getChar_3b067 0 = .ok (.getstatic 44, 3) := by decide +kernel
theorem dJ2_getChar_3b067_3 : decode cJ2_getChar_3b067 3 = .ok (.ifCond .ne 25, 3) := by decide +kernel
theorem dJ2_getChar_3b067_6 : decode cJ2_getChar_3b067 6 = .ok (.iload_n 1, 1) := by decide +kernel
theorem dJ2_getChar_3b067_7 : decode cJ2_getChar_3b067 7 = .ok (.ifCond .lt 11, 3) := by decide +kernel
theorem dJ2_getChar_3b067_10 : decode cJ2_getChar_3b067 10 = .ok (.iload_n 1, 1) := by decide +kernel
theorem dJ2_getChar_3b067_11 : decode cJ2_getChar_3b067 11 = .ok (.aload_n 0, 1) := by decide +kernel
theorem dJ2_getChar_3b067_12 : decode cJ2_getChar_3b067 12 = .ok (.invokestatic 48, 3) := by decide +kernel
theorem dJ2_getChar_3b067_15 : decode cJ2_getChar_3b067 15 = .ok (.if_icmp .lt 13, 3) := by decide +kernel
theorem dJ2_getChar_3b067_18 : decode cJ2_getChar_3b067 18 = .ok (.new 52, 3) := by decide +kernel
theorem dJ2_getChar_3b067_21 : decode cJ2_getChar_3b067 21 = .ok (.dup, 1) := by decide +kernel
theorem dJ2_getChar_3b067_22 : decode cJ2_getChar_3b067 22 = .ok (.ldc 54, 2) := by decide +kernel
theorem dJ2_getChar_3b067_24 : decode cJ2_getChar_3b067 24 = .ok (.invokespecial 56, 3) := by decide +kernel
theorem dJ2_getChar_3b067_27 : decode cJ2_getChar_3b067 27 = .ok (.athrow, 1) := by decide +kernel
theorem dJ2_getChar_3b067_28 : decode cJ2_getChar_3b067 28 = .ok (.iload_n 1, 1) := by decide +kernel
theorem dJ2_getChar_3b067_29 : decode cJ2_getChar_3b067 29 = .ok (.iconst 1, 1) := by decide +kernel
theorem dJ2_getChar_3b067_30 : decode cJ2_getChar_3b067 30 = .ok (.ishl, 1) := by decide +kernel
theorem dJ2_getChar_3b067_31 : decode cJ2_getChar_3b067 31 = .ok (.istore_n 1, 1) := by decide +kernel
theorem dJ2_getChar_3b067_32 : decode cJ2_getChar_3b067 32 = .ok (.aload_n 0, 1) := by decide +kernel
theorem dJ2_getChar_3b067_33 : decode cJ2_getChar_3b067 33 = .ok (.iload_n 1, 1) := by decide +kernel
theorem dJ2_getChar_3b067_34 : decode cJ2_getChar_3b067 34 = .ok (.iinc 1 1, 3) := by decide +kernel
theorem dJ2_getChar_3b067_37 : decode cJ2_getChar_3b067 37 = .ok (.baload, 1) := by decide +kernel
theorem dJ2_getChar_3b067_38 : decode cJ2_getChar_3b067 38 = .ok (.sipush 255, 3) := by decide +kernel
theorem dJ2_getChar_3b067_41 : decode cJ2_getChar_3b067 41 = .ok (.iand, 1) := by decide +kernel
theorem dJ2_getChar_3b067_42 : decode cJ2_getChar_3b067 42 = .ok (.getstatic 59, 3) := by decide +kernel
theorem dJ2_getChar_3b067_45 : decode cJ2_getChar_3b067 45 = .ok (.ishl, 1) := by decide +kernel
theorem dJ2_getChar_3b067_46 : decode cJ2_getChar_3b067 46 = .ok (.aload_n 0, 1) := by decide +kernel
theorem dJ2_getChar_3b067_47 : decode cJ2_getChar_3b067 47 = .ok (.iload_n 1, 1) := by decide +kernel
theorem dJ2_getChar_3b067_48 : decode cJ2_getChar_3b067 48 = .ok (.baload, 1) := by decide +kernel
theorem dJ2_getChar_3b067_49 : decode cJ2_getChar_3b067 49 = .ok (.sipush 255, 3) := by decide +kernel
theorem dJ2_getChar_3b067_52 : decode cJ2_getChar_3b067 52 = .ok (.iand, 1) := by decide +kernel
theorem dJ2_getChar_3b067_53 : decode cJ2_getChar_3b067 53 = .ok (.getstatic 63, 3) := by decide +kernel
theorem dJ2_getChar_3b067_56 : decode cJ2_getChar_3b067 56 = .ok (.ishl, 1) := by decide +kernel
theorem dJ2_getChar_3b067_57 : decode cJ2_getChar_3b067 57 = .ok (.ior, 1) := by decide +kernel
theorem dJ2_getChar_3b067_58 : decode cJ2_getChar_3b067 58 = .ok (.i2c, 1) := by decide +kernel
theorem dJ2_getChar_3b067_59 : decode cJ2_getChar_3b067 59 = .ok (.ireturn, 1) := by decide +kernel
theorem dJ2_length_9d52b_0 : decode cJ2_length_9d52b 0 = .ok (.aload_n 0, 1) := by decide +kernel
theorem dJ2_length_9d52b_1 : decode cJ2_length_9d52b 1 = .ok (.arraylength, 1) := by decide +kernel
theorem dJ2_length_9d52b_2 : decode cJ2_length_9d52b 2 = .ok (.iconst 1, 1) := by decide +kernel
theorem dJ2_length_9d52b_3 : decode cJ2_length_9d52b 3 = .ok (.ishr, 1) := by decide +kernel
theorem dJ2_length_9d52b_4 : decode cJ2_length_9d52b 4 = .ok (.ireturn, 1) := by decide +kernel
set_option maxRecDepth 20000 in
theorem ggJ2_charAt_3b067_J2_checkIndex_2214a : GoodIn wsJ2_charAt_3b067 wsJ2_checkIndex_2214a := goodIn_r _ [4, 5, 6, 3, 7, 8, 9, 10, 11, 12, 13, 14, 15, 16] (by decide +kernel) (by decide +kernel)
set_option maxRecDepth 20000 in
theorem gJ2_charAt_3b067_J2_checkIndex_2214a : GoodIn wsJ2_charAt_3b067 (va_wsS RJ2 67 yJ2_checkIndex_2214a wsJ2_checkIndex_2214a) := goodIn_app (goodIn_of _ (by decide +kernel)) ggJ2_charAt_3b067_J2_checkIndex_2214a
set_option maxRecDepth 20000 in
theorem ggJ2_charAt_3b067_J2_getChar_3b067 : GoodIn wsJ2_charAt_3b067 wsJ2_getChar_3b067 := goodIn_r _ [19, 20, 21, 22, 5, 6, 3, 7] (by decide +kernel) (by decide +kernel)
set_option maxRecDepth 20000 in
theorem gJ2_charAt_3b067_J2_getChar_3b067 : GoodIn wsJ2_charAt_3b067 (va_wsS RJ2 71 yJ2_getChar_3b067 wsJ2_getChar_3b067) := goodIn_app (goodIn_of _ (by decide +kernel)) ggJ2_charAt_3b067_J2_getChar_3b067
theorem dJ2_charAt_3b067_0 : decode cJ2_charAt_3b067 0 = .ok (.iload_n 1, 1) := by decide +kernel
theorem dJ2_charAt_3b067_1 : decode cJ2_charAt_3b067 1 = .ok (.aload_n 0, 1) := by decide +kernel
theorem dJ2_charAt_3b067_2 : decode cJ2_charAt_3b067 2 = .ok (.invokestatic 67, 3) := by decide +kernel
theorem dJ2_charAt_3b067_5 : decode cJ2_charAt_3b067 5 = .ok (.aload_n 0, 1) := by decide +kernel
theorem dJ2_charAt_3b067_6 : decode cJ2_charAt_3b067 6 = .ok (.iload_n 1, 1) := by decide +kernel
theorem dJ2_charAt_3b067_7 : decode cJ2_charAt_3b067 7 = .ok (.invokestatic 71, 3) := by decide +kernel
theorem dJ2_charAt_3b067_10 : decode cJ2_charAt_3b067 10 = .ok (.ireturn, 1) := by decide +kernel
set_option maxRecDepth 20000 in
theorem ggJ2_checkIndex_2214a_J2_length_9d52b : GoodIn wsJ2_checkIndex_2214a wsJ2_length_9d52b := goodIn_r _ [4] (by decide +kernel) (by decide +kernel)
set_option maxRecDepth 20000 in
theorem gJ2_checkIndex_2214a_J2_length_9d52b : GoodIn wsJ2_checkIndex_2214a (va_wsS RJ2 48 yJ2_length_9d52b wsJ2_length_9d52b) := goodIn_app (goodIn_of _ (by decide +kernel)) ggJ2_checkIndex_2214a_J2_length_9d52b
set_option maxRecDepth 20000 in
theorem ggJ2_checkIndex_2214a_J0_checkIndex_df160 : GoodIn wsJ2_checkIndex_2214a wsJ0_checkIndex_df160 := goodIn_r _ [8, 9, 10, 11, 12, 13] (by decide +kernel) (by decide +kernel)
set_option maxRecDepth 20000 in
theorem gJ2_checkIndex_2214a_J0_checkIndex_df160 : GoodIn wsJ2_checkIndex_2214a (va_wsS RJ2 414 yJ0_checkIndex_df160 wsJ0_checkIndex_df160) := goodIn_app (goodIn_of _ (by decide +kernel)) ggJ2_checkIndex_2214a_J0_checkIndex_df160
theorem dJ2_checkIndex_2214a_0 : decode cJ2_checkIndex_2214a 0 = .ok (.iload_n 0, 1) := by decide +kernel
theorem dJ2_checkIndex_2214a_1 : decode cJ2_checkIndex_2214a 1 = .ok (.aload_n 1, 1) := by decide +kernel
theorem dJ2_checkIndex_2214a_2 : decode cJ2_checkIndex_2214a 2 = .ok (.invokestatic 48, 3) := by decide +kernel
theorem dJ2_checkIndex_2214a_5 : decode cJ2_checkIndex_2214a 5 = .ok (.invokestatic 414, 3) := by decide +kernel
theorem dJ2_checkIndex_2214a_8 : decode cJ2_checkIndex_2214a 8 = .ok (.return_, 1) := by decide +kernel
theorem dJ3_checkIndex_8e157_0 : decode cJ3_checkIndex_8e157 0 = .ok (.iload_n 0, 1) := by decide +kernel
theorem dJ3_checkIndex_8e157_1 : decode cJ3_checkIndex_8e157 1 = .ok (.ifCond .lt 8, 3) := by decide +kernel
theorem dJ3_checkIndex_8e157_4 : decode cJ3_checkIndex_8e157 4 = .ok (.iload_n 0, 1) := by decide +kernel
theorem dJ3_checkIndex_8e157_5 : decode cJ3_checkIndex_8e157 5 = .ok (.iload_n 1, 1) := by decide +kernel
theorem dJ3_checkIndex_8e157_6 : decode cJ3_checkIndex_8e157 6 = .ok (.if_icmp .lt 10, 3) := by decide +kernel
theorem dJ3_checkIndex_8e157_9 : decode cJ3_checkIndex_8e157 9 = .ok (.aload_n 2, 1) := by decide +kernel
theorem dJ3_checkIndex_8e157_10 : decode cJ3_checkIndex_8e157 10 = .ok (.iload_n 0, 1) := by decide +kernel
theorem dJ3_checkIndex_8e157_11 : decode cJ3_checkIndex_8e157 11 = .ok (.iload_n 1, 1) := by decide +kernel
theorem dJ3_checkIndex_8e157_12 : decode cJ3_checkIndex_8e157 12 = .ok (.invokestatic 95, 3) := by decide +kernel
theorem dJ3_checkIndex_8e157_15 : decode cJ3_checkIndex_8e157 15 = .ok (.athrow, 1) := by decide +kernel
theorem dJ3_checkIndex_8e157_16 : decode cJ3_checkIndex_8e157 16 = .ok (.iload_n 0, 1) := by decide +kernel
theorem dJ3_checkIndex_8e157_17 : decode cJ3_checkIndex_8e157 17 = .ok (.ireturn, 1) := by decide +kernel
theorem dX1_init_0 : decode cX1_init 0 = .ok (.aload_n 0, 1) := by decide +kernel
theorem dX1_init_1 : decode cX1_init 1 = .ok (.invokespecial 3, 3) := by decide +kernel
theorem dX1_init_4 : decode cX1_init 4 = .ok (.aload_n 0, 1) := by decide +kernel
theorem dX1_init_5 : decode cX1_init 5 = .ok (.bipush 16, 2) := by decide +kernel
theorem dX1_init_7 : decode cX1_init 7 = .ok (.newarray .int, 2) := by decide +kernel
theorem dX1_init_9 : decode cX1_init 9 = .ok (.putfield 11, 3) := by decide +kernel
theorem dX1_init_12 : decode cX1_init 12 = .ok (.aload_n 0, 1) := by decide +kernel
theorem dX1_init_13 : decode cX1_init 13 = .ok (.bipush 16, 2) := by decide +kernel
theorem dX1_init_15 : decode cX1_init 15 = .ok (.newarray .int, 2) := by decide +kernel
theorem dX1_init_17 : decode cX1_init 17 = .ok (.putfield 15, 3) := by decide +kernel
theorem dX1_init_20 : decode cX1_init 20 = .ok (.aload_n 0, 1) := by decide +kernel
theorem dX1_init_21 : decode cX1_init 21 = .ok (.bipush 16, 2) := by decide +kernel
theorem dX1_init_23 : decode cX1_init 23 = .ok (.newarray .int, 2) := by decide +kernel
theorem dX1_init_25 : decode cX1_init 25 = .ok (.putfield 18, 3) := by decide +kernel
theorem dX1_init_28 : decode cX1_init 28 = .ok (.aload_n 0, 1) := by decide +kernel
theorem dX1_init_29 : decode cX1_init 29 = .ok (.bipush 16, 2) := by decide +kernel
theorem dX1_init_31 : decode cX1_init 31 = .ok (.newarray .int, 2) := by decide +kernel
theorem dX1_init_33 : decode cX1_init 33 = .ok (.putfield 21, 3) := by decide +kernel
theorem dX1_init_36 : decode cX1_init 36 = .ok (.aload_n 0, 1) := by decide +kernel
theorem dX1_init_37 : decode cX1_init 37 = .ok (.bipush 16, 2) := by decide +kernel
theorem dX1_init_39 : decode cX1_init 39 = .ok (.newarray .int, 2) := by decide +kernel
theorem dX1_init_41 : decode cX1_init 41 = .ok (.putfield 24, 3) := by decide +kernel
theorem dX1_init_44 : decode cX1_init 44 = .ok (.aload_n 0, 1) := by decide +kernel
theorem dX1_init_45 : decode cX1_init 45 = .ok (.bipush 16, 2) := by decide +kernel
theorem dX1_init_47 : decode cX1_init 47 = .ok (.newarray .int, 2) := by decide +kernel
theorem dX1_init_49 : decode cX1_init 49 = .ok (.putfield 27, 3) := by decide +kernel
theorem dX1_init_52 : decode cX1_init 52 = .ok (.return_, 1) := by decide +kernel
theorem dX1_copy_0 : decode cX1_copy 0 = .ok (.aload_n 0, 1) := by decide +kernel
theorem dX1_copy_1 : decode cX1_copy 1 = .ok (.aload_n 1, 1) := by decide +kernel
theorem dX1_copy_2 : decode cX1_copy 2 = .ok (.getfield 30, 3) := by decide +kernel
theorem dX1_copy_5 : decode cX1_copy 5 = .ok (.putfield 30, 3) := by decide +kernel
theorem dX1_copy_8 : decode cX1_copy 8 = .ok (.aload_n 1, 1) := by decide +kernel
theorem dX1_copy_9 : decode cX1_copy 9 = .ok (.getfield 11, 3) := by decide +kernel
theorem dX1_copy_12 : decode cX1_copy 12 = .ok (.iconst 0, 1) := by decide +kernel
theorem dX1_copy_13 : decode cX1_copy 13 = .ok (.aload_n 0, 1) := by decide +kernel
theorem dX1_copy_14 : decode cX1_copy 14 = .ok (.getfield 11, 3) := by decide +kernel
theorem dX1_copy_17 : decode cX1_copy 17 = .ok (.iconst 0, 1) := by decide +kernel
theorem dX1_copy_18 : decode cX1_copy 18 = .ok (.bipush 16, 2) := by decide +kernel
theorem dX1_copy_20 : decode cX1_copy 20 = .ok (.invokestatic 34, 3) := by decide +kernel
theorem dX1_copy_23 : decode cX1_copy 23 = .ok (.aload_n 1, 1) := by decide +kernel
theorem dX1_copy_24 : decode cX1_copy 24 = .ok (.getfield 15, 3) := by decide +kernel
theorem dX1_copy_27 : decode cX1_copy 27 = .ok (.iconst 0, 1) := by decide +kernel
theorem dX1_copy_28 : decode cX1_copy 28 = .ok (.aload_n 0, 1) := by decide +kernel
theorem dX1_copy_29 : decode cX1_copy 29 = .ok (.getfield 15, 3) := by decide +kernel
theorem dX1_copy_32 : decode cX1_copy 32 = .ok (.iconst 0, 1) := by decide +kernel
theorem dX1_copy_33 : decode cX1_copy 33 = .ok (.bipush 16, 2) := by decide +kernel
theorem dX1_copy_35 : decode cX1_copy 35 = .ok (.invokestatic 34, 3) := by decide +kernel
theorem dX1_copy_38 : decode cX1_copy 38 = .ok (.aload_n 1, 1) := by decide +kernel
theorem dX1_copy_39 : decode cX1_copy 39 = .ok (.getfield 18, 3) := by decide +kernel
theorem dX1_copy_42 : decode cX1_copy 42 = .ok (.iconst 0, 1) := by decide +kernel
theorem dX1_copy_43 : decode cX1_copy 43 = .ok (.aload_n 0, 1) := by decide +kernel
theorem dX1_copy_44 : decode cX1_copy 44 = .ok (.getfield 18, 3) := by decide +kernel
theorem dX1_copy_47 : decode cX1_copy 47 = .ok (.iconst 0, 1) := by decide +kernel
theorem dX1_copy_48 : decode cX1_copy 48 = .ok (.bipush 16, 2) := by decide +kernel
theorem dX1_copy_50 : decode cX1_copy 50 = .ok (.invokestatic 34, 3) := by decide +kernel
theorem dX1_copy_53 : decode cX1_copy 53 = .ok (.aload_n 1, 1) := by decide +kernel
theorem dX1_copy_54 : decode cX1_copy 54 = .ok (.getfield 21, 3) := by decide +kernel
theorem dX1_copy_57 : decode cX1_copy 57 = .ok (.iconst 0, 1) := by decide +kernel
theorem dX1_copy_58 : decode cX1_copy 58 = .ok (.aload_n 0, 1) := by decide +kernel
theorem dX1_copy_59 : decode cX1_copy 59 = .ok (.getfield 21, 3) := by decide +kernel
theorem dX1_copy_62 : decode cX1_copy 62 = .ok (.iconst 0, 1) := by decide +kernel
theorem dX1_copy_63 : decode cX1_copy 63 = .ok (.bipush 16, 2) := by decide +kernel
theorem dX1_copy_65 : decode cX1_copy 65 = .ok (.invokestatic 34, 3) := by decide +kernel
theorem dX1_copy_68 : decode cX1_copy 68 = .ok (.aload_n 1, 1) := by decide +kernel
theorem dX1_copy_69 : decode cX1_copy 69 = .ok (.getfield 24, 3) := by decide +kernel
theorem dX1_copy_72 : decode cX1_copy 72 = .ok (.iconst 0, 1) := by decide +kernel
theorem dX1_copy_73 : decode cX1_copy 73 = .ok (.aload_n 0, 1) := by decide +kernel
theorem dX1_copy_74 : decode cX1_copy 74 = .ok (.getfield 24, 3) := by decide +kernel
theorem dX1_copy_77 : decode cX1_copy 77 = .ok (.iconst 0, 1) := by decide +kernel
theorem dX1_copy_78 : decode cX1_copy 78 = .ok (.bipush 16, 2) := by decide +kernel
theorem dX1_copy_80 : decode cX1_copy 80 = .ok (.invokestatic 34, 3) := by decide +kernel
theorem dX1_copy_83 : decode cX1_copy 83 = .ok (.aload_n 1, 1) := by decide +kernel
theorem dX1_copy_84 : decode cX1_copy 84 = .ok (.getfield 27, 3) := by decide +kernel
theorem dX1_copy_87 : decode cX1_copy 87 = .ok (.iconst 0, 1) := by decide +kernel
theorem dX1_copy_88 : decode cX1_copy 88 = .ok (.aload_n 0, 1) := by decide +kernel
theorem dX1_copy_89 : decode cX1_copy 89 = .ok (.getfield 27, 3) := by decide +kernel
theorem dX1_copy_92 : decode cX1_copy 92 = .ok (.iconst 0, 1) := by decide +kernel
theorem dX1_copy_93 : decode cX1_copy 93 = .ok (.bipush 16, 2) := by decide +kernel
theorem dX1_copy_95 : decode cX1_copy 95 = .ok (.invokestatic 34, 3) := by decide +kernel
theorem dX1_copy_98 : decode cX1_copy 98 = .ok (.return_, 1) := by decide +kernel
theorem dX1_has_0 : decode cX1_has 0 = .ok (.iload_n 1, 1) := by decide +kernel
theorem dX1_has_1 : decode cX1_has 1 = .ok (.ifCond .lt 15, 3) := by decide +kernel
theorem dX1_has_4 : decode cX1_has 4 = .ok (.iload_n 1, 1) := by decide +kernel
theorem dX1_has_5 : decode cX1_has 5 = .ok (.aload_n 0, 1) := by decide +kernel
theorem dX1_has_6 : decode cX1_has 6 = .ok (.getfield 30, 3) := by decide +kernel
theorem dX1_has_9 : decode cX1_has 9 = .ok (.if_icmp .ge 7, 3) := by decide +kernel
theorem dX1_has_12 : decode cX1_has 12 = .ok (.iconst 1, 1) := by decide +kernel
theorem dX1_has_13 : decode cX1_has 13 = .ok (.goto 4, 3) := by decide +kernel
theorem dX1_has_16 : decode cX1_has 16 = .ok (.iconst 0, 1) := by decide +kernel
theorem dX1_has_17 : decode cX1_has 17 = .ok (.ireturn, 1) := by decide +kernel
theorem dX1_add_0 : decode cX1_add 0 = .ok (.aload_n 0, 1) := by decide +kernel
theorem dX1_add_1 : decode cX1_add 1 = .ok (.getfield 30, 3) := by decide +kernel
theorem dX1_add_4 : decode cX1_add 4 = .ok (.bipush 16, 2) := by decide +kernel
theorem dX1_add_6 : decode cX1_add 6 = .ok (.if_icmp .lt 6, 3) := by decide +kernel
theorem dX1_add_9 : decode cX1_add 9 = .ok (.bipush (-3), 2) := by decide +kernel
theorem dX1_add_11 : decode cX1_add 11 = .ok (.ireturn, 1) := by decide +kernel
theorem dX1_add_12 : decode cX1_add 12 = .ok (.aload_n 0, 1) := by decide +kernel
theorem dX1_add_13 : decode cX1_add 13 = .ok (.getfield 11, 3) := by decide +kernel
theorem dX1_add_16 : decode cX1_add 16 = .ok (.aload_n 0, 1) := by decide +kernel
theorem dX1_add_17 : decode cX1_add 17 = .ok (.getfield 30, 3) := by decide +kernel
theorem dX1_add_20 : decode cX1_add 20 = .ok (.iconst 0, 1) := by decide +kernel
theorem dX1_add_21 : decode cX1_add 21 = .ok (.iastore, 1) := by decide +kernel
theorem dX1_add_22 : decode cX1_add 22 = .ok (.aload_n 0, 1) := by decide +kernel
theorem dX1_add_23 : decode cX1_add 23 = .ok (.getfield 15, 3) := by decide +kernel
theorem dX1_add_26 : decode cX1_add 26 = .ok (.aload_n 0, 1) := by decide +kernel
theorem dX1_add_27 : decode cX1_add 27 = .ok (.getfield 30, 3) := by decide +kernel
theorem dX1_add_30 : decode cX1_add 30 = .ok (.iload_n 1, 1) := by decide +kernel
theorem dX1_add_31 : decode cX1_add 31 = .ok (.iastore, 1) := by decide +kernel
theorem dX1_add_32 : decode cX1_add 32 = .ok (.aload_n 0, 1) := by decide +kernel
theorem dX1_add_33 : decode cX1_add 33 = .ok (.dup, 1) := by decide +kernel
theorem dX1_add_34 : decode cX1_add 34 = .ok (.getfield 30, 3) := by decide +kernel
theorem dX1_add_37 : decode cX1_add 37 = .ok (.iconst 1, 1) := by decide +kernel
theorem dX1_add_38 : decode cX1_add 38 = .ok (.iadd, 1) := by decide +kernel
theorem dX1_add_39 : decode cX1_add 39 = .ok (.putfield 30, 3) := by decide +kernel
theorem dX1_add_42 : decode cX1_add 42 = .ok (.aload_n 0, 1) := by decide +kernel
theorem dX1_add_43 : decode cX1_add 43 = .ok (.getfield 30, 3) := by decide +kernel
theorem dX1_add_46 : decode cX1_add 46 = .ok (.iconst 1, 1) := by decide +kernel
theorem dX1_add_47 : decode cX1_add 47 = .ok (.isub, 1) := by decide +kernel
theorem dX1_add_48 : decode cX1_add 48 = .ok (.ireturn, 1) := by decide +kernel
set_option maxRecDepth 20000 in
theorem ggX1_isAt_X1_has : GoodIn wsX1_isAt wsX1_has := goodIn_r _ [7, 8, 9, 10, 11, 12, 13, 14, 15] (by decide +kernel) (by decide +kernel)
set_option maxRecDepth 20000 in
theorem gX1_isAt_X1_has : GoodIn wsX1_isAt (wsV RX1 40 RX1 yX1_has wsX1_has) := goodIn_app (goodIn_of _ (by decide +kernel)) ggX1_isAt_X1_has
theorem dX1_isAt_0 : decode cX1_isAt 0 = .ok (.aload_n 0, 1) := by decide +kernel
theorem dX1_isAt_1 : decode cX1_isAt 1 = .ok (.iload_n 1, 1) := by decide +kernel
theorem dX1_isAt_2 : decode cX1_isAt 2 = .ok (.invokevirtual 40, 3) := by decide +kernel
theorem dX1_isAt_5 : decode cX1_isAt 5 = .ok (.ifCond .eq 27, 3) := by decide +kernel
theorem dX1_isAt_8 : decode cX1_isAt 8 = .ok (.aload_n 0, 1) := by decide +kernel
theorem dX1_isAt_9 : decode cX1_isAt 9 = .ok (.getfield 11, 3) := by decide +kernel
theorem dX1_isAt_12 : decode cX1_isAt 12 = .ok (.iload_n 1, 1) := by decide +kernel
theorem dX1_isAt_13 : decode cX1_isAt 13 = .ok (.iaload, 1) := by decide +kernel
theorem dX1_isAt_14 : decode cX1_isAt 14 = .ok (.iload_n 2, 1) := by decide +kernel
theorem dX1_isAt_15 : decode cX1_isAt 15 = .ok (.if_icmp .ne 17, 3) := by decide +kernel
theorem dX1_isAt_18 : decode cX1_isAt 18 = .ok (.aload_n 0, 1) := by decide +kernel
theorem dX1_isAt_19 : decode cX1_isAt 19 = .ok (.getfield 15, 3) := by decide +kernel
theorem dX1_isAt_22 : decode cX1_isAt 22 = .ok (.iload_n 1, 1) := by decide +kernel
theorem dX1_isAt_23 : decode cX1_isAt 23 = .ok (.iaload, 1) := by decide +kernel
theorem dX1_isAt_24 : decode cX1_isAt 24 = .ok (.iload_n 3, 1) := by decide +kernel
theorem dX1_isAt_25 : decode cX1_isAt 25 = .ok (.if_icmp .ne 7, 3) := by decide +kernel
theorem dX1_isAt_28 : decode cX1_isAt 28 = .ok (.iconst 1, 1) := by decide +kernel
theorem dX1_isAt_29 : decode cX1_isAt 29 = .ok (.goto 4, 3) := by decide +kernel
theorem dX1_isAt_32 : decode cX1_isAt 32 = .ok (.iconst 0, 1) := by decide +kernel
theorem dX1_isAt_33 : decode cX1_isAt 33 = .ok (.ireturn, 1) := by decide +kernel
set_option maxRecDepth 20000 in
theorem ggX1_holderOrNotFound_X1_has : GoodIn wsX1_holderOrNotFound wsX1_has := goodIn_r _ [7, 8, 9, 10, 11, 12, 13, 14, 15] (by decide +kernel) (by decide +kernel)
set_option maxRecDepth 20000 in
theorem gX1_holderOrNotFound_X1_has : GoodIn wsX1_holderOrNotFound (wsV RX1 40 RX1 yX1_has wsX1_has) := goodIn_app (goodIn_of _ (by decide +kernel)) ggX1_holderOrNotFound_X1_has
theorem dX1_holderOrNotFound_0 : decode cX1_holderOrNotFound 0 = .ok (.aload_n 0, 1) := by decide +kernel
theorem dX1_holderOrNotFound_1 : decode cX1_holderOrNotFound 1 = .ok (.iload_n 1, 1) := by decide +kernel
theorem dX1_holderOrNotFound_2 : decode cX1_holderOrNotFound 2 = .ok (.invokevirtual 40, 3) := by decide +kernel
theorem dX1_holderOrNotFound_5 : decode cX1_holderOrNotFound 5 = .ok (.ifCond .eq 22, 3) := by decide +kernel
theorem dX1_holderOrNotFound_8 : decode cX1_holderOrNotFound 8 = .ok (.aload_n 0, 1) := by decide +kernel
theorem dX1_holderOrNotFound_9 : decode cX1_holderOrNotFound 9 = .ok (.getfield 11, 3) := by decide +kernel
theorem dX1_holderOrNotFound_12 : decode cX1_holderOrNotFound 12 = .ok (.iload_n 1, 1) := by decide +kernel
theorem dX1_holderOrNotFound_13 : decode cX1_holderOrNotFound 13 = .ok (.iaload, 1) := by decide +kernel
theorem dX1_holderOrNotFound_14 : decode cX1_holderOrNotFound 14 = .ok (.iconst 3, 1) := by decide +kernel
theorem dX1_holderOrNotFound_15 : decode cX1_holderOrNotFound 15 = .ok (.if_icmp .eq 12, 3) := by decide +kernel
theorem dX1_holderOrNotFound_18 : decode cX1_holderOrNotFound 18 = .ok (.aload_n 0, 1) := by decide +kernel
theorem dX1_holderOrNotFound_19 : decode cX1_holderOrNotFound 19 = .ok (.getfield 15, 3) := by decide +kernel
theorem dX1_holderOrNotFound_22 : decode cX1_holderOrNotFound 22 = .ok (.iload_n 1, 1) := by decide +kernel
theorem dX1_holderOrNotFound_23 : decode cX1_holderOrNotFound 23 = .ok (.iaload, 1) := by decide +kernel
theorem dX1_holderOrNotFound_24 : decode cX1_holderOrNotFound 24 = .ok (.goto 5, 3) := by decide +kernel
theorem dX1_holderOrNotFound_27 : decode cX1_holderOrNotFound 27 = .ok (.bipush (-4), 2) := by decide +kernel
theorem dX1_holderOrNotFound_29 : decode cX1_holderOrNotFound 29 = .ok (.ireturn, 1) := by decide +kernel
set_option maxRecDepth 20000 in
theorem ggX1_bring_X1_has : GoodIn wsX1_bring wsX1_has := goodIn_r _ [7, 8, 9, 10, 11, 12, 13, 14, 15] (by decide +kernel) (by decide +kernel)
set_option maxRecDepth 20000 in
theorem gX1_bring_X1_has : GoodIn wsX1_bring (wsV RX1 40 RX1 yX1_has wsX1_has) := goodIn_app (goodIn_of _ (by decide +kernel)) ggX1_bring_X1_has
theorem dX1_bring_0 : decode cX1_bring 0 = .ok (.aload_n 0, 1) := by decide +kernel
theorem dX1_bring_1 : decode cX1_bring 1 = .ok (.iload_n 1, 1) := by decide +kernel
theorem dX1_bring_2 : decode cX1_bring 2 = .ok (.invokevirtual 40, 3) := by decide +kernel
theorem dX1_bring_5 : decode cX1_bring 5 = .ok (.ifCond .eq 17, 3) := by decide +kernel
theorem dX1_bring_8 : decode cX1_bring 8 = .ok (.aload_n 0, 1) := by decide +kernel
theorem dX1_bring_9 : decode cX1_bring 9 = .ok (.getfield 11, 3) := by decide +kernel
theorem dX1_bring_12 : decode cX1_bring 12 = .ok (.iload_n 1, 1) := by decide +kernel
theorem dX1_bring_13 : decode cX1_bring 13 = .ok (.iload_n 2, 1) := by decide +kernel
theorem dX1_bring_14 : decode cX1_bring 14 = .ok (.iastore, 1) := by decide +kernel
theorem dX1_bring_15 : decode cX1_bring 15 = .ok (.aload_n 0, 1) := by decide +kernel
theorem dX1_bring_16 : decode cX1_bring 16 = .ok (.getfield 15, 3) := by decide +kernel
theorem dX1_bring_19 : decode cX1_bring 19 = .ok (.iload_n 1, 1) := by decide +kernel
theorem dX1_bring_20 : decode cX1_bring 20 = .ok (.iload_n 3, 1) := by decide +kernel
theorem dX1_bring_21 : decode cX1_bring 21 = .ok (.iastore, 1) := by decide +kernel
theorem dX1_bring_22 : decode cX1_bring 22 = .ok (.return_, 1) := by decide +kernel
theorem dX1_countWhere_0 : decode cX1_countWhere 0 = .ok (.iconst 0, 1) := by decide +kernel
theorem dX1_countWhere_1 : decode cX1_countWhere 1 = .ok (.istore_n 2, 1) := by decide +kernel
theorem dX1_countWhere_2 : decode cX1_countWhere 2 = .ok (.iconst 0, 1) := by decide +kernel
theorem dX1_countWhere_3 : decode cX1_countWhere 3 = .ok (.istore_n 3, 1) := by decide +kernel
theorem dX1_countWhere_4 : decode cX1_countWhere 4 = .ok (.iload_n 3, 1) := by decide +kernel
theorem dX1_countWhere_5 : decode cX1_countWhere 5 = .ok (.aload_n 0, 1) := by decide +kernel
theorem dX1_countWhere_6 : decode cX1_countWhere 6 = .ok (.getfield 30, 3) := by decide +kernel
theorem dX1_countWhere_9 : decode cX1_countWhere 9 = .ok (.if_icmp .ge 22, 3) := by decide +kernel
theorem dX1_countWhere_12 : decode cX1_countWhere 12 = .ok (.aload_n 0, 1) := by decide +kernel
theorem dX1_countWhere_13 : decode cX1_countWhere 13 = .ok (.getfield 11, 3) := by decide +kernel
theorem dX1_countWhere_16 : decode cX1_countWhere 16 = .ok (.iload_n 3, 1) := by decide +kernel
theorem dX1_countWhere_17 : decode cX1_countWhere 17 = .ok (.iaload, 1) := by decide +kernel
theorem dX1_countWhere_18 : decode cX1_countWhere 18 = .ok (.iload_n 1, 1) := by decide +kernel
theorem dX1_countWhere_19 : decode cX1_countWhere 19 = .ok (.if_icmp .ne 6, 3) := by decide +kernel
theorem dX1_countWhere_22 : decode cX1_countWhere 22 = .ok (.iinc 2 1, 3) := by decide +kernel
theorem dX1_countWhere_25 : decode cX1_countWhere 25 = .ok (.iinc 3 1, 3) := by decide +kernel
theorem dX1_countWhere_28 : decode cX1_countWhere 28 = .ok (.goto (-24), 3) := by decide +kernel
theorem dX1_countWhere_31 : decode cX1_countWhere 31 = .ok (.iload_n 2, 1) := by decide +kernel
theorem dX1_countWhere_32 : decode cX1_countWhere 32 = .ok (.ireturn, 1) := by decide +kernel
theorem dX1_setAt_0 : decode cX1_setAt 0 = .ok (.iconst 0, 1) := by decide +kernel
theorem dX1_setAt_1 : decode cX1_setAt 1 = .ok (.istore_n 3, 1) := by decide +kernel
theorem dX1_setAt_2 : decode cX1_setAt 2 = .ok (.iconst 0, 1) := by decide +kernel
theorem dX1_setAt_3 : decode cX1_setAt 3 = .ok (.istore 4, 2) := by decide +kernel
theorem dX1_setAt_5 : decode cX1_setAt 5 = .ok (.iload 4, 2) := by decide +kernel
theorem dX1_setAt_7 : decode cX1_setAt 7 = .ok (.aload_n 0, 1) := by decide +kernel
theorem dX1_setAt_8 : decode cX1_setAt 8 = .ok (.getfield 30, 3) := by decide +kernel
theorem dX1_setAt_11 : decode cX1_setAt 11 = .ok (.if_icmp .ge 38, 3) := by decide +kernel
theorem dX1_setAt_14 : decode cX1_setAt 14 = .ok (.aload_n 0, 1) := by decide +kernel
theorem dX1_setAt_15 : decode cX1_setAt 15 = .ok (.getfield 11, 3) := by decide +kernel
theorem dX1_setAt_18 : decode cX1_setAt 18 = .ok (.iload 4, 2) := by decide +kernel
theorem dX1_setAt_20 : decode cX1_setAt 20 = .ok (.iaload, 1) := by decide +kernel
theorem dX1_setAt_21 : decode cX1_setAt 21 = .ok (.iload_n 1, 1) := by decide +kernel
theorem dX1_setAt_22 : decode cX1_setAt 22 = .ok (.if_icmp .ne 21, 3) := by decide +kernel
theorem dX1_setAt_25 : decode cX1_setAt 25 = .ok (.aload_n 0, 1) := by decide +kernel
theorem dX1_setAt_26 : decode cX1_setAt 26 = .ok (.getfield 15, 3) := by decide +kernel
theorem dX1_setAt_29 : decode cX1_setAt 29 = .ok (.iload 4, 2) := by decide +kernel
theorem dX1_setAt_31 : decode cX1_setAt 31 = .ok (.iaload, 1) := by decide +kernel
theorem dX1_setAt_32 : decode cX1_setAt 32 = .ok (.iload_n 2, 1) := by decide +kernel
theorem dX1_setAt_33 : decode cX1_setAt 33 = .ok (.if_icmp .ne 10, 3) := by decide +kernel
theorem dX1_setAt_36 : decode cX1_setAt 36 = .ok (.iload_n 3, 1) := by decide +kernel
theorem dX1_setAt_37 : decode cX1_setAt 37 = .ok (.iconst 1, 1) := by decide +kernel
theorem dX1_setAt_38 : decode cX1_setAt 38 = .ok (.iload 4, 2) := by decide +kernel
theorem dX1_setAt_40 : decode cX1_setAt 40 = .ok (.ishl, 1) := by decide +kernel
theorem dX1_setAt_41 : decode cX1_setAt 41 = .ok (.ior, 1) := by decide +kernel
theorem dX1_setAt_42 : decode cX1_setAt 42 = .ok (.istore_n 3, 1) := by decide +kernel
theorem dX1_setAt_43 : decode cX1_setAt 43 = .ok (.iinc 4 1, 3) := by decide +kernel
theorem dX1_setAt_46 : decode cX1_setAt 46 = .ok (.goto (-41), 3) := by decide +kernel
theorem dX1_setAt_49 : decode cX1_setAt 49 = .ok (.iload_n 3, 1) := by decide +kernel
theorem dX1_setAt_50 : decode cX1_setAt 50 = .ok (.ireturn, 1) := by decide +kernel
theorem dX1_countAt_0 : decode cX1_countAt 0 = .ok (.iconst 0, 1) := by decide +kernel
theorem dX1_countAt_1 : decode cX1_countAt 1 = .ok (.istore_n 3, 1) := by decide +kernel
theorem dX1_countAt_2 : decode cX1_countAt 2 = .ok (.iconst 0, 1) := by decide +kernel
theorem dX1_countAt_3 : decode cX1_countAt 3 = .ok (.istore 4, 2) := by decide +kernel
theorem dX1_countAt_5 : decode cX1_countAt 5 = .ok (.iload 4, 2) := by decide +kernel
theorem dX1_countAt_7 : decode cX1_countAt 7 = .ok (.aload_n 0, 1) := by decide +kernel
theorem dX1_countAt_8 : decode cX1_countAt 8 = .ok (.getfield 30, 3) := by decide +kernel
theorem dX1_countAt_11 : decode cX1_countAt 11 = .ok (.if_icmp .ge 34, 3) := by decide +kernel
theorem dX1_countAt_14 : decode cX1_countAt 14 = .ok (.aload_n 0, 1) := by decide +kernel
theorem dX1_countAt_15 : decode cX1_countAt 15 = .ok (.getfield 11, 3) := by decide +kernel
theorem dX1_countAt_18 : decode cX1_countAt 18 = .ok (.iload 4, 2) := by decide +kernel
theorem dX1_countAt_20 : decode cX1_countAt 20 = .ok (.iaload, 1) := by decide +kernel
theorem dX1_countAt_21 : decode cX1_countAt 21 = .ok (.iload_n 1, 1) := by decide +kernel
theorem dX1_countAt_22 : decode cX1_countAt 22 = .ok (.if_icmp .ne 17, 3) := by decide +kernel
theorem dX1_countAt_25 : decode cX1_countAt 25 = .ok (.aload_n 0, 1) := by decide +kernel
theorem dX1_countAt_26 : decode cX1_countAt 26 = .ok (.getfield 15, 3) := by decide +kernel
theorem dX1_countAt_29 : decode cX1_countAt 29 = .ok (.iload 4, 2) := by decide +kernel
theorem dX1_countAt_31 : decode cX1_countAt 31 = .ok (.iaload, 1) := by decide +kernel
theorem dX1_countAt_32 : decode cX1_countAt 32 = .ok (.iload_n 2, 1) := by decide +kernel
theorem dX1_countAt_33 : decode cX1_countAt 33 = .ok (.if_icmp .ne 6, 3) := by decide +kernel
theorem dX1_countAt_36 : decode cX1_countAt 36 = .ok (.iinc 3 1, 3) := by decide +kernel
theorem dX1_countAt_39 : decode cX1_countAt 39 = .ok (.iinc 4 1, 3) := by decide +kernel
theorem dX1_countAt_42 : decode cX1_countAt 42 = .ok (.goto (-37), 3) := by decide +kernel
theorem dX1_countAt_45 : decode cX1_countAt 45 = .ok (.iload_n 3, 1) := by decide +kernel
theorem dX1_countAt_46 : decode cX1_countAt 46 = .ok (.ireturn, 1) := by decide +kernel
theorem dX1_countFaulty_0 : decode cX1_countFaulty 0 = .ok (.iconst 0, 1) := by decide +kernel
theorem dX1_countFaulty_1 : decode cX1_countFaulty 1 = .ok (.istore_n 1, 1) := by decide +kernel
theorem dX1_countFaulty_2 : decode cX1_countFaulty 2 = .ok (.iconst 0, 1) := by decide +kernel
theorem dX1_countFaulty_3 : decode cX1_countFaulty 3 = .ok (.istore_n 2, 1) := by decide +kernel
theorem dX1_countFaulty_4 : decode cX1_countFaulty 4 = .ok (.iload_n 2, 1) := by decide +kernel
theorem dX1_countFaulty_5 : decode cX1_countFaulty 5 = .ok (.aload_n 0, 1) := by decide +kernel
theorem dX1_countFaulty_6 : decode cX1_countFaulty 6 = .ok (.getfield 30, 3) := by decide +kernel
theorem dX1_countFaulty_9 : decode cX1_countFaulty 9 = .ok (.if_icmp .ge 18, 3) := by decide +kernel
theorem dX1_countFaulty_12 : decode cX1_countFaulty 12 = .ok (.iload_n 1, 1) := by decide +kernel
theorem dX1_countFaulty_13 : decode cX1_countFaulty 13 = .ok (.aload_n 0, 1) := by decide +kernel
theorem dX1_countFaulty_14 : decode cX1_countFaulty 14 = .ok (.getfield 21, 3) := by decide +kernel
theorem dX1_countFaulty_17 : decode cX1_countFaulty 17 = .ok (.iload_n 2, 1) := by decide +kernel
theorem dX1_countFaulty_18 : decode cX1_countFaulty 18 = .ok (.iaload, 1) := by decide +kernel
theorem dX1_countFaulty_19 : decode cX1_countFaulty 19 = .ok (.iadd, 1) := by decide +kernel
theorem dX1_countFaulty_20 : decode cX1_countFaulty 20 = .ok (.istore_n 1, 1) := by decide +kernel
theorem dX1_countFaulty_21 : decode cX1_countFaulty 21 = .ok (.iinc 2 1, 3) := by decide +kernel
theorem dX1_countFaulty_24 : decode cX1_countFaulty 24 = .ok (.goto (-20), 3) := by decide +kernel
theorem dX1_countFaulty_27 : decode cX1_countFaulty 27 = .ok (.iload_n 1, 1) := by decide +kernel
theorem dX1_countFaulty_28 : decode cX1_countFaulty 28 = .ok (.ireturn, 1) := by decide +kernel
set_option maxRecDepth 20000 in
theorem ggX1_leastRiddenAt_X1_isAt : GoodIn wsX1_leastRiddenAt wsX1_isAt := goodIn_r _ [8, 9, 10, 11, 12, 13, 7, 14, 1, 15, 16, 17, 18, 19, 20, 21] (by decide +kernel) (by decide +kernel)
set_option maxRecDepth 20000 in
theorem gX1_leastRiddenAt_X1_isAt : GoodIn wsX1_leastRiddenAt (wsV RX1 44 RX1 yX1_isAt wsX1_isAt) := goodIn_app (goodIn_of _ (by decide +kernel)) ggX1_leastRiddenAt_X1_isAt
theorem dX1_leastRiddenAt_0 : decode cX1_leastRiddenAt 0 = .ok (.iconst (-1), 1) := by decide +kernel
theorem dX1_leastRiddenAt_1 : decode cX1_leastRiddenAt 1 = .ok (.istore_n 2, 1) := by decide +kernel
theorem dX1_leastRiddenAt_2 : decode cX1_leastRiddenAt 2 = .ok (.iconst 0, 1) := by decide +kernel
theorem dX1_leastRiddenAt_3 : decode cX1_leastRiddenAt 3 = .ok (.istore_n 3, 1) := by decide +kernel
theorem dX1_leastRiddenAt_4 : decode cX1_leastRiddenAt 4 = .ok (.iload_n 3, 1) := by decide +kernel
theorem dX1_leastRiddenAt_5 : decode cX1_leastRiddenAt 5 = .ok (.aload_n 0, 1) := by decide +kernel
theorem dX1_leastRiddenAt_6 : decode cX1_leastRiddenAt 6 = .ok (.getfield 30, 3) := by decide +kernel
theorem dX1_leastRiddenAt_9 : decode cX1_leastRiddenAt 9 = .ok (.if_icmp .ge 61, 3) := by decide +kernel
theorem dX1_leastRiddenAt_12 : decode cX1_leastRiddenAt 12 = .ok (.aload_n 0, 1) := by decide +kernel
theorem dX1_leastRiddenAt_13 : decode cX1_leastRiddenAt 13 = .ok (.iload_n 3, 1) := by decide +kernel
theorem dX1_leastRiddenAt_14 : decode cX1_leastRiddenAt 14 = .ok (.iconst 0, 1) := by decide +kernel
theorem dX1_leastRiddenAt_15 : decode cX1_leastRiddenAt 15 = .ok (.iload_n 1, 1) := by decide +kernel
theorem dX1_leastRiddenAt_16 : decode cX1_leastRiddenAt 16 = .ok (.invokevirtual 44, 3) := by decide +kernel
theorem dX1_leastRiddenAt_19 : decode cX1_leastRiddenAt 19 = .ok (.ifCond .eq 16, 3) := by decide +kernel
theorem dX1_leastRiddenAt_22 : decode cX1_leastRiddenAt 22 = .ok (.aload_n 0, 1) := by decide +kernel
theorem dX1_leastRiddenAt_23 : decode cX1_leastRiddenAt 23 = .ok (.getfield 21, 3) := by decide +kernel
theorem dX1_leastRiddenAt_26 : decode cX1_leastRiddenAt 26 = .ok (.iload_n 3, 1) := by decide +kernel
theorem dX1_leastRiddenAt_27 : decode cX1_leastRiddenAt 27 = .ok (.iaload, 1) := by decide +kernel
theorem dX1_leastRiddenAt_28 : decode cX1_leastRiddenAt 28 = .ok (.ifCond .ne 7, 3) := by decide +kernel
theorem dX1_leastRiddenAt_31 : decode cX1_leastRiddenAt 31 = .ok (.iconst 1, 1) := by decide +kernel
theorem dX1_leastRiddenAt_32 : decode cX1_leastRiddenAt 32 = .ok (.goto 4, 3) := by decide +kernel
theorem dX1_leastRiddenAt_35 : decode cX1_leastRiddenAt 35 = .ok (.iconst 0, 1) := by decide +kernel
theorem dX1_leastRiddenAt_36 : decode cX1_leastRiddenAt 36 = .ok (.istore 4, 2) := by decide +kernel
theorem dX1_leastRiddenAt_38 : decode cX1_leastRiddenAt 38 = .ok (.iload 4, 2) := by decide +kernel
theorem dX1_leastRiddenAt_40 : decode cX1_leastRiddenAt 40 = .ok (.ifCond .eq 24, 3) := by decide +kernel
theorem dX1_leastRiddenAt_43 : decode cX1_leastRiddenAt 43 = .ok (.iload_n 2, 1) := by decide +kernel
theorem dX1_leastRiddenAt_44 : decode cX1_leastRiddenAt 44 = .ok (.ifCond .lt 18, 3) := by decide +kernel
theorem dX1_leastRiddenAt_47 : decode cX1_leastRiddenAt 47 = .ok (.aload_n 0, 1) := by decide +kernel
theorem dX1_leastRiddenAt_48 : decode cX1_leastRiddenAt 48 = .ok (.getfield 18, 3) := by decide +kernel
theorem dX1_leastRiddenAt_51 : decode cX1_leastRiddenAt 51 = .ok (.iload_n 3, 1) := by decide +kernel
theorem dX1_leastRiddenAt_52 : decode cX1_leastRiddenAt 52 = .ok (.iaload, 1) := by decide +kernel
theorem dX1_leastRiddenAt_53 : decode cX1_leastRiddenAt 53 = .ok (.aload_n 0, 1) := by decide +kernel
theorem dX1_leastRiddenAt_54 : decode cX1_leastRiddenAt 54 = .ok (.getfield 18, 3) := by decide +kernel
theorem dX1_leastRiddenAt_57 : decode cX1_leastRiddenAt 57 = .ok (.iload_n 2, 1) := by decide +kernel
theorem dX1_leastRiddenAt_58 : decode cX1_leastRiddenAt 58 = .ok (.iaload, 1) := by decide +kernel
theorem dX1_leastRiddenAt_59 : decode cX1_leastRiddenAt 59 = .ok (.if_icmp .ge 5, 3) := by decide +kernel
theorem dX1_leastRiddenAt_62 : decode cX1_leastRiddenAt 62 = .ok (.iload_n 3, 1) := by decide +kernel
theorem dX1_leastRiddenAt_63 : decode cX1_leastRiddenAt 63 = .ok (.istore_n 2, 1) := by decide +kernel
theorem dX1_leastRiddenAt_64 : decode cX1_leastRiddenAt 64 = .ok (.iinc 3 1, 3) := by decide +kernel
theorem dX1_leastRiddenAt_67 : decode cX1_leastRiddenAt 67 = .ok (.goto (-63), 3) := by decide +kernel
theorem dX1_leastRiddenAt_70 : decode cX1_leastRiddenAt 70 = .ok (.iload_n 2, 1) := by decide +kernel
theorem dX1_leastRiddenAt_71 : decode cX1_leastRiddenAt 71 = .ok (.ireturn, 1) := by decide +kernel
set_option maxRecDepth 20000 in
theorem ggX1_isReady_X1_has : GoodIn wsX1_isReady wsX1_has := goodIn_r _ [7, 8, 9, 10, 11, 12, 13, 14, 15] (by decide +kernel) (by decide +kernel)
set_option maxRecDepth 20000 in
theorem gX1_isReady_X1_has : GoodIn wsX1_isReady (wsV RX1 40 RX1 yX1_has wsX1_has) := goodIn_app (goodIn_of _ (by decide +kernel)) ggX1_isReady_X1_has
theorem dX1_isReady_0 : decode cX1_isReady 0 = .ok (.aload_n 0, 1) := by decide +kernel
theorem dX1_isReady_1 : decode cX1_isReady 1 = .ok (.iload_n 1, 1) := by decide +kernel
theorem dX1_isReady_2 : decode cX1_isReady 2 = .ok (.invokevirtual 40, 3) := by decide +kernel
theorem dX1_isReady_5 : decode cX1_isReady 5 = .ok (.ifCond .eq 27, 3) := by decide +kernel
theorem dX1_isReady_8 : decode cX1_isReady 8 = .ok (.aload_n 0, 1) := by decide +kernel
theorem dX1_isReady_9 : decode cX1_isReady 9 = .ok (.getfield 11, 3) := by decide +kernel
theorem dX1_isReady_12 : decode cX1_isReady 12 = .ok (.iload_n 1, 1) := by decide +kernel
theorem dX1_isReady_13 : decode cX1_isReady 13 = .ok (.iaload, 1) := by decide +kernel
theorem dX1_isReady_14 : decode cX1_isReady 14 = .ok (.iconst 3, 1) := by decide +kernel
theorem dX1_isReady_15 : decode cX1_isReady 15 = .ok (.if_icmp .ne 17, 3) := by decide +kernel
theorem dX1_isReady_18 : decode cX1_isReady 18 = .ok (.aload_n 0, 1) := by decide +kernel
theorem dX1_isReady_19 : decode cX1_isReady 19 = .ok (.getfield 27, 3) := by decide +kernel
theorem dX1_isReady_22 : decode cX1_isReady 22 = .ok (.iload_n 1, 1) := by decide +kernel
theorem dX1_isReady_23 : decode cX1_isReady 23 = .ok (.iaload, 1) := by decide +kernel
theorem dX1_isReady_24 : decode cX1_isReady 24 = .ok (.iload_n 2, 1) := by decide +kernel
theorem dX1_isReady_25 : decode cX1_isReady 25 = .ok (.if_icmp .gt 7, 3) := by decide +kernel
theorem dX1_isReady_28 : decode cX1_isReady 28 = .ok (.iconst 1, 1) := by decide +kernel
theorem dX1_isReady_29 : decode cX1_isReady 29 = .ok (.goto 4, 3) := by decide +kernel
theorem dX1_isReady_32 : decode cX1_isReady 32 = .ok (.iconst 0, 1) := by decide +kernel
theorem dX1_isReady_33 : decode cX1_isReady 33 = .ok (.ireturn, 1) := by decide +kernel
set_option maxRecDepth 20000 in
theorem ggX1_renew_X1_has : GoodIn wsX1_renew wsX1_has := goodIn_r _ [7, 8, 9, 10, 11, 12, 13, 14, 15] (by decide +kernel) (by decide +kernel)
set_option maxRecDepth 20000 in
theorem gX1_renew_X1_has : GoodIn wsX1_renew (wsV RX1 40 RX1 yX1_has wsX1_has) := goodIn_app (goodIn_of _ (by decide +kernel)) ggX1_renew_X1_has
theorem dX1_renew_0 : decode cX1_renew 0 = .ok (.aload_n 0, 1) := by decide +kernel
theorem dX1_renew_1 : decode cX1_renew 1 = .ok (.iload_n 1, 1) := by decide +kernel
theorem dX1_renew_2 : decode cX1_renew 2 = .ok (.invokevirtual 40, 3) := by decide +kernel
theorem dX1_renew_5 : decode cX1_renew 5 = .ok (.ifCond .eq 17, 3) := by decide +kernel
theorem dX1_renew_8 : decode cX1_renew 8 = .ok (.aload_n 0, 1) := by decide +kernel
theorem dX1_renew_9 : decode cX1_renew 9 = .ok (.getfield 21, 3) := by decide +kernel
theorem dX1_renew_12 : decode cX1_renew 12 = .ok (.iload_n 1, 1) := by decide +kernel
theorem dX1_renew_13 : decode cX1_renew 13 = .ok (.iconst 0, 1) := by decide +kernel
theorem dX1_renew_14 : decode cX1_renew 14 = .ok (.iastore, 1) := by decide +kernel
theorem dX1_renew_15 : decode cX1_renew 15 = .ok (.aload_n 0, 1) := by decide +kernel
theorem dX1_renew_16 : decode cX1_renew 16 = .ok (.getfield 18, 3) := by decide +kernel
theorem dX1_renew_19 : decode cX1_renew 19 = .ok (.iload_n 1, 1) := by decide +kernel
theorem dX1_renew_20 : decode cX1_renew 20 = .ok (.iconst 0, 1) := by decide +kernel
theorem dX1_renew_21 : decode cX1_renew 21 = .ok (.iastore, 1) := by decide +kernel
theorem dX1_renew_22 : decode cX1_renew 22 = .ok (.return_, 1) := by decide +kernel
theorem dX2_init_0 : decode cX2_init 0 = .ok (.aload_n 0, 1) := by decide +kernel
theorem dX2_init_1 : decode cX2_init 1 = .ok (.invokespecial 1, 3) := by decide +kernel
theorem dX2_init_4 : decode cX2_init 4 = .ok (.aload_n 0, 1) := by decide +kernel
theorem dX2_init_5 : decode cX2_init 5 = .ok (.bipush 6, 2) := by decide +kernel
theorem dX2_init_7 : decode cX2_init 7 = .ok (.newarray .int, 2) := by decide +kernel
theorem dX2_init_9 : decode cX2_init 9 = .ok (.putfield 9, 3) := by decide +kernel
theorem dX2_init_12 : decode cX2_init 12 = .ok (.aload_n 0, 1) := by decide +kernel
theorem dX2_init_13 : decode cX2_init 13 = .ok (.bipush 6, 2) := by decide +kernel
theorem dX2_init_15 : decode cX2_init 15 = .ok (.newarray .int, 2) := by decide +kernel
theorem dX2_init_17 : decode cX2_init 17 = .ok (.putfield 15, 3) := by decide +kernel
theorem dX2_init_20 : decode cX2_init 20 = .ok (.return_, 1) := by decide +kernel
set_option maxRecDepth 20000 in
theorem ggX2_aim_X2_findAims : GoodIn wsX2_aim wsX2_findAims := goodIn_r _ [7, 1, 8, 9, 2, 10, 11, 12, 13, 14, 15, 16, 17, 18, 19, 20, 21, 22, 23, 24, 29, 30, 31, 32, 33, 34, 41, 42, 43, 44, 45, 35, 36, 37, 38, 39, 40, 46, 47, 48, 49, 50, 51, 52] (by decide +kernel) (by decide +kernel)
set_option maxRecDepth 20000 in
theorem gX2_aim_X2_findAims : GoodIn wsX2_aim (wsV RX2 18 RX2 yX2_findAims wsX2_findAims) := goodIn_app (goodIn_of _ (by decide +kernel)) ggX2_aim_X2_findAims
set_option maxRecDepth 20000 in
theorem ggX2_aim_X6_has : GoodIn wsX2_aim wsX6_has := goodIn_r _ [28, 16, 41, 42, 43, 44, 45] (by decide +kernel) (by decide +kernel)
set_option maxRecDepth 20000 in
theorem gX2_aim_X6_has : GoodIn wsX2_aim (wsV RX2 28 RX6 yX6_has wsX6_has) := goodIn_app (goodIn_of _ (by decide +kernel)) ggX2_aim_X6_has
theorem dX2_aim_0 : decode cX2_aim 0 = .ok (.aload_n 0, 1) := by decide +kernel
theorem dX2_aim_1 : decode cX2_aim 1 = .ok (.aload_n 1, 1) := by decide +kernel
theorem dX2_aim_2 : decode cX2_aim 2 = .ok (.invokevirtual 18, 3) := by decide +kernel
theorem dX2_aim_5 : decode cX2_aim 5 = .ok (.aload_n 1, 1) := by decide +kernel
theorem dX2_aim_6 : decode cX2_aim 6 = .ok (.getfield 22, 3) := by decide +kernel
theorem dX2_aim_9 : decode cX2_aim 9 = .ok (.iload_n 2, 1) := by decide +kernel
theorem dX2_aim_10 : decode cX2_aim 10 = .ok (.invokevirtual 28, 3) := by decide +kernel
theorem dX2_aim_13 : decode cX2_aim 13 = .ok (.ifCond .eq 12, 3) := by decide +kernel
theorem dX2_aim_16 : decode cX2_aim 16 = .ok (.aload_n 0, 1) := by decide +kernel
theorem dX2_aim_17 : decode cX2_aim 17 = .ok (.getfield 9, 3) := by decide +kernel
theorem dX2_aim_20 : decode cX2_aim 20 = .ok (.iload_n 2, 1) := by decide +kernel
theorem dX2_aim_21 : decode cX2_aim 21 = .ok (.iaload, 1) := by decide +kernel
theorem dX2_aim_22 : decode cX2_aim 22 = .ok (.goto 4, 3) := by decide +kernel
theorem dX2_aim_25 : decode cX2_aim 25 = .ok (.iconst 0, 1) := by decide +kernel
theorem dX2_aim_26 : decode cX2_aim 26 = .ok (.ireturn, 1) := by decide +kernel
set_option maxRecDepth 20000 in
theorem ggX2_findMove_X5_docked : GoodIn wsX2_findMove wsX5_docked := goodIn_r _ [11, 12, 13, 14, 15, 16, 17, 18, 19, 20, 67, 68, 69, 70, 71, 72, 78, 79, 80, 81, 82, 83, 84] (by decide +kernel) (by decide +kernel)
set_option maxRecDepth 20000 in
theorem gX2_findMove_X5_docked : GoodIn wsX2_findMove (wsV RX2 48 RX5 yX5_docked wsX5_docked) := goodIn_app (goodIn_of _ (by decide +kernel)) ggX2_findMove_X5_docked
set_option maxRecDepth 20000 in
theorem ggX2_findMove_X5_hasFreeDock : GoodIn wsX2_findMove wsX5_hasFreeDock := goodIn_r _ [24, 25, 26, 27, 28, 29, 30, 31, 32, 33, 8, 9, 10, 11, 12, 13, 14, 15, 16, 17, 18, 19, 20, 67, 68, 69, 70, 71, 72, 73, 74, 75, 76, 77, 78, 79, 80, 81, 82, 83, 84] (by decide +kernel) (by decide +kernel)
set_option maxRecDepth 20000 in
theorem gX2_findMove_X5_hasFreeDock : GoodIn wsX2_findMove (wsV RX2 52 RX5 yX5_hasFreeDock wsX5_hasFreeDock) := goodIn_app (goodIn_of _ (by decide +kernel)) ggX2_findMove_X5_hasFreeDock
set_option maxRecDepth 20000 in
theorem ggX2_findMove_X2_weigh : GoodIn wsX2_findMove wsX2_weigh := goodIn_r _ [38, 5, 3, 4, 1, 2, 39, 40, 41, 37, 42, 43, 44, 45, 46, 47, 48, 28, 29, 30, 31, 32, 7, 8, 9, 10, 11, 12, 13, 14, 15, 16, 17, 18, 19, 20, 49, 50, 51, 52, 25, 26, 53, 27, 33, 54, 55, 56, 57, 58, 59, 60, 67, 68, 69, 70, 71, 72, 61, 62, 63, 64, 65, 66, 73, 74, 75, 76, 77, 78, 79, 80, 81, 82, 83, 84] (by decide +kernel) (by decide +kernel)
set_option maxRecDepth 20000 in
theorem gX2_findMove_X2_weigh : GoodIn wsX2_findMove (wsV RX2 55 RX2 yX2_weigh wsX2_weigh) := goodIn_app (goodIn_of _ (by decide +kernel)) ggX2_findMove_X2_weigh
theorem dX2_findMove_0 : decode cX2_findMove 0 = .ok (.aload_n 0, 1) := by decide +kernel
theorem dX2_findMove_1 : decode cX2_findMove 1 = .ok (.iconst (-1), 1) := by decide +kernel
theorem dX2_findMove_2 : decode cX2_findMove 2 = .ok (.putfield 32, 3) := by decide +kernel
theorem dX2_findMove_5 : decode cX2_findMove 5 = .ok (.aload_n 0, 1) := by decide +kernel
theorem dX2_findMove_6 : decode cX2_findMove 6 = .ok (.iconst (-1), 1) := by decide +kernel
theorem dX2_findMove_7 : decode cX2_findMove 7 = .ok (.putfield 36, 3) := by decide +kernel
theorem dX2_findMove_10 : decode cX2_findMove 10 = .ok (.aload_n 0, 1) := by decide +kernel
theorem dX2_findMove_11 : decode cX2_findMove 11 = .ok (.iconst 0, 1) := by decide +kernel
theorem dX2_findMove_12 : decode cX2_findMove 12 = .ok (.putfield 39, 3) := by decide +kernel
theorem dX2_findMove_15 : decode cX2_findMove 15 = .ok (.aload_n 0, 1) := by decide +kernel
theorem dX2_findMove_16 : decode cX2_findMove 16 = .ok (.iconst 0, 1) := by decide +kernel
theorem dX2_findMove_17 : decode cX2_findMove 17 = .ok (.putfield 42, 3) := by decide +kernel
theorem dX2_findMove_20 : decode cX2_findMove 20 = .ok (.iconst 0, 1) := by decide +kernel
theorem dX2_findMove_21 : decode cX2_findMove 21 = .ok (.istore_n 2, 1) := by decide +kernel
theorem dX2_findMove_22 : decode cX2_findMove 22 = .ok (.iload_n 2, 1) := by decide +kernel
theorem dX2_findMove_23 : decode cX2_findMove 23 = .ok (.aload_n 1, 1) := by decide +kernel
theorem dX2_findMove_24 : decode cX2_findMove 24 = .ok (.getfield 22, 3) := by decide +kernel
theorem dX2_findMove_27 : decode cX2_findMove 27 = .ok (.getfield 45, 3) := by decide +kernel
theorem dX2_findMove_30 : decode cX2_findMove 30 = .ok (.if_icmp .ge 56, 3) := by decide +kernel
theorem dX2_findMove_33 : decode cX2_findMove 33 = .ok (.iconst 0, 1) := by decide +kernel
theorem dX2_findMove_34 : decode cX2_findMove 34 = .ok (.istore_n 3, 1) := by decide +kernel
theorem dX2_findMove_35 : decode cX2_findMove 35 = .ok (.iload_n 3, 1) := by decide +kernel
theorem dX2_findMove_36 : decode cX2_findMove 36 = .ok (.aload_n 1, 1) := by decide +kernel
theorem dX2_findMove_37 : decode cX2_findMove 37 = .ok (.getfield 22, 3) := by decide +kernel
theorem dX2_findMove_40 : decode cX2_findMove 40 = .ok (.getfield 45, 3) := by decide +kernel
theorem dX2_findMove_43 : decode cX2_findMove 43 = .ok (.if_icmp .ge 37, 3) := by decide +kernel
theorem dX2_findMove_46 : decode cX2_findMove 46 = .ok (.iload_n 2, 1) := by decide +kernel
theorem dX2_findMove_47 : decode cX2_findMove 47 = .ok (.iload_n 3, 1) := by decide +kernel
theorem dX2_findMove_48 : decode cX2_findMove 48 = .ok (.if_icmp .eq 26, 3) := by decide +kernel
theorem dX2_findMove_51 : decode cX2_findMove 51 = .ok (.aload_n 1, 1) := by decide +kernel
theorem dX2_findMove_52 : decode cX2_findMove 52 = .ok (.iload_n 2, 1) := by decide +kernel
theorem dX2_findMove_53 : decode cX2_findMove 53 = .ok (.invokevirtual 48, 3) := by decide +kernel
theorem dX2_findMove_56 : decode cX2_findMove 56 = .ok (.ifCond .le 18, 3) := by decide +kernel
theorem dX2_findMove_59 : decode cX2_findMove 59 = .ok (.aload_n 1, 1) := by decide +kernel
theorem dX2_findMove_60 : decode cX2_findMove 60 = .ok (.iload_n 3, 1) := by decide +kernel
theorem dX2_findMove_61 : decode cX2_findMove 61 = .ok (.invokevirtual 52, 3) := by decide +kernel
theorem dX2_findMove_64 : decode cX2_findMove 64 = .ok (.ifCond .eq 10, 3) := by decide +kernel
theorem dX2_findMove_67 : decode cX2_findMove 67 = .ok (.aload_n 0, 1) := by decide +kernel
theorem dX2_findMove_68 : decode cX2_findMove 68 = .ok (.aload_n 1, 1) := by decide +kernel
theorem dX2_findMove_69 : decode cX2_findMove 69 = .ok (.iload_n 2, 1) := by decide +kernel
theorem dX2_findMove_70 : decode cX2_findMove 70 = .ok (.iload_n 3, 1) := by decide +kernel
theorem dX2_findMove_71 : decode cX2_findMove 71 = .ok (.invokevirtual 55, 3) := by decide +kernel
theorem dX2_findMove_74 : decode cX2_findMove 74 = .ok (.iinc 3 1, 3) := by decide +kernel
theorem dX2_findMove_77 : decode cX2_findMove 77 = .ok (.goto (-42), 3) := by decide +kernel
theorem dX2_findMove_80 : decode cX2_findMove 80 = .ok (.iinc 2 1, 3) := by decide +kernel
theorem dX2_findMove_83 : decode cX2_findMove 83 = .ok (.goto (-61), 3) := by decide +kernel
theorem dX2_findMove_86 : decode cX2_findMove 86 = .ok (.aload_n 0, 1) := by decide +kernel
theorem dX2_findMove_87 : decode cX2_findMove 87 = .ok (.getfield 39, 3) := by decide +kernel
theorem dX2_findMove_90 : decode cX2_findMove 90 = .ok (.ifCond .le 7, 3) := by decide +kernel
theorem dX2_findMove_93 : decode cX2_findMove 93 = .ok (.iconst 1, 1) := by decide +kernel
theorem dX2_findMove_94 : decode cX2_findMove 94 = .ok (.goto 4, 3) := by decide +kernel
theorem dX2_findMove_97 : decode cX2_findMove 97 = .ok (.iconst 0, 1) := by decide +kernel
theorem dX2_findMove_98 : decode cX2_findMove 98 = .ok (.ireturn, 1) := by decide +kernel
set_option maxRecDepth 20000 in
theorem ggX2_leastWay_X2_findAims : GoodIn wsX2_leastWay wsX2_findAims := goodIn_r _ [13, 1, 14, 2, 4, 15, 16, 17, 18, 19, 20, 21, 22, 23, 24, 25, 26, 27, 28, 29, 46, 47, 48, 49, 50, 51, 52, 53, 54, 55, 56, 57, 58, 59, 60, 61, 62, 63, 64, 65, 66, 67, 68, 69] (by decide +kernel) (by decide +kernel)
set_option maxRecDepth 20000 in
theorem gX2_leastWay_X2_findAims : GoodIn wsX2_leastWay (wsV RX2 18 RX2 yX2_findAims wsX2_findAims) := goodIn_app (goodIn_of _ (by decide +kernel)) ggX2_leastWay_X2_findAims
set_option maxRecDepth 20000 in
theorem ggX2_leastWay_X5_docked : GoodIn wsX2_leastWay wsX5_docked := goodIn_r _ [34, 35, 36, 37, 38, 26, 39, 28, 29, 40, 46, 47, 48, 49, 50, 51, 63, 64, 65, 66, 67, 68, 69] (by decide +kernel) (by decide +kernel)
set_option maxRecDepth 20000 in
theorem gX2_leastWay_X5_docked : GoodIn wsX2_leastWay (wsV RX2 48 RX5 yX5_docked wsX5_docked) := goodIn_app (goodIn_of _ (by decide +kernel)) ggX2_leastWay_X5_docked
set_option maxRecDepth 20000 in
theorem ggX2_leastWay_X2_surplusUpTo : GoodIn wsX2_leastWay wsX2_surplusUpTo := goodIn_r _ [44, 2, 45, 3, 52, 53, 54, 55, 56, 57, 58, 59, 60, 61, 62] (by decide +kernel) (by decide +kernel)
set_option maxRecDepth 20000 in
theorem gX2_leastWay_X2_surplusUpTo : GoodIn wsX2_leastWay (wsV RX2 59 RX2 yX2_surplusUpTo wsX2_surplusUpTo) := goodIn_app (goodIn_of _ (by decide +kernel)) ggX2_leastWay_X2_surplusUpTo
theorem dX2_leastWay_0 : decode cX2_leastWay 0 = .ok (.aload_n 0, 1) := by decide +kernel
theorem dX2_leastWay_1 : decode cX2_leastWay 1 = .ok (.aload_n 1, 1) := by decide +kernel
theorem dX2_leastWay_2 : decode cX2_leastWay 2 = .ok (.invokevirtual 18, 3) := by decide +kernel
theorem dX2_leastWay_5 : decode cX2_leastWay 5 = .ok (.iconst 0, 1) := by decide +kernel
theorem dX2_leastWay_6 : decode cX2_leastWay 6 = .ok (.istore_n 2, 1) := by decide +kernel
theorem dX2_leastWay_7 : decode cX2_leastWay 7 = .ok (.iload_n 2, 1) := by decide +kernel
theorem dX2_leastWay_8 : decode cX2_leastWay 8 = .ok (.aload_n 1, 1) := by decide +kernel
theorem dX2_leastWay_9 : decode cX2_leastWay 9 = .ok (.getfield 22, 3) := by decide +kernel
theorem dX2_leastWay_12 : decode cX2_leastWay 12 = .ok (.getfield 45, 3) := by decide +kernel
theorem dX2_leastWay_15 : decode cX2_leastWay 15 = .ok (.if_icmp .ge 27, 3) := by decide +kernel
theorem dX2_leastWay_18 : decode cX2_leastWay 18 = .ok (.aload_n 0, 1) := by decide +kernel
theorem dX2_leastWay_19 : decode cX2_leastWay 19 = .ok (.getfield 15, 3) := by decide +kernel
theorem dX2_leastWay_22 : decode cX2_leastWay 22 = .ok (.iload_n 2, 1) := by decide +kernel
theorem dX2_leastWay_23 : decode cX2_leastWay 23 = .ok (.aload_n 1, 1) := by decide +kernel
theorem dX2_leastWay_24 : decode cX2_leastWay 24 = .ok (.iload_n 2, 1) := by decide +kernel
theorem dX2_leastWay_25 : decode cX2_leastWay 25 = .ok (.invokevirtual 48, 3) := by decide +kernel
theorem dX2_leastWay_28 : decode cX2_leastWay 28 = .ok (.aload_n 0, 1) := by decide +kernel
theorem dX2_leastWay_29 : decode cX2_leastWay 29 = .ok (.getfield 9, 3) := by decide +kernel
theorem dX2_leastWay_32 : decode cX2_leastWay 32 = .ok (.iload_n 2, 1) := by decide +kernel
theorem dX2_leastWay_33 : decode cX2_leastWay 33 = .ok (.iaload, 1) := by decide +kernel
theorem dX2_leastWay_34 : decode cX2_leastWay 34 = .ok (.isub, 1) := by decide +kernel
theorem dX2_leastWay_35 : decode cX2_leastWay 35 = .ok (.iastore, 1) := by decide +kernel
theorem dX2_leastWay_36 : decode cX2_leastWay 36 = .ok (.iinc 2 1, 3) := by decide +kernel
theorem dX2_leastWay_39 : decode cX2_leastWay 39 = .ok (.goto (-32), 3) := by decide +kernel
theorem dX2_leastWay_42 : decode cX2_leastWay 42 = .ok (.iconst 0, 1) := by decide +kernel
theorem dX2_leastWay_43 : decode cX2_leastWay 43 = .ok (.istore_n 2, 1) := by decide +kernel
theorem dX2_leastWay_44 : decode cX2_leastWay 44 = .ok (.iconst 0, 1) := by decide +kernel
theorem dX2_leastWay_45 : decode cX2_leastWay 45 = .ok (.istore_n 3, 1) := by decide +kernel
theorem dX2_leastWay_46 : decode cX2_leastWay 46 = .ok (.iload_n 3, 1) := by decide +kernel
theorem dX2_leastWay_47 : decode cX2_leastWay 47 = .ok (.bipush 99, 2) := by decide +kernel
theorem dX2_leastWay_49 : decode cX2_leastWay 49 = .ok (.if_icmp .ge 24, 3) := by decide +kernel
theorem dX2_leastWay_52 : decode cX2_leastWay 52 = .ok (.iload_n 2, 1) := by decide +kernel
theorem dX2_leastWay_53 : decode cX2_leastWay 53 = .ok (.aload_n 0, 1) := by decide +kernel
theorem dX2_leastWay_54 : decode cX2_leastWay 54 = .ok (.aload_n 1, 1) := by decide +kernel
theorem dX2_leastWay_55 : decode cX2_leastWay 55 = .ok (.getfield 22, 3) := by decide +kernel
theorem dX2_leastWay_58 : decode cX2_leastWay 58 = .ok (.iload_n 3, 1) := by decide +kernel
theorem dX2_leastWay_59 : decode cX2_leastWay 59 = .ok (.invokevirtual 59, 3) := by decide +kernel
theorem dX2_leastWay_62 : decode cX2_leastWay 62 = .ok (.invokestatic 63, 3) := by decide +kernel
theorem dX2_leastWay_65 : decode cX2_leastWay 65 = .ok (.iadd, 1) := by decide +kernel
theorem dX2_leastWay_66 : decode cX2_leastWay 66 = .ok (.istore_n 2, 1) := by decide +kernel
theorem dX2_leastWay_67 : decode cX2_leastWay 67 = .ok (.iinc 3 1, 3) := by decide +kernel
theorem dX2_leastWay_70 : decode cX2_leastWay 70 = .ok (.goto (-24), 3) := by decide +kernel
theorem dX2_leastWay_73 : decode cX2_leastWay 73 = .ok (.iload_n 2, 1) := by decide +kernel
theorem dX2_leastWay_74 : decode cX2_leastWay 74 = .ok (.ireturn, 1) := by decide +kernel
set_option maxRecDepth 20000 in
theorem ggX2_findAims_X6_allDocks : GoodIn wsX2_findAims wsX6_allDocks := goodIn_r _ [10, 11, 12, 26, 27, 28, 29, 30] (by decide +kernel) (by decide +kernel)
set_option maxRecDepth 20000 in
theorem gX2_findAims_X6_allDocks : GoodIn wsX2_findAims (wsV RX2 68 RX6 yX6_allDocks wsX6_allDocks) := goodIn_app (goodIn_of _ (by decide +kernel)) ggX2_findAims_X6_allDocks
set_option maxRecDepth 20000 in
theorem ggX2_findAims_X1_countWhere : GoodIn wsX2_findAims wsX1_countWhere := goodIn_r _ [17, 18, 19, 37, 38, 39, 40, 41, 42, 43] (by decide +kernel) (by decide +kernel)
set_option maxRecDepth 20000 in
theorem gX2_findAims_X1_countWhere : GoodIn wsX2_findAims (wsV RX2 78 RX1 yX1_countWhere wsX1_countWhere) := goodIn_app (goodIn_of _ (by decide +kernel)) ggX2_findAims_X1_countWhere
theorem dX2_findAims_0 : decode cX2_findAims 0 = .ok (.aload_n 1, 1) := by decide +kernel
theorem dX2_findAims_1 : decode cX2_findAims 1 = .ok (.getfield 22, 3) := by decide +kernel
theorem dX2_findAims_4 : decode cX2_findAims 4 = .ok (.invokevirtual 68, 3) := by decide +kernel
theorem dX2_findAims_7 : decode cX2_findAims 7 = .ok (.istore_n 2, 1) := by decide +kernel
theorem dX2_findAims_8 : decode cX2_findAims 8 = .ok (.aload_n 1, 1) := by decide +kernel
theorem dX2_findAims_9 : decode cX2_findAims 9 = .ok (.getfield 72, 3) := by decide +kernel
theorem dX2_findAims_12 : decode cX2_findAims 12 = .ok (.iconst 0, 1) := by decide +kernel
theorem dX2_findAims_13 : decode cX2_findAims 13 = .ok (.invokevirtual 78, 3) := by decide +kernel
theorem dX2_findAims_16 : decode cX2_findAims 16 = .ok (.istore_n 3, 1) := by decide +kernel
theorem dX2_findAims_17 : decode cX2_findAims 17 = .ok (.iload_n 3, 1) := by decide +kernel
theorem dX2_findAims_18 : decode cX2_findAims 18 = .ok (.istore 4, 2) := by decide +kernel
theorem dX2_findAims_20 : decode cX2_findAims 20 = .ok (.iconst 0, 1) := by decide +kernel
theorem dX2_findAims_21 : decode cX2_findAims 21 = .ok (.istore 5, 2) := by decide +kernel
theorem dX2_findAims_23 : decode cX2_findAims 23 = .ok (.iload 5, 2) := by decide +kernel
theorem dX2_findAims_25 : decode cX2_findAims 25 = .ok (.aload_n 1, 1) := by decide +kernel
theorem dX2_findAims_26 : decode cX2_findAims 26 = .ok (.getfield 22, 3) := by decide +kernel
theorem dX2_findAims_29 : decode cX2_findAims 29 = .ok (.getfield 45, 3) := by decide +kernel
theorem dX2_findAims_32 : decode cX2_findAims 32 = .ok (.if_icmp .ge 50, 3) := by decide +kernel
theorem dX2_findAims_35 : decode cX2_findAims 35 = .ok (.aload_n 0, 1) := by decide +kernel
theorem dX2_findAims_36 : decode cX2_findAims 36 = .ok (.getfield 9, 3) := by decide +kernel
theorem dX2_findAims_39 : decode cX2_findAims 39 = .ok (.iload 5, 2) := by decide +kernel
theorem dX2_findAims_41 : decode cX2_findAims 41 = .ok (.iload_n 2, 1) := by decide +kernel
theorem dX2_findAims_42 : decode cX2_findAims 42 = .ok (.ifCond .le 20, 3) := by decide +kernel
theorem dX2_findAims_45 : decode cX2_findAims 45 = .ok (.aload_n 1, 1) := by decide +kernel
theorem dX2_findAims_46 : decode cX2_findAims 46 = .ok (.getfield 22, 3) := by decide +kernel
theorem dX2_findAims_49 : decode cX2_findAims 49 = .ok (.getfield 81, 3) := by decide +kernel
theorem dX2_findAims_52 : decode cX2_findAims 52 = .ok (.iload 5, 2) := by decide +kernel
theorem dX2_findAims_54 : decode cX2_findAims 54 = .ok (.iaload, 1) := by decide +kernel
theorem dX2_findAims_55 : decode cX2_findAims 55 = .ok (.iload_n 3, 1) := by decide +kernel
theorem dX2_findAims_56 : decode cX2_findAims 56 = .ok (.imul, 1) := by decide +kernel
theorem dX2_findAims_57 : decode cX2_findAims 57 = .ok (.iload_n 2, 1) := by decide +kernel
theorem dX2_findAims_58 : decode cX2_findAims 58 = .ok (.idiv, 1) := by decide +kernel
theorem dX2_findAims_59 : decode cX2_findAims 59 = .ok (.goto 4, 3) := by decide +kernel
theorem dX2_findAims_62 : decode cX2_findAims 62 = .ok (.iconst 0, 1) := by decide +kernel
theorem dX2_findAims_63 : decode cX2_findAims 63 = .ok (.iastore, 1) := by decide +kernel
theorem dX2_findAims_64 : decode cX2_findAims 64 = .ok (.iload 4, 2) := by decide +kernel
theorem dX2_findAims_66 : decode cX2_findAims 66 = .ok (.aload_n 0, 1) := by decide +kernel
theorem dX2_findAims_67 : decode cX2_findAims 67 = .ok (.getfield 9, 3) := by decide +kernel
theorem dX2_findAims_70 : decode cX2_findAims 70 = .ok (.iload 5, 2) := by decide +kernel
theorem dX2_findAims_72 : decode cX2_findAims 72 = .ok (.iaload, 1) := by decide +kernel
theorem dX2_findAims_73 : decode cX2_findAims 73 = .ok (.isub, 1) := by decide +kernel
theorem dX2_findAims_74 : decode cX2_findAims 74 = .ok (.istore 4, 2) := by decide +kernel
theorem dX2_findAims_76 : decode cX2_findAims 76 = .ok (.iinc 5 1, 3) := by decide +kernel
theorem dX2_findAims_79 : decode cX2_findAims 79 = .ok (.goto (-56), 3) := by decide +kernel
theorem dX2_findAims_82 : decode cX2_findAims 82 = .ok (.iconst 0, 1) := by decide +kernel
theorem dX2_findAims_83 : decode cX2_findAims 83 = .ok (.istore 5, 2) := by decide +kernel
theorem dX2_findAims_85 : decode cX2_findAims 85 = .ok (.iload 5, 2) := by decide +kernel
theorem dX2_findAims_87 : decode cX2_findAims 87 = .ok (.aload_n 1, 1) := by decide +kernel
theorem dX2_findAims_88 : decode cX2_findAims 88 = .ok (.getfield 22, 3) := by decide +kernel
theorem dX2_findAims_91 : decode cX2_findAims 91 = .ok (.getfield 45, 3) := by decide +kernel
theorem dX2_findAims_94 : decode cX2_findAims 94 = .ok (.if_icmp .ge 27, 3) := by decide +kernel
theorem dX2_findAims_97 : decode cX2_findAims 97 = .ok (.iload 5, 2) := by decide +kernel
theorem dX2_findAims_99 : decode cX2_findAims 99 = .ok (.iload 4, 2) := by decide +kernel
theorem dX2_findAims_101 : decode cX2_findAims 101 = .ok (.if_icmp .ge 20, 3) := by decide +kernel
theorem dX2_findAims_104 : decode cX2_findAims 104 = .ok (.aload_n 0, 1) := by decide +kernel
theorem dX2_findAims_105 : decode cX2_findAims 105 = .ok (.getfield 9, 3) := by decide +kernel
theorem dX2_findAims_108 : decode cX2_findAims 108 = .ok (.iload 5, 2) := by decide +kernel
theorem dX2_findAims_110 : decode cX2_findAims 110 = .ok (.dup2, 1) := by decide +kernel
theorem dX2_findAims_111 : decode cX2_findAims 111 = .ok (.iaload, 1) := by decide +kernel
theorem dX2_findAims_112 : decode cX2_findAims 112 = .ok (.iconst 1, 1) := by decide +kernel
theorem dX2_findAims_113 : decode cX2_findAims 113 = .ok (.iadd, 1) := by decide +kernel
theorem dX2_findAims_114 : decode cX2_findAims 114 = .ok (.iastore, 1) := by decide +kernel
theorem dX2_findAims_115 : decode cX2_findAims 115 = .ok (.iinc 5 1, 3) := by decide +kernel
theorem dX2_findAims_118 : decode cX2_findAims 118 = .ok (.goto (-33), 3) := by decide +kernel
theorem dX2_findAims_121 : decode cX2_findAims 121 = .ok (.return_, 1) := by decide +kernel
set_option maxRecDepth 20000 in
theorem ggX2_weigh_X2_gain : GoodIn wsX2_weigh wsX2_gain := goodIn_r _ [10, 1, 11, 12, 13, 14, 15, 16, 17, 18, 19, 20, 21, 22, 23, 24, 25, 26, 27, 28, 29, 30, 31, 32, 33, 34, 35, 36, 37, 38, 39, 40, 41, 42, 43, 44, 52, 53, 54, 55, 56, 57, 64, 65, 66, 67, 68, 69, 70, 71, 72, 73, 74, 75] (by decide +kernel) (by decide +kernel)
set_option maxRecDepth 20000 in
theorem gX2_weigh_X2_gain : GoodIn wsX2_weigh (wsV RX2 84 RX2 yX2_gain wsX2_gain) := goodIn_app (goodIn_of _ (by decide +kernel)) ggX2_weigh_X2_gain
set_option maxRecDepth 20000 in
theorem ggX2_weigh_X6_way : GoodIn wsX2_weigh wsX6_way := goodIn_r _ [48, 49, 50, 13, 14, 15, 51, 17, 18, 19, 20, 21, 64, 65, 66, 67, 68] (by decide +kernel) (by decide +kernel)
set_option maxRecDepth 20000 in
theorem gX2_weigh_X6_way : GoodIn wsX2_weigh (wsV RX2 88 RX6 yX6_way wsX6_way) := goodIn_app (goodIn_of _ (by decide +kernel)) ggX2_weigh_X6_way
theorem dX2_weigh_0 : decode cX2_weigh 0 = .ok (.aload_n 0, 1) := by decide +kernel
theorem dX2_weigh_1 : decode cX2_weigh 1 = .ok (.aload_n 1, 1) := by decide +kernel
theorem dX2_weigh_2 : decode cX2_weigh 2 = .ok (.iload_n 2, 1) := by decide +kernel
theorem dX2_weigh_3 : decode cX2_weigh 3 = .ok (.iconst (-1), 1) := by decide +kernel
theorem dX2_weigh_4 : decode cX2_weigh 4 = .ok (.invokevirtual 84, 3) := by decide +kernel
theorem dX2_weigh_7 : decode cX2_weigh 7 = .ok (.aload_n 0, 1) := by decide +kernel
theorem dX2_weigh_8 : decode cX2_weigh 8 = .ok (.aload_n 1, 1) := by decide +kernel
theorem dX2_weigh_9 : decode cX2_weigh 9 = .ok (.iload_n 3, 1) := by decide +kernel
theorem dX2_weigh_10 : decode cX2_weigh 10 = .ok (.iconst 1, 1) := by decide +kernel
theorem dX2_weigh_11 : decode cX2_weigh 11 = .ok (.invokevirtual 84, 3) := by decide +kernel
theorem dX2_weigh_14 : decode cX2_weigh 14 = .ok (.iadd, 1) := by decide +kernel
theorem dX2_weigh_15 : decode cX2_weigh 15 = .ok (.istore 4, 2) := by decide +kernel
theorem dX2_weigh_17 : decode cX2_weigh 17 = .ok (.aload_n 1, 1) := by decide +kernel
theorem dX2_weigh_18 : decode cX2_weigh 18 = .ok (.getfield 22, 3) := by decide +kernel
theorem dX2_weigh_21 : decode cX2_weigh 21 = .ok (.iload_n 2, 1) := by decide +kernel
theorem dX2_weigh_22 : decode cX2_weigh 22 = .ok (.iload_n 3, 1) := by decide +kernel
theorem dX2_weigh_23 : decode cX2_weigh 23 = .ok (.invokevirtual 88, 3) := by decide +kernel
theorem dX2_weigh_26 : decode cX2_weigh 26 = .ok (.istore 5, 2) := by decide +kernel
theorem dX2_weigh_28 : decode cX2_weigh 28 = .ok (.iload 4, 2) := by decide +kernel
theorem dX2_weigh_30 : decode cX2_weigh 30 = .ok (.aload_n 0, 1) := by decide +kernel
theorem dX2_weigh_31 : decode cX2_weigh 31 = .ok (.getfield 39, 3) := by decide +kernel
theorem dX2_weigh_34 : decode cX2_weigh 34 = .ok (.if_icmp .gt 26, 3) := by decide +kernel
theorem dX2_weigh_37 : decode cX2_weigh 37 = .ok (.iload 4, 2) := by decide +kernel
theorem dX2_weigh_39 : decode cX2_weigh 39 = .ok (.aload_n 0, 1) := by decide +kernel
theorem dX2_weigh_40 : decode cX2_weigh 40 = .ok (.getfield 39, 3) := by decide +kernel
theorem dX2_weigh_43 : decode cX2_weigh 43 = .ok (.if_icmp .ne 39, 3) := by decide +kernel
theorem dX2_weigh_46 : decode cX2_weigh 46 = .ok (.iload 4, 2) := by decide +kernel
theorem dX2_weigh_48 : decode cX2_weigh 48 = .ok (.ifCond .le 34, 3) := by decide +kernel
theorem dX2_weigh_51 : decode cX2_weigh 51 = .ok (.iload 5, 2) := by decide +kernel
theorem dX2_weigh_53 : decode cX2_weigh 53 = .ok (.aload_n 0, 1) := by decide +kernel
theorem dX2_weigh_54 : decode cX2_weigh 54 = .ok (.getfield 42, 3) := by decide +kernel
theorem dX2_weigh_57 : decode cX2_weigh 57 = .ok (.if_icmp .ge 25, 3) := by decide +kernel
theorem dX2_weigh_60 : decode cX2_weigh 60 = .ok (.aload_n 0, 1) := by decide +kernel
theorem dX2_weigh_61 : decode cX2_weigh 61 = .ok (.iload_n 2, 1) := by decide +kernel
theorem dX2_weigh_62 : decode cX2_weigh 62 = .ok (.putfield 32, 3) := by decide +kernel
theorem dX2_weigh_65 : decode cX2_weigh 65 = .ok (.aload_n 0, 1) := by decide +kernel
theorem dX2_weigh_66 : decode cX2_weigh 66 = .ok (.iload_n 3, 1) := by decide +kernel
theorem dX2_weigh_67 : decode cX2_weigh 67 = .ok (.putfield 36, 3) := by decide +kernel
theorem dX2_weigh_70 : decode cX2_weigh 70 = .ok (.aload_n 0, 1) := by decide +kernel
theorem dX2_weigh_71 : decode cX2_weigh 71 = .ok (.iload 4, 2) := by decide +kernel
theorem dX2_weigh_73 : decode cX2_weigh 73 = .ok (.putfield 39, 3) := by decide +kernel
theorem dX2_weigh_76 : decode cX2_weigh 76 = .ok (.aload_n 0, 1) := by decide +kernel
theorem dX2_weigh_77 : decode cX2_weigh 77 = .ok (.iload 5, 2) := by decide +kernel
theorem dX2_weigh_79 : decode cX2_weigh 79 = .ok (.putfield 42, 3) := by decide +kernel
theorem dX2_weigh_82 : decode cX2_weigh 82 = .ok (.return_, 1) := by decide +kernel
set_option maxRecDepth 20000 in
theorem ggX2_gain_X6_has : GoodIn wsX2_gain wsX6_has := goodIn_r _ [11, 12, 42, 43, 44, 45, 46] (by decide +kernel) (by decide +kernel)
set_option maxRecDepth 20000 in
theorem gX2_gain_X6_has : GoodIn wsX2_gain (wsV RX2 28 RX6 yX6_has wsX6_has) := goodIn_app (goodIn_of _ (by decide +kernel)) ggX2_gain_X6_has
set_option maxRecDepth 20000 in
theorem ggX2_gain_X5_docked : GoodIn wsX2_gain wsX5_docked := goodIn_r _ [17, 18, 19, 20, 21, 22, 23, 24, 25, 26, 36, 37, 38, 39, 40, 41, 47, 48, 49, 50, 51, 52, 53] (by decide +kernel) (by decide +kernel)
set_option maxRecDepth 20000 in
theorem gX2_gain_X5_docked : GoodIn wsX2_gain (wsV RX2 48 RX5 yX5_docked wsX5_docked) := goodIn_app (goodIn_of _ (by decide +kernel)) ggX2_gain_X5_docked
set_option maxRecDepth 20000 in
theorem ggX2_gain_X5_unevenness : GoodIn wsX2_gain wsX5_unevenness := goodIn_r _ [30, 31, 32, 33, 4, 5, 6, 34, 8, 9, 10, 11, 12, 35, 14, 15, 16, 17, 18, 19, 20, 21, 22, 23, 24, 25, 26, 36, 37, 38, 39, 40, 41, 42, 43, 44, 45, 46, 47, 48, 49, 50, 51, 52, 53] (by decide +kernel) (by decide +kernel)
set_option maxRecDepth 20000 in
theorem gX2_gain_X5_unevenness : GoodIn wsX2_gain (wsV RX2 91 RX5 yX5_unevenness wsX5_unevenness) := goodIn_app (goodIn_of _ (by decide +kernel)) ggX2_gain_X5_unevenness
theorem dX2_gain_0 : decode cX2_gain 0 = .ok (.aload_n 1, 1) := by decide +kernel
theorem dX2_gain_1 : decode cX2_gain 1 = .ok (.getfield 22, 3) := by decide +kernel
theorem dX2_gain_4 : decode cX2_gain 4 = .ok (.iload_n 2, 1) := by decide +kernel
theorem dX2_gain_5 : decode cX2_gain 5 = .ok (.invokevirtual 28, 3) := by decide +kernel
theorem dX2_gain_8 : decode cX2_gain 8 = .ok (.ifCond .ne 5, 3) := by decide +kernel
theorem dX2_gain_11 : decode cX2_gain 11 = .ok (.iconst 0, 1) := by decide +kernel
theorem dX2_gain_12 : decode cX2_gain 12 = .ok (.ireturn, 1) := by decide +kernel
theorem dX2_gain_13 : decode cX2_gain 13 = .ok (.iconst 2, 1) := by decide +kernel
theorem dX2_gain_14 : decode cX2_gain 14 = .ok (.aload_n 1, 1) := by decide +kernel
theorem dX2_gain_15 : decode cX2_gain 15 = .ok (.iload_n 2, 1) := by decide +kernel
theorem dX2_gain_16 : decode cX2_gain 16 = .ok (.invokevirtual 48, 3) := by decide +kernel
theorem dX2_gain_19 : decode cX2_gain 19 = .ok (.iload_n 3, 1) := by decide +kernel
theorem dX2_gain_20 : decode cX2_gain 20 = .ok (.iadd, 1) := by decide +kernel
theorem dX2_gain_21 : decode cX2_gain 21 = .ok (.imul, 1) := by decide +kernel
theorem dX2_gain_22 : decode cX2_gain 22 = .ok (.aload_n 1, 1) := by decide +kernel
theorem dX2_gain_23 : decode cX2_gain 23 = .ok (.getfield 22, 3) := by decide +kernel
theorem dX2_gain_26 : decode cX2_gain 26 = .ok (.getfield 81, 3) := by decide +kernel
theorem dX2_gain_29 : decode cX2_gain 29 = .ok (.iload_n 2, 1) := by decide +kernel
theorem dX2_gain_30 : decode cX2_gain 30 = .ok (.iaload, 1) := by decide +kernel
theorem dX2_gain_31 : decode cX2_gain 31 = .ok (.isub, 1) := by decide +kernel
theorem dX2_gain_32 : decode cX2_gain 32 = .ok (.invokestatic 63, 3) := by decide +kernel
theorem dX2_gain_35 : decode cX2_gain 35 = .ok (.istore 4, 2) := by decide +kernel
theorem dX2_gain_37 : decode cX2_gain 37 = .ok (.aload_n 1, 1) := by decide +kernel
theorem dX2_gain_38 : decode cX2_gain 38 = .ok (.iload_n 2, 1) := by decide +kernel
theorem dX2_gain_39 : decode cX2_gain 39 = .ok (.invokevirtual 91, 3) := by decide +kernel
theorem dX2_gain_42 : decode cX2_gain 42 = .ok (.iload 4, 2) := by decide +kernel
theorem dX2_gain_44 : decode cX2_gain 44 = .ok (.isub, 1) := by decide +kernel
theorem dX2_gain_45 : decode cX2_gain 45 = .ok (.ireturn, 1) := by decide +kernel
theorem dX2_surplusUpTo_0 : decode cX2_surplusUpTo 0 = .ok (.iconst 0, 1) := by decide +kernel
theorem dX2_surplusUpTo_1 : decode cX2_surplusUpTo 1 = .ok (.istore_n 3, 1) := by decide +kernel
theorem dX2_surplusUpTo_2 : decode cX2_surplusUpTo 2 = .ok (.iconst 0, 1) := by decide +kernel
theorem dX2_surplusUpTo_3 : decode cX2_surplusUpTo 3 = .ok (.istore 4, 2) := by decide +kernel
theorem dX2_surplusUpTo_5 : decode cX2_surplusUpTo 5 = .ok (.iload 4, 2) := by decide +kernel
theorem dX2_surplusUpTo_7 : decode cX2_surplusUpTo 7 = .ok (.aload_n 1, 1) := by decide +kernel
theorem dX2_surplusUpTo_8 : decode cX2_surplusUpTo 8 = .ok (.getfield 45, 3) := by decide +kernel
theorem dX2_surplusUpTo_11 : decode cX2_surplusUpTo 11 = .ok (.if_icmp .ge 30, 3) := by decide +kernel
theorem dX2_surplusUpTo_14 : decode cX2_surplusUpTo 14 = .ok (.aload_n 1, 1) := by decide +kernel
theorem dX2_surplusUpTo_15 : decode cX2_surplusUpTo 15 = .ok (.getfield 94, 3) := by decide +kernel
theorem dX2_surplusUpTo_18 : decode cX2_surplusUpTo 18 = .ok (.iload 4, 2) := by decide +kernel
theorem dX2_surplusUpTo_20 : decode cX2_surplusUpTo 20 = .ok (.iaload, 1) := by decide +kernel
theorem dX2_surplusUpTo_21 : decode cX2_surplusUpTo 21 = .ok (.iload_n 2, 1) := by decide +kernel
theorem dX2_surplusUpTo_22 : decode cX2_surplusUpTo 22 = .ok (.if_icmp .gt 13, 3) := by decide +kernel
theorem dX2_surplusUpTo_25 : decode cX2_surplusUpTo 25 = .ok (.iload_n 3, 1) := by decide +kernel
theorem dX2_surplusUpTo_26 : decode cX2_surplusUpTo 26 = .ok (.aload_n 0, 1) := by decide +kernel
theorem dX2_surplusUpTo_27 : decode cX2_surplusUpTo 27 = .ok (.getfield 15, 3) := by decide +kernel
theorem dX2_surplusUpTo_30 : decode cX2_surplusUpTo 30 = .ok (.iload 4, 2) := by decide +kernel
theorem dX2_surplusUpTo_32 : decode cX2_surplusUpTo 32 = .ok (.iaload, 1) := by decide +kernel
theorem dX2_surplusUpTo_33 : decode cX2_surplusUpTo 33 = .ok (.iadd, 1) := by decide +kernel
theorem dX2_surplusUpTo_34 : decode cX2_surplusUpTo 34 = .ok (.istore_n 3, 1) := by decide +kernel
theorem dX2_surplusUpTo_35 : decode cX2_surplusUpTo 35 = .ok (.iinc 4 1, 3) := by decide +kernel
theorem dX2_surplusUpTo_38 : decode cX2_surplusUpTo 38 = .ok (.goto (-33), 3) := by decide +kernel
theorem dX2_surplusUpTo_41 : decode cX2_surplusUpTo 41 = .ok (.iload_n 3, 1) := by decide +kernel
theorem dX2_surplusUpTo_42 : decode cX2_surplusUpTo 42 = .ok (.ireturn, 1) := by decide +kernel
set_option maxRecDepth 20000 in
theorem ggX3_init_X5_init : GoodIn wsX3_init wsX5_init := goodIn_r _ [9, 10, 2, 3, 11, 12, 13, 14, 15, 16, 17, 18, 19, 20, 21, 22, 23, 24, 25, 26, 27, 28, 29, 30, 31, 32, 33, 34, 35, 36, 37, 38, 39, 40, 41, 42, 43, 44, 45, 46, 47, 48, 49, 50, 51, 52, 53, 54, 55, 56, 57, 58, 59, 60, 61, 62, 72, 73, 74, 75, 76, 63, 64, 65, 66, 67, 68, 77, 78, 79, 80, 81, 82, 83, 84, 85, 86, 87, 88, 89, 90, 91, 92, 93, 94, 95, 96, 97] (by decide +kernel) (by decide +kernel)
set_option maxRecDepth 20000 in
theorem gX3_init_X5_init_n9 : GoodIn wsX3_init (wsX5_init) := ggX3_init_X5_init
theorem dX3_init_0 : decode cX3_init 0 = .ok (.aload_n 0, 1) := by decide +kernel
theorem dX3_init_1 : decode cX3_init 1 = .ok (.invokespecial 1, 3) := by decide +kernel
theorem dX3_init_4 : decode cX3_init 4 = .ok (.aload_n 0, 1) := by decide +kernel
theorem dX3_init_5 : decode cX3_init 5 = .ok (.iconst 4, 1) := by decide +kernel
theorem dX3_init_6 : decode cX3_init 6 = .ok (.anewarray 7, 3) := by decide +kernel
theorem dX3_init_9 : decode cX3_init 9 = .ok (.dup, 1) := by decide +kernel
theorem dX3_init_10 : decode cX3_init 10 = .ok (.iconst 0, 1) := by decide +kernel
theorem dX3_init_11 : decode cX3_init 11 = .ok (.new 7, 3) := by decide +kernel
theorem dX3_init_14 : decode cX3_init 14 = .ok (.dup, 1) := by decide +kernel
theorem dX3_init_15 : decode cX3_init 15 = .ok (.invokespecial 9, 3) := by decide +kernel
theorem dX3_init_18 : decode cX3_init 18 = .ok (.aastore, 1) := by decide +kernel
theorem dX3_init_19 : decode cX3_init 19 = .ok (.dup, 1) := by decide +kernel
theorem dX3_init_20 : decode cX3_init 20 = .ok (.iconst 1, 1) := by decide +kernel
theorem dX3_init_21 : decode cX3_init 21 = .ok (.new 7, 3) := by decide +kernel
theorem dX3_init_24 : decode cX3_init 24 = .ok (.dup, 1) := by decide +kernel
theorem dX3_init_25 : decode cX3_init 25 = .ok (.invokespecial 9, 3) := by decide +kernel
theorem dX3_init_28 : decode cX3_init 28 = .ok (.aastore, 1) := by decide +kernel
theorem dX3_init_29 : decode cX3_init 29 = .ok (.dup, 1) := by decide +kernel
theorem dX3_init_30 : decode cX3_init 30 = .ok (.iconst 2, 1) := by decide +kernel
theorem dX3_init_31 : decode cX3_init 31 = .ok (.new 7, 3) := by decide +kernel
theorem dX3_init_34 : decode cX3_init 34 = .ok (.dup, 1) := by decide +kernel
theorem dX3_init_35 : decode cX3_init 35 = .ok (.invokespecial 9, 3) := by decide +kernel
theorem dX3_init_38 : decode cX3_init 38 = .ok (.aastore, 1) := by decide +kernel
theorem dX3_init_39 : decode cX3_init 39 = .ok (.dup, 1) := by decide +kernel
theorem dX3_init_40 : decode cX3_init 40 = .ok (.iconst 3, 1) := by decide +kernel
theorem dX3_init_41 : decode cX3_init 41 = .ok (.new 7, 3) := by decide +kernel
theorem dX3_init_44 : decode cX3_init 44 = .ok (.dup, 1) := by decide +kernel
theorem dX3_init_45 : decode cX3_init 45 = .ok (.invokespecial 9, 3) := by decide +kernel
theorem dX3_init_48 : decode cX3_init 48 = .ok (.aastore, 1) := by decide +kernel
theorem dX3_init_49 : decode cX3_init 49 = .ok (.putfield 10, 3) := by decide +kernel
theorem dX3_init_52 : decode cX3_init 52 = .ok (.return_, 1) := by decide +kernel
set_option maxRecDepth 20000 in
theorem ggX3_record_X5_copy : GoodIn wsX3_record wsX5_copy := goodIn_r _ [8, 9, 10, 11, 12, 13, 14, 15, 16, 17, 18, 19, 20, 21, 22, 23, 24, 25, 26, 27, 28, 29, 30, 31, 32, 33, 34, 35, 36, 37, 38, 39, 40, 41, 42, 43, 44, 45, 46, 47, 48, 49, 50, 51, 52, 53, 54, 55, 56, 57, 58, 59, 60, 61, 62, 63, 64, 65, 66, 67, 68, 72, 73, 74, 75, 76, 77, 78, 79, 80, 81, 82, 83, 84, 85, 86, 87, 88, 89, 90, 91, 92, 93, 94, 95, 96, 97, 98, 99, 100, 101, 102, 103] (by decide +kernel) (by decide +kernel)
set_option maxRecDepth 20000 in
theorem gX3_record_X5_copy : GoodIn wsX3_record (wsV RX3 23 RX5 yX5_copy wsX5_copy) := goodIn_app (goodIn_of _ (by decide +kernel)) ggX3_record_X5_copy
theorem dX3_record_0 : decode cX3_record 0 = .ok (.aload_n 0, 1) := by decide +kernel
theorem dX3_record_1 : decode cX3_record 1 = .ok (.getfield 16, 3) := by decide +kernel
theorem dX3_record_4 : decode cX3_record 4 = .ok (.iconst 4, 1) := by decide +kernel
theorem dX3_record_5 : decode cX3_record 5 = .ok (.if_icmp .ne 25, 3) := by decide +kernel
theorem dX3_record_8 : decode cX3_record 8 = .ok (.aload_n 0, 1) := by decide +kernel
theorem dX3_record_9 : decode cX3_record 9 = .ok (.aload_n 0, 1) := by decide +kernel
theorem dX3_record_10 : decode cX3_record 10 = .ok (.getfield 20, 3) := by decide +kernel
theorem dX3_record_13 : decode cX3_record 13 = .ok (.iconst 1, 1) := by decide +kernel
theorem dX3_record_14 : decode cX3_record 14 = .ok (.iadd, 1) := by decide +kernel
theorem dX3_record_15 : decode cX3_record 15 = .ok (.iconst 4, 1) := by decide +kernel
theorem dX3_record_16 : decode cX3_record 16 = .ok (.irem, 1) := by decide +kernel
theorem dX3_record_17 : decode cX3_record 17 = .ok (.putfield 20, 3) := by decide +kernel
theorem dX3_record_20 : decode cX3_record 20 = .ok (.aload_n 0, 1) := by decide +kernel
theorem dX3_record_21 : decode cX3_record 21 = .ok (.dup, 1) := by decide +kernel
theorem dX3_record_22 : decode cX3_record 22 = .ok (.getfield 16, 3) := by decide +kernel
theorem dX3_record_25 : decode cX3_record 25 = .ok (.iconst 1, 1) := by decide +kernel
theorem dX3_record_26 : decode cX3_record 26 = .ok (.isub, 1) := by decide +kernel
theorem dX3_record_27 : decode cX3_record 27 = .ok (.putfield 16, 3) := by decide +kernel
theorem dX3_record_30 : decode cX3_record 30 = .ok (.aload_n 0, 1) := by decide +kernel
theorem dX3_record_31 : decode cX3_record 31 = .ok (.getfield 10, 3) := by decide +kernel
theorem dX3_record_34 : decode cX3_record 34 = .ok (.aload_n 0, 1) := by decide +kernel
theorem dX3_record_35 : decode cX3_record 35 = .ok (.getfield 20, 3) := by decide +kernel
theorem dX3_record_38 : decode cX3_record 38 = .ok (.aload_n 0, 1) := by decide +kernel
theorem dX3_record_39 : decode cX3_record 39 = .ok (.getfield 16, 3) := by decide +kernel
theorem dX3_record_42 : decode cX3_record 42 = .ok (.iadd, 1) := by decide +kernel
theorem dX3_record_43 : decode cX3_record 43 = .ok (.iconst 4, 1) := by decide +kernel
theorem dX3_record_44 : decode cX3_record 44 = .ok (.irem, 1) := by decide +kernel
theorem dX3_record_45 : decode cX3_record 45 = .ok (.aaload, 1) := by decide +kernel
theorem dX3_record_46 : decode cX3_record 46 = .ok (.astore_n 2, 1) := by decide +kernel
theorem dX3_record_47 : decode cX3_record 47 = .ok (.aload_n 2, 1) := by decide +kernel
theorem dX3_record_48 : decode cX3_record 48 = .ok (.ifnull 18, 3) := by decide +kernel
theorem dX3_record_51 : decode cX3_record 51 = .ok (.aload_n 2, 1) := by decide +kernel
theorem dX3_record_52 : decode cX3_record 52 = .ok (.aload_n 1, 1) := by decide +kernel
theorem dX3_record_53 : decode cX3_record 53 = .ok (.invokevirtual 23, 3) := by decide +kernel
theorem dX3_record_56 : decode cX3_record 56 = .ok (.aload_n 0, 1) := by decide +kernel
theorem dX3_record_57 : decode cX3_record 57 = .ok (.dup, 1) := by decide +kernel
theorem dX3_record_58 : decode cX3_record 58 = .ok (.getfield 16, 3) := by decide +kernel
theorem dX3_record_61 : decode cX3_record 61 = .ok (.iconst 1, 1) := by decide +kernel
theorem dX3_record_62 : decode cX3_record 62 = .ok (.iadd, 1) := by decide +kernel
theorem dX3_record_63 : decode cX3_record 63 = .ok (.putfield 16, 3) := by decide +kernel
theorem dX3_record_66 : decode cX3_record 66 = .ok (.return_, 1) := by decide +kernel
set_option maxRecDepth 20000 in
theorem ggX3_takeLatest_X5_copy : GoodIn wsX3_takeLatest wsX5_copy := goodIn_r _ [8, 9, 10, 11, 12, 13, 14, 15, 16, 17, 18, 19, 20, 21, 22, 23, 24, 25, 26, 27, 28, 29, 30, 31, 32, 33, 34, 35, 36, 37, 38, 39, 40, 41, 42, 43, 44, 45, 46, 47, 48, 49, 50, 51, 52, 53, 54, 55, 56, 57, 58, 59, 60, 61, 62, 63, 64, 65, 66, 67, 68, 72, 73, 74, 75, 76, 77, 78, 79, 80, 81, 82, 83, 84, 85, 86, 87, 88, 89, 90, 91, 92, 93, 94, 95, 96, 97, 98, 99, 100, 101, 102, 103] (by decide +kernel) (by decide +kernel)
set_option maxRecDepth 20000 in
theorem gX3_takeLatest_X5_copy : GoodIn wsX3_takeLatest (wsV RX3 23 RX5 yX5_copy wsX5_copy) := goodIn_app (goodIn_of _ (by decide +kernel)) ggX3_takeLatest_X5_copy
theorem dX3_takeLatest_0 : decode cX3_takeLatest 0 = .ok (.aload_n 0, 1) := by decide +kernel
theorem dX3_takeLatest_1 : decode cX3_takeLatest 1 = .ok (.getfield 16, 3) := by decide +kernel
theorem dX3_takeLatest_4 : decode cX3_takeLatest 4 = .ok (.ifCond .ne 5, 3) := by decide +kernel
theorem dX3_takeLatest_7 : decode cX3_takeLatest 7 = .ok (.iconst 0, 1) := by decide +kernel
theorem dX3_takeLatest_8 : decode cX3_takeLatest 8 = .ok (.ireturn, 1) := by decide +kernel
theorem dX3_takeLatest_9 : decode cX3_takeLatest 9 = .ok (.aload_n 0, 1) := by decide +kernel
theorem dX3_takeLatest_10 : decode cX3_takeLatest 10 = .ok (.dup, 1) := by decide +kernel
theorem dX3_takeLatest_11 : decode cX3_takeLatest 11 = .ok (.getfield 16, 3) := by decide +kernel
theorem dX3_takeLatest_14 : decode cX3_takeLatest 14 = .ok (.iconst 1, 1) := by decide +kernel
theorem dX3_takeLatest_15 : decode cX3_takeLatest 15 = .ok (.isub, 1) := by decide +kernel
theorem dX3_takeLatest_16 : decode cX3_takeLatest 16 = .ok (.putfield 16, 3) := by decide +kernel
theorem dX3_takeLatest_19 : decode cX3_takeLatest 19 = .ok (.aload_n 0, 1) := by decide +kernel
theorem dX3_takeLatest_20 : decode cX3_takeLatest 20 = .ok (.getfield 10, 3) := by decide +kernel
theorem dX3_takeLatest_23 : decode cX3_takeLatest 23 = .ok (.aload_n 0, 1) := by decide +kernel
theorem dX3_takeLatest_24 : decode cX3_takeLatest 24 = .ok (.getfield 20, 3) := by decide +kernel
theorem dX3_takeLatest_27 : decode cX3_takeLatest 27 = .ok (.aload_n 0, 1) := by decide +kernel
theorem dX3_takeLatest_28 : decode cX3_takeLatest 28 = .ok (.getfield 16, 3) := by decide +kernel
theorem dX3_takeLatest_31 : decode cX3_takeLatest 31 = .ok (.iadd, 1) := by decide +kernel
theorem dX3_takeLatest_32 : decode cX3_takeLatest 32 = .ok (.iconst 4, 1) := by decide +kernel
theorem dX3_takeLatest_33 : decode cX3_takeLatest 33 = .ok (.irem, 1) := by decide +kernel
theorem dX3_takeLatest_34 : decode cX3_takeLatest 34 = .ok (.aaload, 1) := by decide +kernel
theorem dX3_takeLatest_35 : decode cX3_takeLatest 35 = .ok (.astore_n 2, 1) := by decide +kernel
theorem dX3_takeLatest_36 : decode cX3_takeLatest 36 = .ok (.aload_n 2, 1) := by decide +kernel
theorem dX3_takeLatest_37 : decode cX3_takeLatest 37 = .ok (.ifnull 8, 3) := by decide +kernel
theorem dX3_takeLatest_40 : decode cX3_takeLatest 40 = .ok (.aload_n 1, 1) := by decide +kernel
theorem dX3_takeLatest_41 : decode cX3_takeLatest 41 = .ok (.aload_n 2, 1) := by decide +kernel
theorem dX3_takeLatest_42 : decode cX3_takeLatest 42 = .ok (.invokevirtual 23, 3) := by decide +kernel
theorem dX3_takeLatest_45 : decode cX3_takeLatest 45 = .ok (.aload_n 2, 1) := by decide +kernel
theorem dX3_takeLatest_46 : decode cX3_takeLatest 46 = .ok (.ifnull 7, 3) := by decide +kernel
theorem dX3_takeLatest_49 : decode cX3_takeLatest 49 = .ok (.iconst 1, 1) := by decide +kernel
theorem dX3_takeLatest_50 : decode cX3_takeLatest 50 = .ok (.goto 4, 3) := by decide +kernel
theorem dX3_takeLatest_53 : decode cX3_takeLatest 53 = .ok (.iconst 0, 1) := by decide +kernel
theorem dX3_takeLatest_54 : decode cX3_takeLatest 54 = .ok (.ireturn, 1) := by decide +kernel
theorem dX4_init_0 : decode cX4_init 0 = .ok (.aload_n 0, 1) := by decide +kernel
theorem dX4_init_1 : decode cX4_init 1 = .ok (.invokespecial 3, 3) := by decide +kernel
theorem dX4_init_4 : decode cX4_init 4 = .ok (.aload_n 0, 1) := by decide +kernel
theorem dX4_init_5 : decode cX4_init 5 = .ok (.bipush 8, 2) := by decide +kernel
theorem dX4_init_7 : decode cX4_init 7 = .ok (.newarray .int, 2) := by decide +kernel
theorem dX4_init_9 : decode cX4_init 9 = .ok (.putfield 11, 3) := by decide +kernel
theorem dX4_init_12 : decode cX4_init 12 = .ok (.aload_n 0, 1) := by decide +kernel
theorem dX4_init_13 : decode cX4_init 13 = .ok (.bipush 8, 2) := by decide +kernel
theorem dX4_init_15 : decode cX4_init 15 = .ok (.newarray .int, 2) := by decide +kernel
theorem dX4_init_17 : decode cX4_init 17 = .ok (.putfield 15, 3) := by decide +kernel
theorem dX4_init_20 : decode cX4_init 20 = .ok (.aload_n 0, 1) := by decide +kernel
theorem dX4_init_21 : decode cX4_init 21 = .ok (.bipush 8, 2) := by decide +kernel
theorem dX4_init_23 : decode cX4_init 23 = .ok (.newarray .int, 2) := by decide +kernel
theorem dX4_init_25 : decode cX4_init 25 = .ok (.putfield 18, 3) := by decide +kernel
theorem dX4_init_28 : decode cX4_init 28 = .ok (.aload_n 0, 1) := by decide +kernel
theorem dX4_init_29 : decode cX4_init 29 = .ok (.bipush 8, 2) := by decide +kernel
theorem dX4_init_31 : decode cX4_init 31 = .ok (.newarray .int, 2) := by decide +kernel
theorem dX4_init_33 : decode cX4_init 33 = .ok (.putfield 21, 3) := by decide +kernel
theorem dX4_init_36 : decode cX4_init 36 = .ok (.aload_n 0, 1) := by decide +kernel
theorem dX4_init_37 : decode cX4_init 37 = .ok (.bipush 8, 2) := by decide +kernel
theorem dX4_init_39 : decode cX4_init 39 = .ok (.newarray .int, 2) := by decide +kernel
theorem dX4_init_41 : decode cX4_init 41 = .ok (.putfield 24, 3) := by decide +kernel
theorem dX4_init_44 : decode cX4_init 44 = .ok (.aload_n 0, 1) := by decide +kernel
theorem dX4_init_45 : decode cX4_init 45 = .ok (.bipush 8, 2) := by decide +kernel
theorem dX4_init_47 : decode cX4_init 47 = .ok (.newarray .int, 2) := by decide +kernel
theorem dX4_init_49 : decode cX4_init 49 = .ok (.putfield 27, 3) := by decide +kernel
theorem dX4_init_52 : decode cX4_init 52 = .ok (.aload_n 0, 1) := by decide +kernel
theorem dX4_init_53 : decode cX4_init 53 = .ok (.bipush 8, 2) := by decide +kernel
theorem dX4_init_55 : decode cX4_init 55 = .ok (.newarray .int, 2) := by decide +kernel
theorem dX4_init_57 : decode cX4_init 57 = .ok (.putfield 30, 3) := by decide +kernel
theorem dX4_init_60 : decode cX4_init 60 = .ok (.aload_n 0, 1) := by decide +kernel
theorem dX4_init_61 : decode cX4_init 61 = .ok (.bipush 8, 2) := by decide +kernel
theorem dX4_init_63 : decode cX4_init 63 = .ok (.newarray .int, 2) := by decide +kernel
theorem dX4_init_65 : decode cX4_init 65 = .ok (.putfield 33, 3) := by decide +kernel
theorem dX4_init_68 : decode cX4_init 68 = .ok (.aload_n 0, 1) := by decide +kernel
theorem dX4_init_69 : decode cX4_init 69 = .ok (.bipush 8, 2) := by decide +kernel
theorem dX4_init_71 : decode cX4_init 71 = .ok (.newarray .int, 2) := by decide +kernel
theorem dX4_init_73 : decode cX4_init 73 = .ok (.putfield 36, 3) := by decide +kernel
theorem dX4_init_76 : decode cX4_init 76 = .ok (.return_, 1) := by decide +kernel
theorem dX4_copy_0 : decode cX4_copy 0 = .ok (.aload_n 0, 1) := by decide +kernel
theorem dX4_copy_1 : decode cX4_copy 1 = .ok (.aload_n 1, 1) := by decide +kernel
theorem dX4_copy_2 : decode cX4_copy 2 = .ok (.getfield 39, 3) := by decide +kernel
theorem dX4_copy_5 : decode cX4_copy 5 = .ok (.putfield 39, 3) := by decide +kernel
theorem dX4_copy_8 : decode cX4_copy 8 = .ok (.aload_n 1, 1) := by decide +kernel
theorem dX4_copy_9 : decode cX4_copy 9 = .ok (.getfield 11, 3) := by decide +kernel
theorem dX4_copy_12 : decode cX4_copy 12 = .ok (.iconst 0, 1) := by decide +kernel
theorem dX4_copy_13 : decode cX4_copy 13 = .ok (.aload_n 0, 1) := by decide +kernel
theorem dX4_copy_14 : decode cX4_copy 14 = .ok (.getfield 11, 3) := by decide +kernel
theorem dX4_copy_17 : decode cX4_copy 17 = .ok (.iconst 0, 1) := by decide +kernel
theorem dX4_copy_18 : decode cX4_copy 18 = .ok (.bipush 8, 2) := by decide +kernel
theorem dX4_copy_20 : decode cX4_copy 20 = .ok (.invokestatic 43, 3) := by decide +kernel
theorem dX4_copy_23 : decode cX4_copy 23 = .ok (.aload_n 1, 1) := by decide +kernel
theorem dX4_copy_24 : decode cX4_copy 24 = .ok (.getfield 15, 3) := by decide +kernel
theorem dX4_copy_27 : decode cX4_copy 27 = .ok (.iconst 0, 1) := by decide +kernel
theorem dX4_copy_28 : decode cX4_copy 28 = .ok (.aload_n 0, 1) := by decide +kernel
theorem dX4_copy_29 : decode cX4_copy 29 = .ok (.getfield 15, 3) := by decide +kernel
theorem dX4_copy_32 : decode cX4_copy 32 = .ok (.iconst 0, 1) := by decide +kernel
theorem dX4_copy_33 : decode cX4_copy 33 = .ok (.bipush 8, 2) := by decide +kernel
theorem dX4_copy_35 : decode cX4_copy 35 = .ok (.invokestatic 43, 3) := by decide +kernel
theorem dX4_copy_38 : decode cX4_copy 38 = .ok (.aload_n 1, 1) := by decide +kernel
theorem dX4_copy_39 : decode cX4_copy 39 = .ok (.getfield 18, 3) := by decide +kernel
theorem dX4_copy_42 : decode cX4_copy 42 = .ok (.iconst 0, 1) := by decide +kernel
theorem dX4_copy_43 : decode cX4_copy 43 = .ok (.aload_n 0, 1) := by decide +kernel
theorem dX4_copy_44 : decode cX4_copy 44 = .ok (.getfield 18, 3) := by decide +kernel
theorem dX4_copy_47 : decode cX4_copy 47 = .ok (.iconst 0, 1) := by decide +kernel
theorem dX4_copy_48 : decode cX4_copy 48 = .ok (.bipush 8, 2) := by decide +kernel
theorem dX4_copy_50 : decode cX4_copy 50 = .ok (.invokestatic 43, 3) := by decide +kernel
theorem dX4_copy_53 : decode cX4_copy 53 = .ok (.aload_n 1, 1) := by decide +kernel
theorem dX4_copy_54 : decode cX4_copy 54 = .ok (.getfield 21, 3) := by decide +kernel
theorem dX4_copy_57 : decode cX4_copy 57 = .ok (.iconst 0, 1) := by decide +kernel
theorem dX4_copy_58 : decode cX4_copy 58 = .ok (.aload_n 0, 1) := by decide +kernel
theorem dX4_copy_59 : decode cX4_copy 59 = .ok (.getfield 21, 3) := by decide +kernel
theorem dX4_copy_62 : decode cX4_copy 62 = .ok (.iconst 0, 1) := by decide +kernel
theorem dX4_copy_63 : decode cX4_copy 63 = .ok (.bipush 8, 2) := by decide +kernel
theorem dX4_copy_65 : decode cX4_copy 65 = .ok (.invokestatic 43, 3) := by decide +kernel
theorem dX4_copy_68 : decode cX4_copy 68 = .ok (.aload_n 1, 1) := by decide +kernel
theorem dX4_copy_69 : decode cX4_copy 69 = .ok (.getfield 24, 3) := by decide +kernel
theorem dX4_copy_72 : decode cX4_copy 72 = .ok (.iconst 0, 1) := by decide +kernel
theorem dX4_copy_73 : decode cX4_copy 73 = .ok (.aload_n 0, 1) := by decide +kernel
theorem dX4_copy_74 : decode cX4_copy 74 = .ok (.getfield 24, 3) := by decide +kernel
theorem dX4_copy_77 : decode cX4_copy 77 = .ok (.iconst 0, 1) := by decide +kernel
theorem dX4_copy_78 : decode cX4_copy 78 = .ok (.bipush 8, 2) := by decide +kernel
theorem dX4_copy_80 : decode cX4_copy 80 = .ok (.invokestatic 43, 3) := by decide +kernel
theorem dX4_copy_83 : decode cX4_copy 83 = .ok (.aload_n 1, 1) := by decide +kernel
theorem dX4_copy_84 : decode cX4_copy 84 = .ok (.getfield 27, 3) := by decide +kernel
theorem dX4_copy_87 : decode cX4_copy 87 = .ok (.iconst 0, 1) := by decide +kernel
theorem dX4_copy_88 : decode cX4_copy 88 = .ok (.aload_n 0, 1) := by decide +kernel
theorem dX4_copy_89 : decode cX4_copy 89 = .ok (.getfield 27, 3) := by decide +kernel
theorem dX4_copy_92 : decode cX4_copy 92 = .ok (.iconst 0, 1) := by decide +kernel
theorem dX4_copy_93 : decode cX4_copy 93 = .ok (.bipush 8, 2) := by decide +kernel
theorem dX4_copy_95 : decode cX4_copy 95 = .ok (.invokestatic 43, 3) := by decide +kernel
theorem dX4_copy_98 : decode cX4_copy 98 = .ok (.aload_n 1, 1) := by decide +kernel
theorem dX4_copy_99 : decode cX4_copy 99 = .ok (.getfield 30, 3) := by decide +kernel
theorem dX4_copy_102 : decode cX4_copy 102 = .ok (.iconst 0, 1) := by decide +kernel
theorem dX4_copy_103 : decode cX4_copy 103 = .ok (.aload_n 0, 1) := by decide +kernel
theorem dX4_copy_104 : decode cX4_copy 104 = .ok (.getfield 30, 3) := by decide +kernel
theorem dX4_copy_107 : decode cX4_copy 107 = .ok (.iconst 0, 1) := by decide +kernel
theorem dX4_copy_108 : decode cX4_copy 108 = .ok (.bipush 8, 2) := by decide +kernel
theorem dX4_copy_110 : decode cX4_copy 110 = .ok (.invokestatic 43, 3) := by decide +kernel
theorem dX4_copy_113 : decode cX4_copy 113 = .ok (.aload_n 1, 1) := by decide +kernel
theorem dX4_copy_114 : decode cX4_copy 114 = .ok (.getfield 33, 3) := by decide +kernel
theorem dX4_copy_117 : decode cX4_copy 117 = .ok (.iconst 0, 1) := by decide +kernel
theorem dX4_copy_118 : decode cX4_copy 118 = .ok (.aload_n 0, 1) := by decide +kernel
theorem dX4_copy_119 : decode cX4_copy 119 = .ok (.getfield 33, 3) := by decide +kernel
theorem dX4_copy_122 : decode cX4_copy 122 = .ok (.iconst 0, 1) := by decide +kernel
theorem dX4_copy_123 : decode cX4_copy 123 = .ok (.bipush 8, 2) := by decide +kernel
theorem dX4_copy_125 : decode cX4_copy 125 = .ok (.invokestatic 43, 3) := by decide +kernel
theorem dX4_copy_128 : decode cX4_copy 128 = .ok (.aload_n 1, 1) := by decide +kernel
theorem dX4_copy_129 : decode cX4_copy 129 = .ok (.getfield 36, 3) := by decide +kernel
theorem dX4_copy_132 : decode cX4_copy 132 = .ok (.iconst 0, 1) := by decide +kernel
theorem dX4_copy_133 : decode cX4_copy 133 = .ok (.aload_n 0, 1) := by decide +kernel
theorem dX4_copy_134 : decode cX4_copy 134 = .ok (.getfield 36, 3) := by decide +kernel
theorem dX4_copy_137 : decode cX4_copy 137 = .ok (.iconst 0, 1) := by decide +kernel
theorem dX4_copy_138 : decode cX4_copy 138 = .ok (.bipush 8, 2) := by decide +kernel
theorem dX4_copy_140 : decode cX4_copy 140 = .ok (.invokestatic 43, 3) := by decide +kernel
theorem dX4_copy_143 : decode cX4_copy 143 = .ok (.return_, 1) := by decide +kernel
theorem dX4_has_0 : decode cX4_has 0 = .ok (.iload_n 1, 1) := by decide +kernel
theorem dX4_has_1 : decode cX4_has 1 = .ok (.ifCond .lt 15, 3) := by decide +kernel
theorem dX4_has_4 : decode cX4_has 4 = .ok (.iload_n 1, 1) := by decide +kernel
theorem dX4_has_5 : decode cX4_has 5 = .ok (.aload_n 0, 1) := by decide +kernel
theorem dX4_has_6 : decode cX4_has 6 = .ok (.getfield 39, 3) := by decide +kernel
theorem dX4_has_9 : decode cX4_has 9 = .ok (.if_icmp .ge 7, 3) := by decide +kernel
theorem dX4_has_12 : decode cX4_has 12 = .ok (.iconst 1, 1) := by decide +kernel
theorem dX4_has_13 : decode cX4_has 13 = .ok (.goto 4, 3) := by decide +kernel
theorem dX4_has_16 : decode cX4_has 16 = .ok (.iconst 0, 1) := by decide +kernel
theorem dX4_has_17 : decode cX4_has 17 = .ok (.ireturn, 1) := by decide +kernel
theorem dX4_add_0 : decode cX4_add 0 = .ok (.aload_n 0, 1) := by decide +kernel
theorem dX4_add_1 : decode cX4_add 1 = .ok (.getfield 39, 3) := by decide +kernel
theorem dX4_add_4 : decode cX4_add 4 = .ok (.bipush 8, 2) := by decide +kernel
theorem dX4_add_6 : decode cX4_add 6 = .ok (.if_icmp .lt 6, 3) := by decide +kernel
theorem dX4_add_9 : decode cX4_add 9 = .ok (.bipush (-3), 2) := by decide +kernel
theorem dX4_add_11 : decode cX4_add 11 = .ok (.ireturn, 1) := by decide +kernel
theorem dX4_add_12 : decode cX4_add 12 = .ok (.aload_n 0, 1) := by decide +kernel
theorem dX4_add_13 : decode cX4_add 13 = .ok (.getfield 24, 3) := by decide +kernel
theorem dX4_add_16 : decode cX4_add 16 = .ok (.aload_n 0, 1) := by decide +kernel
theorem dX4_add_17 : decode cX4_add 17 = .ok (.getfield 39, 3) := by decide +kernel
theorem dX4_add_20 : decode cX4_add 20 = .ok (.iconst (-1), 1) := by decide +kernel
theorem dX4_add_21 : decode cX4_add 21 = .ok (.iastore, 1) := by decide +kernel
theorem dX4_add_22 : decode cX4_add 22 = .ok (.aload_n 0, 1) := by decide +kernel
theorem dX4_add_23 : decode cX4_add 23 = .ok (.dup, 1) := by decide +kernel
theorem dX4_add_24 : decode cX4_add 24 = .ok (.getfield 39, 3) := by decide +kernel
theorem dX4_add_27 : decode cX4_add 27 = .ok (.iconst 1, 1) := by decide +kernel
theorem dX4_add_28 : decode cX4_add 28 = .ok (.iadd, 1) := by decide +kernel
theorem dX4_add_29 : decode cX4_add 29 = .ok (.putfield 39, 3) := by decide +kernel
theorem dX4_add_32 : decode cX4_add 32 = .ok (.aload_n 0, 1) := by decide +kernel
theorem dX4_add_33 : decode cX4_add 33 = .ok (.getfield 39, 3) := by decide +kernel
theorem dX4_add_36 : decode cX4_add 36 = .ok (.iconst 1, 1) := by decide +kernel
theorem dX4_add_37 : decode cX4_add 37 = .ok (.isub, 1) := by decide +kernel
theorem dX4_add_38 : decode cX4_add 38 = .ok (.ireturn, 1) := by decide +kernel
set_option maxRecDepth 20000 in
theorem ggX4_hasRide_X4_has : GoodIn wsX4_hasRide wsX4_has := goodIn_r _ [6, 7, 8, 9, 10, 11, 12, 13, 14, 15, 16, 17] (by decide +kernel) (by decide +kernel)
set_option maxRecDepth 20000 in
theorem gX4_hasRide_X4_has : GoodIn wsX4_hasRide (wsV RX4 49 RX4 yX4_has wsX4_has) := goodIn_app (goodIn_of _ (by decide +kernel)) ggX4_hasRide_X4_has
theorem dX4_hasRide_0 : decode cX4_hasRide 0 = .ok (.aload_n 0, 1) := by decide +kernel
theorem dX4_hasRide_1 : decode cX4_hasRide 1 = .ok (.iload_n 1, 1) := by decide +kernel
theorem dX4_hasRide_2 : decode cX4_hasRide 2 = .ok (.invokevirtual 49, 3) := by decide +kernel
theorem dX4_hasRide_5 : decode cX4_hasRide 5 = .ok (.ifCond .eq 17, 3) := by decide +kernel
theorem dX4_hasRide_8 : decode cX4_hasRide 8 = .ok (.aload_n 0, 1) := by decide +kernel
theorem dX4_hasRide_9 : decode cX4_hasRide 9 = .ok (.getfield 24, 3) := by decide +kernel
theorem dX4_hasRide_12 : decode cX4_hasRide 12 = .ok (.iload_n 1, 1) := by decide +kernel
theorem dX4_hasRide_13 : decode cX4_hasRide 13 = .ok (.iaload, 1) := by decide +kernel
theorem dX4_hasRide_14 : decode cX4_hasRide 14 = .ok (.iconst (-1), 1) := by decide +kernel
theorem dX4_hasRide_15 : decode cX4_hasRide 15 = .ok (.if_icmp .eq 7, 3) := by decide +kernel
theorem dX4_hasRide_18 : decode cX4_hasRide 18 = .ok (.iconst 1, 1) := by decide +kernel
theorem dX4_hasRide_19 : decode cX4_hasRide 19 = .ok (.goto 4, 3) := by decide +kernel
theorem dX4_hasRide_22 : decode cX4_hasRide 22 = .ok (.iconst 0, 1) := by decide +kernel
theorem dX4_hasRide_23 : decode cX4_hasRide 23 = .ok (.ireturn, 1) := by decide +kernel
set_option maxRecDepth 20000 in
theorem ggX4_rideMinutes_X4_has : GoodIn wsX4_rideMinutes wsX4_has := goodIn_r _ [6, 7, 8, 9, 10, 11, 12, 13, 14, 15, 16, 17] (by decide +kernel) (by decide +kernel)
set_option maxRecDepth 20000 in
theorem gX4_rideMinutes_X4_has : GoodIn wsX4_rideMinutes (wsV RX4 49 RX4 yX4_has wsX4_has) := goodIn_app (goodIn_of _ (by decide +kernel)) ggX4_rideMinutes_X4_has
theorem dX4_rideMinutes_0 : decode cX4_rideMinutes 0 = .ok (.aload_n 0, 1) := by decide +kernel
theorem dX4_rideMinutes_1 : decode cX4_rideMinutes 1 = .ok (.iload_n 1, 1) := by decide +kernel
theorem dX4_rideMinutes_2 : decode cX4_rideMinutes 2 = .ok (.invokevirtual 49, 3) := by decide +kernel
theorem dX4_rideMinutes_5 : decode cX4_rideMinutes 5 = .ok (.ifCond .eq 14, 3) := by decide +kernel
theorem dX4_rideMinutes_8 : decode cX4_rideMinutes 8 = .ok (.iload_n 2, 1) := by decide +kernel
theorem dX4_rideMinutes_9 : decode cX4_rideMinutes 9 = .ok (.aload_n 0, 1) := by decide +kernel
theorem dX4_rideMinutes_10 : decode cX4_rideMinutes 10 = .ok (.getfield 27, 3) := by decide +kernel
theorem dX4_rideMinutes_13 : decode cX4_rideMinutes 13 = .ok (.iload_n 1, 1) := by decide +kernel
theorem dX4_rideMinutes_14 : decode cX4_rideMinutes 14 = .ok (.iaload, 1) := by decide +kernel
theorem dX4_rideMinutes_15 : decode cX4_rideMinutes 15 = .ok (.isub, 1) := by decide +kernel
theorem dX4_rideMinutes_16 : decode cX4_rideMinutes 16 = .ok (.goto 4, 3) := by decide +kernel
theorem dX4_rideMinutes_19 : decode cX4_rideMinutes 19 = .ok (.iconst 0, 1) := by decide +kernel
theorem dX4_rideMinutes_20 : decode cX4_rideMinutes 20 = .ok (.ireturn, 1) := by decide +kernel
set_option maxRecDepth 20000 in
theorem ggX4_fee_X4_hasRide : GoodIn wsX4_fee wsX4_hasRide := goodIn_r _ [11, 12, 13, 14, 15, 10, 16, 17, 23, 24, 25, 26, 27, 28, 29, 30, 31, 32] (by decide +kernel) (by decide +kernel)
set_option maxRecDepth 20000 in
theorem gX4_fee_X4_hasRide : GoodIn wsX4_fee (wsV RX4 53 RX4 yX4_hasRide wsX4_hasRide) := goodIn_app (goodIn_of _ (by decide +kernel)) ggX4_fee_X4_hasRide
set_option maxRecDepth 20000 in
theorem ggX4_fee_X4_rideMinutes : GoodIn wsX4_fee wsX4_rideMinutes := goodIn_r _ [21, 22, 13, 14, 15, 10, 16, 17, 23, 24, 25, 26, 27, 28, 29, 30, 31, 32] (by decide +kernel) (by decide +kernel)
set_option maxRecDepth 20000 in
theorem gX4_fee_X4_rideMinutes : GoodIn wsX4_fee (wsV RX4 56 RX4 yX4_rideMinutes wsX4_rideMinutes) := goodIn_app (goodIn_of _ (by decide +kernel)) ggX4_fee_X4_rideMinutes
theorem dX4_fee_0 : decode cX4_fee 0 = .ok (.aload_n 0, 1) := by decide +kernel
theorem dX4_fee_1 : decode cX4_fee 1 = .ok (.iload_n 1, 1) := by decide +kernel
theorem dX4_fee_2 : decode cX4_fee 2 = .ok (.invokevirtual 53, 3) := by decide +kernel
theorem dX4_fee_5 : decode cX4_fee 5 = .ok (.ifCond .ne 5, 3) := by decide +kernel
theorem dX4_fee_8 : decode cX4_fee 8 = .ok (.iconst 0, 1) := by decide +kernel
theorem dX4_fee_9 : decode cX4_fee 9 = .ok (.ireturn, 1) := by decide +kernel
theorem dX4_fee_10 : decode cX4_fee 10 = .ok (.iconst 0, 1) := by decide +kernel
theorem dX4_fee_11 : decode cX4_fee 11 = .ok (.aload_n 0, 1) := by decide +kernel
theorem dX4_fee_12 : decode cX4_fee 12 = .ok (.iload_n 1, 1) := by decide +kernel
theorem dX4_fee_13 : decode cX4_fee 13 = .ok (.iload_n 2, 1) := by decide +kernel
theorem dX4_fee_14 : decode cX4_fee 14 = .ok (.invokevirtual 56, 3) := by decide +kernel
theorem dX4_fee_17 : decode cX4_fee 17 = .ok (.aload_n 0, 1) := by decide +kernel
theorem dX4_fee_18 : decode cX4_fee 18 = .ok (.getfield 30, 3) := by decide +kernel
theorem dX4_fee_21 : decode cX4_fee 21 = .ok (.iload_n 1, 1) := by decide +kernel
theorem dX4_fee_22 : decode cX4_fee 22 = .ok (.iaload, 1) := by decide +kernel
theorem dX4_fee_23 : decode cX4_fee 23 = .ok (.isub, 1) := by decide +kernel
theorem dX4_fee_24 : decode cX4_fee 24 = .ok (.invokestatic 60, 3) := by decide +kernel
theorem dX4_fee_27 : decode cX4_fee 27 = .ok (.istore_n 3, 1) := by decide +kernel
theorem dX4_fee_28 : decode cX4_fee 28 = .ok (.iload_n 3, 1) := by decide +kernel
theorem dX4_fee_29 : decode cX4_fee 29 = .ok (.iconst 5, 1) := by decide +kernel
theorem dX4_fee_30 : decode cX4_fee 30 = .ok (.iadd, 1) := by decide +kernel
theorem dX4_fee_31 : decode cX4_fee 31 = .ok (.iconst 1, 1) := by decide +kernel
theorem dX4_fee_32 : decode cX4_fee 32 = .ok (.isub, 1) := by decide +kernel
theorem dX4_fee_33 : decode cX4_fee 33 = .ok (.iconst 5, 1) := by decide +kernel
theorem dX4_fee_34 : decode cX4_fee 34 = .ok (.idiv, 1) := by decide +kernel
theorem dX4_fee_35 : decode cX4_fee 35 = .ok (.aload_n 0, 1) := by decide +kernel
theorem dX4_fee_36 : decode cX4_fee 36 = .ok (.getfield 33, 3) := by decide +kernel
theorem dX4_fee_39 : decode cX4_fee 39 = .ok (.iload_n 1, 1) := by decide +kernel
theorem dX4_fee_40 : decode cX4_fee 40 = .ok (.iaload, 1) := by decide +kernel
theorem dX4_fee_41 : decode cX4_fee 41 = .ok (.iadd, 1) := by decide +kernel
theorem dX4_fee_42 : decode cX4_fee 42 = .ok (.ireturn, 1) := by decide +kernel
theorem dX4_allOwed_0 : decode cX4_allOwed 0 = .ok (.iconst 0, 1) := by decide +kernel
theorem dX4_allOwed_1 : decode cX4_allOwed 1 = .ok (.istore_n 1, 1) := by decide +kernel
theorem dX4_allOwed_2 : decode cX4_allOwed 2 = .ok (.iconst 0, 1) := by decide +kernel
theorem dX4_allOwed_3 : decode cX4_allOwed 3 = .ok (.istore_n 2, 1) := by decide +kernel
theorem dX4_allOwed_4 : decode cX4_allOwed 4 = .ok (.iload_n 2, 1) := by decide +kernel
theorem dX4_allOwed_5 : decode cX4_allOwed 5 = .ok (.aload_n 0, 1) := by decide +kernel
theorem dX4_allOwed_6 : decode cX4_allOwed 6 = .ok (.getfield 39, 3) := by decide +kernel
theorem dX4_allOwed_9 : decode cX4_allOwed 9 = .ok (.if_icmp .ge 18, 3) := by decide +kernel
theorem dX4_allOwed_12 : decode cX4_allOwed 12 = .ok (.iload_n 1, 1) := by decide +kernel
theorem dX4_allOwed_13 : decode cX4_allOwed 13 = .ok (.aload_n 0, 1) := by decide +kernel
theorem dX4_allOwed_14 : decode cX4_allOwed 14 = .ok (.getfield 11, 3) := by decide +kernel
theorem dX4_allOwed_17 : decode cX4_allOwed 17 = .ok (.iload_n 2, 1) := by decide +kernel
theorem dX4_allOwed_18 : decode cX4_allOwed 18 = .ok (.iaload, 1) := by decide +kernel
theorem dX4_allOwed_19 : decode cX4_allOwed 19 = .ok (.iadd, 1) := by decide +kernel
theorem dX4_allOwed_20 : decode cX4_allOwed 20 = .ok (.istore_n 1, 1) := by decide +kernel
theorem dX4_allOwed_21 : decode cX4_allOwed 21 = .ok (.iinc 2 1, 3) := by decide +kernel
theorem dX4_allOwed_24 : decode cX4_allOwed 24 = .ok (.goto (-20), 3) := by decide +kernel
theorem dX4_allOwed_27 : decode cX4_allOwed 27 = .ok (.iload_n 1, 1) := by decide +kernel
theorem dX4_allOwed_28 : decode cX4_allOwed 28 = .ok (.ireturn, 1) := by decide +kernel
set_option maxRecDepth 20000 in
theorem ggX5_init_X6_init : GoodIn wsX5_init wsX6_init := goodIn_r _ [23, 24, 2, 3, 20, 25, 26, 27, 28, 56, 57, 58, 59, 60] (by decide +kernel) (by decide +kernel)
set_option maxRecDepth 20000 in
theorem gX5_init_X6_init_n11 : GoodIn wsX5_init (wsX6_init) := ggX5_init_X6_init
set_option maxRecDepth 20000 in
theorem ggX5_init_X1_init : GoodIn wsX5_init wsX1_init := goodIn_r _ [30, 31, 2, 3, 20, 32, 33, 34, 35, 36, 37, 67, 68, 69, 70, 71, 72, 73] (by decide +kernel) (by decide +kernel)
set_option maxRecDepth 20000 in
theorem gX5_init_X1_init_n20 : GoodIn wsX5_init (wsX1_init) := ggX5_init_X1_init
set_option maxRecDepth 20000 in
theorem ggX5_init_X4_init : GoodIn wsX5_init wsX4_init := goodIn_r _ [39, 40, 2, 3, 20, 41, 42, 43, 44, 45, 46, 47, 48, 49, 74, 75, 76, 77, 78, 79, 80, 81, 82, 83] (by decide +kernel) (by decide +kernel)
set_option maxRecDepth 20000 in
theorem gX5_init_X4_init_n27 : GoodIn wsX5_init (wsX4_init) := ggX5_init_X4_init
set_option maxRecDepth 20000 in
theorem ggX5_init_X8_init : GoodIn wsX5_init wsX8_init := goodIn_r _ [51, 52, 2, 3, 20, 53, 54, 55, 84, 85, 86, 87] (by decide +kernel) (by decide +kernel)
set_option maxRecDepth 20000 in
theorem gX5_init_X8_init_n34 : GoodIn wsX5_init (wsX8_init) := ggX5_init_X8_init
theorem dX5_init_0 : decode cX5_init 0 = .ok (.aload_n 0, 1) := by decide +kernel
theorem dX5_init_1 : decode cX5_init 1 = .ok (.invokespecial 3, 3) := by decide +kernel
theorem dX5_init_4 : decode cX5_init 4 = .ok (.aload_n 0, 1) := by decide +kernel
theorem dX5_init_5 : decode cX5_init 5 = .ok (.new 9, 3) := by decide +kernel
theorem dX5_init_8 : decode cX5_init 8 = .ok (.dup, 1) := by decide +kernel
theorem dX5_init_9 : decode cX5_init 9 = .ok (.invokespecial 11, 3) := by decide +kernel
theorem dX5_init_12 : decode cX5_init 12 = .ok (.putfield 12, 3) := by decide +kernel
theorem dX5_init_15 : decode cX5_init 15 = .ok (.aload_n 0, 1) := by decide +kernel
theorem dX5_init_16 : decode cX5_init 16 = .ok (.new 18, 3) := by decide +kernel
theorem dX5_init_19 : decode cX5_init 19 = .ok (.dup, 1) := by decide +kernel
theorem dX5_init_20 : decode cX5_init 20 = .ok (.invokespecial 20, 3) := by decide +kernel
theorem dX5_init_23 : decode cX5_init 23 = .ok (.putfield 21, 3) := by decide +kernel
theorem dX5_init_26 : decode cX5_init 26 = .ok (.aload_n 0, 1) := by decide +kernel
theorem dX5_init_27 : decode cX5_init 27 = .ok (.new 25, 3) := by decide +kernel
theorem dX5_init_30 : decode cX5_init 30 = .ok (.dup, 1) := by decide +kernel
theorem dX5_init_31 : decode cX5_init 31 = .ok (.invokespecial 27, 3) := by decide +kernel
theorem dX5_init_34 : decode cX5_init 34 = .ok (.putfield 28, 3) := by decide +kernel
theorem dX5_init_37 : decode cX5_init 37 = .ok (.aload_n 0, 1) := by decide +kernel
theorem dX5_init_38 : decode cX5_init 38 = .ok (.new 32, 3) := by decide +kernel
theorem dX5_init_41 : decode cX5_init 41 = .ok (.dup, 1) := by decide +kernel
theorem dX5_init_42 : decode cX5_init 42 = .ok (.invokespecial 34, 3) := by decide +kernel
theorem dX5_init_45 : decode cX5_init 45 = .ok (.putfield 35, 3) := by decide +kernel
theorem dX5_init_48 : decode cX5_init 48 = .ok (.aload_n 0, 1) := by decide +kernel
theorem dX5_init_49 : decode cX5_init 49 = .ok (.iconst 3, 1) := by decide +kernel
theorem dX5_init_50 : decode cX5_init 50 = .ok (.newarray .int, 2) := by decide +kernel
theorem dX5_init_52 : decode cX5_init 52 = .ok (.dup, 1) := by decide +kernel
theorem dX5_init_53 : decode cX5_init 53 = .ok (.iconst 0, 1) := by decide +kernel
theorem dX5_init_54 : decode cX5_init 54 = .ok (.bipush 30, 2) := by decide +kernel
theorem dX5_init_56 : decode cX5_init 56 = .ok (.iastore, 1) := by decide +kernel
theorem dX5_init_57 : decode cX5_init 57 = .ok (.dup, 1) := by decide +kernel
theorem dX5_init_58 : decode cX5_init 58 = .ok (.iconst 1, 1) := by decide +kernel
theorem dX5_init_59 : decode cX5_init 59 = .ok (.bipush 60, 2) := by decide +kernel
theorem dX5_init_61 : decode cX5_init 61 = .ok (.iastore, 1) := by decide +kernel
theorem dX5_init_62 : decode cX5_init 62 = .ok (.dup, 1) := by decide +kernel
theorem dX5_init_63 : decode cX5_init 63 = .ok (.iconst 2, 1) := by decide +kernel
theorem dX5_init_64 : decode cX5_init 64 = .ok (.bipush 100, 2) := by decide +kernel
theorem dX5_init_66 : decode cX5_init 66 = .ok (.iastore, 1) := by decide +kernel
theorem dX5_init_67 : decode cX5_init 67 = .ok (.putfield 39, 3) := by decide +kernel
theorem dX5_init_70 : decode cX5_init 70 = .ok (.return_, 1) := by decide +kernel
set_option maxRecDepth 20000 in
theorem ggX5_copy_X6_copy : GoodIn wsX5_copy wsX6_copy := goodIn_r _ [15, 16, 17, 18, 7, 8, 9, 19, 20, 21, 67, 68, 69, 70, 71] (by decide +kernel) (by decide +kernel)
set_option maxRecDepth 20000 in
theorem gX5_copy_X6_copy : GoodIn wsX5_copy (wsV RX5 43 RX6 yX6_copy wsX6_copy) := goodIn_app (goodIn_of _ (by decide +kernel)) ggX5_copy_X6_copy
set_option maxRecDepth 20000 in
theorem ggX5_copy_X1_copy : GoodIn wsX5_copy wsX1_copy := goodIn_r _ [26, 27, 28, 29, 7, 8, 9, 30, 31, 32, 33, 34, 72, 73, 74, 75, 76, 77, 78] (by decide +kernel) (by decide +kernel)
set_option maxRecDepth 20000 in
theorem gX5_copy_X1_copy : GoodIn wsX5_copy (wsV RX5 47 RX1 yX1_copy wsX1_copy) := goodIn_app (goodIn_of _ (by decide +kernel)) ggX5_copy_X1_copy
set_option maxRecDepth 20000 in
theorem ggX5_copy_X4_copy : GoodIn wsX5_copy wsX4_copy := goodIn_r _ [39, 40, 41, 42, 7, 8, 9, 43, 44, 45, 46, 47, 48, 49, 50, 79, 80, 81, 82, 83, 84, 85, 86, 87, 88] (by decide +kernel) (by decide +kernel)
set_option maxRecDepth 20000 in
theorem gX5_copy_X4_copy : GoodIn wsX5_copy (wsV RX5 50 RX4 yX4_copy wsX4_copy) := goodIn_app (goodIn_of _ (by decide +kernel)) ggX5_copy_X4_copy
set_option maxRecDepth 20000 in
theorem ggX5_copy_X8_copy : GoodIn wsX5_copy wsX8_copy := goodIn_r _ [55, 56, 57, 58, 7, 8, 9, 59, 60, 89, 90, 91, 92] (by decide +kernel) (by decide +kernel)
set_option maxRecDepth 20000 in
theorem gX5_copy_X8_copy : GoodIn wsX5_copy (wsV RX5 53 RX8 yX8_copy wsX8_copy) := goodIn_app (goodIn_of _ (by decide +kernel)) ggX5_copy_X8_copy
theorem dX5_copy_0 : decode cX5_copy 0 = .ok (.aload_n 0, 1) := by decide +kernel
theorem dX5_copy_1 : decode cX5_copy 1 = .ok (.getfield 12, 3) := by decide +kernel
theorem dX5_copy_4 : decode cX5_copy 4 = .ok (.aload_n 1, 1) := by decide +kernel
theorem dX5_copy_5 : decode cX5_copy 5 = .ok (.getfield 12, 3) := by decide +kernel
theorem dX5_copy_8 : decode cX5_copy 8 = .ok (.invokevirtual 43, 3) := by decide +kernel
theorem dX5_copy_11 : decode cX5_copy 11 = .ok (.aload_n 0, 1) := by decide +kernel
theorem dX5_copy_12 : decode cX5_copy 12 = .ok (.getfield 21, 3) := by decide +kernel
theorem dX5_copy_15 : decode cX5_copy 15 = .ok (.aload_n 1, 1) := by decide +kernel
theorem dX5_copy_16 : decode cX5_copy 16 = .ok (.getfield 21, 3) := by decide +kernel
theorem dX5_copy_19 : decode cX5_copy 19 = .ok (.invokevirtual 47, 3) := by decide +kernel
theorem dX5_copy_22 : decode cX5_copy 22 = .ok (.aload_n 0, 1) := by decide +kernel
theorem dX5_copy_23 : decode cX5_copy 23 = .ok (.getfield 28, 3) := by decide +kernel
theorem dX5_copy_26 : decode cX5_copy 26 = .ok (.aload_n 1, 1) := by decide +kernel
theorem dX5_copy_27 : decode cX5_copy 27 = .ok (.getfield 28, 3) := by decide +kernel
theorem dX5_copy_30 : decode cX5_copy 30 = .ok (.invokevirtual 50, 3) := by decide +kernel
theorem dX5_copy_33 : decode cX5_copy 33 = .ok (.aload_n 0, 1) := by decide +kernel
theorem dX5_copy_34 : decode cX5_copy 34 = .ok (.getfield 35, 3) := by decide +kernel
theorem dX5_copy_37 : decode cX5_copy 37 = .ok (.aload_n 1, 1) := by decide +kernel
theorem dX5_copy_38 : decode cX5_copy 38 = .ok (.getfield 35, 3) := by decide +kernel
theorem dX5_copy_41 : decode cX5_copy 41 = .ok (.invokevirtual 53, 3) := by decide +kernel
theorem dX5_copy_44 : decode cX5_copy 44 = .ok (.aload_n 1, 1) := by decide +kernel
theorem dX5_copy_45 : decode cX5_copy 45 = .ok (.getfield 39, 3) := by decide +kernel
theorem dX5_copy_48 : decode cX5_copy 48 = .ok (.iconst 0, 1) := by decide +kernel
theorem dX5_copy_49 : decode cX5_copy 49 = .ok (.aload_n 0, 1) := by decide +kernel
theorem dX5_copy_50 : decode cX5_copy 50 = .ok (.getfield 39, 3) := by decide +kernel
theorem dX5_copy_53 : decode cX5_copy 53 = .ok (.iconst 0, 1) := by decide +kernel
theorem dX5_copy_54 : decode cX5_copy 54 = .ok (.iconst 3, 1) := by decide +kernel
theorem dX5_copy_55 : decode cX5_copy 55 = .ok (.invokestatic 56, 3) := by decide +kernel
theorem dX5_copy_58 : decode cX5_copy 58 = .ok (.aload_n 0, 1) := by decide +kernel
theorem dX5_copy_59 : decode cX5_copy 59 = .ok (.aload_n 1, 1) := by decide +kernel
theorem dX5_copy_60 : decode cX5_copy 60 = .ok (.getfield 62, 3) := by decide +kernel
theorem dX5_copy_63 : decode cX5_copy 63 = .ok (.putfield 62, 3) := by decide +kernel
theorem dX5_copy_66 : decode cX5_copy 66 = .ok (.return_, 1) := by decide +kernel
set_option maxRecDepth 20000 in
theorem ggX5_addStation_X6_add : GoodIn wsX5_addStation wsX6_add := goodIn_r _ [6, 7, 8, 9, 16, 17, 18, 19, 20] (by decide +kernel) (by decide +kernel)
set_option maxRecDepth 20000 in
theorem gX5_addStation_X6_add : GoodIn wsX5_addStation (wsV RX5 66 RX6 yX6_add wsX6_add) := goodIn_app (goodIn_of _ (by decide +kernel)) ggX5_addStation_X6_add
theorem dX5_addStation_0 : decode cX5_addStation 0 = .ok (.iload_n 1, 1) := by decide +kernel
theorem dX5_addStation_1 : decode cX5_addStation 1 = .ok (.ifCond .lt 20, 3) := by decide +kernel
theorem dX5_addStation_4 : decode cX5_addStation 4 = .ok (.iload_n 1, 1) := by decide +kernel
theorem dX5_addStation_5 : decode cX5_addStation 5 = .ok (.bipush 99, 2) := by decide +kernel
theorem dX5_addStation_7 : decode cX5_addStation 7 = .ok (.if_icmp .gt 14, 3) := by decide +kernel
theorem dX5_addStation_10 : decode cX5_addStation 10 = .ok (.iload_n 2, 1) := by decide +kernel
theorem dX5_addStation_11 : decode cX5_addStation 11 = .ok (.iconst 1, 1) := by decide +kernel
theorem dX5_addStation_12 : decode cX5_addStation 12 = .ok (.if_icmp .lt 9, 3) := by decide +kernel
theorem dX5_addStation_15 : decode cX5_addStation 15 = .ok (.iload_n 2, 1) := by decide +kernel
theorem dX5_addStation_16 : decode cX5_addStation 16 = .ok (.bipush 8, 2) := by decide +kernel
theorem dX5_addStation_18 : decode cX5_addStation 18 = .ok (.if_icmp .le 5, 3) := by decide +kernel
theorem dX5_addStation_21 : decode cX5_addStation 21 = .ok (.iconst (-1), 1) := by decide +kernel
theorem dX5_addStation_22 : decode cX5_addStation 22 = .ok (.ireturn, 1) := by decide +kernel
theorem dX5_addStation_23 : decode cX5_addStation 23 = .ok (.aload_n 0, 1) := by decide +kernel
theorem dX5_addStation_24 : decode cX5_addStation 24 = .ok (.getfield 12, 3) := by decide +kernel
theorem dX5_addStation_27 : decode cX5_addStation 27 = .ok (.iload_n 1, 1) := by decide +kernel
theorem dX5_addStation_28 : decode cX5_addStation 28 = .ok (.iload_n 2, 1) := by decide +kernel
theorem dX5_addStation_29 : decode cX5_addStation 29 = .ok (.invokevirtual 66, 3) := by decide +kernel
theorem dX5_addStation_32 : decode cX5_addStation 32 = .ok (.ireturn, 1) := by decide +kernel
set_option maxRecDepth 20000 in
theorem ggX5_addBicycle_X6_has : GoodIn wsX5_addBicycle wsX6_has := goodIn_r _ [7, 8, 37, 38, 39, 40, 41] (by decide +kernel) (by decide +kernel)
set_option maxRecDepth 20000 in
theorem gX5_addBicycle_X6_has : GoodIn wsX5_addBicycle (wsV RX5 70 RX6 yX6_has wsX6_has) := goodIn_app (goodIn_of _ (by decide +kernel)) ggX5_addBicycle_X6_has
set_option maxRecDepth 20000 in
theorem ggX5_addBicycle_X5_hasFreeDock : GoodIn wsX5_addBicycle wsX5_hasFreeDock := goodIn_r _ [13, 1, 14, 3, 4, 5, 6, 7, 8, 15, 16, 17, 12, 18, 2, 19, 20, 21, 22, 23, 24, 25, 26, 31, 32, 33, 34, 35, 36, 37, 38, 39, 40, 41, 42, 43, 44, 45, 46, 47, 48] (by decide +kernel) (by decide +kernel)
set_option maxRecDepth 20000 in
theorem gX5_addBicycle_X5_hasFreeDock : GoodIn wsX5_addBicycle (wsV RX5 74 RX5 yX5_hasFreeDock wsX5_hasFreeDock) := goodIn_app (goodIn_of _ (by decide +kernel)) ggX5_addBicycle_X5_hasFreeDock
set_option maxRecDepth 20000 in
theorem ggX5_addBicycle_X1_add : GoodIn wsX5_addBicycle wsX1_add := goodIn_r _ [30, 24, 25, 26, 42, 43, 44, 45, 46, 47, 48] (by decide +kernel) (by decide +kernel)
set_option maxRecDepth 20000 in
theorem gX5_addBicycle_X1_add : GoodIn wsX5_addBicycle (wsV RX5 77 RX1 yX1_add wsX1_add) := goodIn_app (goodIn_of _ (by decide +kernel)) ggX5_addBicycle_X1_add
theorem dX5_addBicycle_0 : decode cX5_addBicycle 0 = .ok (.aload_n 0, 1) := by decide +kernel
theorem dX5_addBicycle_1 : decode cX5_addBicycle 1 = .ok (.getfield 12, 3) := by decide +kernel
theorem dX5_addBicycle_4 : decode cX5_addBicycle 4 = .ok (.iload_n 1, 1) := by decide +kernel
theorem dX5_addBicycle_5 : decode cX5_addBicycle 5 = .ok (.invokevirtual 70, 3) := by decide +kernel
theorem dX5_addBicycle_8 : decode cX5_addBicycle 8 = .ok (.ifCond .ne 5, 3) := by decide +kernel
theorem dX5_addBicycle_11 : decode cX5_addBicycle 11 = .ok (.iconst (-1), 1) := by decide +kernel
theorem dX5_addBicycle_12 : decode cX5_addBicycle 12 = .ok (.ireturn, 1) := by decide +kernel
theorem dX5_addBicycle_13 : decode cX5_addBicycle 13 = .ok (.aload_n 0, 1) := by decide +kernel
theorem dX5_addBicycle_14 : decode cX5_addBicycle 14 = .ok (.iload_n 1, 1) := by decide +kernel
theorem dX5_addBicycle_15 : decode cX5_addBicycle 15 = .ok (.invokevirtual 74, 3) := by decide +kernel
theorem dX5_addBicycle_18 : decode cX5_addBicycle 18 = .ok (.ifCond .eq 14, 3) := by decide +kernel
theorem dX5_addBicycle_21 : decode cX5_addBicycle 21 = .ok (.aload_n 0, 1) := by decide +kernel
theorem dX5_addBicycle_22 : decode cX5_addBicycle 22 = .ok (.getfield 21, 3) := by decide +kernel
theorem dX5_addBicycle_25 : decode cX5_addBicycle 25 = .ok (.iload_n 1, 1) := by decide +kernel
theorem dX5_addBicycle_26 : decode cX5_addBicycle 26 = .ok (.invokevirtual 77, 3) := by decide +kernel
theorem dX5_addBicycle_29 : decode cX5_addBicycle 29 = .ok (.goto 5, 3) := by decide +kernel
theorem dX5_addBicycle_32 : decode cX5_addBicycle 32 = .ok (.bipush (-2), 2) := by decide +kernel
theorem dX5_addBicycle_34 : decode cX5_addBicycle 34 = .ok (.ireturn, 1) := by decide +kernel
set_option maxRecDepth 20000 in
theorem ggX5_addRider_X4_add : GoodIn wsX5_addRider wsX4_add := goodIn_r _ [6, 7, 8, 15, 16, 17, 18, 19, 20, 21, 22, 23, 24] (by decide +kernel) (by decide +kernel)
set_option maxRecDepth 20000 in
theorem gX5_addRider_X4_add : GoodIn wsX5_addRider (wsV RX5 80 RX4 yX4_add wsX4_add) := goodIn_app (goodIn_of _ (by decide +kernel)) ggX5_addRider_X4_add
theorem dX5_addRider_0 : decode cX5_addRider 0 = .ok (.aload_n 0, 1) := by decide +kernel
theorem dX5_addRider_1 : decode cX5_addRider 1 = .ok (.getfield 28, 3) := by decide +kernel
theorem dX5_addRider_4 : decode cX5_addRider 4 = .ok (.invokevirtual 80, 3) := by decide +kernel
theorem dX5_addRider_7 : decode cX5_addRider 7 = .ok (.ireturn, 1) := by decide +kernel
set_option maxRecDepth 20000 in
theorem ggX5_addVan_X6_has : GoodIn wsX5_addVan wsX6_has := goodIn_r _ [7, 8, 23, 24, 25, 26, 27] (by decide +kernel) (by decide +kernel)
set_option maxRecDepth 20000 in
theorem gX5_addVan_X6_has : GoodIn wsX5_addVan (wsV RX5 70 RX6 yX6_has wsX6_has) := goodIn_app (goodIn_of _ (by decide +kernel)) ggX5_addVan_X6_has
set_option maxRecDepth 20000 in
theorem ggX5_addVan_X8_add : GoodIn wsX5_addVan wsX8_add := goodIn_r _ [13, 14, 15, 16, 28, 29, 30, 31] (by decide +kernel) (by decide +kernel)
set_option maxRecDepth 20000 in
theorem gX5_addVan_X8_add : GoodIn wsX5_addVan (wsV RX5 83 RX8 yX8_add wsX8_add) := goodIn_app (goodIn_of _ (by decide +kernel)) ggX5_addVan_X8_add
theorem dX5_addVan_0 : decode cX5_addVan 0 = .ok (.aload_n 0, 1) := by decide +kernel
theorem dX5_addVan_1 : decode cX5_addVan 1 = .ok (.getfield 12, 3) := by decide +kernel
theorem dX5_addVan_4 : decode cX5_addVan 4 = .ok (.iload_n 1, 1) := by decide +kernel
theorem dX5_addVan_5 : decode cX5_addVan 5 = .ok (.invokevirtual 70, 3) := by decide +kernel
theorem dX5_addVan_8 : decode cX5_addVan 8 = .ok (.ifCond .eq 14, 3) := by decide +kernel
theorem dX5_addVan_11 : decode cX5_addVan 11 = .ok (.iload_n 2, 1) := by decide +kernel
theorem dX5_addVan_12 : decode cX5_addVan 12 = .ok (.iconst 1, 1) := by decide +kernel
theorem dX5_addVan_13 : decode cX5_addVan 13 = .ok (.if_icmp .lt 9, 3) := by decide +kernel
theorem dX5_addVan_16 : decode cX5_addVan 16 = .ok (.iload_n 2, 1) := by decide +kernel
theorem dX5_addVan_17 : decode cX5_addVan 17 = .ok (.bipush 6, 2) := by decide +kernel
theorem dX5_addVan_19 : decode cX5_addVan 19 = .ok (.if_icmp .le 5, 3) := by decide +kernel
theorem dX5_addVan_22 : decode cX5_addVan 22 = .ok (.iconst (-1), 1) := by decide +kernel
theorem dX5_addVan_23 : decode cX5_addVan 23 = .ok (.ireturn, 1) := by decide +kernel
theorem dX5_addVan_24 : decode cX5_addVan 24 = .ok (.aload_n 0, 1) := by decide +kernel
theorem dX5_addVan_25 : decode cX5_addVan 25 = .ok (.getfield 35, 3) := by decide +kernel
theorem dX5_addVan_28 : decode cX5_addVan 28 = .ok (.iload_n 1, 1) := by decide +kernel
theorem dX5_addVan_29 : decode cX5_addVan 29 = .ok (.iload_n 2, 1) := by decide +kernel
theorem dX5_addVan_30 : decode cX5_addVan 30 = .ok (.invokevirtual 83, 3) := by decide +kernel
theorem dX5_addVan_33 : decode cX5_addVan 33 = .ok (.ireturn, 1) := by decide +kernel
set_option maxRecDepth 20000 in
theorem ggX5_sellPass_X4_has : GoodIn wsX5_sellPass wsX4_has := goodIn_r _ [15, 16, 23, 24, 25, 26, 27, 28, 29, 30, 31, 32] (by decide +kernel) (by decide +kernel)
set_option maxRecDepth 20000 in
theorem gX5_sellPass_X4_has : GoodIn wsX5_sellPass (wsV RX5 84 RX4 yX4_has wsX4_has) := goodIn_app (goodIn_of _ (by decide +kernel)) ggX5_sellPass_X4_has
theorem dX5_sellPass_0 : decode cX5_sellPass 0 = .ok (.aload_n 0, 1) := by decide +kernel
theorem dX5_sellPass_1 : decode cX5_sellPass 1 = .ok (.getfield 28, 3) := by decide +kernel
theorem dX5_sellPass_4 : decode cX5_sellPass 4 = .ok (.iload_n 1, 1) := by decide +kernel
theorem dX5_sellPass_5 : decode cX5_sellPass 5 = .ok (.invokevirtual 84, 3) := by decide +kernel
theorem dX5_sellPass_8 : decode cX5_sellPass 8 = .ok (.ifCond .ne 5, 3) := by decide +kernel
theorem dX5_sellPass_11 : decode cX5_sellPass 11 = .ok (.iconst (-1), 1) := by decide +kernel
theorem dX5_sellPass_12 : decode cX5_sellPass 12 = .ok (.ireturn, 1) := by decide +kernel
theorem dX5_sellPass_13 : decode cX5_sellPass 13 = .ok (.aload_n 0, 1) := by decide +kernel
theorem dX5_sellPass_14 : decode cX5_sellPass 14 = .ok (.getfield 62, 3) := by decide +kernel
theorem dX5_sellPass_17 : decode cX5_sellPass 17 = .ok (.aload_n 0, 1) := by decide +kernel
theorem dX5_sellPass_18 : decode cX5_sellPass 18 = .ok (.getfield 28, 3) := by decide +kernel
theorem dX5_sellPass_21 : decode cX5_sellPass 21 = .ok (.getfield 85, 3) := by decide +kernel
theorem dX5_sellPass_24 : decode cX5_sellPass 24 = .ok (.iload_n 1, 1) := by decide +kernel
theorem dX5_sellPass_25 : decode cX5_sellPass 25 = .ok (.iaload, 1) := by decide +kernel
theorem dX5_sellPass_26 : decode cX5_sellPass 26 = .ok (.invokestatic 88, 3) := by decide +kernel
theorem dX5_sellPass_29 : decode cX5_sellPass 29 = .ok (.sipush 1000, 3) := by decide +kernel
theorem dX5_sellPass_32 : decode cX5_sellPass 32 = .ok (.iadd, 1) := by decide +kernel
theorem dX5_sellPass_33 : decode cX5_sellPass 33 = .ok (.istore_n 2, 1) := by decide +kernel
theorem dX5_sellPass_34 : decode cX5_sellPass 34 = .ok (.iload_n 2, 1) := by decide +kernel
theorem dX5_sellPass_35 : decode cX5_sellPass 35 = .ok (.sipush 20000, 3) := by decide +kernel
theorem dX5_sellPass_38 : decode cX5_sellPass 38 = .ok (.if_icmp .le 6, 3) := by decide +kernel
theorem dX5_sellPass_41 : decode cX5_sellPass 41 = .ok (.bipush (-3), 2) := by decide +kernel
theorem dX5_sellPass_43 : decode cX5_sellPass 43 = .ok (.ireturn, 1) := by decide +kernel
theorem dX5_sellPass_44 : decode cX5_sellPass 44 = .ok (.aload_n 0, 1) := by decide +kernel
theorem dX5_sellPass_45 : decode cX5_sellPass 45 = .ok (.getfield 28, 3) := by decide +kernel
theorem dX5_sellPass_48 : decode cX5_sellPass 48 = .ok (.getfield 85, 3) := by decide +kernel
theorem dX5_sellPass_51 : decode cX5_sellPass 51 = .ok (.iload_n 1, 1) := by decide +kernel
theorem dX5_sellPass_52 : decode cX5_sellPass 52 = .ok (.iload_n 2, 1) := by decide +kernel
theorem dX5_sellPass_53 : decode cX5_sellPass 53 = .ok (.iastore, 1) := by decide +kernel
theorem dX5_sellPass_54 : decode cX5_sellPass 54 = .ok (.aload_n 0, 1) := by decide +kernel
theorem dX5_sellPass_55 : decode cX5_sellPass 55 = .ok (.getfield 28, 3) := by decide +kernel
theorem dX5_sellPass_58 : decode cX5_sellPass 58 = .ok (.getfield 93, 3) := by decide +kernel
theorem dX5_sellPass_61 : decode cX5_sellPass 61 = .ok (.iload_n 1, 1) := by decide +kernel
theorem dX5_sellPass_62 : decode cX5_sellPass 62 = .ok (.dup2, 1) := by decide +kernel
theorem dX5_sellPass_63 : decode cX5_sellPass 63 = .ok (.iaload, 1) := by decide +kernel
theorem dX5_sellPass_64 : decode cX5_sellPass 64 = .ok (.aload_n 0, 1) := by decide +kernel
theorem dX5_sellPass_65 : decode cX5_sellPass 65 = .ok (.getfield 39, 3) := by decide +kernel
theorem dX5_sellPass_68 : decode cX5_sellPass 68 = .ok (.iconst 2, 1) := by decide +kernel
theorem dX5_sellPass_69 : decode cX5_sellPass 69 = .ok (.iaload, 1) := by decide +kernel
theorem dX5_sellPass_70 : decode cX5_sellPass 70 = .ok (.iadd, 1) := by decide +kernel
theorem dX5_sellPass_71 : decode cX5_sellPass 71 = .ok (.iastore, 1) := by decide +kernel
theorem dX5_sellPass_72 : decode cX5_sellPass 72 = .ok (.aload_n 0, 1) := by decide +kernel
theorem dX5_sellPass_73 : decode cX5_sellPass 73 = .ok (.getfield 28, 3) := by decide +kernel
theorem dX5_sellPass_76 : decode cX5_sellPass 76 = .ok (.getfield 96, 3) := by decide +kernel
theorem dX5_sellPass_79 : decode cX5_sellPass 79 = .ok (.iload_n 1, 1) := by decide +kernel
theorem dX5_sellPass_80 : decode cX5_sellPass 80 = .ok (.dup2, 1) := by decide +kernel
theorem dX5_sellPass_81 : decode cX5_sellPass 81 = .ok (.iaload, 1) := by decide +kernel
theorem dX5_sellPass_82 : decode cX5_sellPass 82 = .ok (.aload_n 0, 1) := by decide +kernel
theorem dX5_sellPass_83 : decode cX5_sellPass 83 = .ok (.getfield 39, 3) := by decide +kernel
theorem dX5_sellPass_86 : decode cX5_sellPass 86 = .ok (.iconst 2, 1) := by decide +kernel
theorem dX5_sellPass_87 : decode cX5_sellPass 87 = .ok (.iaload, 1) := by decide +kernel
theorem dX5_sellPass_88 : decode cX5_sellPass 88 = .ok (.iadd, 1) := by decide +kernel
theorem dX5_sellPass_89 : decode cX5_sellPass 89 = .ok (.iastore, 1) := by decide +kernel
theorem dX5_sellPass_90 : decode cX5_sellPass 90 = .ok (.iload_n 2, 1) := by decide +kernel
theorem dX5_sellPass_91 : decode cX5_sellPass 91 = .ok (.ireturn, 1) := by decide +kernel
set_option maxRecDepth 20000 in
theorem ggX5_beginRide_X4_has : GoodIn wsX5_beginRide wsX4_has := goodIn_r _ [17, 18, 60, 61, 62, 63, 64, 65, 66, 67, 68, 69] (by decide +kernel) (by decide +kernel)
