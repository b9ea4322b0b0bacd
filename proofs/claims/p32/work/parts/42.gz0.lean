theorem dL_cell_0 : decode cL_cell 0 = .ok (.iload_n 1, 1) := by decide +kernel
theorem dL_cell_1 : decode cL_cell 1 = .ok (.aload_n 0, 1) := by decide +kernel
theorem dL_cell_2 : decode cL_cell 2 = .ok (.arraylength, 1) := by decide +kernel
theorem dL_cell_3 : decode cL_cell 3 = .ok (.if_icmp .ge 9, 3) := by decide +kernel
theorem dL_cell_6 : decode cL_cell 6 = .ok (.aload_n 0, 1) := by decide +kernel
theorem dL_cell_7 : decode cL_cell 7 = .ok (.iload_n 1, 1) := by decide +kernel
theorem dL_cell_8 : decode cL_cell 8 = .ok (.iaload, 1) := by decide +kernel
theorem dL_cell_9 : decode cL_cell 9 = .ok (.goto 9, 3) := by decide +kernel
theorem dL_cell_12 : decode cL_cell 12 = .ok (.ldc 7, 2) := by decide +kernel
theorem dL_cell_14 : decode cL_cell 14 = .ok (.iload_n 1, 1) := by decide +kernel
theorem dL_cell_15 : decode cL_cell 15 = .ok (.iconst 3, 1) := by decide +kernel
theorem dL_cell_16 : decode cL_cell 16 = .ok (.iadd, 1) := by decide +kernel
theorem dL_cell_17 : decode cL_cell 17 = .ok (.imul, 1) := by decide +kernel
theorem dL_cell_18 : decode cL_cell 18 = .ok (.ireturn, 1) := by decide +kernel
theorem dL_low_0 : decode cL_low 0 = .ok (.iload_n 0, 1) := by decide +kernel
theorem dL_low_1 : decode cL_low 1 = .ok (.ldc 8, 2) := by decide +kernel
theorem dL_low_3 : decode cL_low 3 = .ok (.iand, 1) := by decide +kernel
theorem dL_low_4 : decode cL_low 4 = .ok (.iload_n 1, 1) := by decide +kernel
theorem dL_low_5 : decode cL_low 5 = .ok (.irem, 1) := by decide +kernel
theorem dL_low_6 : decode cL_low 6 = .ok (.ireturn, 1) := by decide +kernel
theorem dL_docked_0 : decode cL_docked 0 = .ok (.iconst 0, 1) := by decide +kernel
theorem dL_docked_1 : decode cL_docked 1 = .ok (.istore_n 3, 1) := by decide +kernel
theorem dL_docked_2 : decode cL_docked 2 = .ok (.iconst 0, 1) := by decide +kernel
theorem dL_docked_3 : decode cL_docked 3 = .ok (.istore 4, 2) := by decide +kernel
theorem dL_docked_5 : decode cL_docked 5 = .ok (.iload 4, 2) := by decide +kernel
theorem dL_docked_7 : decode cL_docked 7 = .ok (.aload_n 0, 1) := by decide +kernel
theorem dL_docked_8 : decode cL_docked 8 = .ok (.iconst 1, 1) := by decide +kernel
theorem dL_docked_9 : decode cL_docked 9 = .ok (.iaload, 1) := by decide +kernel
theorem dL_docked_10 : decode cL_docked 10 = .ok (.if_icmp .ge 38, 3) := by decide +kernel
theorem dL_docked_13 : decode cL_docked 13 = .ok (.iload_n 3, 1) := by decide +kernel
theorem dL_docked_14 : decode cL_docked 14 = .ok (.aload_n 1, 1) := by decide +kernel
theorem dL_docked_15 : decode cL_docked 15 = .ok (.iconst 3, 1) := by decide +kernel
theorem dL_docked_16 : decode cL_docked 16 = .ok (.iload 4, 2) := by decide +kernel
theorem dL_docked_18 : decode cL_docked 18 = .ok (.imul, 1) := by decide +kernel
theorem dL_docked_19 : decode cL_docked 19 = .ok (.iaload, 1) := by decide +kernel
theorem dL_docked_20 : decode cL_docked 20 = .ok (.ifCond .ne 19, 3) := by decide +kernel
theorem dL_docked_23 : decode cL_docked 23 = .ok (.aload_n 1, 1) := by decide +kernel
theorem dL_docked_24 : decode cL_docked 24 = .ok (.iconst 3, 1) := by decide +kernel
theorem dL_docked_25 : decode cL_docked 25 = .ok (.iload 4, 2) := by decide +kernel
theorem dL_docked_27 : decode cL_docked 27 = .ok (.imul, 1) := by decide +kernel
theorem dL_docked_28 : decode cL_docked 28 = .ok (.iconst 1, 1) := by decide +kernel
theorem dL_docked_29 : decode cL_docked 29 = .ok (.iadd, 1) := by decide +kernel
theorem dL_docked_30 : decode cL_docked 30 = .ok (.iaload, 1) := by decide +kernel
theorem dL_docked_31 : decode cL_docked 31 = .ok (.iload_n 2, 1) := by decide +kernel
theorem dL_docked_32 : decode cL_docked 32 = .ok (.if_icmp .ne 7, 3) := by decide +kernel
theorem dL_docked_35 : decode cL_docked 35 = .ok (.iconst 1, 1) := by decide +kernel
theorem dL_docked_36 : decode cL_docked 36 = .ok (.goto 4, 3) := by decide +kernel
theorem dL_docked_39 : decode cL_docked 39 = .ok (.iconst 0, 1) := by decide +kernel
theorem dL_docked_40 : decode cL_docked 40 = .ok (.iadd, 1) := by decide +kernel
theorem dL_docked_41 : decode cL_docked 41 = .ok (.istore_n 3, 1) := by decide +kernel
theorem dL_docked_42 : decode cL_docked 42 = .ok (.iinc 4 1, 3) := by decide +kernel
theorem dL_docked_45 : decode cL_docked 45 = .ok (.goto (-40), 3) := by decide +kernel
theorem dL_docked_48 : decode cL_docked 48 = .ok (.iload_n 3, 1) := by decide +kernel
theorem dL_docked_49 : decode cL_docked 49 = .ok (.ireturn, 1) := by decide +kernel
theorem dL_free_0 : decode cL_free 0 = .ok (.aload_n 0, 1) := by decide +kernel
theorem dL_free_1 : decode cL_free 1 = .ok (.aload_n 2, 1) := by decide +kernel
theorem dL_free_2 : decode cL_free 2 = .ok (.iload_n 3, 1) := by decide +kernel
theorem dL_free_3 : decode cL_free 3 = .ok (.invokestatic 9, 3) := by decide +kernel
theorem dL_free_6 : decode cL_free 6 = .ok (.aload_n 1, 1) := by decide +kernel
theorem dL_free_7 : decode cL_free 7 = .ok (.iconst 4, 1) := by decide +kernel
theorem dL_free_8 : decode cL_free 8 = .ok (.iload_n 3, 1) := by decide +kernel
theorem dL_free_9 : decode cL_free 9 = .ok (.imul, 1) := by decide +kernel
theorem dL_free_10 : decode cL_free 10 = .ok (.iconst 1, 1) := by decide +kernel
theorem dL_free_11 : decode cL_free 11 = .ok (.iadd, 1) := by decide +kernel
theorem dL_free_12 : decode cL_free 12 = .ok (.iaload, 1) := by decide +kernel
theorem dL_free_13 : decode cL_free 13 = .ok (.if_icmp .ge 7, 3) := by decide +kernel
theorem dL_free_16 : decode cL_free 16 = .ok (.iconst 1, 1) := by decide +kernel
theorem dL_free_17 : decode cL_free 17 = .ok (.goto 4, 3) := by decide +kernel
theorem dL_free_20 : decode cL_free 20 = .ok (.iconst 0, 1) := by decide +kernel
theorem dL_free_21 : decode cL_free 21 = .ok (.ireturn, 1) := by decide +kernel
theorem dL_carried_0 : decode cL_carried 0 = .ok (.iconst 0, 1) := by decide +kernel
theorem dL_carried_1 : decode cL_carried 1 = .ok (.istore_n 3, 1) := by decide +kernel
theorem dL_carried_2 : decode cL_carried 2 = .ok (.iconst 0, 1) := by decide +kernel
theorem dL_carried_3 : decode cL_carried 3 = .ok (.istore 4, 2) := by decide +kernel
theorem dL_carried_5 : decode cL_carried 5 = .ok (.iload 4, 2) := by decide +kernel
theorem dL_carried_7 : decode cL_carried 7 = .ok (.aload_n 0, 1) := by decide +kernel
theorem dL_carried_8 : decode cL_carried 8 = .ok (.iconst 1, 1) := by decide +kernel
theorem dL_carried_9 : decode cL_carried 9 = .ok (.iaload, 1) := by decide +kernel
theorem dL_carried_10 : decode cL_carried 10 = .ok (.if_icmp .ge 39, 3) := by decide +kernel
theorem dL_carried_13 : decode cL_carried 13 = .ok (.iload_n 3, 1) := by decide +kernel
theorem dL_carried_14 : decode cL_carried 14 = .ok (.aload_n 1, 1) := by decide +kernel
theorem dL_carried_15 : decode cL_carried 15 = .ok (.iconst 3, 1) := by decide +kernel
theorem dL_carried_16 : decode cL_carried 16 = .ok (.iload 4, 2) := by decide +kernel
theorem dL_carried_18 : decode cL_carried 18 = .ok (.imul, 1) := by decide +kernel
theorem dL_carried_19 : decode cL_carried 19 = .ok (.iaload, 1) := by decide +kernel
theorem dL_carried_20 : decode cL_carried 20 = .ok (.iconst 2, 1) := by decide +kernel
theorem dL_carried_21 : decode cL_carried 21 = .ok (.if_icmp .ne 19, 3) := by decide +kernel
theorem dL_carried_24 : decode cL_carried 24 = .ok (.aload_n 1, 1) := by decide +kernel
theorem dL_carried_25 : decode cL_carried 25 = .ok (.iconst 3, 1) := by decide +kernel
theorem dL_carried_26 : decode cL_carried 26 = .ok (.iload 4, 2) := by decide +kernel
theorem dL_carried_28 : decode cL_carried 28 = .ok (.imul, 1) := by decide +kernel
theorem dL_carried_29 : decode cL_carried 29 = .ok (.iconst 1, 1) := by decide +kernel
theorem dL_carried_30 : decode cL_carried 30 = .ok (.iadd, 1) := by decide +kernel
theorem dL_carried_31 : decode cL_carried 31 = .ok (.iaload, 1) := by decide +kernel
theorem dL_carried_32 : decode cL_carried 32 = .ok (.iload_n 2, 1) := by decide +kernel
theorem dL_carried_33 : decode cL_carried 33 = .ok (.if_icmp .ne 7, 3) := by decide +kernel
theorem dL_carried_36 : decode cL_carried 36 = .ok (.iconst 1, 1) := by decide +kernel
theorem dL_carried_37 : decode cL_carried 37 = .ok (.goto 4, 3) := by decide +kernel
theorem dL_carried_40 : decode cL_carried 40 = .ok (.iconst 0, 1) := by decide +kernel
theorem dL_carried_41 : decode cL_carried 41 = .ok (.iadd, 1) := by decide +kernel
theorem dL_carried_42 : decode cL_carried 42 = .ok (.istore_n 3, 1) := by decide +kernel
theorem dL_carried_43 : decode cL_carried 43 = .ok (.iinc 4 1, 3) := by decide +kernel
theorem dL_carried_46 : decode cL_carried 46 = .ok (.goto (-41), 3) := by decide +kernel
theorem dL_carried_49 : decode cL_carried 49 = .ok (.iload_n 3, 1) := by decide +kernel
theorem dL_carried_50 : decode cL_carried 50 = .ok (.ireturn, 1) := by decide +kernel
theorem dL_way_0 : decode cL_way 0 = .ok (.aload_n 0, 1) := by decide +kernel
theorem dL_way_1 : decode cL_way 1 = .ok (.iconst 4, 1) := by decide +kernel
theorem dL_way_2 : decode cL_way 2 = .ok (.iload_n 1, 1) := by decide +kernel
theorem dL_way_3 : decode cL_way 3 = .ok (.imul, 1) := by decide +kernel
theorem dL_way_4 : decode cL_way 4 = .ok (.iaload, 1) := by decide +kernel
theorem dL_way_5 : decode cL_way 5 = .ok (.aload_n 0, 1) := by decide +kernel
theorem dL_way_6 : decode cL_way 6 = .ok (.iconst 4, 1) := by decide +kernel
theorem dL_way_7 : decode cL_way 7 = .ok (.iload_n 2, 1) := by decide +kernel
theorem dL_way_8 : decode cL_way 8 = .ok (.imul, 1) := by decide +kernel
theorem dL_way_9 : decode cL_way 9 = .ok (.iaload, 1) := by decide +kernel
theorem dL_way_10 : decode cL_way 10 = .ok (.if_icmp .le 17, 3) := by decide +kernel
theorem dL_way_13 : decode cL_way 13 = .ok (.aload_n 0, 1) := by decide +kernel
theorem dL_way_14 : decode cL_way 14 = .ok (.iconst 4, 1) := by decide +kernel
theorem dL_way_15 : decode cL_way 15 = .ok (.iload_n 1, 1) := by decide +kernel
theorem dL_way_16 : decode cL_way 16 = .ok (.imul, 1) := by decide +kernel
theorem dL_way_17 : decode cL_way 17 = .ok (.iaload, 1) := by decide +kernel
theorem dL_way_18 : decode cL_way 18 = .ok (.aload_n 0, 1) := by decide +kernel
theorem dL_way_19 : decode cL_way 19 = .ok (.iconst 4, 1) := by decide +kernel
theorem dL_way_20 : decode cL_way 20 = .ok (.iload_n 2, 1) := by decide +kernel
theorem dL_way_21 : decode cL_way 21 = .ok (.imul, 1) := by decide +kernel
theorem dL_way_22 : decode cL_way 22 = .ok (.iaload, 1) := by decide +kernel
theorem dL_way_23 : decode cL_way 23 = .ok (.isub, 1) := by decide +kernel
theorem dL_way_24 : decode cL_way 24 = .ok (.goto 14, 3) := by decide +kernel
theorem dL_way_27 : decode cL_way 27 = .ok (.aload_n 0, 1) := by decide +kernel
theorem dL_way_28 : decode cL_way 28 = .ok (.iconst 4, 1) := by decide +kernel
theorem dL_way_29 : decode cL_way 29 = .ok (.iload_n 2, 1) := by decide +kernel
theorem dL_way_30 : decode cL_way 30 = .ok (.imul, 1) := by decide +kernel
theorem dL_way_31 : decode cL_way 31 = .ok (.iaload, 1) := by decide +kernel
theorem dL_way_32 : decode cL_way 32 = .ok (.aload_n 0, 1) := by decide +kernel
theorem dL_way_33 : decode cL_way 33 = .ok (.iconst 4, 1) := by decide +kernel
theorem dL_way_34 : decode cL_way 34 = .ok (.iload_n 1, 1) := by decide +kernel
theorem dL_way_35 : decode cL_way 35 = .ok (.imul, 1) := by decide +kernel
theorem dL_way_36 : decode cL_way 36 = .ok (.iaload, 1) := by decide +kernel
theorem dL_way_37 : decode cL_way 37 = .ok (.isub, 1) := by decide +kernel
theorem dL_way_38 : decode cL_way 38 = .ok (.ireturn, 1) := by decide +kernel
theorem dL_fee_0 : decode cL_fee 0 = .ok (.aload_n 2, 1) := by decide +kernel
theorem dL_fee_1 : decode cL_fee 1 = .ok (.iconst 4, 1) := by decide +kernel
theorem dL_fee_2 : decode cL_fee 2 = .ok (.iload_n 3, 1) := by decide +kernel
theorem dL_fee_3 : decode cL_fee 3 = .ok (.imul, 1) := by decide +kernel
theorem dL_fee_4 : decode cL_fee 4 = .ok (.iaload, 1) := by decide +kernel
theorem dL_fee_5 : decode cL_fee 5 = .ok (.iconst 1, 1) := by decide +kernel
theorem dL_fee_6 : decode cL_fee 6 = .ok (.if_icmp .ne 7, 3) := by decide +kernel
theorem dL_fee_9 : decode cL_fee 9 = .ok (.iconst 0, 1) := by decide +kernel
theorem dL_fee_10 : decode cL_fee 10 = .ok (.goto 4, 3) := by decide +kernel
theorem dL_fee_13 : decode cL_fee 13 = .ok (.iconst 1, 1) := by decide +kernel
theorem dL_fee_14 : decode cL_fee 14 = .ok (.istore 4, 2) := by decide +kernel
theorem dL_fee_16 : decode cL_fee 16 = .ok (.aload_n 0, 1) := by decide +kernel
theorem dL_fee_17 : decode cL_fee 17 = .ok (.iconst 4, 1) := by decide +kernel
theorem dL_fee_18 : decode cL_fee 18 = .ok (.iaload, 1) := by decide +kernel
theorem dL_fee_19 : decode cL_fee 19 = .ok (.aload_n 1, 1) := by decide +kernel
theorem dL_fee_20 : decode cL_fee 20 = .ok (.iconst 5, 1) := by decide +kernel
theorem dL_fee_21 : decode cL_fee 21 = .ok (.iload_n 3, 1) := by decide +kernel
theorem dL_fee_22 : decode cL_fee 22 = .ok (.imul, 1) := by decide +kernel
theorem dL_fee_23 : decode cL_fee 23 = .ok (.iconst 3, 1) := by decide +kernel
theorem dL_fee_24 : decode cL_fee 24 = .ok (.iadd, 1) := by decide +kernel
theorem dL_fee_25 : decode cL_fee 25 = .ok (.iaload, 1) := by decide +kernel
theorem dL_fee_26 : decode cL_fee 26 = .ok (.isub, 1) := by decide +kernel
theorem dL_fee_27 : decode cL_fee 27 = .ok (.aload_n 1, 1) := by decide +kernel
theorem dL_fee_28 : decode cL_fee 28 = .ok (.iconst 5, 1) := by decide +kernel
theorem dL_fee_29 : decode cL_fee 29 = .ok (.iload_n 3, 1) := by decide +kernel
theorem dL_fee_30 : decode cL_fee 30 = .ok (.imul, 1) := by decide +kernel
theorem dL_fee_31 : decode cL_fee 31 = .ok (.iconst 4, 1) := by decide +kernel
theorem dL_fee_32 : decode cL_fee 32 = .ok (.iadd, 1) := by decide +kernel
theorem dL_fee_33 : decode cL_fee 33 = .ok (.iaload, 1) := by decide +kernel
theorem dL_fee_34 : decode cL_fee 34 = .ok (.isub, 1) := by decide +kernel
theorem dL_fee_35 : decode cL_fee 35 = .ok (.istore 5, 2) := by decide +kernel
theorem dL_fee_37 : decode cL_fee 37 = .ok (.iload 5, 2) := by decide +kernel
theorem dL_fee_39 : decode cL_fee 39 = .ok (.ifCond .le 12, 3) := by decide +kernel
theorem dL_fee_42 : decode cL_fee 42 = .ok (.iinc 4 1, 3) := by decide +kernel
theorem dL_fee_45 : decode cL_fee 45 = .ok (.iinc 5 (-5), 3) := by decide +kernel
theorem dL_fee_48 : decode cL_fee 48 = .ok (.goto (-11), 3) := by decide +kernel
theorem dL_fee_51 : decode cL_fee 51 = .ok (.iload 4, 2) := by decide +kernel
theorem dL_fee_53 : decode cL_fee 53 = .ok (.ireturn, 1) := by decide +kernel
theorem dL_brings_0 : decode cL_brings 0 = .ok (.iload 8, 2) := by decide +kernel
theorem dL_brings_2 : decode cL_brings 2 = .ok (.ifCond .ne 98, 3) := by decide +kernel
theorem dL_brings_5 : decode cL_brings 5 = .ok (.iload 9, 2) := by decide +kernel
theorem dL_brings_7 : decode cL_brings 7 = .ok (.bipush 100, 2) := by decide +kernel
theorem dL_brings_9 : decode cL_brings 9 = .ok (.irem, 1) := by decide +kernel
theorem dL_brings_10 : decode cL_brings 10 = .ok (.istore 10, 2) := by decide +kernel
theorem dL_brings_12 : decode cL_brings 12 = .ok (.iconst 1, 1) := by decide +kernel
theorem dL_brings_13 : decode cL_brings 13 = .ok (.iload 9, 2) := by decide +kernel
theorem dL_brings_15 : decode cL_brings 15 = .ok (.bipush 100, 2) := by decide +kernel
theorem dL_brings_17 : decode cL_brings 17 = .ok (.idiv, 1) := by decide +kernel
theorem dL_brings_18 : decode cL_brings 18 = .ok (.bipush 8, 2) := by decide +kernel
theorem dL_brings_20 : decode cL_brings 20 = .ok (.irem, 1) := by decide +kernel
theorem dL_brings_21 : decode cL_brings 21 = .ok (.iadd, 1) := by decide +kernel
theorem dL_brings_22 : decode cL_brings 22 = .ok (.istore 11, 2) := by decide +kernel
theorem dL_brings_24 : decode cL_brings 24 = .ok (.aload_n 1, 1) := by decide +kernel
theorem dL_brings_25 : decode cL_brings 25 = .ok (.iconst 0, 1) := by decide +kernel
theorem dL_brings_26 : decode cL_brings 26 = .ok (.iaload, 1) := by decide +kernel
theorem dL_brings_27 : decode cL_brings 27 = .ok (.bipush 6, 2) := by decide +kernel
theorem dL_brings_29 : decode cL_brings 29 = .ok (.if_icmp .ne 22, 3) := by decide +kernel
theorem dL_brings_32 : decode cL_brings 32 = .ok (.aload_n 0, 1) := by decide +kernel
theorem dL_brings_33 : decode cL_brings 33 = .ok (.iload 10, 2) := by decide +kernel
theorem dL_brings_35 : decode cL_brings 35 = .ok (.iload 11, 2) := by decide +kernel
theorem dL_brings_37 : decode cL_brings 37 = .ok (.invokevirtual 15, 3) := by decide +kernel
theorem dL_brings_40 : decode cL_brings 40 = .ok (.bipush (-3), 2) := by decide +kernel
theorem dL_brings_42 : decode cL_brings 42 = .ok (.if_icmp .ne 7, 3) := by decide +kernel
theorem dL_brings_45 : decode cL_brings 45 = .ok (.iconst 1, 1) := by decide +kernel
theorem dL_brings_46 : decode cL_brings 46 = .ok (.goto 4, 3) := by decide +kernel
theorem dL_brings_49 : decode cL_brings 49 = .ok (.iconst 0, 1) := by decide +kernel
theorem dL_brings_50 : decode cL_brings 50 = .ok (.ireturn, 1) := by decide +kernel
theorem dL_brings_51 : decode cL_brings 51 = .ok (.aload_n 2, 1) := by decide +kernel
theorem dL_brings_52 : decode cL_brings 52 = .ok (.iconst 4, 1) := by decide +kernel
theorem dL_brings_53 : decode cL_brings 53 = .ok (.aload_n 1, 1) := by decide +kernel
theorem dL_brings_54 : decode cL_brings 54 = .ok (.iconst 0, 1) := by decide +kernel
theorem dL_brings_55 : decode cL_brings 55 = .ok (.iaload, 1) := by decide +kernel
theorem dL_brings_56 : decode cL_brings 56 = .ok (.imul, 1) := by decide +kernel
theorem dL_brings_57 : decode cL_brings 57 = .ok (.iload 10, 2) := by decide +kernel
theorem dL_brings_59 : decode cL_brings 59 = .ok (.iastore, 1) := by decide +kernel
theorem dL_brings_60 : decode cL_brings 60 = .ok (.aload_n 2, 1) := by decide +kernel
theorem dL_brings_61 : decode cL_brings 61 = .ok (.iconst 4, 1) := by decide +kernel
theorem dL_brings_62 : decode cL_brings 62 = .ok (.aload_n 1, 1) := by decide +kernel
theorem dL_brings_63 : decode cL_brings 63 = .ok (.iconst 0, 1) := by decide +kernel
theorem dL_brings_64 : decode cL_brings 64 = .ok (.iaload, 1) := by decide +kernel
theorem dL_brings_65 : decode cL_brings 65 = .ok (.imul, 1) := by decide +kernel
theorem dL_brings_66 : decode cL_brings 66 = .ok (.iconst 1, 1) := by decide +kernel
theorem dL_brings_67 : decode cL_brings 67 = .ok (.iadd, 1) := by decide +kernel
theorem dL_brings_68 : decode cL_brings 68 = .ok (.iload 11, 2) := by decide +kernel
theorem dL_brings_70 : decode cL_brings 70 = .ok (.iastore, 1) := by decide +kernel
theorem dL_brings_71 : decode cL_brings 71 = .ok (.aload_n 1, 1) := by decide +kernel
theorem dL_brings_72 : decode cL_brings 72 = .ok (.iconst 0, 1) := by decide +kernel
theorem dL_brings_73 : decode cL_brings 73 = .ok (.dup2, 1) := by decide +kernel
theorem dL_brings_74 : decode cL_brings 74 = .ok (.iaload, 1) := by decide +kernel
theorem dL_brings_75 : decode cL_brings 75 = .ok (.iconst 1, 1) := by decide +kernel
theorem dL_brings_76 : decode cL_brings 76 = .ok (.iadd, 1) := by decide +kernel
theorem dL_brings_77 : decode cL_brings 77 = .ok (.iastore, 1) := by decide +kernel
theorem dL_brings_78 : decode cL_brings 78 = .ok (.aload_n 0, 1) := by decide +kernel
theorem dL_brings_79 : decode cL_brings 79 = .ok (.iload 10, 2) := by decide +kernel
theorem dL_brings_81 : decode cL_brings 81 = .ok (.iload 11, 2) := by decide +kernel
theorem dL_brings_83 : decode cL_brings 83 = .ok (.invokevirtual 15, 3) := by decide +kernel
theorem dL_brings_86 : decode cL_brings 86 = .ok (.aload_n 1, 1) := by decide +kernel
theorem dL_brings_87 : decode cL_brings 87 = .ok (.iconst 0, 1) := by decide +kernel
theorem dL_brings_88 : decode cL_brings 88 = .ok (.iaload, 1) := by decide +kernel
theorem dL_brings_89 : decode cL_brings 89 = .ok (.iconst 1, 1) := by decide +kernel
theorem dL_brings_90 : decode cL_brings 90 = .ok (.isub, 1) := by decide +kernel
theorem dL_brings_91 : decode cL_brings 91 = .ok (.if_icmp .ne 7, 3) := by decide +kernel
theorem dL_brings_94 : decode cL_brings 94 = .ok (.iconst 1, 1) := by decide +kernel
theorem dL_brings_95 : decode cL_brings 95 = .ok (.goto 4, 3) := by decide +kernel
theorem dL_brings_98 : decode cL_brings 98 = .ok (.iconst 0, 1) := by decide +kernel
theorem dL_brings_99 : decode cL_brings 99 = .ok (.ireturn, 1) := by decide +kernel
theorem dL_brings_100 : decode cL_brings 100 = .ok (.iload 8, 2) := by decide +kernel
theorem dL_brings_102 : decode cL_brings 102 = .ok (.iconst 1, 1) := by decide +kernel
theorem dL_brings_103 : decode cL_brings 103 = .ok (.if_icmp .ne 101, 3) := by decide +kernel
theorem dL_brings_106 : decode cL_brings 106 = .ok (.iload 9, 2) := by decide +kernel
theorem dL_brings_108 : decode cL_brings 108 = .ok (.aload_n 1, 1) := by decide +kernel
theorem dL_brings_109 : decode cL_brings 109 = .ok (.iconst 0, 1) := by decide +kernel
theorem dL_brings_110 : decode cL_brings 110 = .ok (.iaload, 1) := by decide +kernel
theorem dL_brings_111 : decode cL_brings 111 = .ok (.irem, 1) := by decide +kernel
theorem dL_brings_112 : decode cL_brings 112 = .ok (.istore 10, 2) := by decide +kernel
theorem dL_brings_114 : decode cL_brings 114 = .ok (.aload_n 1, 1) := by decide +kernel
theorem dL_brings_115 : decode cL_brings 115 = .ok (.aload_n 2, 1) := by decide +kernel
theorem dL_brings_116 : decode cL_brings 116 = .ok (.aload_n 3, 1) := by decide +kernel
theorem dL_brings_117 : decode cL_brings 117 = .ok (.iload 10, 2) := by decide +kernel
theorem dL_brings_119 : decode cL_brings 119 = .ok (.invokestatic 21, 3) := by decide +kernel
theorem dL_brings_122 : decode cL_brings 122 = .ok (.ifCond .eq 11, 3) := by decide +kernel
theorem dL_brings_125 : decode cL_brings 125 = .ok (.aload_n 1, 1) := by decide +kernel
theorem dL_brings_126 : decode cL_brings 126 = .ok (.iconst 1, 1) := by decide +kernel
theorem dL_brings_127 : decode cL_brings 127 = .ok (.iaload, 1) := by decide +kernel
theorem dL_brings_128 : decode cL_brings 128 = .ok (.bipush 16, 2) := by decide +kernel
theorem dL_brings_130 : decode cL_brings 130 = .ok (.if_icmp .ne 36, 3) := by decide +kernel
theorem dL_brings_133 : decode cL_brings 133 = .ok (.aload_n 0, 1) := by decide +kernel
theorem dL_brings_134 : decode cL_brings 134 = .ok (.iload 10, 2) := by decide +kernel
theorem dL_brings_136 : decode cL_brings 136 = .ok (.invokevirtual 25, 3) := by decide +kernel
theorem dL_brings_139 : decode cL_brings 139 = .ok (.aload_n 1, 1) := by decide +kernel
theorem dL_brings_140 : decode cL_brings 140 = .ok (.aload_n 2, 1) := by decide +kernel
theorem dL_brings_141 : decode cL_brings 141 = .ok (.aload_n 3, 1) := by decide +kernel
theorem dL_brings_142 : decode cL_brings 142 = .ok (.iload 10, 2) := by decide +kernel
theorem dL_brings_144 : decode cL_brings 144 = .ok (.invokestatic 21, 3) := by decide +kernel
theorem dL_brings_147 : decode cL_brings 147 = .ok (.ifCond .eq 8, 3) := by decide +kernel
theorem dL_brings_150 : decode cL_brings 150 = .ok (.bipush (-3), 2) := by decide +kernel
theorem dL_brings_152 : decode cL_brings 152 = .ok (.goto 5, 3) := by decide +kernel
theorem dL_brings_155 : decode cL_brings 155 = .ok (.bipush (-2), 2) := by decide +kernel
theorem dL_brings_157 : decode cL_brings 157 = .ok (.if_icmp .ne 7, 3) := by decide +kernel
theorem dL_brings_160 : decode cL_brings 160 = .ok (.iconst 1, 1) := by decide +kernel
theorem dL_brings_161 : decode cL_brings 161 = .ok (.goto 4, 3) := by decide +kernel
theorem dL_brings_164 : decode cL_brings 164 = .ok (.iconst 0, 1) := by decide +kernel
theorem dL_brings_165 : decode cL_brings 165 = .ok (.ireturn, 1) := by decide +kernel
theorem dL_brings_166 : decode cL_brings 166 = .ok (.aload_n 3, 1) := by decide +kernel
theorem dL_brings_167 : decode cL_brings 167 = .ok (.iconst 3, 1) := by decide +kernel
theorem dL_brings_168 : decode cL_brings 168 = .ok (.aload_n 1, 1) := by decide +kernel
theorem dL_brings_169 : decode cL_brings 169 = .ok (.iconst 1, 1) := by decide +kernel
theorem dL_brings_170 : decode cL_brings 170 = .ok (.iaload, 1) := by decide +kernel
theorem dL_brings_171 : decode cL_brings 171 = .ok (.imul, 1) := by decide +kernel
theorem dL_brings_172 : decode cL_brings 172 = .ok (.iconst 1, 1) := by decide +kernel
theorem dL_brings_173 : decode cL_brings 173 = .ok (.iadd, 1) := by decide +kernel
theorem dL_brings_174 : decode cL_brings 174 = .ok (.iload 10, 2) := by decide +kernel
theorem dL_brings_176 : decode cL_brings 176 = .ok (.iastore, 1) := by decide +kernel
theorem dL_brings_177 : decode cL_brings 177 = .ok (.aload_n 1, 1) := by decide +kernel
theorem dL_brings_178 : decode cL_brings 178 = .ok (.iconst 1, 1) := by decide +kernel
theorem dL_brings_179 : decode cL_brings 179 = .ok (.dup2, 1) := by decide +kernel
theorem dL_brings_180 : decode cL_brings 180 = .ok (.iaload, 1) := by decide +kernel
theorem dL_brings_181 : decode cL_brings 181 = .ok (.iconst 1, 1) := by decide +kernel
theorem dL_brings_182 : decode cL_brings 182 = .ok (.iadd, 1) := by decide +kernel
theorem dL_brings_183 : decode cL_brings 183 = .ok (.iastore, 1) := by decide +kernel
theorem dL_brings_184 : decode cL_brings 184 = .ok (.aload_n 0, 1) := by decide +kernel
theorem dL_brings_185 : decode cL_brings 185 = .ok (.iload 10, 2) := by decide +kernel
theorem dL_brings_187 : decode cL_brings 187 = .ok (.invokevirtual 25, 3) := by decide +kernel
theorem dL_brings_190 : decode cL_brings 190 = .ok (.aload_n 1, 1) := by decide +kernel
theorem dL_brings_191 : decode cL_brings 191 = .ok (.iconst 1, 1) := by decide +kernel
theorem dL_brings_192 : decode cL_brings 192 = .ok (.iaload, 1) := by decide +kernel
theorem dL_brings_193 : decode cL_brings 193 = .ok (.iconst 1, 1) := by decide +kernel
theorem dL_brings_194 : decode cL_brings 194 = .ok (.isub, 1) := by decide +kernel
theorem dL_brings_195 : decode cL_brings 195 = .ok (.if_icmp .ne 7, 3) := by decide +kernel
theorem dL_brings_198 : decode cL_brings 198 = .ok (.iconst 1, 1) := by decide +kernel
theorem dL_brings_199 : decode cL_brings 199 = .ok (.goto 4, 3) := by decide +kernel
theorem dL_brings_202 : decode cL_brings 202 = .ok (.iconst 0, 1) := by decide +kernel
theorem dL_brings_203 : decode cL_brings 203 = .ok (.ireturn, 1) := by decide +kernel
theorem dL_brings_204 : decode cL_brings 204 = .ok (.iload 8, 2) := by decide +kernel
theorem dL_brings_206 : decode cL_brings 206 = .ok (.iconst 2, 1) := by decide +kernel
theorem dL_brings_207 : decode cL_brings 207 = .ok (.if_icmp .ne 63, 3) := by decide +kernel
theorem dL_brings_210 : decode cL_brings 210 = .ok (.aload_n 1, 1) := by decide +kernel
theorem dL_brings_211 : decode cL_brings 211 = .ok (.iconst 2, 1) := by decide +kernel
theorem dL_brings_212 : decode cL_brings 212 = .ok (.iaload, 1) := by decide +kernel
theorem dL_brings_213 : decode cL_brings 213 = .ok (.bipush 8, 2) := by decide +kernel
theorem dL_brings_215 : decode cL_brings 215 = .ok (.if_icmp .ne 18, 3) := by decide +kernel
theorem dL_brings_218 : decode cL_brings 218 = .ok (.aload_n 0, 1) := by decide +kernel
theorem dL_brings_219 : decode cL_brings 219 = .ok (.invokevirtual 29, 3) := by decide +kernel
theorem dL_brings_222 : decode cL_brings 222 = .ok (.bipush (-3), 2) := by decide +kernel
theorem dL_brings_224 : decode cL_brings 224 = .ok (.if_icmp .ne 7, 3) := by decide +kernel
theorem dL_brings_227 : decode cL_brings 227 = .ok (.iconst 1, 1) := by decide +kernel
theorem dL_brings_228 : decode cL_brings 228 = .ok (.goto 4, 3) := by decide +kernel
theorem dL_brings_231 : decode cL_brings 231 = .ok (.iconst 0, 1) := by decide +kernel
theorem dL_brings_232 : decode cL_brings 232 = .ok (.ireturn, 1) := by decide +kernel
theorem dL_brings_233 : decode cL_brings 233 = .ok (.aload 5, 2) := by decide +kernel
theorem dL_brings_235 : decode cL_brings 235 = .ok (.iconst 5, 1) := by decide +kernel
theorem dL_brings_236 : decode cL_brings 236 = .ok (.aload_n 1, 1) := by decide +kernel
theorem dL_brings_237 : decode cL_brings 237 = .ok (.iconst 2, 1) := by decide +kernel
theorem dL_brings_238 : decode cL_brings 238 = .ok (.iaload, 1) := by decide +kernel
theorem dL_brings_239 : decode cL_brings 239 = .ok (.imul, 1) := by decide +kernel
theorem dL_brings_240 : decode cL_brings 240 = .ok (.iconst 2, 1) := by decide +kernel
theorem dL_brings_241 : decode cL_brings 241 = .ok (.iadd, 1) := by decide +kernel
theorem dL_brings_242 : decode cL_brings 242 = .ok (.bipush (-4), 2) := by decide +kernel
theorem dL_brings_244 : decode cL_brings 244 = .ok (.iastore, 1) := by decide +kernel
theorem dL_brings_245 : decode cL_brings 245 = .ok (.aload_n 1, 1) := by decide +kernel
theorem dL_brings_246 : decode cL_brings 246 = .ok (.iconst 2, 1) := by decide +kernel
theorem dL_brings_247 : decode cL_brings 247 = .ok (.dup2, 1) := by decide +kernel
theorem dL_brings_248 : decode cL_brings 248 = .ok (.iaload, 1) := by decide +kernel
theorem dL_brings_249 : decode cL_brings 249 = .ok (.iconst 1, 1) := by decide +kernel
theorem dL_brings_250 : decode cL_brings 250 = .ok (.iadd, 1) := by decide +kernel
theorem dL_brings_251 : decode cL_brings 251 = .ok (.iastore, 1) := by decide +kernel
theorem dL_brings_252 : decode cL_brings 252 = .ok (.aload_n 0, 1) := by decide +kernel
theorem dL_brings_253 : decode cL_brings 253 = .ok (.invokevirtual 29, 3) := by decide +kernel
theorem dL_brings_256 : decode cL_brings 256 = .ok (.aload_n 1, 1) := by decide +kernel
theorem dL_brings_257 : decode cL_brings 257 = .ok (.iconst 2, 1) := by decide +kernel
theorem dL_brings_258 : decode cL_brings 258 = .ok (.iaload, 1) := by decide +kernel
theorem dL_brings_259 : decode cL_brings 259 = .ok (.iconst 1, 1) := by decide +kernel
theorem dL_brings_260 : decode cL_brings 260 = .ok (.isub, 1) := by decide +kernel
theorem dL_brings_261 : decode cL_brings 261 = .ok (.if_icmp .ne 7, 3) := by decide +kernel
theorem dL_brings_264 : decode cL_brings 264 = .ok (.iconst 1, 1) := by decide +kernel
theorem dL_brings_265 : decode cL_brings 265 = .ok (.goto 4, 3) := by decide +kernel
theorem dL_brings_268 : decode cL_brings 268 = .ok (.iconst 0, 1) := by decide +kernel
theorem dL_brings_269 : decode cL_brings 269 = .ok (.ireturn, 1) := by decide +kernel
theorem dL_brings_270 : decode cL_brings 270 = .ok (.iload 9, 2) := by decide +kernel
theorem dL_brings_272 : decode cL_brings 272 = .ok (.aload_n 1, 1) := by decide +kernel
theorem dL_brings_273 : decode cL_brings 273 = .ok (.iconst 0, 1) := by decide +kernel
theorem dL_brings_274 : decode cL_brings 274 = .ok (.iaload, 1) := by decide +kernel
theorem dL_brings_275 : decode cL_brings 275 = .ok (.irem, 1) := by decide +kernel
theorem dL_brings_276 : decode cL_brings 276 = .ok (.istore 10, 2) := by decide +kernel
theorem dL_brings_278 : decode cL_brings 278 = .ok (.iconst 1, 1) := by decide +kernel
theorem dL_brings_279 : decode cL_brings 279 = .ok (.iload 9, 2) := by decide +kernel
theorem dL_brings_281 : decode cL_brings 281 = .ok (.bipush 6, 2) := by decide +kernel
theorem dL_brings_283 : decode cL_brings 283 = .ok (.idiv, 1) := by decide +kernel
theorem dL_brings_284 : decode cL_brings 284 = .ok (.bipush 6, 2) := by decide +kernel
theorem dL_brings_286 : decode cL_brings 286 = .ok (.irem, 1) := by decide +kernel
theorem dL_brings_287 : decode cL_brings 287 = .ok (.iadd, 1) := by decide +kernel
theorem dL_brings_288 : decode cL_brings 288 = .ok (.istore 11, 2) := by decide +kernel
theorem dL_brings_290 : decode cL_brings 290 = .ok (.aload_n 1, 1) := by decide +kernel
theorem dL_brings_291 : decode cL_brings 291 = .ok (.iconst 3, 1) := by decide +kernel
theorem dL_brings_292 : decode cL_brings 292 = .ok (.iaload, 1) := by decide +kernel
theorem dL_brings_293 : decode cL_brings 293 = .ok (.iconst 2, 1) := by decide +kernel
theorem dL_brings_294 : decode cL_brings 294 = .ok (.if_icmp .ne 22, 3) := by decide +kernel
theorem dL_brings_297 : decode cL_brings 297 = .ok (.aload_n 0, 1) := by decide +kernel
theorem dL_brings_298 : decode cL_brings 298 = .ok (.iload 10, 2) := by decide +kernel
theorem dL_brings_300 : decode cL_brings 300 = .ok (.iload 11, 2) := by decide +kernel
theorem dL_brings_302 : decode cL_brings 302 = .ok (.invokevirtual 33, 3) := by decide +kernel
theorem dL_brings_305 : decode cL_brings 305 = .ok (.bipush (-3), 2) := by decide +kernel
theorem dL_brings_307 : decode cL_brings 307 = .ok (.if_icmp .ne 7, 3) := by decide +kernel
theorem dL_brings_310 : decode cL_brings 310 = .ok (.iconst 1, 1) := by decide +kernel
theorem dL_brings_311 : decode cL_brings 311 = .ok (.goto 4, 3) := by decide +kernel
theorem dL_brings_314 : decode cL_brings 314 = .ok (.iconst 0, 1) := by decide +kernel
theorem dL_brings_315 : decode cL_brings 315 = .ok (.ireturn, 1) := by decide +kernel
theorem dL_brings_316 : decode cL_brings 316 = .ok (.aload 7, 2) := by decide +kernel
theorem dL_brings_318 : decode cL_brings 318 = .ok (.iconst 3, 1) := by decide +kernel
theorem dL_brings_319 : decode cL_brings 319 = .ok (.aload_n 1, 1) := by decide +kernel
theorem dL_brings_320 : decode cL_brings 320 = .ok (.iconst 3, 1) := by decide +kernel
theorem dL_brings_321 : decode cL_brings 321 = .ok (.iaload, 1) := by decide +kernel
theorem dL_brings_322 : decode cL_brings 322 = .ok (.imul, 1) := by decide +kernel
theorem dL_brings_323 : decode cL_brings 323 = .ok (.iload 10, 2) := by decide +kernel
theorem dL_brings_325 : decode cL_brings 325 = .ok (.iastore, 1) := by decide +kernel
theorem dL_brings_326 : decode cL_brings 326 = .ok (.aload 7, 2) := by decide +kernel
theorem dL_brings_328 : decode cL_brings 328 = .ok (.iconst 3, 1) := by decide +kernel
theorem dL_brings_329 : decode cL_brings 329 = .ok (.aload_n 1, 1) := by decide +kernel
theorem dL_brings_330 : decode cL_brings 330 = .ok (.iconst 3, 1) := by decide +kernel
theorem dL_brings_331 : decode cL_brings 331 = .ok (.iaload, 1) := by decide +kernel
theorem dL_brings_332 : decode cL_brings 332 = .ok (.imul, 1) := by decide +kernel
theorem dL_brings_333 : decode cL_brings 333 = .ok (.iconst 1, 1) := by decide +kernel
theorem dL_brings_334 : decode cL_brings 334 = .ok (.iadd, 1) := by decide +kernel
theorem dL_brings_335 : decode cL_brings 335 = .ok (.iload 11, 2) := by decide +kernel
theorem dL_brings_337 : decode cL_brings 337 = .ok (.iastore, 1) := by decide +kernel
theorem dL_brings_338 : decode cL_brings 338 = .ok (.aload_n 1, 1) := by decide +kernel
theorem dL_brings_339 : decode cL_brings 339 = .ok (.iconst 3, 1) := by decide +kernel
theorem dL_brings_340 : decode cL_brings 340 = .ok (.dup2, 1) := by decide +kernel
theorem dL_brings_341 : decode cL_brings 341 = .ok (.iaload, 1) := by decide +kernel
theorem dL_brings_342 : decode cL_brings 342 = .ok (.iconst 1, 1) := by decide +kernel
theorem dL_brings_343 : decode cL_brings 343 = .ok (.iadd, 1) := by decide +kernel
theorem dL_brings_344 : decode cL_brings 344 = .ok (.iastore, 1) := by decide +kernel
theorem dL_brings_345 : decode cL_brings 345 = .ok (.aload_n 0, 1) := by decide +kernel
theorem dL_brings_346 : decode cL_brings 346 = .ok (.iload 10, 2) := by decide +kernel
theorem dL_brings_348 : decode cL_brings 348 = .ok (.iload 11, 2) := by decide +kernel
theorem dL_brings_350 : decode cL_brings 350 = .ok (.invokevirtual 33, 3) := by decide +kernel
theorem dL_brings_353 : decode cL_brings 353 = .ok (.aload_n 1, 1) := by decide +kernel
theorem dL_brings_354 : decode cL_brings 354 = .ok (.iconst 3, 1) := by decide +kernel
theorem dL_brings_355 : decode cL_brings 355 = .ok (.iaload, 1) := by decide +kernel
theorem dL_brings_356 : decode cL_brings 356 = .ok (.iconst 1, 1) := by decide +kernel
theorem dL_brings_357 : decode cL_brings 357 = .ok (.isub, 1) := by decide +kernel
theorem dL_brings_358 : decode cL_brings 358 = .ok (.if_icmp .ne 7, 3) := by decide +kernel
theorem dL_brings_361 : decode cL_brings 361 = .ok (.iconst 1, 1) := by decide +kernel
theorem dL_brings_362 : decode cL_brings 362 = .ok (.goto 4, 3) := by decide +kernel
theorem dL_brings_365 : decode cL_brings 365 = .ok (.iconst 0, 1) := by decide +kernel
theorem dL_brings_366 : decode cL_brings 366 = .ok (.ireturn, 1) := by decide +kernel
theorem dL_rides_0 : decode cL_rides 0 = .ok (.iload 8, 2) := by decide +kernel
theorem dL_rides_2 : decode cL_rides 2 = .ok (.aload_n 1, 1) := by decide +kernel
theorem dL_rides_3 : decode cL_rides 3 = .ok (.iconst 2, 1) := by decide +kernel
theorem dL_rides_4 : decode cL_rides 4 = .ok (.iaload, 1) := by decide +kernel
theorem dL_rides_5 : decode cL_rides 5 = .ok (.irem, 1) := by decide +kernel
theorem dL_rides_6 : decode cL_rides 6 = .ok (.istore 9, 2) := by decide +kernel
theorem dL_rides_8 : decode cL_rides 8 = .ok (.iload 8, 2) := by decide +kernel
theorem dL_rides_10 : decode cL_rides 10 = .ok (.bipush 8, 2) := by decide +kernel
theorem dL_rides_12 : decode cL_rides 12 = .ok (.idiv, 1) := by decide +kernel
theorem dL_rides_13 : decode cL_rides 13 = .ok (.aload_n 1, 1) := by decide +kernel
theorem dL_rides_14 : decode cL_rides 14 = .ok (.iconst 0, 1) := by decide +kernel
theorem dL_rides_15 : decode cL_rides 15 = .ok (.iaload, 1) := by decide +kernel
theorem dL_rides_16 : decode cL_rides 16 = .ok (.irem, 1) := by decide +kernel
theorem dL_rides_17 : decode cL_rides 17 = .ok (.istore 10, 2) := by decide +kernel
theorem dL_rides_19 : decode cL_rides 19 = .ok (.aload 5, 2) := by decide +kernel
theorem dL_rides_21 : decode cL_rides 21 = .ok (.iconst 5, 1) := by decide +kernel
theorem dL_rides_22 : decode cL_rides 22 = .ok (.iload 9, 2) := by decide +kernel
theorem dL_rides_24 : decode cL_rides 24 = .ok (.imul, 1) := by decide +kernel
theorem dL_rides_25 : decode cL_rides 25 = .ok (.iconst 2, 1) := by decide +kernel
theorem dL_rides_26 : decode cL_rides 26 = .ok (.iadd, 1) := by decide +kernel
theorem dL_rides_27 : decode cL_rides 27 = .ok (.iaload, 1) := by decide +kernel
theorem dL_rides_28 : decode cL_rides 28 = .ok (.istore 11, 2) := by decide +kernel
theorem dL_rides_30 : decode cL_rides 30 = .ok (.iload 7, 2) := by decide +kernel
theorem dL_rides_32 : decode cL_rides 32 = .ok (.ifCond .ne 122, 3) := by decide +kernel
theorem dL_rides_35 : decode cL_rides 35 = .ok (.aload 5, 2) := by decide +kernel
theorem dL_rides_37 : decode cL_rides 37 = .ok (.iconst 5, 1) := by decide +kernel
theorem dL_rides_38 : decode cL_rides 38 = .ok (.iload 9, 2) := by decide +kernel
theorem dL_rides_40 : decode cL_rides 40 = .ok (.imul, 1) := by decide +kernel
theorem dL_rides_41 : decode cL_rides 41 = .ok (.iconst 1, 1) := by decide +kernel
theorem dL_rides_42 : decode cL_rides 42 = .ok (.iadd, 1) := by decide +kernel
theorem dL_rides_43 : decode cL_rides 43 = .ok (.iaload, 1) := by decide +kernel
theorem dL_rides_44 : decode cL_rides 44 = .ok (.aload_n 1, 1) := by decide +kernel
theorem dL_rides_45 : decode cL_rides 45 = .ok (.iconst 4, 1) := by decide +kernel
theorem dL_rides_46 : decode cL_rides 46 = .ok (.iaload, 1) := by decide +kernel
theorem dL_rides_47 : decode cL_rides 47 = .ok (.if_icmp .le 15, 3) := by decide +kernel
theorem dL_rides_50 : decode cL_rides 50 = .ok (.aload 5, 2) := by decide +kernel
theorem dL_rides_52 : decode cL_rides 52 = .ok (.iconst 5, 1) := by decide +kernel
theorem dL_rides_53 : decode cL_rides 53 = .ok (.iload 9, 2) := by decide +kernel
theorem dL_rides_55 : decode cL_rides 55 = .ok (.imul, 1) := by decide +kernel
theorem dL_rides_56 : decode cL_rides 56 = .ok (.iconst 1, 1) := by decide +kernel
theorem dL_rides_57 : decode cL_rides 57 = .ok (.iadd, 1) := by decide +kernel
theorem dL_rides_58 : decode cL_rides 58 = .ok (.iaload, 1) := by decide +kernel
theorem dL_rides_59 : decode cL_rides 59 = .ok (.goto 6, 3) := by decide +kernel
theorem dL_rides_62 : decode cL_rides 62 = .ok (.aload_n 1, 1) := by decide +kernel
theorem dL_rides_63 : decode cL_rides 63 = .ok (.iconst 4, 1) := by decide +kernel
theorem dL_rides_64 : decode cL_rides 64 = .ok (.iaload, 1) := by decide +kernel
theorem dL_rides_65 : decode cL_rides 65 = .ok (.sipush 1000, 3) := by decide +kernel
theorem dL_rides_68 : decode cL_rides 68 = .ok (.iadd, 1) := by decide +kernel
theorem dL_rides_69 : decode cL_rides 69 = .ok (.istore 12, 2) := by decide +kernel
theorem dL_rides_71 : decode cL_rides 71 = .ok (.iload 12, 2) := by decide +kernel
theorem dL_rides_73 : decode cL_rides 73 = .ok (.sipush 20000, 3) := by decide +kernel
theorem dL_rides_76 : decode cL_rides 76 = .ok (.if_icmp .le 20, 3) := by decide +kernel
theorem dL_rides_79 : decode cL_rides 79 = .ok (.aload_n 0, 1) := by decide +kernel
theorem dL_rides_80 : decode cL_rides 80 = .ok (.iload 9, 2) := by decide +kernel
theorem dL_rides_82 : decode cL_rides 82 = .ok (.invokevirtual 36, 3) := by decide +kernel
theorem dL_rides_85 : decode cL_rides 85 = .ok (.bipush (-3), 2) := by decide +kernel
theorem dL_rides_87 : decode cL_rides 87 = .ok (.if_icmp .ne 7, 3) := by decide +kernel
theorem dL_rides_90 : decode cL_rides 90 = .ok (.iconst 1, 1) := by decide +kernel
theorem dL_rides_91 : decode cL_rides 91 = .ok (.goto 4, 3) := by decide +kernel
theorem dL_rides_94 : decode cL_rides 94 = .ok (.iconst 0, 1) := by decide +kernel
theorem dL_rides_95 : decode cL_rides 95 = .ok (.ireturn, 1) := by decide +kernel
theorem dL_rides_96 : decode cL_rides 96 = .ok (.aload 5, 2) := by decide +kernel
theorem dL_rides_98 : decode cL_rides 98 = .ok (.iconst 5, 1) := by decide +kernel
theorem dL_rides_99 : decode cL_rides 99 = .ok (.iload 9, 2) := by decide +kernel
theorem dL_rides_101 : decode cL_rides 101 = .ok (.imul, 1) := by decide +kernel
theorem dL_rides_102 : decode cL_rides 102 = .ok (.dup2, 1) := by decide +kernel
theorem dL_rides_103 : decode cL_rides 103 = .ok (.iaload, 1) := by decide +kernel
theorem dL_rides_104 : decode cL_rides 104 = .ok (.aload_n 1, 1) := by decide +kernel
theorem dL_rides_105 : decode cL_rides 105 = .ok (.bipush 7, 2) := by decide +kernel
theorem dL_rides_107 : decode cL_rides 107 = .ok (.iaload, 1) := by decide +kernel
theorem dL_rides_108 : decode cL_rides 108 = .ok (.iadd, 1) := by decide +kernel
theorem dL_rides_109 : decode cL_rides 109 = .ok (.iastore, 1) := by decide +kernel
theorem dL_rides_110 : decode cL_rides 110 = .ok (.aload 6, 2) := by decide +kernel
theorem dL_rides_112 : decode cL_rides 112 = .ok (.iconst 4, 1) := by decide +kernel
theorem dL_rides_113 : decode cL_rides 113 = .ok (.iload 9, 2) := by decide +kernel
theorem dL_rides_115 : decode cL_rides 115 = .ok (.imul, 1) := by decide +kernel
theorem dL_rides_116 : decode cL_rides 116 = .ok (.iconst 3, 1) := by decide +kernel
theorem dL_rides_117 : decode cL_rides 117 = .ok (.iadd, 1) := by decide +kernel
theorem dL_rides_118 : decode cL_rides 118 = .ok (.dup2, 1) := by decide +kernel
theorem dL_rides_119 : decode cL_rides 119 = .ok (.iaload, 1) := by decide +kernel
theorem dL_rides_120 : decode cL_rides 120 = .ok (.aload_n 1, 1) := by decide +kernel
theorem dL_rides_121 : decode cL_rides 121 = .ok (.bipush 7, 2) := by decide +kernel
theorem dL_rides_123 : decode cL_rides 123 = .ok (.iaload, 1) := by decide +kernel
theorem dL_rides_124 : decode cL_rides 124 = .ok (.iadd, 1) := by decide +kernel
theorem dL_rides_125 : decode cL_rides 125 = .ok (.iastore, 1) := by decide +kernel
theorem dL_rides_126 : decode cL_rides 126 = .ok (.aload 5, 2) := by decide +kernel
theorem dL_rides_128 : decode cL_rides 128 = .ok (.iconst 5, 1) := by decide +kernel
theorem dL_rides_129 : decode cL_rides 129 = .ok (.iload 9, 2) := by decide +kernel
theorem dL_rides_131 : decode cL_rides 131 = .ok (.imul, 1) := by decide +kernel
theorem dL_rides_132 : decode cL_rides 132 = .ok (.iconst 1, 1) := by decide +kernel
theorem dL_rides_133 : decode cL_rides 133 = .ok (.iadd, 1) := by decide +kernel
theorem dL_rides_134 : decode cL_rides 134 = .ok (.iload 12, 2) := by decide +kernel
theorem dL_rides_136 : decode cL_rides 136 = .ok (.iastore, 1) := by decide +kernel
theorem dL_rides_137 : decode cL_rides 137 = .ok (.aload_n 0, 1) := by decide +kernel
theorem dL_rides_138 : decode cL_rides 138 = .ok (.iload 9, 2) := by decide +kernel
theorem dL_rides_140 : decode cL_rides 140 = .ok (.invokevirtual 36, 3) := by decide +kernel
theorem dL_rides_143 : decode cL_rides 143 = .ok (.iload 12, 2) := by decide +kernel
theorem dL_rides_145 : decode cL_rides 145 = .ok (.if_icmp .ne 7, 3) := by decide +kernel
theorem dL_rides_148 : decode cL_rides 148 = .ok (.iconst 1, 1) := by decide +kernel
theorem dL_rides_149 : decode cL_rides 149 = .ok (.goto 4, 3) := by decide +kernel
theorem dL_rides_152 : decode cL_rides 152 = .ok (.iconst 0, 1) := by decide +kernel
theorem dL_rides_153 : decode cL_rides 153 = .ok (.ireturn, 1) := by decide +kernel
theorem dL_rides_154 : decode cL_rides 154 = .ok (.iload 7, 2) := by decide +kernel
theorem dL_rides_156 : decode cL_rides 156 = .ok (.iconst 1, 1) := by decide +kernel
theorem dL_rides_157 : decode cL_rides 157 = .ok (.if_icmp .ne 265, 3) := by decide +kernel
theorem dL_rides_160 : decode cL_rides 160 = .ok (.iconst (-1), 1) := by decide +kernel
theorem dL_rides_161 : decode cL_rides 161 = .ok (.istore 12, 2) := by decide +kernel
theorem dL_rides_163 : decode cL_rides 163 = .ok (.aload_n 1, 1) := by decide +kernel
theorem dL_rides_164 : decode cL_rides 164 = .ok (.iconst 1, 1) := by decide +kernel
theorem dL_rides_165 : decode cL_rides 165 = .ok (.iaload, 1) := by decide +kernel
theorem dL_rides_166 : decode cL_rides 166 = .ok (.iconst 1, 1) := by decide +kernel
theorem dL_rides_167 : decode cL_rides 167 = .ok (.isub, 1) := by decide +kernel
theorem dL_rides_168 : decode cL_rides 168 = .ok (.istore 13, 2) := by decide +kernel
theorem dL_rides_170 : decode cL_rides 170 = .ok (.iload 13, 2) := by decide +kernel
theorem dL_rides_172 : decode cL_rides 172 = .ok (.ifCond .lt 86, 3) := by decide +kernel
theorem dL_rides_175 : decode cL_rides 175 = .ok (.aload_n 3, 1) := by decide +kernel
theorem dL_rides_176 : decode cL_rides 176 = .ok (.iconst 3, 1) := by decide +kernel
theorem dL_rides_177 : decode cL_rides 177 = .ok (.iload 13, 2) := by decide +kernel
theorem dL_rides_179 : decode cL_rides 179 = .ok (.imul, 1) := by decide +kernel
theorem dL_rides_180 : decode cL_rides 180 = .ok (.iaload, 1) := by decide +kernel
theorem dL_rides_181 : decode cL_rides 181 = .ok (.ifCond .ne 30, 3) := by decide +kernel
theorem dL_rides_184 : decode cL_rides 184 = .ok (.aload_n 3, 1) := by decide +kernel
theorem dL_rides_185 : decode cL_rides 185 = .ok (.iconst 3, 1) := by decide +kernel
theorem dL_rides_186 : decode cL_rides 186 = .ok (.iload 13, 2) := by decide +kernel
theorem dL_rides_188 : decode cL_rides 188 = .ok (.imul, 1) := by decide +kernel
theorem dL_rides_189 : decode cL_rides 189 = .ok (.iconst 1, 1) := by decide +kernel
theorem dL_rides_190 : decode cL_rides 190 = .ok (.iadd, 1) := by decide +kernel
theorem dL_rides_191 : decode cL_rides 191 = .ok (.iaload, 1) := by decide +kernel
theorem dL_rides_192 : decode cL_rides 192 = .ok (.iload 10, 2) := by decide +kernel
theorem dL_rides_194 : decode cL_rides 194 = .ok (.if_icmp .ne 17, 3) := by decide +kernel
theorem dL_rides_197 : decode cL_rides 197 = .ok (.aload 4, 2) := by decide +kernel
theorem dL_rides_199 : decode cL_rides 199 = .ok (.iconst 3, 1) := by decide +kernel
theorem dL_rides_200 : decode cL_rides 200 = .ok (.iload 13, 2) := by decide +kernel
theorem dL_rides_202 : decode cL_rides 202 = .ok (.imul, 1) := by decide +kernel
theorem dL_rides_203 : decode cL_rides 203 = .ok (.iaload, 1) := by decide +kernel
theorem dL_rides_204 : decode cL_rides 204 = .ok (.ifCond .ne 7, 3) := by decide +kernel
theorem dL_rides_207 : decode cL_rides 207 = .ok (.iconst 1, 1) := by decide +kernel
theorem dL_rides_208 : decode cL_rides 208 = .ok (.goto 4, 3) := by decide +kernel
theorem dL_rides_211 : decode cL_rides 211 = .ok (.iconst 0, 1) := by decide +kernel
theorem dL_rides_212 : decode cL_rides 212 = .ok (.istore 14, 2) := by decide +kernel
theorem dL_rides_214 : decode cL_rides 214 = .ok (.iload 14, 2) := by decide +kernel
theorem dL_rides_216 : decode cL_rides 216 = .ok (.ifCond .eq 32, 3) := by decide +kernel
theorem dL_rides_219 : decode cL_rides 219 = .ok (.iload 12, 2) := by decide +kernel
theorem dL_rides_221 : decode cL_rides 221 = .ok (.ifCond .lt 22, 3) := by decide +kernel
theorem dL_rides_224 : decode cL_rides 224 = .ok (.aload_n 3, 1) := by decide +kernel
theorem dL_rides_225 : decode cL_rides 225 = .ok (.iconst 3, 1) := by decide +kernel
theorem dL_rides_226 : decode cL_rides 226 = .ok (.iload 13, 2) := by decide +kernel
theorem dL_rides_228 : decode cL_rides 228 = .ok (.imul, 1) := by decide +kernel
theorem dL_rides_229 : decode cL_rides 229 = .ok (.iconst 2, 1) := by decide +kernel
theorem dL_rides_230 : decode cL_rides 230 = .ok (.iadd, 1) := by decide +kernel
theorem dL_rides_231 : decode cL_rides 231 = .ok (.iaload, 1) := by decide +kernel
theorem dL_rides_232 : decode cL_rides 232 = .ok (.aload_n 3, 1) := by decide +kernel
theorem dL_rides_233 : decode cL_rides 233 = .ok (.iconst 3, 1) := by decide +kernel
theorem dL_rides_234 : decode cL_rides 234 = .ok (.iload 12, 2) := by decide +kernel
theorem dL_rides_236 : decode cL_rides 236 = .ok (.imul, 1) := by decide +kernel
theorem dL_rides_237 : decode cL_rides 237 = .ok (.iconst 2, 1) := by decide +kernel
theorem dL_rides_238 : decode cL_rides 238 = .ok (.iadd, 1) := by decide +kernel
theorem dL_rides_239 : decode cL_rides 239 = .ok (.iaload, 1) := by decide +kernel
theorem dL_rides_240 : decode cL_rides 240 = .ok (.if_icmp .gt 8, 3) := by decide +kernel
theorem dL_rides_243 : decode cL_rides 243 = .ok (.iload 13, 2) := by decide +kernel
theorem dL_rides_245 : decode cL_rides 245 = .ok (.goto 5, 3) := by decide +kernel
theorem dL_rides_248 : decode cL_rides 248 = .ok (.iload 12, 2) := by decide +kernel
theorem dL_rides_250 : decode cL_rides 250 = .ok (.istore 12, 2) := by decide +kernel
theorem dL_rides_252 : decode cL_rides 252 = .ok (.iinc 13 (-1), 3) := by decide +kernel
theorem dL_rides_255 : decode cL_rides 255 = .ok (.goto (-85), 3) := by decide +kernel
theorem dL_rides_258 : decode cL_rides 258 = .ok (.iload 11, 2) := by decide +kernel
theorem dL_rides_260 : decode cL_rides 260 = .ok (.ifCond .ge 8, 3) := by decide +kernel
theorem dL_rides_263 : decode cL_rides 263 = .ok (.iload 12, 2) := by decide +kernel
theorem dL_rides_265 : decode cL_rides 265 = .ok (.ifCond .ge 22, 3) := by decide +kernel
theorem dL_rides_268 : decode cL_rides 268 = .ok (.aload_n 0, 1) := by decide +kernel
theorem dL_rides_269 : decode cL_rides 269 = .ok (.iload 9, 2) := by decide +kernel
theorem dL_rides_271 : decode cL_rides 271 = .ok (.iload 10, 2) := by decide +kernel
theorem dL_rides_273 : decode cL_rides 273 = .ok (.invokevirtual 39, 3) := by decide +kernel
theorem dL_rides_276 : decode cL_rides 276 = .ok (.bipush (-2), 2) := by decide +kernel
theorem dL_rides_278 : decode cL_rides 278 = .ok (.if_icmp .ne 7, 3) := by decide +kernel
theorem dL_rides_281 : decode cL_rides 281 = .ok (.iconst 1, 1) := by decide +kernel
theorem dL_rides_282 : decode cL_rides 282 = .ok (.goto 4, 3) := by decide +kernel
theorem dL_rides_285 : decode cL_rides 285 = .ok (.iconst 0, 1) := by decide +kernel
theorem dL_rides_286 : decode cL_rides 286 = .ok (.ireturn, 1) := by decide +kernel
theorem dL_rides_287 : decode cL_rides 287 = .ok (.aload_n 3, 1) := by decide +kernel
theorem dL_rides_288 : decode cL_rides 288 = .ok (.iconst 3, 1) := by decide +kernel
theorem dL_rides_289 : decode cL_rides 289 = .ok (.iload 12, 2) := by decide +kernel
theorem dL_rides_291 : decode cL_rides 291 = .ok (.imul, 1) := by decide +kernel
theorem dL_rides_292 : decode cL_rides 292 = .ok (.iconst 1, 1) := by decide +kernel
theorem dL_rides_293 : decode cL_rides 293 = .ok (.iastore, 1) := by decide +kernel
theorem dL_rides_294 : decode cL_rides 294 = .ok (.aload_n 3, 1) := by decide +kernel
theorem dL_rides_295 : decode cL_rides 295 = .ok (.iconst 3, 1) := by decide +kernel
theorem dL_rides_296 : decode cL_rides 296 = .ok (.iload 12, 2) := by decide +kernel
theorem dL_rides_298 : decode cL_rides 298 = .ok (.imul, 1) := by decide +kernel
theorem dL_rides_299 : decode cL_rides 299 = .ok (.iconst 1, 1) := by decide +kernel
theorem dL_rides_300 : decode cL_rides 300 = .ok (.iadd, 1) := by decide +kernel
theorem dL_rides_301 : decode cL_rides 301 = .ok (.iload 9, 2) := by decide +kernel
theorem dL_rides_303 : decode cL_rides 303 = .ok (.iastore, 1) := by decide +kernel
theorem dL_rides_304 : decode cL_rides 304 = .ok (.aload 5, 2) := by decide +kernel
theorem dL_rides_306 : decode cL_rides 306 = .ok (.iconst 5, 1) := by decide +kernel
theorem dL_rides_307 : decode cL_rides 307 = .ok (.iload 9, 2) := by decide +kernel
theorem dL_rides_309 : decode cL_rides 309 = .ok (.imul, 1) := by decide +kernel
theorem dL_rides_310 : decode cL_rides 310 = .ok (.iconst 2, 1) := by decide +kernel
theorem dL_rides_311 : decode cL_rides 311 = .ok (.iadd, 1) := by decide +kernel
theorem dL_rides_312 : decode cL_rides 312 = .ok (.iload 12, 2) := by decide +kernel
theorem dL_rides_314 : decode cL_rides 314 = .ok (.iastore, 1) := by decide +kernel
theorem dL_rides_315 : decode cL_rides 315 = .ok (.aload 5, 2) := by decide +kernel
theorem dL_rides_317 : decode cL_rides 317 = .ok (.iconst 5, 1) := by decide +kernel
theorem dL_rides_318 : decode cL_rides 318 = .ok (.iload 9, 2) := by decide +kernel
theorem dL_rides_320 : decode cL_rides 320 = .ok (.imul, 1) := by decide +kernel
theorem dL_rides_321 : decode cL_rides 321 = .ok (.iconst 3, 1) := by decide +kernel
theorem dL_rides_322 : decode cL_rides 322 = .ok (.iadd, 1) := by decide +kernel
theorem dL_rides_323 : decode cL_rides 323 = .ok (.aload_n 1, 1) := by decide +kernel
theorem dL_rides_324 : decode cL_rides 324 = .ok (.iconst 4, 1) := by decide +kernel
theorem dL_rides_325 : decode cL_rides 325 = .ok (.iaload, 1) := by decide +kernel
theorem dL_rides_326 : decode cL_rides 326 = .ok (.iastore, 1) := by decide +kernel
theorem dL_rides_327 : decode cL_rides 327 = .ok (.aload 6, 2) := by decide +kernel
theorem dL_rides_329 : decode cL_rides 329 = .ok (.iconst 4, 1) := by decide +kernel
theorem dL_rides_330 : decode cL_rides 330 = .ok (.iload 9, 2) := by decide +kernel
theorem dL_rides_332 : decode cL_rides 332 = .ok (.imul, 1) := by decide +kernel
theorem dL_rides_333 : decode cL_rides 333 = .ok (.aload 5, 2) := by decide +kernel
theorem dL_rides_335 : decode cL_rides 335 = .ok (.iconst 5, 1) := by decide +kernel
theorem dL_rides_336 : decode cL_rides 336 = .ok (.iload 9, 2) := by decide +kernel
theorem dL_rides_338 : decode cL_rides 338 = .ok (.imul, 1) := by decide +kernel
theorem dL_rides_339 : decode cL_rides 339 = .ok (.iconst 1, 1) := by decide +kernel
theorem dL_rides_340 : decode cL_rides 340 = .ok (.iadd, 1) := by decide +kernel
theorem dL_rides_341 : decode cL_rides 341 = .ok (.iaload, 1) := by decide +kernel
theorem dL_rides_342 : decode cL_rides 342 = .ok (.aload_n 1, 1) := by decide +kernel
theorem dL_rides_343 : decode cL_rides 343 = .ok (.iconst 4, 1) := by decide +kernel
theorem dL_rides_344 : decode cL_rides 344 = .ok (.iaload, 1) := by decide +kernel
theorem dL_rides_345 : decode cL_rides 345 = .ok (.if_icmp .le 7, 3) := by decide +kernel
theorem dL_rides_348 : decode cL_rides 348 = .ok (.iconst 1, 1) := by decide +kernel
theorem dL_rides_349 : decode cL_rides 349 = .ok (.goto 4, 3) := by decide +kernel
theorem dL_rides_352 : decode cL_rides 352 = .ok (.iconst 0, 1) := by decide +kernel
theorem dL_rides_353 : decode cL_rides 353 = .ok (.iastore, 1) := by decide +kernel
theorem dL_rides_354 : decode cL_rides 354 = .ok (.aload 5, 2) := by decide +kernel
theorem dL_rides_356 : decode cL_rides 356 = .ok (.iconst 5, 1) := by decide +kernel
theorem dL_rides_357 : decode cL_rides 357 = .ok (.iload 9, 2) := by decide +kernel
theorem dL_rides_359 : decode cL_rides 359 = .ok (.imul, 1) := by decide +kernel
theorem dL_rides_360 : decode cL_rides 360 = .ok (.iconst 4, 1) := by decide +kernel
theorem dL_rides_361 : decode cL_rides 361 = .ok (.iadd, 1) := by decide +kernel
theorem dL_rides_362 : decode cL_rides 362 = .ok (.aload 6, 2) := by decide +kernel
theorem dL_rides_364 : decode cL_rides 364 = .ok (.iconst 4, 1) := by decide +kernel
theorem dL_rides_365 : decode cL_rides 365 = .ok (.iload 9, 2) := by decide +kernel
theorem dL_rides_367 : decode cL_rides 367 = .ok (.imul, 1) := by decide +kernel
theorem dL_rides_368 : decode cL_rides 368 = .ok (.iaload, 1) := by decide +kernel
theorem dL_rides_369 : decode cL_rides 369 = .ok (.iconst 1, 1) := by decide +kernel
theorem dL_rides_370 : decode cL_rides 370 = .ok (.if_icmp .ne 9, 3) := by decide +kernel
theorem dL_rides_373 : decode cL_rides 373 = .ok (.aload_n 1, 1) := by decide +kernel
theorem dL_rides_374 : decode cL_rides 374 = .ok (.iconst 5, 1) := by decide +kernel
theorem dL_rides_375 : decode cL_rides 375 = .ok (.iaload, 1) := by decide +kernel
theorem dL_rides_376 : decode cL_rides 376 = .ok (.goto 4, 3) := by decide +kernel
theorem dL_rides_379 : decode cL_rides 379 = .ok (.iconst 0, 1) := by decide +kernel
theorem dL_rides_380 : decode cL_rides 380 = .ok (.iastore, 1) := by decide +kernel
theorem dL_rides_381 : decode cL_rides 381 = .ok (.aload 6, 2) := by decide +kernel
theorem dL_rides_383 : decode cL_rides 383 = .ok (.iconst 4, 1) := by decide +kernel
theorem dL_rides_384 : decode cL_rides 384 = .ok (.iload 9, 2) := by decide +kernel
theorem dL_rides_386 : decode cL_rides 386 = .ok (.imul, 1) := by decide +kernel
theorem dL_rides_387 : decode cL_rides 387 = .ok (.iconst 1, 1) := by decide +kernel
theorem dL_rides_388 : decode cL_rides 388 = .ok (.iadd, 1) := by decide +kernel
theorem dL_rides_389 : decode cL_rides 389 = .ok (.iconst 0, 1) := by decide +kernel
theorem dL_rides_390 : decode cL_rides 390 = .ok (.iastore, 1) := by decide +kernel
theorem dL_rides_391 : decode cL_rides 391 = .ok (.aload_n 2, 1) := by decide +kernel
theorem dL_rides_392 : decode cL_rides 392 = .ok (.iconst 4, 1) := by decide +kernel
theorem dL_rides_393 : decode cL_rides 393 = .ok (.iload 10, 2) := by decide +kernel
theorem dL_rides_395 : decode cL_rides 395 = .ok (.imul, 1) := by decide +kernel
theorem dL_rides_396 : decode cL_rides 396 = .ok (.iconst 2, 1) := by decide +kernel
theorem dL_rides_397 : decode cL_rides 397 = .ok (.iadd, 1) := by decide +kernel
theorem dL_rides_398 : decode cL_rides 398 = .ok (.dup2, 1) := by decide +kernel
theorem dL_rides_399 : decode cL_rides 399 = .ok (.iaload, 1) := by decide +kernel
theorem dL_rides_400 : decode cL_rides 400 = .ok (.iconst 1, 1) := by decide +kernel
theorem dL_rides_401 : decode cL_rides 401 = .ok (.iadd, 1) := by decide +kernel
theorem dL_rides_402 : decode cL_rides 402 = .ok (.iastore, 1) := by decide +kernel
theorem dL_rides_403 : decode cL_rides 403 = .ok (.aload_n 0, 1) := by decide +kernel
theorem dL_rides_404 : decode cL_rides 404 = .ok (.iload 9, 2) := by decide +kernel
theorem dL_rides_406 : decode cL_rides 406 = .ok (.iload 10, 2) := by decide +kernel
theorem dL_rides_408 : decode cL_rides 408 = .ok (.invokevirtual 39, 3) := by decide +kernel
theorem dL_rides_411 : decode cL_rides 411 = .ok (.iload 12, 2) := by decide +kernel
theorem dL_rides_413 : decode cL_rides 413 = .ok (.if_icmp .ne 7, 3) := by decide +kernel
theorem dL_rides_416 : decode cL_rides 416 = .ok (.iconst 1, 1) := by decide +kernel
theorem dL_rides_417 : decode cL_rides 417 = .ok (.goto 4, 3) := by decide +kernel
theorem dL_rides_420 : decode cL_rides 420 = .ok (.iconst 0, 1) := by decide +kernel
theorem dL_rides_421 : decode cL_rides 421 = .ok (.ireturn, 1) := by decide +kernel
theorem dL_rides_422 : decode cL_rides 422 = .ok (.iload 7, 2) := by decide +kernel
theorem dL_rides_424 : decode cL_rides 424 = .ok (.iconst 2, 1) := by decide +kernel
theorem dL_rides_425 : decode cL_rides 425 = .ok (.if_icmp .ne 171, 3) := by decide +kernel
theorem dL_rides_428 : decode cL_rides 428 = .ok (.iload 11, 2) := by decide +kernel
theorem dL_rides_430 : decode cL_rides 430 = .ok (.ifCond .lt 14, 3) := by decide +kernel
theorem dL_rides_433 : decode cL_rides 433 = .ok (.aload_n 1, 1) := by decide +kernel
theorem dL_rides_434 : decode cL_rides 434 = .ok (.aload_n 2, 1) := by decide +kernel
theorem dL_rides_435 : decode cL_rides 435 = .ok (.aload_n 3, 1) := by decide +kernel
theorem dL_rides_436 : decode cL_rides 436 = .ok (.iload 10, 2) := by decide +kernel
theorem dL_rides_438 : decode cL_rides 438 = .ok (.invokestatic 21, 3) := by decide +kernel
theorem dL_rides_441 : decode cL_rides 441 = .ok (.ifCond .ne 22, 3) := by decide +kernel
theorem dL_rides_444 : decode cL_rides 444 = .ok (.aload_n 0, 1) := by decide +kernel
theorem dL_rides_445 : decode cL_rides 445 = .ok (.iload 9, 2) := by decide +kernel
theorem dL_rides_447 : decode cL_rides 447 = .ok (.iload 10, 2) := by decide +kernel
theorem dL_rides_449 : decode cL_rides 449 = .ok (.invokevirtual 42, 3) := by decide +kernel
theorem dL_rides_452 : decode cL_rides 452 = .ok (.bipush (-2), 2) := by decide +kernel
theorem dL_rides_454 : decode cL_rides 454 = .ok (.if_icmp .ne 7, 3) := by decide +kernel
theorem dL_rides_457 : decode cL_rides 457 = .ok (.iconst 1, 1) := by decide +kernel
theorem dL_rides_458 : decode cL_rides 458 = .ok (.goto 4, 3) := by decide +kernel
theorem dL_rides_461 : decode cL_rides 461 = .ok (.iconst 0, 1) := by decide +kernel
theorem dL_rides_462 : decode cL_rides 462 = .ok (.ireturn, 1) := by decide +kernel
theorem dL_rides_463 : decode cL_rides 463 = .ok (.aload_n 1, 1) := by decide +kernel
theorem dL_rides_464 : decode cL_rides 464 = .ok (.aload 5, 2) := by decide +kernel
theorem dL_rides_466 : decode cL_rides 466 = .ok (.aload 6, 2) := by decide +kernel
theorem dL_rides_468 : decode cL_rides 468 = .ok (.iload 9, 2) := by decide +kernel
theorem dL_rides_470 : decode cL_rides 470 = .ok (.invokestatic 45, 3) := by decide +kernel
theorem dL_rides_473 : decode cL_rides 473 = .ok (.istore 12, 2) := by decide +kernel
theorem dL_rides_475 : decode cL_rides 475 = .ok (.aload_n 3, 1) := by decide +kernel
theorem dL_rides_476 : decode cL_rides 476 = .ok (.iconst 3, 1) := by decide +kernel
theorem dL_rides_477 : decode cL_rides 477 = .ok (.iload 11, 2) := by decide +kernel
theorem dL_rides_479 : decode cL_rides 479 = .ok (.imul, 1) := by decide +kernel
theorem dL_rides_480 : decode cL_rides 480 = .ok (.iconst 0, 1) := by decide +kernel
theorem dL_rides_481 : decode cL_rides 481 = .ok (.iastore, 1) := by decide +kernel
theorem dL_rides_482 : decode cL_rides 482 = .ok (.aload_n 3, 1) := by decide +kernel
theorem dL_rides_483 : decode cL_rides 483 = .ok (.iconst 3, 1) := by decide +kernel
theorem dL_rides_484 : decode cL_rides 484 = .ok (.iload 11, 2) := by decide +kernel
theorem dL_rides_486 : decode cL_rides 486 = .ok (.imul, 1) := by decide +kernel
theorem dL_rides_487 : decode cL_rides 487 = .ok (.iconst 1, 1) := by decide +kernel
theorem dL_rides_488 : decode cL_rides 488 = .ok (.iadd, 1) := by decide +kernel
theorem dL_rides_489 : decode cL_rides 489 = .ok (.iload 10, 2) := by decide +kernel
theorem dL_rides_491 : decode cL_rides 491 = .ok (.iastore, 1) := by decide +kernel
theorem dL_rides_492 : decode cL_rides 492 = .ok (.aload_n 3, 1) := by decide +kernel
theorem dL_rides_493 : decode cL_rides 493 = .ok (.iconst 3, 1) := by decide +kernel
theorem dL_rides_494 : decode cL_rides 494 = .ok (.iload 11, 2) := by decide +kernel
theorem dL_rides_496 : decode cL_rides 496 = .ok (.imul, 1) := by decide +kernel
theorem dL_rides_497 : decode cL_rides 497 = .ok (.iconst 2, 1) := by decide +kernel
theorem dL_rides_498 : decode cL_rides 498 = .ok (.iadd, 1) := by decide +kernel
theorem dL_rides_499 : decode cL_rides 499 = .ok (.dup2, 1) := by decide +kernel
theorem dL_rides_500 : decode cL_rides 500 = .ok (.iaload, 1) := by decide +kernel
theorem dL_rides_501 : decode cL_rides 501 = .ok (.aload_n 1, 1) := by decide +kernel
theorem dL_rides_502 : decode cL_rides 502 = .ok (.iconst 4, 1) := by decide +kernel
theorem dL_rides_503 : decode cL_rides 503 = .ok (.iaload, 1) := by decide +kernel
theorem dL_rides_504 : decode cL_rides 504 = .ok (.aload 5, 2) := by decide +kernel
theorem dL_rides_506 : decode cL_rides 506 = .ok (.iconst 5, 1) := by decide +kernel
theorem dL_rides_507 : decode cL_rides 507 = .ok (.iload 9, 2) := by decide +kernel
theorem dL_rides_509 : decode cL_rides 509 = .ok (.imul, 1) := by decide +kernel
theorem dL_rides_510 : decode cL_rides 510 = .ok (.iconst 3, 1) := by decide +kernel
theorem dL_rides_511 : decode cL_rides 511 = .ok (.iadd, 1) := by decide +kernel
theorem dL_rides_512 : decode cL_rides 512 = .ok (.iaload, 1) := by decide +kernel
theorem dL_rides_513 : decode cL_rides 513 = .ok (.isub, 1) := by decide +kernel
theorem dL_rides_514 : decode cL_rides 514 = .ok (.iadd, 1) := by decide +kernel
theorem dL_rides_515 : decode cL_rides 515 = .ok (.iastore, 1) := by decide +kernel
theorem dL_rides_516 : decode cL_rides 516 = .ok (.aload 4, 2) := by decide +kernel
theorem dL_rides_518 : decode cL_rides 518 = .ok (.iconst 3, 1) := by decide +kernel
theorem dL_rides_519 : decode cL_rides 519 = .ok (.iload 11, 2) := by decide +kernel
theorem dL_rides_521 : decode cL_rides 521 = .ok (.imul, 1) := by decide +kernel
theorem dL_rides_522 : decode cL_rides 522 = .ok (.iconst 1, 1) := by decide +kernel
theorem dL_rides_523 : decode cL_rides 523 = .ok (.iadd, 1) := by decide +kernel
theorem dL_rides_524 : decode cL_rides 524 = .ok (.dup2, 1) := by decide +kernel
theorem dL_rides_525 : decode cL_rides 525 = .ok (.iaload, 1) := by decide +kernel
theorem dL_rides_526 : decode cL_rides 526 = .ok (.iconst 1, 1) := by decide +kernel
theorem dL_rides_527 : decode cL_rides 527 = .ok (.iadd, 1) := by decide +kernel
theorem dL_rides_528 : decode cL_rides 528 = .ok (.iastore, 1) := by decide +kernel
theorem dL_rides_529 : decode cL_rides 529 = .ok (.aload 5, 2) := by decide +kernel
theorem dL_rides_531 : decode cL_rides 531 = .ok (.iconst 5, 1) := by decide +kernel
theorem dL_rides_532 : decode cL_rides 532 = .ok (.iload 9, 2) := by decide +kernel
theorem dL_rides_534 : decode cL_rides 534 = .ok (.imul, 1) := by decide +kernel
theorem dL_rides_535 : decode cL_rides 535 = .ok (.dup2, 1) := by decide +kernel
theorem dL_rides_536 : decode cL_rides 536 = .ok (.iaload, 1) := by decide +kernel
theorem dL_rides_537 : decode cL_rides 537 = .ok (.iload 12, 2) := by decide +kernel
theorem dL_rides_539 : decode cL_rides 539 = .ok (.iadd, 1) := by decide +kernel
theorem dL_rides_540 : decode cL_rides 540 = .ok (.iastore, 1) := by decide +kernel
theorem dL_rides_541 : decode cL_rides 541 = .ok (.aload 5, 2) := by decide +kernel
theorem dL_rides_543 : decode cL_rides 543 = .ok (.iconst 5, 1) := by decide +kernel
theorem dL_rides_544 : decode cL_rides 544 = .ok (.iload 9, 2) := by decide +kernel
theorem dL_rides_546 : decode cL_rides 546 = .ok (.imul, 1) := by decide +kernel
theorem dL_rides_547 : decode cL_rides 547 = .ok (.iconst 2, 1) := by decide +kernel
theorem dL_rides_548 : decode cL_rides 548 = .ok (.iadd, 1) := by decide +kernel
theorem dL_rides_549 : decode cL_rides 549 = .ok (.bipush (-4), 2) := by decide +kernel
theorem dL_rides_551 : decode cL_rides 551 = .ok (.iastore, 1) := by decide +kernel
theorem dL_rides_552 : decode cL_rides 552 = .ok (.aload 6, 2) := by decide +kernel
theorem dL_rides_554 : decode cL_rides 554 = .ok (.iconst 4, 1) := by decide +kernel
theorem dL_rides_555 : decode cL_rides 555 = .ok (.iload 9, 2) := by decide +kernel
theorem dL_rides_557 : decode cL_rides 557 = .ok (.imul, 1) := by decide +kernel
theorem dL_rides_558 : decode cL_rides 558 = .ok (.iconst 2, 1) := by decide +kernel
theorem dL_rides_559 : decode cL_rides 559 = .ok (.iadd, 1) := by decide +kernel
theorem dL_rides_560 : decode cL_rides 560 = .ok (.dup2, 1) := by decide +kernel
theorem dL_rides_561 : decode cL_rides 561 = .ok (.iaload, 1) := by decide +kernel
theorem dL_rides_562 : decode cL_rides 562 = .ok (.iconst 1, 1) := by decide +kernel
theorem dL_rides_563 : decode cL_rides 563 = .ok (.iadd, 1) := by decide +kernel
theorem dL_rides_564 : decode cL_rides 564 = .ok (.iastore, 1) := by decide +kernel
theorem dL_rides_565 : decode cL_rides 565 = .ok (.aload_n 2, 1) := by decide +kernel
theorem dL_rides_566 : decode cL_rides 566 = .ok (.iconst 4, 1) := by decide +kernel
theorem dL_rides_567 : decode cL_rides 567 = .ok (.iload 10, 2) := by decide +kernel
theorem dL_rides_569 : decode cL_rides 569 = .ok (.imul, 1) := by decide +kernel
theorem dL_rides_570 : decode cL_rides 570 = .ok (.iconst 3, 1) := by decide +kernel
theorem dL_rides_571 : decode cL_rides 571 = .ok (.iadd, 1) := by decide +kernel
theorem dL_rides_572 : decode cL_rides 572 = .ok (.dup2, 1) := by decide +kernel
theorem dL_rides_573 : decode cL_rides 573 = .ok (.iaload, 1) := by decide +kernel
theorem dL_rides_574 : decode cL_rides 574 = .ok (.iconst 1, 1) := by decide +kernel
theorem dL_rides_575 : decode cL_rides 575 = .ok (.iadd, 1) := by decide +kernel
theorem dL_rides_576 : decode cL_rides 576 = .ok (.iastore, 1) := by decide +kernel
theorem dL_rides_577 : decode cL_rides 577 = .ok (.aload_n 0, 1) := by decide +kernel
theorem dL_rides_578 : decode cL_rides 578 = .ok (.iload 9, 2) := by decide +kernel
theorem dL_rides_580 : decode cL_rides 580 = .ok (.iload 10, 2) := by decide +kernel
theorem dL_rides_582 : decode cL_rides 582 = .ok (.invokevirtual 42, 3) := by decide +kernel
theorem dL_rides_585 : decode cL_rides 585 = .ok (.iload 12, 2) := by decide +kernel
theorem dL_rides_587 : decode cL_rides 587 = .ok (.if_icmp .ne 7, 3) := by decide +kernel
theorem dL_rides_590 : decode cL_rides 590 = .ok (.iconst 1, 1) := by decide +kernel
theorem dL_rides_591 : decode cL_rides 591 = .ok (.goto 4, 3) := by decide +kernel
theorem dL_rides_594 : decode cL_rides 594 = .ok (.iconst 0, 1) := by decide +kernel
theorem dL_rides_595 : decode cL_rides 595 = .ok (.ireturn, 1) := by decide +kernel
theorem dL_rides_596 : decode cL_rides 596 = .ok (.iload 11, 2) := by decide +kernel
theorem dL_rides_598 : decode cL_rides 598 = .ok (.ifCond .lt 32, 3) := by decide +kernel
theorem dL_rides_601 : decode cL_rides 601 = .ok (.aload_n 1, 1) := by decide +kernel
theorem dL_rides_602 : decode cL_rides 602 = .ok (.aload_n 2, 1) := by decide +kernel
theorem dL_rides_603 : decode cL_rides 603 = .ok (.aload_n 3, 1) := by decide +kernel
theorem dL_rides_604 : decode cL_rides 604 = .ok (.iload 10, 2) := by decide +kernel
theorem dL_rides_606 : decode cL_rides 606 = .ok (.invokestatic 21, 3) := by decide +kernel
theorem dL_rides_609 : decode cL_rides 609 = .ok (.ifCond .ne 21, 3) := by decide +kernel
theorem dL_rides_612 : decode cL_rides 612 = .ok (.aload 6, 2) := by decide +kernel
theorem dL_rides_614 : decode cL_rides 614 = .ok (.iconst 4, 1) := by decide +kernel
theorem dL_rides_615 : decode cL_rides 615 = .ok (.iload 9, 2) := by decide +kernel
theorem dL_rides_617 : decode cL_rides 617 = .ok (.imul, 1) := by decide +kernel
theorem dL_rides_618 : decode cL_rides 618 = .ok (.iconst 1, 1) := by decide +kernel
theorem dL_rides_619 : decode cL_rides 619 = .ok (.iadd, 1) := by decide +kernel
theorem dL_rides_620 : decode cL_rides 620 = .ok (.iaload, 1) := by decide +kernel
theorem dL_rides_621 : decode cL_rides 621 = .ok (.iload 10, 2) := by decide +kernel
theorem dL_rides_623 : decode cL_rides 623 = .ok (.ishr, 1) := by decide +kernel
theorem dL_rides_624 : decode cL_rides 624 = .ok (.iconst 1, 1) := by decide +kernel
theorem dL_rides_625 : decode cL_rides 625 = .ok (.iand, 1) := by decide +kernel
theorem dL_rides_626 : decode cL_rides 626 = .ok (.iconst 1, 1) := by decide +kernel
theorem dL_rides_627 : decode cL_rides 627 = .ok (.if_icmp .ne 22, 3) := by decide +kernel
theorem dL_rides_630 : decode cL_rides 630 = .ok (.aload_n 0, 1) := by decide +kernel
theorem dL_rides_631 : decode cL_rides 631 = .ok (.iload 9, 2) := by decide +kernel
theorem dL_rides_633 : decode cL_rides 633 = .ok (.iload 10, 2) := by decide +kernel
theorem dL_rides_635 : decode cL_rides 635 = .ok (.invokevirtual 49, 3) := by decide +kernel
theorem dL_rides_638 : decode cL_rides 638 = .ok (.bipush (-2), 2) := by decide +kernel
theorem dL_rides_640 : decode cL_rides 640 = .ok (.if_icmp .ne 7, 3) := by decide +kernel
theorem dL_rides_643 : decode cL_rides 643 = .ok (.iconst 1, 1) := by decide +kernel
theorem dL_rides_644 : decode cL_rides 644 = .ok (.goto 4, 3) := by decide +kernel
theorem dL_rides_647 : decode cL_rides 647 = .ok (.iconst 0, 1) := by decide +kernel
theorem dL_rides_648 : decode cL_rides 648 = .ok (.ireturn, 1) := by decide +kernel
theorem dL_rides_649 : decode cL_rides 649 = .ok (.aload 6, 2) := by decide +kernel
theorem dL_rides_651 : decode cL_rides 651 = .ok (.iconst 4, 1) := by decide +kernel
theorem dL_rides_652 : decode cL_rides 652 = .ok (.iload 9, 2) := by decide +kernel
theorem dL_rides_654 : decode cL_rides 654 = .ok (.imul, 1) := by decide +kernel
theorem dL_rides_655 : decode cL_rides 655 = .ok (.iconst 1, 1) := by decide +kernel
theorem dL_rides_656 : decode cL_rides 656 = .ok (.iadd, 1) := by decide +kernel
theorem dL_rides_657 : decode cL_rides 657 = .ok (.dup2, 1) := by decide +kernel
theorem dL_rides_658 : decode cL_rides 658 = .ok (.iaload, 1) := by decide +kernel
theorem dL_rides_659 : decode cL_rides 659 = .ok (.iconst 1, 1) := by decide +kernel
theorem dL_rides_660 : decode cL_rides 660 = .ok (.iload 10, 2) := by decide +kernel
theorem dL_rides_662 : decode cL_rides 662 = .ok (.ishl, 1) := by decide +kernel
theorem dL_rides_663 : decode cL_rides 663 = .ok (.iadd, 1) := by decide +kernel
theorem dL_rides_664 : decode cL_rides 664 = .ok (.iastore, 1) := by decide +kernel
theorem dL_rides_665 : decode cL_rides 665 = .ok (.aload 5, 2) := by decide +kernel
theorem dL_rides_667 : decode cL_rides 667 = .ok (.iconst 5, 1) := by decide +kernel
theorem dL_rides_668 : decode cL_rides 668 = .ok (.iload 9, 2) := by decide +kernel
theorem dL_rides_670 : decode cL_rides 670 = .ok (.imul, 1) := by decide +kernel
theorem dL_rides_671 : decode cL_rides 671 = .ok (.iconst 4, 1) := by decide +kernel
theorem dL_rides_672 : decode cL_rides 672 = .ok (.iadd, 1) := by decide +kernel
theorem dL_rides_673 : decode cL_rides 673 = .ok (.dup2, 1) := by decide +kernel
theorem dL_rides_674 : decode cL_rides 674 = .ok (.iaload, 1) := by decide +kernel
theorem dL_rides_675 : decode cL_rides 675 = .ok (.bipush 15, 2) := by decide +kernel
theorem dL_rides_677 : decode cL_rides 677 = .ok (.iadd, 1) := by decide +kernel
theorem dL_rides_678 : decode cL_rides 678 = .ok (.iastore, 1) := by decide +kernel
theorem dL_rides_679 : decode cL_rides 679 = .ok (.aload_n 0, 1) := by decide +kernel
theorem dL_rides_680 : decode cL_rides 680 = .ok (.iload 9, 2) := by decide +kernel
theorem dL_rides_682 : decode cL_rides 682 = .ok (.iload 10, 2) := by decide +kernel
theorem dL_rides_684 : decode cL_rides 684 = .ok (.invokevirtual 49, 3) := by decide +kernel
theorem dL_rides_687 : decode cL_rides 687 = .ok (.aload 5, 2) := by decide +kernel
theorem dL_rides_689 : decode cL_rides 689 = .ok (.iconst 5, 1) := by decide +kernel
theorem dL_rides_690 : decode cL_rides 690 = .ok (.iload 9, 2) := by decide +kernel
theorem dL_rides_692 : decode cL_rides 692 = .ok (.imul, 1) := by decide +kernel
theorem dL_rides_693 : decode cL_rides 693 = .ok (.iconst 4, 1) := by decide +kernel
theorem dL_rides_694 : decode cL_rides 694 = .ok (.iadd, 1) := by decide +kernel
theorem dL_rides_695 : decode cL_rides 695 = .ok (.iaload, 1) := by decide +kernel
theorem dL_rides_696 : decode cL_rides 696 = .ok (.if_icmp .ne 7, 3) := by decide +kernel
theorem dL_rides_699 : decode cL_rides 699 = .ok (.iconst 1, 1) := by decide +kernel
theorem dL_rides_700 : decode cL_rides 700 = .ok (.goto 4, 3) := by decide +kernel
theorem dL_rides_703 : decode cL_rides 703 = .ok (.iconst 0, 1) := by decide +kernel
theorem dL_rides_704 : decode cL_rides 704 = .ok (.ireturn, 1) := by decide +kernel
theorem dL_drives_0 : decode cL_drives 0 = .ok (.iload 7, 2) := by decide +kernel
theorem dL_drives_2 : decode cL_drives 2 = .ok (.aload_n 1, 1) := by decide +kernel
theorem dL_drives_3 : decode cL_drives 3 = .ok (.iconst 3, 1) := by decide +kernel
theorem dL_drives_4 : decode cL_drives 4 = .ok (.iaload, 1) := by decide +kernel
theorem dL_drives_5 : decode cL_drives 5 = .ok (.irem, 1) := by decide +kernel
theorem dL_drives_6 : decode cL_drives 6 = .ok (.istore 8, 2) := by decide +kernel
theorem dL_drives_8 : decode cL_drives 8 = .ok (.iload 7, 2) := by decide +kernel
theorem dL_drives_10 : decode cL_drives 10 = .ok (.iconst 2, 1) := by decide +kernel
theorem dL_drives_11 : decode cL_drives 11 = .ok (.idiv, 1) := by decide +kernel
theorem dL_drives_12 : decode cL_drives 12 = .ok (.aload_n 1, 1) := by decide +kernel
theorem dL_drives_13 : decode cL_drives 13 = .ok (.iconst 1, 1) := by decide +kernel
theorem dL_drives_14 : decode cL_drives 14 = .ok (.iaload, 1) := by decide +kernel
theorem dL_drives_15 : decode cL_drives 15 = .ok (.irem, 1) := by decide +kernel
theorem dL_drives_16 : decode cL_drives 16 = .ok (.istore 9, 2) := by decide +kernel
theorem dL_drives_18 : decode cL_drives 18 = .ok (.iconst 0, 1) := by decide +kernel
theorem dL_drives_19 : decode cL_drives 19 = .ok (.istore 10, 2) := by decide +kernel
theorem dL_drives_21 : decode cL_drives 21 = .ok (.iload 10, 2) := by decide +kernel
theorem dL_drives_23 : decode cL_drives 23 = .ok (.aload_n 1, 1) := by decide +kernel
theorem dL_drives_24 : decode cL_drives 24 = .ok (.iconst 1, 1) := by decide +kernel
theorem dL_drives_25 : decode cL_drives 25 = .ok (.iaload, 1) := by decide +kernel
theorem dL_drives_26 : decode cL_drives 26 = .ok (.if_icmp .ge 53, 3) := by decide +kernel
theorem dL_drives_29 : decode cL_drives 29 = .ok (.iload 7, 2) := by decide +kernel
theorem dL_drives_31 : decode cL_drives 31 = .ok (.iconst 3, 1) := by decide +kernel
theorem dL_drives_32 : decode cL_drives 32 = .ok (.irem, 1) := by decide +kernel
theorem dL_drives_33 : decode cL_drives 33 = .ok (.ifCond .le 46, 3) := by decide +kernel
theorem dL_drives_36 : decode cL_drives 36 = .ok (.iload 6, 2) := by decide +kernel
theorem dL_drives_38 : decode cL_drives 38 = .ok (.ifCond .le 31, 3) := by decide +kernel
theorem dL_drives_41 : decode cL_drives 41 = .ok (.aload_n 3, 1) := by decide +kernel
theorem dL_drives_42 : decode cL_drives 42 = .ok (.iconst 3, 1) := by decide +kernel
theorem dL_drives_43 : decode cL_drives 43 = .ok (.iload 10, 2) := by decide +kernel
theorem dL_drives_45 : decode cL_drives 45 = .ok (.imul, 1) := by decide +kernel
theorem dL_drives_46 : decode cL_drives 46 = .ok (.iaload, 1) := by decide +kernel
theorem dL_drives_47 : decode cL_drives 47 = .ok (.iconst 2, 1) := by decide +kernel
theorem dL_drives_48 : decode cL_drives 48 = .ok (.if_icmp .ne 21, 3) := by decide +kernel
theorem dL_drives_51 : decode cL_drives 51 = .ok (.aload_n 3, 1) := by decide +kernel
theorem dL_drives_52 : decode cL_drives 52 = .ok (.iconst 3, 1) := by decide +kernel
theorem dL_drives_53 : decode cL_drives 53 = .ok (.iload 10, 2) := by decide +kernel
theorem dL_drives_55 : decode cL_drives 55 = .ok (.imul, 1) := by decide +kernel
theorem dL_drives_56 : decode cL_drives 56 = .ok (.iconst 1, 1) := by decide +kernel
theorem dL_drives_57 : decode cL_drives 57 = .ok (.iadd, 1) := by decide +kernel
theorem dL_drives_58 : decode cL_drives 58 = .ok (.iaload, 1) := by decide +kernel
theorem dL_drives_59 : decode cL_drives 59 = .ok (.iload 8, 2) := by decide +kernel
theorem dL_drives_61 : decode cL_drives 61 = .ok (.if_icmp .ne 8, 3) := by decide +kernel
theorem dL_drives_64 : decode cL_drives 64 = .ok (.iload 10, 2) := by decide +kernel
theorem dL_drives_66 : decode cL_drives 66 = .ok (.goto 5, 3) := by decide +kernel
theorem dL_drives_69 : decode cL_drives 69 = .ok (.iload 9, 2) := by decide +kernel
theorem dL_drives_71 : decode cL_drives 71 = .ok (.istore 9, 2) := by decide +kernel
theorem dL_drives_73 : decode cL_drives 73 = .ok (.iinc 10 1, 3) := by decide +kernel
theorem dL_drives_76 : decode cL_drives 76 = .ok (.goto (-55), 3) := by decide +kernel
theorem dL_drives_79 : decode cL_drives 79 = .ok (.aload 5, 2) := by decide +kernel
theorem dL_drives_81 : decode cL_drives 81 = .ok (.iconst 3, 1) := by decide +kernel
theorem dL_drives_82 : decode cL_drives 82 = .ok (.iload 8, 2) := by decide +kernel
theorem dL_drives_84 : decode cL_drives 84 = .ok (.imul, 1) := by decide +kernel
theorem dL_drives_85 : decode cL_drives 85 = .ok (.iconst 2, 1) := by decide +kernel
theorem dL_drives_86 : decode cL_drives 86 = .ok (.iadd, 1) := by decide +kernel
theorem dL_drives_87 : decode cL_drives 87 = .ok (.iaload, 1) := by decide +kernel
theorem dL_drives_88 : decode cL_drives 88 = .ok (.aload_n 1, 1) := by decide +kernel
theorem dL_drives_89 : decode cL_drives 89 = .ok (.iconst 4, 1) := by decide +kernel
theorem dL_drives_90 : decode cL_drives 90 = .ok (.iaload, 1) := by decide +kernel
theorem dL_drives_91 : decode cL_drives 91 = .ok (.if_icmp .gt 7, 3) := by decide +kernel
theorem dL_drives_94 : decode cL_drives 94 = .ok (.iconst 1, 1) := by decide +kernel
theorem dL_drives_95 : decode cL_drives 95 = .ok (.goto 4, 3) := by decide +kernel
theorem dL_drives_98 : decode cL_drives 98 = .ok (.iconst 0, 1) := by decide +kernel
theorem dL_drives_99 : decode cL_drives 99 = .ok (.istore 10, 2) := by decide +kernel
theorem dL_drives_101 : decode cL_drives 101 = .ok (.aload_n 3, 1) := by decide +kernel
theorem dL_drives_102 : decode cL_drives 102 = .ok (.iconst 3, 1) := by decide +kernel
theorem dL_drives_103 : decode cL_drives 103 = .ok (.iload 9, 2) := by decide +kernel
theorem dL_drives_105 : decode cL_drives 105 = .ok (.imul, 1) := by decide +kernel
theorem dL_drives_106 : decode cL_drives 106 = .ok (.iaload, 1) := by decide +kernel
theorem dL_drives_107 : decode cL_drives 107 = .ok (.iconst 2, 1) := by decide +kernel
theorem dL_drives_108 : decode cL_drives 108 = .ok (.if_icmp .ne 20, 3) := by decide +kernel
theorem dL_drives_111 : decode cL_drives 111 = .ok (.aload_n 3, 1) := by decide +kernel
theorem dL_drives_112 : decode cL_drives 112 = .ok (.iconst 3, 1) := by decide +kernel
theorem dL_drives_113 : decode cL_drives 113 = .ok (.iload 9, 2) := by decide +kernel
theorem dL_drives_115 : decode cL_drives 115 = .ok (.imul, 1) := by decide +kernel
theorem dL_drives_116 : decode cL_drives 116 = .ok (.iconst 1, 1) := by decide +kernel
theorem dL_drives_117 : decode cL_drives 117 = .ok (.iadd, 1) := by decide +kernel
theorem dL_drives_118 : decode cL_drives 118 = .ok (.iaload, 1) := by decide +kernel
theorem dL_drives_119 : decode cL_drives 119 = .ok (.iload 8, 2) := by decide +kernel
theorem dL_drives_121 : decode cL_drives 121 = .ok (.if_icmp .ne 7, 3) := by decide +kernel
theorem dL_drives_124 : decode cL_drives 124 = .ok (.iconst 1, 1) := by decide +kernel
theorem dL_drives_125 : decode cL_drives 125 = .ok (.goto 4, 3) := by decide +kernel
theorem dL_drives_128 : decode cL_drives 128 = .ok (.iconst 0, 1) := by decide +kernel
theorem dL_drives_129 : decode cL_drives 129 = .ok (.istore 11, 2) := by decide +kernel
theorem dL_drives_131 : decode cL_drives 131 = .ok (.iload 6, 2) := by decide +kernel
theorem dL_drives_133 : decode cL_drives 133 = .ok (.ifCond .ne 114, 3) := by decide +kernel
theorem dL_drives_136 : decode cL_drives 136 = .ok (.iload 10, 2) := by decide +kernel
theorem dL_drives_138 : decode cL_drives 138 = .ok (.ifCond .eq 49, 3) := by decide +kernel
theorem dL_drives_141 : decode cL_drives 141 = .ok (.aload_n 1, 1) := by decide +kernel
theorem dL_drives_142 : decode cL_drives 142 = .ok (.aload_n 3, 1) := by decide +kernel
theorem dL_drives_143 : decode cL_drives 143 = .ok (.iload 8, 2) := by decide +kernel
theorem dL_drives_145 : decode cL_drives 145 = .ok (.invokestatic 52, 3) := by decide +kernel
theorem dL_drives_148 : decode cL_drives 148 = .ok (.aload 5, 2) := by decide +kernel
theorem dL_drives_150 : decode cL_drives 150 = .ok (.iconst 3, 1) := by decide +kernel
theorem dL_drives_151 : decode cL_drives 151 = .ok (.iload 8, 2) := by decide +kernel
theorem dL_drives_153 : decode cL_drives 153 = .ok (.imul, 1) := by decide +kernel
theorem dL_drives_154 : decode cL_drives 154 = .ok (.iconst 1, 1) := by decide +kernel
theorem dL_drives_155 : decode cL_drives 155 = .ok (.iadd, 1) := by decide +kernel
theorem dL_drives_156 : decode cL_drives 156 = .ok (.iaload, 1) := by decide +kernel
theorem dL_drives_157 : decode cL_drives 157 = .ok (.if_icmp .ge 30, 3) := by decide +kernel
theorem dL_drives_160 : decode cL_drives 160 = .ok (.aload_n 3, 1) := by decide +kernel
theorem dL_drives_161 : decode cL_drives 161 = .ok (.iconst 3, 1) := by decide +kernel
theorem dL_drives_162 : decode cL_drives 162 = .ok (.iload 9, 2) := by decide +kernel
theorem dL_drives_164 : decode cL_drives 164 = .ok (.imul, 1) := by decide +kernel
theorem dL_drives_165 : decode cL_drives 165 = .ok (.iaload, 1) := by decide +kernel
theorem dL_drives_166 : decode cL_drives 166 = .ok (.ifCond .ne 21, 3) := by decide +kernel
theorem dL_drives_169 : decode cL_drives 169 = .ok (.aload_n 3, 1) := by decide +kernel
theorem dL_drives_170 : decode cL_drives 170 = .ok (.iconst 3, 1) := by decide +kernel
theorem dL_drives_171 : decode cL_drives 171 = .ok (.iload 9, 2) := by decide +kernel
theorem dL_drives_173 : decode cL_drives 173 = .ok (.imul, 1) := by decide +kernel
theorem dL_drives_174 : decode cL_drives 174 = .ok (.iconst 1, 1) := by decide +kernel
theorem dL_drives_175 : decode cL_drives 175 = .ok (.iadd, 1) := by decide +kernel
theorem dL_drives_176 : decode cL_drives 176 = .ok (.iaload, 1) := by decide +kernel
theorem dL_drives_177 : decode cL_drives 177 = .ok (.aload 5, 2) := by decide +kernel
theorem dL_drives_179 : decode cL_drives 179 = .ok (.iconst 3, 1) := by decide +kernel
theorem dL_drives_180 : decode cL_drives 180 = .ok (.iload 8, 2) := by decide +kernel
theorem dL_drives_182 : decode cL_drives 182 = .ok (.imul, 1) := by decide +kernel
theorem dL_drives_183 : decode cL_drives 183 = .ok (.iaload, 1) := by decide +kernel
theorem dL_drives_184 : decode cL_drives 184 = .ok (.if_icmp .eq 22, 3) := by decide +kernel
theorem dL_drives_187 : decode cL_drives 187 = .ok (.aload_n 0, 1) := by decide +kernel
theorem dL_drives_188 : decode cL_drives 188 = .ok (.iload 8, 2) := by decide +kernel
theorem dL_drives_190 : decode cL_drives 190 = .ok (.iload 9, 2) := by decide +kernel
theorem dL_drives_192 : decode cL_drives 192 = .ok (.invokevirtual 55, 3) := by decide +kernel
theorem dL_drives_195 : decode cL_drives 195 = .ok (.bipush (-2), 2) := by decide +kernel
theorem dL_drives_197 : decode cL_drives 197 = .ok (.if_icmp .ne 7, 3) := by decide +kernel
theorem dL_drives_200 : decode cL_drives 200 = .ok (.iconst 1, 1) := by decide +kernel
theorem dL_drives_201 : decode cL_drives 201 = .ok (.goto 4, 3) := by decide +kernel
theorem dL_drives_204 : decode cL_drives 204 = .ok (.iconst 0, 1) := by decide +kernel
theorem dL_drives_205 : decode cL_drives 205 = .ok (.ireturn, 1) := by decide +kernel
theorem dL_drives_206 : decode cL_drives 206 = .ok (.aload_n 3, 1) := by decide +kernel
theorem dL_drives_207 : decode cL_drives 207 = .ok (.iconst 3, 1) := by decide +kernel
theorem dL_drives_208 : decode cL_drives 208 = .ok (.iload 9, 2) := by decide +kernel
theorem dL_drives_210 : decode cL_drives 210 = .ok (.imul, 1) := by decide +kernel
theorem dL_drives_211 : decode cL_drives 211 = .ok (.iconst 2, 1) := by decide +kernel
theorem dL_drives_212 : decode cL_drives 212 = .ok (.iastore, 1) := by decide +kernel
theorem dL_drives_213 : decode cL_drives 213 = .ok (.aload_n 3, 1) := by decide +kernel
theorem dL_drives_214 : decode cL_drives 214 = .ok (.iconst 3, 1) := by decide +kernel
theorem dL_drives_215 : decode cL_drives 215 = .ok (.iload 9, 2) := by decide +kernel
theorem dL_drives_217 : decode cL_drives 217 = .ok (.imul, 1) := by decide +kernel
theorem dL_drives_218 : decode cL_drives 218 = .ok (.iconst 1, 1) := by decide +kernel
theorem dL_drives_219 : decode cL_drives 219 = .ok (.iadd, 1) := by decide +kernel
theorem dL_drives_220 : decode cL_drives 220 = .ok (.iload 8, 2) := by decide +kernel
theorem dL_drives_222 : decode cL_drives 222 = .ok (.iastore, 1) := by decide +kernel
theorem dL_drives_223 : decode cL_drives 223 = .ok (.aload_n 0, 1) := by decide +kernel
theorem dL_drives_224 : decode cL_drives 224 = .ok (.iload 8, 2) := by decide +kernel
theorem dL_drives_226 : decode cL_drives 226 = .ok (.iload 9, 2) := by decide +kernel
theorem dL_drives_228 : decode cL_drives 228 = .ok (.invokevirtual 55, 3) := by decide +kernel
theorem dL_drives_231 : decode cL_drives 231 = .ok (.aload_n 1, 1) := by decide +kernel
theorem dL_drives_232 : decode cL_drives 232 = .ok (.aload_n 3, 1) := by decide +kernel
theorem dL_drives_233 : decode cL_drives 233 = .ok (.iload 8, 2) := by decide +kernel
theorem dL_drives_235 : decode cL_drives 235 = .ok (.invokestatic 52, 3) := by decide +kernel
theorem dL_drives_238 : decode cL_drives 238 = .ok (.if_icmp .ne 7, 3) := by decide +kernel
theorem dL_drives_241 : decode cL_drives 241 = .ok (.iconst 1, 1) := by decide +kernel
theorem dL_drives_242 : decode cL_drives 242 = .ok (.goto 4, 3) := by decide +kernel
theorem dL_drives_245 : decode cL_drives 245 = .ok (.iconst 0, 1) := by decide +kernel
theorem dL_drives_246 : decode cL_drives 246 = .ok (.ireturn, 1) := by decide +kernel
theorem dL_drives_247 : decode cL_drives 247 = .ok (.iload 6, 2) := by decide +kernel
theorem dL_drives_249 : decode cL_drives 249 = .ok (.iconst 1, 1) := by decide +kernel
theorem dL_drives_250 : decode cL_drives 250 = .ok (.if_icmp .ne 94, 3) := by decide +kernel
theorem dL_drives_253 : decode cL_drives 253 = .ok (.iload 10, 2) := by decide +kernel
theorem dL_drives_255 : decode cL_drives 255 = .ok (.ifCond .eq 24, 3) := by decide +kernel
theorem dL_drives_258 : decode cL_drives 258 = .ok (.iload 11, 2) := by decide +kernel
theorem dL_drives_260 : decode cL_drives 260 = .ok (.ifCond .eq 19, 3) := by decide +kernel
theorem dL_drives_263 : decode cL_drives 263 = .ok (.aload_n 1, 1) := by decide +kernel
theorem dL_drives_264 : decode cL_drives 264 = .ok (.aload_n 2, 1) := by decide +kernel
theorem dL_drives_265 : decode cL_drives 265 = .ok (.aload_n 3, 1) := by decide +kernel
theorem dL_drives_266 : decode cL_drives 266 = .ok (.aload 5, 2) := by decide +kernel
theorem dL_drives_268 : decode cL_drives 268 = .ok (.iconst 3, 1) := by decide +kernel
theorem dL_drives_269 : decode cL_drives 269 = .ok (.iload 8, 2) := by decide +kernel
theorem dL_drives_271 : decode cL_drives 271 = .ok (.imul, 1) := by decide +kernel
theorem dL_drives_272 : decode cL_drives 272 = .ok (.iaload, 1) := by decide +kernel
theorem dL_drives_273 : decode cL_drives 273 = .ok (.invokestatic 21, 3) := by decide +kernel
theorem dL_drives_276 : decode cL_drives 276 = .ok (.ifCond .ne 22, 3) := by decide +kernel
theorem dL_drives_279 : decode cL_drives 279 = .ok (.aload_n 0, 1) := by decide +kernel
theorem dL_drives_280 : decode cL_drives 280 = .ok (.iload 8, 2) := by decide +kernel
theorem dL_drives_282 : decode cL_drives 282 = .ok (.iload 9, 2) := by decide +kernel
theorem dL_drives_284 : decode cL_drives 284 = .ok (.invokevirtual 58, 3) := by decide +kernel
theorem dL_drives_287 : decode cL_drives 287 = .ok (.bipush (-2), 2) := by decide +kernel
theorem dL_drives_289 : decode cL_drives 289 = .ok (.if_icmp .ne 7, 3) := by decide +kernel
theorem dL_drives_292 : decode cL_drives 292 = .ok (.iconst 1, 1) := by decide +kernel
theorem dL_drives_293 : decode cL_drives 293 = .ok (.goto 4, 3) := by decide +kernel
theorem dL_drives_296 : decode cL_drives 296 = .ok (.iconst 0, 1) := by decide +kernel
theorem dL_drives_297 : decode cL_drives 297 = .ok (.ireturn, 1) := by decide +kernel
theorem dL_drives_298 : decode cL_drives 298 = .ok (.aload_n 3, 1) := by decide +kernel
theorem dL_drives_299 : decode cL_drives 299 = .ok (.iconst 3, 1) := by decide +kernel
theorem dL_drives_300 : decode cL_drives 300 = .ok (.iload 9, 2) := by decide +kernel
theorem dL_drives_302 : decode cL_drives 302 = .ok (.imul, 1) := by decide +kernel
theorem dL_drives_303 : decode cL_drives 303 = .ok (.iconst 0, 1) := by decide +kernel
theorem dL_drives_304 : decode cL_drives 304 = .ok (.iastore, 1) := by decide +kernel
theorem dL_drives_305 : decode cL_drives 305 = .ok (.aload_n 3, 1) := by decide +kernel
theorem dL_drives_306 : decode cL_drives 306 = .ok (.iconst 3, 1) := by decide +kernel
theorem dL_drives_307 : decode cL_drives 307 = .ok (.iload 9, 2) := by decide +kernel
theorem dL_drives_309 : decode cL_drives 309 = .ok (.imul, 1) := by decide +kernel
theorem dL_drives_310 : decode cL_drives 310 = .ok (.iconst 1, 1) := by decide +kernel
theorem dL_drives_311 : decode cL_drives 311 = .ok (.iadd, 1) := by decide +kernel
theorem dL_drives_312 : decode cL_drives 312 = .ok (.aload 5, 2) := by decide +kernel
theorem dL_drives_314 : decode cL_drives 314 = .ok (.iconst 3, 1) := by decide +kernel
theorem dL_drives_315 : decode cL_drives 315 = .ok (.iload 8, 2) := by decide +kernel
theorem dL_drives_317 : decode cL_drives 317 = .ok (.imul, 1) := by decide +kernel
theorem dL_drives_318 : decode cL_drives 318 = .ok (.iaload, 1) := by decide +kernel
theorem dL_drives_319 : decode cL_drives 319 = .ok (.iastore, 1) := by decide +kernel
theorem dL_drives_320 : decode cL_drives 320 = .ok (.aload_n 0, 1) := by decide +kernel
theorem dL_drives_321 : decode cL_drives 321 = .ok (.iload 8, 2) := by decide +kernel
theorem dL_drives_323 : decode cL_drives 323 = .ok (.iload 9, 2) := by decide +kernel
theorem dL_drives_325 : decode cL_drives 325 = .ok (.invokevirtual 58, 3) := by decide +kernel
theorem dL_drives_328 : decode cL_drives 328 = .ok (.aload_n 1, 1) := by decide +kernel
theorem dL_drives_329 : decode cL_drives 329 = .ok (.aload_n 3, 1) := by decide +kernel
theorem dL_drives_330 : decode cL_drives 330 = .ok (.iload 8, 2) := by decide +kernel
theorem dL_drives_332 : decode cL_drives 332 = .ok (.invokestatic 52, 3) := by decide +kernel
theorem dL_drives_335 : decode cL_drives 335 = .ok (.if_icmp .ne 7, 3) := by decide +kernel
theorem dL_drives_338 : decode cL_drives 338 = .ok (.iconst 1, 1) := by decide +kernel
theorem dL_drives_339 : decode cL_drives 339 = .ok (.goto 4, 3) := by decide +kernel
theorem dL_drives_342 : decode cL_drives 342 = .ok (.iconst 0, 1) := by decide +kernel
theorem dL_drives_343 : decode cL_drives 343 = .ok (.ireturn, 1) := by decide +kernel
theorem dL_drives_344 : decode cL_drives 344 = .ok (.iload 6, 2) := by decide +kernel
theorem dL_drives_346 : decode cL_drives 346 = .ok (.iconst 2, 1) := by decide +kernel
theorem dL_drives_347 : decode cL_drives 347 = .ok (.if_icmp .ne 102, 3) := by decide +kernel
theorem dL_drives_350 : decode cL_drives 350 = .ok (.iload 10, 2) := by decide +kernel
theorem dL_drives_352 : decode cL_drives 352 = .ok (.ifCond .eq 18, 3) := by decide +kernel
theorem dL_drives_355 : decode cL_drives 355 = .ok (.iload 11, 2) := by decide +kernel
theorem dL_drives_357 : decode cL_drives 357 = .ok (.ifCond .eq 13, 3) := by decide +kernel
theorem dL_drives_360 : decode cL_drives 360 = .ok (.aload 5, 2) := by decide +kernel
theorem dL_drives_362 : decode cL_drives 362 = .ok (.iconst 3, 1) := by decide +kernel
theorem dL_drives_363 : decode cL_drives 363 = .ok (.iload 8, 2) := by decide +kernel
theorem dL_drives_365 : decode cL_drives 365 = .ok (.imul, 1) := by decide +kernel
theorem dL_drives_366 : decode cL_drives 366 = .ok (.iaload, 1) := by decide +kernel
theorem dL_drives_367 : decode cL_drives 367 = .ok (.ifCond .le 22, 3) := by decide +kernel
theorem dL_drives_370 : decode cL_drives 370 = .ok (.aload_n 0, 1) := by decide +kernel
theorem dL_drives_371 : decode cL_drives 371 = .ok (.iload 8, 2) := by decide +kernel
theorem dL_drives_373 : decode cL_drives 373 = .ok (.iload 9, 2) := by decide +kernel
theorem dL_drives_375 : decode cL_drives 375 = .ok (.invokevirtual 61, 3) := by decide +kernel
theorem dL_drives_378 : decode cL_drives 378 = .ok (.bipush (-2), 2) := by decide +kernel
theorem dL_drives_380 : decode cL_drives 380 = .ok (.if_icmp .ne 7, 3) := by decide +kernel
theorem dL_drives_383 : decode cL_drives 383 = .ok (.iconst 1, 1) := by decide +kernel
theorem dL_drives_384 : decode cL_drives 384 = .ok (.goto 4, 3) := by decide +kernel
theorem dL_drives_387 : decode cL_drives 387 = .ok (.iconst 0, 1) := by decide +kernel
theorem dL_drives_388 : decode cL_drives 388 = .ok (.ireturn, 1) := by decide +kernel
theorem dL_drives_389 : decode cL_drives 389 = .ok (.aload_n 3, 1) := by decide +kernel
theorem dL_drives_390 : decode cL_drives 390 = .ok (.iconst 3, 1) := by decide +kernel
theorem dL_drives_391 : decode cL_drives 391 = .ok (.iload 9, 2) := by decide +kernel
theorem dL_drives_393 : decode cL_drives 393 = .ok (.imul, 1) := by decide +kernel
theorem dL_drives_394 : decode cL_drives 394 = .ok (.iconst 3, 1) := by decide +kernel
theorem dL_drives_395 : decode cL_drives 395 = .ok (.iastore, 1) := by decide +kernel
theorem dL_drives_396 : decode cL_drives 396 = .ok (.aload_n 3, 1) := by decide +kernel
theorem dL_drives_397 : decode cL_drives 397 = .ok (.iconst 3, 1) := by decide +kernel
theorem dL_drives_398 : decode cL_drives 398 = .ok (.iload 9, 2) := by decide +kernel
theorem dL_drives_400 : decode cL_drives 400 = .ok (.imul, 1) := by decide +kernel
theorem dL_drives_401 : decode cL_drives 401 = .ok (.iconst 1, 1) := by decide +kernel
theorem dL_drives_402 : decode cL_drives 402 = .ok (.iadd, 1) := by decide +kernel
theorem dL_drives_403 : decode cL_drives 403 = .ok (.bipush (-4), 2) := by decide +kernel
theorem dL_drives_405 : decode cL_drives 405 = .ok (.iastore, 1) := by decide +kernel
theorem dL_drives_406 : decode cL_drives 406 = .ok (.aload 4, 2) := by decide +kernel
theorem dL_drives_408 : decode cL_drives 408 = .ok (.iconst 3, 1) := by decide +kernel
theorem dL_drives_409 : decode cL_drives 409 = .ok (.iload 9, 2) := by decide +kernel
theorem dL_drives_411 : decode cL_drives 411 = .ok (.imul, 1) := by decide +kernel
theorem dL_drives_412 : decode cL_drives 412 = .ok (.iconst 2, 1) := by decide +kernel
theorem dL_drives_413 : decode cL_drives 413 = .ok (.iadd, 1) := by decide +kernel
theorem dL_drives_414 : decode cL_drives 414 = .ok (.aload_n 1, 1) := by decide +kernel
theorem dL_drives_415 : decode cL_drives 415 = .ok (.iconst 4, 1) := by decide +kernel
theorem dL_drives_416 : decode cL_drives 416 = .ok (.iaload, 1) := by decide +kernel
theorem dL_drives_417 : decode cL_drives 417 = .ok (.aload_n 1, 1) := by decide +kernel
theorem dL_drives_418 : decode cL_drives 418 = .ok (.bipush 6, 2) := by decide +kernel
theorem dL_drives_420 : decode cL_drives 420 = .ok (.iaload, 1) := by decide +kernel
theorem dL_drives_421 : decode cL_drives 421 = .ok (.iadd, 1) := by decide +kernel
theorem dL_drives_422 : decode cL_drives 422 = .ok (.iastore, 1) := by decide +kernel
theorem dL_drives_423 : decode cL_drives 423 = .ok (.aload_n 0, 1) := by decide +kernel
theorem dL_drives_424 : decode cL_drives 424 = .ok (.iload 8, 2) := by decide +kernel
theorem dL_drives_426 : decode cL_drives 426 = .ok (.iload 9, 2) := by decide +kernel
theorem dL_drives_428 : decode cL_drives 428 = .ok (.invokevirtual 61, 3) := by decide +kernel
theorem dL_drives_431 : decode cL_drives 431 = .ok (.aload 4, 2) := by decide +kernel
theorem dL_drives_433 : decode cL_drives 433 = .ok (.iconst 3, 1) := by decide +kernel
theorem dL_drives_434 : decode cL_drives 434 = .ok (.iload 9, 2) := by decide +kernel
theorem dL_drives_436 : decode cL_drives 436 = .ok (.imul, 1) := by decide +kernel
theorem dL_drives_437 : decode cL_drives 437 = .ok (.iconst 2, 1) := by decide +kernel
theorem dL_drives_438 : decode cL_drives 438 = .ok (.iadd, 1) := by decide +kernel
theorem dL_drives_439 : decode cL_drives 439 = .ok (.iaload, 1) := by decide +kernel
theorem dL_drives_440 : decode cL_drives 440 = .ok (.if_icmp .ne 7, 3) := by decide +kernel
theorem dL_drives_443 : decode cL_drives 443 = .ok (.iconst 1, 1) := by decide +kernel
theorem dL_drives_444 : decode cL_drives 444 = .ok (.goto 4, 3) := by decide +kernel
theorem dL_drives_447 : decode cL_drives 447 = .ok (.iconst 0, 1) := by decide +kernel
theorem dL_drives_448 : decode cL_drives 448 = .ok (.ireturn, 1) := by decide +kernel
theorem dL_drives_449 : decode cL_drives 449 = .ok (.iload 7, 2) := by decide +kernel
theorem dL_drives_451 : decode cL_drives 451 = .ok (.iconst 2, 1) := by decide +kernel
theorem dL_drives_452 : decode cL_drives 452 = .ok (.irem, 1) := by decide +kernel
theorem dL_drives_453 : decode cL_drives 453 = .ok (.ifCond .ne 7, 3) := by decide +kernel
theorem dL_drives_456 : decode cL_drives 456 = .ok (.iconst 0, 1) := by decide +kernel
theorem dL_drives_457 : decode cL_drives 457 = .ok (.goto 12, 3) := by decide +kernel
theorem dL_drives_460 : decode cL_drives 460 = .ok (.iload 7, 2) := by decide +kernel
theorem dL_drives_462 : decode cL_drives 462 = .ok (.bipush 32, 2) := by decide +kernel
theorem dL_drives_464 : decode cL_drives 464 = .ok (.idiv, 1) := by decide +kernel
theorem dL_drives_465 : decode cL_drives 465 = .ok (.aload_n 1, 1) := by decide +kernel
theorem dL_drives_466 : decode cL_drives 466 = .ok (.iconst 0, 1) := by decide +kernel
theorem dL_drives_467 : decode cL_drives 467 = .ok (.iaload, 1) := by decide +kernel
theorem dL_drives_468 : decode cL_drives 468 = .ok (.irem, 1) := by decide +kernel
theorem dL_drives_469 : decode cL_drives 469 = .ok (.istore 12, 2) := by decide +kernel
theorem dL_drives_471 : decode cL_drives 471 = .ok (.iload 10, 2) := by decide +kernel
theorem dL_drives_473 : decode cL_drives 473 = .ok (.ifCond .eq 15, 3) := by decide +kernel
theorem dL_drives_476 : decode cL_drives 476 = .ok (.aload 5, 2) := by decide +kernel
theorem dL_drives_478 : decode cL_drives 478 = .ok (.iconst 3, 1) := by decide +kernel
theorem dL_drives_479 : decode cL_drives 479 = .ok (.iload 8, 2) := by decide +kernel
theorem dL_drives_481 : decode cL_drives 481 = .ok (.imul, 1) := by decide +kernel
theorem dL_drives_482 : decode cL_drives 482 = .ok (.iaload, 1) := by decide +kernel
theorem dL_drives_483 : decode cL_drives 483 = .ok (.iload 12, 2) := by decide +kernel
theorem dL_drives_485 : decode cL_drives 485 = .ok (.if_icmp .ne 22, 3) := by decide +kernel
theorem dL_drives_488 : decode cL_drives 488 = .ok (.aload_n 0, 1) := by decide +kernel
theorem dL_drives_489 : decode cL_drives 489 = .ok (.iload 8, 2) := by decide +kernel
theorem dL_drives_491 : decode cL_drives 491 = .ok (.iload 12, 2) := by decide +kernel
theorem dL_drives_493 : decode cL_drives 493 = .ok (.invokevirtual 64, 3) := by decide +kernel
theorem dL_drives_496 : decode cL_drives 496 = .ok (.bipush (-2), 2) := by decide +kernel
theorem dL_drives_498 : decode cL_drives 498 = .ok (.if_icmp .ne 7, 3) := by decide +kernel
theorem dL_drives_501 : decode cL_drives 501 = .ok (.iconst 1, 1) := by decide +kernel
theorem dL_drives_502 : decode cL_drives 502 = .ok (.goto 4, 3) := by decide +kernel
theorem dL_drives_505 : decode cL_drives 505 = .ok (.iconst 0, 1) := by decide +kernel
theorem dL_drives_506 : decode cL_drives 506 = .ok (.ireturn, 1) := by decide +kernel
theorem dL_drives_507 : decode cL_drives 507 = .ok (.aload 5, 2) := by decide +kernel
theorem dL_drives_509 : decode cL_drives 509 = .ok (.iconst 3, 1) := by decide +kernel
theorem dL_drives_510 : decode cL_drives 510 = .ok (.iload 8, 2) := by decide +kernel
theorem dL_drives_512 : decode cL_drives 512 = .ok (.imul, 1) := by decide +kernel
theorem dL_drives_513 : decode cL_drives 513 = .ok (.iconst 2, 1) := by decide +kernel
theorem dL_drives_514 : decode cL_drives 514 = .ok (.iadd, 1) := by decide +kernel
theorem dL_drives_515 : decode cL_drives 515 = .ok (.aload_n 1, 1) := by decide +kernel
theorem dL_drives_516 : decode cL_drives 516 = .ok (.iconst 4, 1) := by decide +kernel
theorem dL_drives_517 : decode cL_drives 517 = .ok (.iaload, 1) := by decide +kernel
theorem dL_drives_518 : decode cL_drives 518 = .ok (.iconst 1, 1) := by decide +kernel
theorem dL_drives_519 : decode cL_drives 519 = .ok (.iadd, 1) := by decide +kernel
theorem dL_drives_520 : decode cL_drives 520 = .ok (.aload_n 2, 1) := by decide +kernel
theorem dL_drives_521 : decode cL_drives 521 = .ok (.aload 5, 2) := by decide +kernel
theorem dL_drives_523 : decode cL_drives 523 = .ok (.iconst 3, 1) := by decide +kernel
theorem dL_drives_524 : decode cL_drives 524 = .ok (.iload 8, 2) := by decide +kernel
theorem dL_drives_526 : decode cL_drives 526 = .ok (.imul, 1) := by decide +kernel
theorem dL_drives_527 : decode cL_drives 527 = .ok (.iaload, 1) := by decide +kernel
theorem dL_drives_528 : decode cL_drives 528 = .ok (.iload 12, 2) := by decide +kernel
theorem dL_drives_530 : decode cL_drives 530 = .ok (.invokestatic 67, 3) := by decide +kernel
theorem dL_drives_533 : decode cL_drives 533 = .ok (.iconst 2, 1) := by decide +kernel
theorem dL_drives_534 : decode cL_drives 534 = .ok (.idiv, 1) := by decide +kernel
theorem dL_drives_535 : decode cL_drives 535 = .ok (.iadd, 1) := by decide +kernel
theorem dL_drives_536 : decode cL_drives 536 = .ok (.iastore, 1) := by decide +kernel
theorem dL_drives_537 : decode cL_drives 537 = .ok (.aload 5, 2) := by decide +kernel
theorem dL_drives_539 : decode cL_drives 539 = .ok (.iconst 3, 1) := by decide +kernel
theorem dL_drives_540 : decode cL_drives 540 = .ok (.iload 8, 2) := by decide +kernel
theorem dL_drives_542 : decode cL_drives 542 = .ok (.imul, 1) := by decide +kernel
theorem dL_drives_543 : decode cL_drives 543 = .ok (.iload 12, 2) := by decide +kernel
theorem dL_drives_545 : decode cL_drives 545 = .ok (.iastore, 1) := by decide +kernel
theorem dL_drives_546 : decode cL_drives 546 = .ok (.aload_n 0, 1) := by decide +kernel
theorem dL_drives_547 : decode cL_drives 547 = .ok (.iload 8, 2) := by decide +kernel
theorem dL_drives_549 : decode cL_drives 549 = .ok (.iload 12, 2) := by decide +kernel
theorem dL_drives_551 : decode cL_drives 551 = .ok (.invokevirtual 64, 3) := by decide +kernel
theorem dL_drives_554 : decode cL_drives 554 = .ok (.aload 5, 2) := by decide +kernel
theorem dL_drives_556 : decode cL_drives 556 = .ok (.iconst 3, 1) := by decide +kernel
theorem dL_drives_557 : decode cL_drives 557 = .ok (.iload 8, 2) := by decide +kernel
theorem dL_drives_559 : decode cL_drives 559 = .ok (.imul, 1) := by decide +kernel
theorem dL_drives_560 : decode cL_drives 560 = .ok (.iconst 2, 1) := by decide +kernel
theorem dL_drives_561 : decode cL_drives 561 = .ok (.iadd, 1) := by decide +kernel
theorem dL_drives_562 : decode cL_drives 562 = .ok (.iaload, 1) := by decide +kernel
theorem dL_drives_563 : decode cL_drives 563 = .ok (.if_icmp .ne 7, 3) := by decide +kernel
theorem dL_drives_566 : decode cL_drives 566 = .ok (.iconst 1, 1) := by decide +kernel
theorem dL_drives_567 : decode cL_drives 567 = .ok (.goto 4, 3) := by decide +kernel
theorem dL_drives_570 : decode cL_drives 570 = .ok (.iconst 0, 1) := by decide +kernel
theorem dL_drives_571 : decode cL_drives 571 = .ok (.ireturn, 1) := by decide +kernel
theorem dL_pauses_0 : decode cL_pauses 0 = .ok (.iconst 1, 1) := by decide +kernel
theorem dL_pauses_1 : decode cL_pauses 1 = .ok (.iload 5, 2) := by decide +kernel
theorem dL_pauses_3 : decode cL_pauses 3 = .ok (.iload 5, 2) := by decide +kernel
theorem dL_pauses_5 : decode cL_pauses 5 = .ok (.iconst 4, 1) := by decide +kernel
theorem dL_pauses_6 : decode cL_pauses 6 = .ok (.irem, 1) := by decide +kernel
theorem dL_pauses_7 : decode cL_pauses 7 = .ok (.ifCond .ne 8, 3) := by decide +kernel
theorem dL_pauses_10 : decode cL_pauses 10 = .ok (.bipush 120, 2) := by decide +kernel
theorem dL_pauses_12 : decode cL_pauses 12 = .ok (.goto 5, 3) := by decide +kernel
theorem dL_pauses_15 : decode cL_pauses 15 = .ok (.bipush 14, 2) := by decide +kernel
theorem dL_pauses_17 : decode cL_pauses 17 = .ok (.irem, 1) := by decide +kernel
theorem dL_pauses_18 : decode cL_pauses 18 = .ok (.iadd, 1) := by decide +kernel
theorem dL_pauses_19 : decode cL_pauses 19 = .ok (.istore 6, 2) := by decide +kernel
theorem dL_pauses_21 : decode cL_pauses 21 = .ok (.iconst 0, 1) := by decide +kernel
theorem dL_pauses_22 : decode cL_pauses 22 = .ok (.istore 7, 2) := by decide +kernel
theorem dL_pauses_24 : decode cL_pauses 24 = .ok (.iconst 0, 1) := by decide +kernel
theorem dL_pauses_25 : decode cL_pauses 25 = .ok (.istore 8, 2) := by decide +kernel
theorem dL_pauses_27 : decode cL_pauses 27 = .ok (.iload 8, 2) := by decide +kernel
theorem dL_pauses_29 : decode cL_pauses 29 = .ok (.iload 6, 2) := by decide +kernel
theorem dL_pauses_31 : decode cL_pauses 31 = .ok (.if_icmp .ge 134, 3) := by decide +kernel
theorem dL_pauses_34 : decode cL_pauses 34 = .ok (.aload_n 1, 1) := by decide +kernel
theorem dL_pauses_35 : decode cL_pauses 35 = .ok (.iconst 4, 1) := by decide +kernel
theorem dL_pauses_36 : decode cL_pauses 36 = .ok (.dup2, 1) := by decide +kernel
theorem dL_pauses_37 : decode cL_pauses 37 = .ok (.iaload, 1) := by decide +kernel
theorem dL_pauses_38 : decode cL_pauses 38 = .ok (.iconst 1, 1) := by decide +kernel
theorem dL_pauses_39 : decode cL_pauses 39 = .ok (.iadd, 1) := by decide +kernel
theorem dL_pauses_40 : decode cL_pauses 40 = .ok (.iastore, 1) := by decide +kernel
theorem dL_pauses_41 : decode cL_pauses 41 = .ok (.iconst 0, 1) := by decide +kernel
theorem dL_pauses_42 : decode cL_pauses 42 = .ok (.istore 9, 2) := by decide +kernel
theorem dL_pauses_44 : decode cL_pauses 44 = .ok (.iload 9, 2) := by decide +kernel
theorem dL_pauses_46 : decode cL_pauses 46 = .ok (.aload_n 1, 1) := by decide +kernel
theorem dL_pauses_47 : decode cL_pauses 47 = .ok (.iconst 1, 1) := by decide +kernel
theorem dL_pauses_48 : decode cL_pauses 48 = .ok (.iaload, 1) := by decide +kernel
theorem dL_pauses_49 : decode cL_pauses 49 = .ok (.if_icmp .ge 110, 3) := by decide +kernel
theorem dL_pauses_52 : decode cL_pauses 52 = .ok (.aload_n 3, 1) := by decide +kernel
theorem dL_pauses_53 : decode cL_pauses 53 = .ok (.iconst 3, 1) := by decide +kernel
theorem dL_pauses_54 : decode cL_pauses 54 = .ok (.iload 9, 2) := by decide +kernel
theorem dL_pauses_56 : decode cL_pauses 56 = .ok (.imul, 1) := by decide +kernel
theorem dL_pauses_57 : decode cL_pauses 57 = .ok (.iaload, 1) := by decide +kernel
theorem dL_pauses_58 : decode cL_pauses 58 = .ok (.iconst 3, 1) := by decide +kernel
theorem dL_pauses_59 : decode cL_pauses 59 = .ok (.if_icmp .ne 94, 3) := by decide +kernel
theorem dL_pauses_62 : decode cL_pauses 62 = .ok (.aload 4, 2) := by decide +kernel
theorem dL_pauses_64 : decode cL_pauses 64 = .ok (.iconst 3, 1) := by decide +kernel
theorem dL_pauses_65 : decode cL_pauses 65 = .ok (.iload 9, 2) := by decide +kernel
theorem dL_pauses_67 : decode cL_pauses 67 = .ok (.imul, 1) := by decide +kernel
