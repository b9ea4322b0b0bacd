theorem dX11_init_0 : decode cX11_init 0 = .ok (.aload_n 0, 1) := by decide +kernel
theorem dX11_init_1 : decode cX11_init 1 = .ok (.invokespecial 1, 3) := by decide +kernel
theorem dX11_init_4 : decode cX11_init 4 = .ok (.aload_n 0, 1) := by decide +kernel
theorem dX11_init_5 : decode cX11_init 5 = .ok (.sipush 206, 3) := by decide +kernel
theorem dX11_init_8 : decode cX11_init 8 = .ok (.newarray .int, 2) := by decide +kernel
theorem dX11_init_10 : decode cX11_init 10 = .ok (.putfield 7, 3) := by decide +kernel
theorem dX11_init_13 : decode cX11_init 13 = .ok (.aload_n 0, 1) := by decide +kernel
theorem dX11_init_14 : decode cX11_init 14 = .ok (.sipush 824, 3) := by decide +kernel
theorem dX11_init_17 : decode cX11_init 17 = .ok (.newarray .int, 2) := by decide +kernel
theorem dX11_init_19 : decode cX11_init 19 = .ok (.putfield 13, 3) := by decide +kernel
theorem dX11_init_22 : decode cX11_init 22 = .ok (.aload_n 0, 1) := by decide +kernel
theorem dX11_init_23 : decode cX11_init 23 = .ok (.sipush 206, 3) := by decide +kernel
theorem dX11_init_26 : decode cX11_init 26 = .ok (.newarray .int, 2) := by decide +kernel
theorem dX11_init_28 : decode cX11_init 28 = .ok (.putfield 16, 3) := by decide +kernel
theorem dX11_init_31 : decode cX11_init 31 = .ok (.aload_n 0, 1) := by decide +kernel
theorem dX11_init_32 : decode cX11_init 32 = .ok (.sipush 206, 3) := by decide +kernel
theorem dX11_init_35 : decode cX11_init 35 = .ok (.newarray .int, 2) := by decide +kernel
theorem dX11_init_37 : decode cX11_init 37 = .ok (.putfield 19, 3) := by decide +kernel
theorem dX11_init_40 : decode cX11_init 40 = .ok (.aload_n 0, 1) := by decide +kernel
theorem dX11_init_41 : decode cX11_init 41 = .ok (.bipush 60, 2) := by decide +kernel
theorem dX11_init_43 : decode cX11_init 43 = .ok (.newarray .int, 2) := by decide +kernel
theorem dX11_init_45 : decode cX11_init 45 = .ok (.putfield 22, 3) := by decide +kernel
theorem dX11_init_48 : decode cX11_init 48 = .ok (.aload_n 0, 1) := by decide +kernel
theorem dX11_init_49 : decode cX11_init 49 = .ok (.iconst 2, 1) := by decide +kernel
theorem dX11_init_50 : decode cX11_init 50 = .ok (.newarray .int, 2) := by decide +kernel
theorem dX11_init_52 : decode cX11_init 52 = .ok (.putfield 25, 3) := by decide +kernel
theorem dX11_init_55 : decode cX11_init 55 = .ok (.aload_n 0, 1) := by decide +kernel
theorem dX11_init_56 : decode cX11_init 56 = .ok (.getfield 7, 3) := by decide +kernel
theorem dX11_init_59 : decode cX11_init 59 = .ok (.iconst 5, 1) := by decide +kernel
theorem dX11_init_60 : decode cX11_init 60 = .ok (.bipush 30, 2) := by decide +kernel
theorem dX11_init_62 : decode cX11_init 62 = .ok (.iastore, 1) := by decide +kernel
theorem dX11_init_63 : decode cX11_init 63 = .ok (.aload_n 0, 1) := by decide +kernel
theorem dX11_init_64 : decode cX11_init 64 = .ok (.getfield 7, 3) := by decide +kernel
theorem dX11_init_67 : decode cX11_init 67 = .ok (.bipush 6, 2) := by decide +kernel
theorem dX11_init_69 : decode cX11_init 69 = .ok (.bipush 60, 2) := by decide +kernel
theorem dX11_init_71 : decode cX11_init 71 = .ok (.iastore, 1) := by decide +kernel
theorem dX11_init_72 : decode cX11_init 72 = .ok (.aload_n 0, 1) := by decide +kernel
theorem dX11_init_73 : decode cX11_init 73 = .ok (.getfield 7, 3) := by decide +kernel
theorem dX11_init_76 : decode cX11_init 76 = .ok (.bipush 7, 2) := by decide +kernel
theorem dX11_init_78 : decode cX11_init 78 = .ok (.bipush 100, 2) := by decide +kernel
theorem dX11_init_80 : decode cX11_init 80 = .ok (.iastore, 1) := by decide +kernel
theorem dX11_init_81 : decode cX11_init 81 = .ok (.return_, 1) := by decide +kernel
theorem dX11_in_0 : decode cX11_in 0 = .ok (.iload_n 0, 1) := by decide +kernel
theorem dX11_in_1 : decode cX11_in 1 = .ok (.iload_n 1, 1) := by decide +kernel
theorem dX11_in_2 : decode cX11_in 2 = .ok (.if_icmp .lt 12, 3) := by decide +kernel
theorem dX11_in_5 : decode cX11_in 5 = .ok (.iload_n 0, 1) := by decide +kernel
theorem dX11_in_6 : decode cX11_in 6 = .ok (.iload_n 2, 1) := by decide +kernel
theorem dX11_in_7 : decode cX11_in 7 = .ok (.if_icmp .gt 7, 3) := by decide +kernel
theorem dX11_in_10 : decode cX11_in 10 = .ok (.iconst 1, 1) := by decide +kernel
theorem dX11_in_11 : decode cX11_in 11 = .ok (.goto 4, 3) := by decide +kernel
theorem dX11_in_14 : decode cX11_in 14 = .ok (.iconst 0, 1) := by decide +kernel
theorem dX11_in_15 : decode cX11_in 15 = .ok (.ireturn, 1) := by decide +kernel
theorem dX11_copies_0 : decode cX11_copies 0 = .ok (.iconst 0, 1) := by decide +kernel
theorem dX11_copies_1 : decode cX11_copies 1 = .ok (.istore_n 2, 1) := by decide +kernel
theorem dX11_copies_2 : decode cX11_copies 2 = .ok (.iload_n 2, 1) := by decide +kernel
theorem dX11_copies_3 : decode cX11_copies 3 = .ok (.sipush 206, 3) := by decide +kernel
theorem dX11_copies_6 : decode cX11_copies 6 = .ok (.if_icmp .ge 15, 3) := by decide +kernel
theorem dX11_copies_9 : decode cX11_copies 9 = .ok (.aload_n 1, 1) := by decide +kernel
theorem dX11_copies_10 : decode cX11_copies 10 = .ok (.iload_n 2, 1) := by decide +kernel
theorem dX11_copies_11 : decode cX11_copies 11 = .ok (.aload_n 0, 1) := by decide +kernel
theorem dX11_copies_12 : decode cX11_copies 12 = .ok (.iload_n 2, 1) := by decide +kernel
theorem dX11_copies_13 : decode cX11_copies 13 = .ok (.iaload, 1) := by decide +kernel
theorem dX11_copies_14 : decode cX11_copies 14 = .ok (.iastore, 1) := by decide +kernel
theorem dX11_copies_15 : decode cX11_copies 15 = .ok (.iinc 2 1, 3) := by decide +kernel
theorem dX11_copies_18 : decode cX11_copies 18 = .ok (.goto (-16), 3) := by decide +kernel
theorem dX11_copies_21 : decode cX11_copies 21 = .ok (.return_, 1) := by decide +kernel
theorem dX11_changes_0 : decode cX11_changes 0 = .ok (.aload_n 0, 1) := by decide +kernel
theorem dX11_changes_1 : decode cX11_changes 1 = .ok (.getfield 28, 3) := by decide +kernel
theorem dX11_changes_4 : decode cX11_changes 4 = .ok (.ifCond .eq 4, 3) := by decide +kernel
theorem dX11_changes_7 : decode cX11_changes 7 = .ok (.return_, 1) := by decide +kernel
theorem dX11_changes_8 : decode cX11_changes 8 = .ok (.aload_n 0, 1) := by decide +kernel
theorem dX11_changes_9 : decode cX11_changes 9 = .ok (.getfield 32, 3) := by decide +kernel
theorem dX11_changes_12 : decode cX11_changes 12 = .ok (.iconst 4, 1) := by decide +kernel
theorem dX11_changes_13 : decode cX11_changes 13 = .ok (.if_icmp .ne 44, 3) := by decide +kernel
theorem dX11_changes_16 : decode cX11_changes 16 = .ok (.iconst 0, 1) := by decide +kernel
theorem dX11_changes_17 : decode cX11_changes 17 = .ok (.istore_n 1, 1) := by decide +kernel
theorem dX11_changes_18 : decode cX11_changes 18 = .ok (.iload_n 1, 1) := by decide +kernel
theorem dX11_changes_19 : decode cX11_changes 19 = .ok (.sipush 618, 3) := by decide +kernel
theorem dX11_changes_22 : decode cX11_changes 22 = .ok (.if_icmp .ge 25, 3) := by decide +kernel
theorem dX11_changes_25 : decode cX11_changes 25 = .ok (.aload_n 0, 1) := by decide +kernel
theorem dX11_changes_26 : decode cX11_changes 26 = .ok (.getfield 13, 3) := by decide +kernel
theorem dX11_changes_29 : decode cX11_changes 29 = .ok (.iload_n 1, 1) := by decide +kernel
theorem dX11_changes_30 : decode cX11_changes 30 = .ok (.aload_n 0, 1) := by decide +kernel
theorem dX11_changes_31 : decode cX11_changes 31 = .ok (.getfield 13, 3) := by decide +kernel
theorem dX11_changes_34 : decode cX11_changes 34 = .ok (.iload_n 1, 1) := by decide +kernel
theorem dX11_changes_35 : decode cX11_changes 35 = .ok (.sipush 206, 3) := by decide +kernel
theorem dX11_changes_38 : decode cX11_changes 38 = .ok (.iadd, 1) := by decide +kernel
theorem dX11_changes_39 : decode cX11_changes 39 = .ok (.iaload, 1) := by decide +kernel
theorem dX11_changes_40 : decode cX11_changes 40 = .ok (.iastore, 1) := by decide +kernel
theorem dX11_changes_41 : decode cX11_changes 41 = .ok (.iinc 1 1, 3) := by decide +kernel
theorem dX11_changes_44 : decode cX11_changes 44 = .ok (.goto (-26), 3) := by decide +kernel
theorem dX11_changes_47 : decode cX11_changes 47 = .ok (.aload_n 0, 1) := by decide +kernel
theorem dX11_changes_48 : decode cX11_changes 48 = .ok (.dup, 1) := by decide +kernel
theorem dX11_changes_49 : decode cX11_changes 49 = .ok (.getfield 32, 3) := by decide +kernel
theorem dX11_changes_52 : decode cX11_changes 52 = .ok (.iconst 1, 1) := by decide +kernel
theorem dX11_changes_53 : decode cX11_changes 53 = .ok (.isub, 1) := by decide +kernel
theorem dX11_changes_54 : decode cX11_changes 54 = .ok (.putfield 32, 3) := by decide +kernel
theorem dX11_changes_57 : decode cX11_changes 57 = .ok (.iconst 0, 1) := by decide +kernel
theorem dX11_changes_58 : decode cX11_changes 58 = .ok (.istore_n 1, 1) := by decide +kernel
theorem dX11_changes_59 : decode cX11_changes 59 = .ok (.iload_n 1, 1) := by decide +kernel
theorem dX11_changes_60 : decode cX11_changes 60 = .ok (.sipush 206, 3) := by decide +kernel
theorem dX11_changes_63 : decode cX11_changes 63 = .ok (.if_icmp .ge 30, 3) := by decide +kernel
theorem dX11_changes_66 : decode cX11_changes 66 = .ok (.aload_n 0, 1) := by decide +kernel
theorem dX11_changes_67 : decode cX11_changes 67 = .ok (.getfield 13, 3) := by decide +kernel
theorem dX11_changes_70 : decode cX11_changes 70 = .ok (.sipush 206, 3) := by decide +kernel
theorem dX11_changes_73 : decode cX11_changes 73 = .ok (.aload_n 0, 1) := by decide +kernel
theorem dX11_changes_74 : decode cX11_changes 74 = .ok (.getfield 32, 3) := by decide +kernel
theorem dX11_changes_77 : decode cX11_changes 77 = .ok (.imul, 1) := by decide +kernel
theorem dX11_changes_78 : decode cX11_changes 78 = .ok (.iload_n 1, 1) := by decide +kernel
theorem dX11_changes_79 : decode cX11_changes 79 = .ok (.iadd, 1) := by decide +kernel
theorem dX11_changes_80 : decode cX11_changes 80 = .ok (.aload_n 0, 1) := by decide +kernel
theorem dX11_changes_81 : decode cX11_changes 81 = .ok (.getfield 7, 3) := by decide +kernel
theorem dX11_changes_84 : decode cX11_changes 84 = .ok (.iload_n 1, 1) := by decide +kernel
theorem dX11_changes_85 : decode cX11_changes 85 = .ok (.iaload, 1) := by decide +kernel
theorem dX11_changes_86 : decode cX11_changes 86 = .ok (.iastore, 1) := by decide +kernel
theorem dX11_changes_87 : decode cX11_changes 87 = .ok (.iinc 1 1, 3) := by decide +kernel
theorem dX11_changes_90 : decode cX11_changes 90 = .ok (.goto (-31), 3) := by decide +kernel
theorem dX11_changes_93 : decode cX11_changes 93 = .ok (.aload_n 0, 1) := by decide +kernel
theorem dX11_changes_94 : decode cX11_changes 94 = .ok (.dup, 1) := by decide +kernel
theorem dX11_changes_95 : decode cX11_changes 95 = .ok (.getfield 32, 3) := by decide +kernel
theorem dX11_changes_98 : decode cX11_changes 98 = .ok (.iconst 1, 1) := by decide +kernel
theorem dX11_changes_99 : decode cX11_changes 99 = .ok (.iadd, 1) := by decide +kernel
theorem dX11_changes_100 : decode cX11_changes 100 = .ok (.putfield 32, 3) := by decide +kernel
theorem dX11_changes_103 : decode cX11_changes 103 = .ok (.return_, 1) := by decide +kernel
theorem dX11_isStation_0 : decode cX11_isStation 0 = .ok (.iload_n 1, 1) := by decide +kernel
theorem dX11_isStation_1 : decode cX11_isStation 1 = .ok (.ifCond .lt 17, 3) := by decide +kernel
theorem dX11_isStation_4 : decode cX11_isStation 4 = .ok (.iload_n 1, 1) := by decide +kernel
theorem dX11_isStation_5 : decode cX11_isStation 5 = .ok (.aload_n 0, 1) := by decide +kernel
theorem dX11_isStation_6 : decode cX11_isStation 6 = .ok (.getfield 7, 3) := by decide +kernel
theorem dX11_isStation_9 : decode cX11_isStation 9 = .ok (.iconst 0, 1) := by decide +kernel
theorem dX11_isStation_10 : decode cX11_isStation 10 = .ok (.iaload, 1) := by decide +kernel
theorem dX11_isStation_11 : decode cX11_isStation 11 = .ok (.if_icmp .ge 7, 3) := by decide +kernel
theorem dX11_isStation_14 : decode cX11_isStation 14 = .ok (.iconst 1, 1) := by decide +kernel
theorem dX11_isStation_15 : decode cX11_isStation 15 = .ok (.goto 4, 3) := by decide +kernel
theorem dX11_isStation_18 : decode cX11_isStation 18 = .ok (.iconst 0, 1) := by decide +kernel
theorem dX11_isStation_19 : decode cX11_isStation 19 = .ok (.ireturn, 1) := by decide +kernel
theorem dX11_isBicycle_0 : decode cX11_isBicycle 0 = .ok (.iload_n 1, 1) := by decide +kernel
theorem dX11_isBicycle_1 : decode cX11_isBicycle 1 = .ok (.ifCond .lt 17, 3) := by decide +kernel
theorem dX11_isBicycle_4 : decode cX11_isBicycle 4 = .ok (.iload_n 1, 1) := by decide +kernel
theorem dX11_isBicycle_5 : decode cX11_isBicycle 5 = .ok (.aload_n 0, 1) := by decide +kernel
theorem dX11_isBicycle_6 : decode cX11_isBicycle 6 = .ok (.getfield 7, 3) := by decide +kernel
theorem dX11_isBicycle_9 : decode cX11_isBicycle 9 = .ok (.iconst 1, 1) := by decide +kernel
theorem dX11_isBicycle_10 : decode cX11_isBicycle 10 = .ok (.iaload, 1) := by decide +kernel
theorem dX11_isBicycle_11 : decode cX11_isBicycle 11 = .ok (.if_icmp .ge 7, 3) := by decide +kernel
theorem dX11_isBicycle_14 : decode cX11_isBicycle 14 = .ok (.iconst 1, 1) := by decide +kernel
theorem dX11_isBicycle_15 : decode cX11_isBicycle 15 = .ok (.goto 4, 3) := by decide +kernel
theorem dX11_isBicycle_18 : decode cX11_isBicycle 18 = .ok (.iconst 0, 1) := by decide +kernel
theorem dX11_isBicycle_19 : decode cX11_isBicycle 19 = .ok (.ireturn, 1) := by decide +kernel
theorem dX11_isRider_0 : decode cX11_isRider 0 = .ok (.iload_n 1, 1) := by decide +kernel
theorem dX11_isRider_1 : decode cX11_isRider 1 = .ok (.ifCond .lt 17, 3) := by decide +kernel
theorem dX11_isRider_4 : decode cX11_isRider 4 = .ok (.iload_n 1, 1) := by decide +kernel
theorem dX11_isRider_5 : decode cX11_isRider 5 = .ok (.aload_n 0, 1) := by decide +kernel
theorem dX11_isRider_6 : decode cX11_isRider 6 = .ok (.getfield 7, 3) := by decide +kernel
theorem dX11_isRider_9 : decode cX11_isRider 9 = .ok (.iconst 2, 1) := by decide +kernel
theorem dX11_isRider_10 : decode cX11_isRider 10 = .ok (.iaload, 1) := by decide +kernel
theorem dX11_isRider_11 : decode cX11_isRider 11 = .ok (.if_icmp .ge 7, 3) := by decide +kernel
theorem dX11_isRider_14 : decode cX11_isRider 14 = .ok (.iconst 1, 1) := by decide +kernel
theorem dX11_isRider_15 : decode cX11_isRider 15 = .ok (.goto 4, 3) := by decide +kernel
theorem dX11_isRider_18 : decode cX11_isRider 18 = .ok (.iconst 0, 1) := by decide +kernel
theorem dX11_isRider_19 : decode cX11_isRider 19 = .ok (.ireturn, 1) := by decide +kernel
theorem dX11_isVan_0 : decode cX11_isVan 0 = .ok (.iload_n 1, 1) := by decide +kernel
theorem dX11_isVan_1 : decode cX11_isVan 1 = .ok (.ifCond .lt 17, 3) := by decide +kernel
theorem dX11_isVan_4 : decode cX11_isVan 4 = .ok (.iload_n 1, 1) := by decide +kernel
theorem dX11_isVan_5 : decode cX11_isVan 5 = .ok (.aload_n 0, 1) := by decide +kernel
theorem dX11_isVan_6 : decode cX11_isVan 6 = .ok (.getfield 7, 3) := by decide +kernel
theorem dX11_isVan_9 : decode cX11_isVan 9 = .ok (.iconst 3, 1) := by decide +kernel
theorem dX11_isVan_10 : decode cX11_isVan 10 = .ok (.iaload, 1) := by decide +kernel
theorem dX11_isVan_11 : decode cX11_isVan 11 = .ok (.if_icmp .ge 7, 3) := by decide +kernel
theorem dX11_isVan_14 : decode cX11_isVan 14 = .ok (.iconst 1, 1) := by decide +kernel
theorem dX11_isVan_15 : decode cX11_isVan 15 = .ok (.goto 4, 3) := by decide +kernel
theorem dX11_isVan_18 : decode cX11_isVan 18 = .ok (.iconst 0, 1) := by decide +kernel
theorem dX11_isVan_19 : decode cX11_isVan 19 = .ok (.ireturn, 1) := by decide +kernel
theorem dX11_ofStation_0 : decode cX11_ofStation 0 = .ok (.aload_n 0, 1) := by decide +kernel
theorem dX11_ofStation_1 : decode cX11_ofStation 1 = .ok (.getfield 7, 3) := by decide +kernel
theorem dX11_ofStation_4 : decode cX11_ofStation 4 = .ok (.bipush 8, 2) := by decide +kernel
theorem dX11_ofStation_6 : decode cX11_ofStation 6 = .ok (.iconst 4, 1) := by decide +kernel
theorem dX11_ofStation_7 : decode cX11_ofStation 7 = .ok (.iload_n 1, 1) := by decide +kernel
theorem dX11_ofStation_8 : decode cX11_ofStation 8 = .ok (.imul, 1) := by decide +kernel
theorem dX11_ofStation_9 : decode cX11_ofStation 9 = .ok (.iadd, 1) := by decide +kernel
theorem dX11_ofStation_10 : decode cX11_ofStation 10 = .ok (.iload_n 2, 1) := by decide +kernel
theorem dX11_ofStation_11 : decode cX11_ofStation 11 = .ok (.iadd, 1) := by decide +kernel
theorem dX11_ofStation_12 : decode cX11_ofStation 12 = .ok (.iaload, 1) := by decide +kernel
theorem dX11_ofStation_13 : decode cX11_ofStation 13 = .ok (.ireturn, 1) := by decide +kernel
theorem dX11_ofBicycle_0 : decode cX11_ofBicycle 0 = .ok (.aload_n 0, 1) := by decide +kernel
theorem dX11_ofBicycle_1 : decode cX11_ofBicycle 1 = .ok (.getfield 7, 3) := by decide +kernel
theorem dX11_ofBicycle_4 : decode cX11_ofBicycle 4 = .ok (.bipush 32, 2) := by decide +kernel
theorem dX11_ofBicycle_6 : decode cX11_ofBicycle 6 = .ok (.bipush 6, 2) := by decide +kernel
theorem dX11_ofBicycle_8 : decode cX11_ofBicycle 8 = .ok (.iload_n 1, 1) := by decide +kernel
theorem dX11_ofBicycle_9 : decode cX11_ofBicycle 9 = .ok (.imul, 1) := by decide +kernel
theorem dX11_ofBicycle_10 : decode cX11_ofBicycle 10 = .ok (.iadd, 1) := by decide +kernel
theorem dX11_ofBicycle_11 : decode cX11_ofBicycle 11 = .ok (.iload_n 2, 1) := by decide +kernel
theorem dX11_ofBicycle_12 : decode cX11_ofBicycle 12 = .ok (.iadd, 1) := by decide +kernel
theorem dX11_ofBicycle_13 : decode cX11_ofBicycle 13 = .ok (.iaload, 1) := by decide +kernel
theorem dX11_ofBicycle_14 : decode cX11_ofBicycle 14 = .ok (.ireturn, 1) := by decide +kernel
theorem dX11_ofRider_0 : decode cX11_ofRider 0 = .ok (.aload_n 0, 1) := by decide +kernel
theorem dX11_ofRider_1 : decode cX11_ofRider 1 = .ok (.getfield 7, 3) := by decide +kernel
theorem dX11_ofRider_4 : decode cX11_ofRider 4 = .ok (.sipush 128, 3) := by decide +kernel
theorem dX11_ofRider_7 : decode cX11_ofRider 7 = .ok (.bipush 9, 2) := by decide +kernel
theorem dX11_ofRider_9 : decode cX11_ofRider 9 = .ok (.iload_n 1, 1) := by decide +kernel
theorem dX11_ofRider_10 : decode cX11_ofRider 10 = .ok (.imul, 1) := by decide +kernel
theorem dX11_ofRider_11 : decode cX11_ofRider 11 = .ok (.iadd, 1) := by decide +kernel
theorem dX11_ofRider_12 : decode cX11_ofRider 12 = .ok (.iload_n 2, 1) := by decide +kernel
theorem dX11_ofRider_13 : decode cX11_ofRider 13 = .ok (.iadd, 1) := by decide +kernel
theorem dX11_ofRider_14 : decode cX11_ofRider 14 = .ok (.iaload, 1) := by decide +kernel
theorem dX11_ofRider_15 : decode cX11_ofRider 15 = .ok (.ireturn, 1) := by decide +kernel
theorem dX11_ofVan_0 : decode cX11_ofVan 0 = .ok (.aload_n 0, 1) := by decide +kernel
theorem dX11_ofVan_1 : decode cX11_ofVan 1 = .ok (.getfield 7, 3) := by decide +kernel
theorem dX11_ofVan_4 : decode cX11_ofVan 4 = .ok (.sipush 200, 3) := by decide +kernel
theorem dX11_ofVan_7 : decode cX11_ofVan 7 = .ok (.iconst 3, 1) := by decide +kernel
theorem dX11_ofVan_8 : decode cX11_ofVan 8 = .ok (.iload_n 1, 1) := by decide +kernel
theorem dX11_ofVan_9 : decode cX11_ofVan 9 = .ok (.imul, 1) := by decide +kernel
theorem dX11_ofVan_10 : decode cX11_ofVan 10 = .ok (.iadd, 1) := by decide +kernel
theorem dX11_ofVan_11 : decode cX11_ofVan 11 = .ok (.iload_n 2, 1) := by decide +kernel
theorem dX11_ofVan_12 : decode cX11_ofVan 12 = .ok (.iadd, 1) := by decide +kernel
theorem dX11_ofVan_13 : decode cX11_ofVan 13 = .ok (.iaload, 1) := by decide +kernel
theorem dX11_ofVan_14 : decode cX11_ofVan 14 = .ok (.ireturn, 1) := by decide +kernel
theorem dX11_puts_0 : decode cX11_puts 0 = .ok (.aload_n 0, 1) := by decide +kernel
theorem dX11_puts_1 : decode cX11_puts 1 = .ok (.getfield 7, 3) := by decide +kernel
theorem dX11_puts_4 : decode cX11_puts 4 = .ok (.bipush 32, 2) := by decide +kernel
theorem dX11_puts_6 : decode cX11_puts 6 = .ok (.bipush 6, 2) := by decide +kernel
theorem dX11_puts_8 : decode cX11_puts 8 = .ok (.iload_n 1, 1) := by decide +kernel
theorem dX11_puts_9 : decode cX11_puts 9 = .ok (.imul, 1) := by decide +kernel
theorem dX11_puts_10 : decode cX11_puts 10 = .ok (.iadd, 1) := by decide +kernel
theorem dX11_puts_11 : decode cX11_puts 11 = .ok (.iconst 0, 1) := by decide +kernel
theorem dX11_puts_12 : decode cX11_puts 12 = .ok (.iadd, 1) := by decide +kernel
theorem dX11_puts_13 : decode cX11_puts 13 = .ok (.iload_n 2, 1) := by decide +kernel
theorem dX11_puts_14 : decode cX11_puts 14 = .ok (.iastore, 1) := by decide +kernel
theorem dX11_puts_15 : decode cX11_puts 15 = .ok (.aload_n 0, 1) := by decide +kernel
theorem dX11_puts_16 : decode cX11_puts 16 = .ok (.getfield 7, 3) := by decide +kernel
theorem dX11_puts_19 : decode cX11_puts 19 = .ok (.bipush 32, 2) := by decide +kernel
theorem dX11_puts_21 : decode cX11_puts 21 = .ok (.bipush 6, 2) := by decide +kernel
theorem dX11_puts_23 : decode cX11_puts 23 = .ok (.iload_n 1, 1) := by decide +kernel
theorem dX11_puts_24 : decode cX11_puts 24 = .ok (.imul, 1) := by decide +kernel
theorem dX11_puts_25 : decode cX11_puts 25 = .ok (.iadd, 1) := by decide +kernel
theorem dX11_puts_26 : decode cX11_puts 26 = .ok (.iconst 1, 1) := by decide +kernel
theorem dX11_puts_27 : decode cX11_puts 27 = .ok (.iadd, 1) := by decide +kernel
theorem dX11_puts_28 : decode cX11_puts 28 = .ok (.iload_n 3, 1) := by decide +kernel
theorem dX11_puts_29 : decode cX11_puts 29 = .ok (.iastore, 1) := by decide +kernel
theorem dX11_puts_30 : decode cX11_puts 30 = .ok (.return_, 1) := by decide +kernel
set_option maxRecDepth 20000 in
theorem ggX11_those_X11_ofBicycle : GoodIn wsX11_those wsX11_ofBicycle := goodIn_r _ [6, 1, 7, 8, 9, 10, 11, 12, 13, 14, 15, 16, 17, 18, 19, 20] (by decide +kernel) (by decide +kernel)
set_option maxRecDepth 20000 in
theorem gX11_those_X11_ofBicycle : GoodIn wsX11_those (wsV RX11 36 RX11 yX11_ofBicycle wsX11_ofBicycle) := goodIn_app (goodIn_of _ (by decide +kernel)) ggX11_those_X11_ofBicycle
theorem dX11_those_0 : decode cX11_those 0 = .ok (.iconst 0, 1) := by decide +kernel
theorem dX11_those_1 : decode cX11_those 1 = .ok (.istore_n 3, 1) := by decide +kernel
theorem dX11_those_2 : decode cX11_those 2 = .ok (.iconst 0, 1) := by decide +kernel
theorem dX11_those_3 : decode cX11_those 3 = .ok (.istore 4, 2) := by decide +kernel
theorem dX11_those_5 : decode cX11_those 5 = .ok (.iload 4, 2) := by decide +kernel
theorem dX11_those_7 : decode cX11_those 7 = .ok (.aload_n 0, 1) := by decide +kernel
theorem dX11_those_8 : decode cX11_those 8 = .ok (.getfield 7, 3) := by decide +kernel
theorem dX11_those_11 : decode cX11_those 11 = .ok (.iconst 1, 1) := by decide +kernel
theorem dX11_those_12 : decode cX11_those 12 = .ok (.iaload, 1) := by decide +kernel
theorem dX11_those_13 : decode cX11_those 13 = .ok (.if_icmp .ge 42, 3) := by decide +kernel
theorem dX11_those_16 : decode cX11_those 16 = .ok (.iload_n 3, 1) := by decide +kernel
theorem dX11_those_17 : decode cX11_those 17 = .ok (.aload_n 0, 1) := by decide +kernel
theorem dX11_those_18 : decode cX11_those 18 = .ok (.iload 4, 2) := by decide +kernel
theorem dX11_those_20 : decode cX11_those 20 = .ok (.iconst 0, 1) := by decide +kernel
theorem dX11_those_21 : decode cX11_those 21 = .ok (.invokevirtual 36, 3) := by decide +kernel
theorem dX11_those_24 : decode cX11_those 24 = .ok (.iload_n 1, 1) := by decide +kernel
theorem dX11_those_25 : decode cX11_those 25 = .ok (.if_icmp .ne 21, 3) := by decide +kernel
theorem dX11_those_28 : decode cX11_those 28 = .ok (.aload_n 0, 1) := by decide +kernel
theorem dX11_those_29 : decode cX11_those 29 = .ok (.iload 4, 2) := by decide +kernel
theorem dX11_those_31 : decode cX11_those 31 = .ok (.iconst 1, 1) := by decide +kernel
theorem dX11_those_32 : decode cX11_those 32 = .ok (.invokevirtual 36, 3) := by decide +kernel
theorem dX11_those_35 : decode cX11_those 35 = .ok (.iload_n 2, 1) := by decide +kernel
theorem dX11_those_36 : decode cX11_those 36 = .ok (.if_icmp .ne 10, 3) := by decide +kernel
theorem dX11_those_39 : decode cX11_those 39 = .ok (.iconst 1, 1) := by decide +kernel
theorem dX11_those_40 : decode cX11_those 40 = .ok (.iload 4, 2) := by decide +kernel
theorem dX11_those_42 : decode cX11_those 42 = .ok (.ishl, 1) := by decide +kernel
theorem dX11_those_43 : decode cX11_those 43 = .ok (.goto 4, 3) := by decide +kernel
theorem dX11_those_46 : decode cX11_those 46 = .ok (.iconst 0, 1) := by decide +kernel
theorem dX11_those_47 : decode cX11_those 47 = .ok (.ior, 1) := by decide +kernel
theorem dX11_those_48 : decode cX11_those 48 = .ok (.istore_n 3, 1) := by decide +kernel
theorem dX11_those_49 : decode cX11_those 49 = .ok (.iinc 4 1, 3) := by decide +kernel
theorem dX11_those_52 : decode cX11_those 52 = .ok (.goto (-47), 3) := by decide +kernel
theorem dX11_those_55 : decode cX11_those 55 = .ok (.iload_n 3, 1) := by decide +kernel
theorem dX11_those_56 : decode cX11_those 56 = .ok (.ireturn, 1) := by decide +kernel
theorem dX11_ones_0 : decode cX11_ones 0 = .ok (.iconst 0, 1) := by decide +kernel
theorem dX11_ones_1 : decode cX11_ones 1 = .ok (.istore_n 1, 1) := by decide +kernel
theorem dX11_ones_2 : decode cX11_ones 2 = .ok (.iconst 0, 1) := by decide +kernel
theorem dX11_ones_3 : decode cX11_ones 3 = .ok (.istore_n 2, 1) := by decide +kernel
theorem dX11_ones_4 : decode cX11_ones 4 = .ok (.iload_n 2, 1) := by decide +kernel
theorem dX11_ones_5 : decode cX11_ones 5 = .ok (.bipush 16, 2) := by decide +kernel
theorem dX11_ones_7 : decode cX11_ones 7 = .ok (.if_icmp .ge 17, 3) := by decide +kernel
theorem dX11_ones_10 : decode cX11_ones 10 = .ok (.iload_n 1, 1) := by decide +kernel
theorem dX11_ones_11 : decode cX11_ones 11 = .ok (.iload_n 0, 1) := by decide +kernel
theorem dX11_ones_12 : decode cX11_ones 12 = .ok (.iload_n 2, 1) := by decide +kernel
theorem dX11_ones_13 : decode cX11_ones 13 = .ok (.ishr, 1) := by decide +kernel
theorem dX11_ones_14 : decode cX11_ones 14 = .ok (.iconst 1, 1) := by decide +kernel
theorem dX11_ones_15 : decode cX11_ones 15 = .ok (.iand, 1) := by decide +kernel
theorem dX11_ones_16 : decode cX11_ones 16 = .ok (.iadd, 1) := by decide +kernel
theorem dX11_ones_17 : decode cX11_ones 17 = .ok (.istore_n 1, 1) := by decide +kernel
theorem dX11_ones_18 : decode cX11_ones 18 = .ok (.iinc 2 1, 3) := by decide +kernel
theorem dX11_ones_21 : decode cX11_ones 21 = .ok (.goto (-17), 3) := by decide +kernel
theorem dX11_ones_24 : decode cX11_ones 24 = .ok (.iload_n 1, 1) := by decide +kernel
theorem dX11_ones_25 : decode cX11_ones 25 = .ok (.ireturn, 1) := by decide +kernel
set_option maxRecDepth 20000 in
theorem ggX11_docked_X11_those : GoodIn wsX11_docked wsX11_those := goodIn_r _ [5, 6, 7, 8, 9, 4, 10, 14, 15, 16, 17, 18, 19, 20, 21, 22, 23, 24, 25, 26, 27] (by decide +kernel) (by decide +kernel)
set_option maxRecDepth 20000 in
theorem gX11_docked_X11_those : GoodIn wsX11_docked (wsV RX11 40 RX11 yX11_those wsX11_those) := goodIn_app (goodIn_of _ (by decide +kernel)) ggX11_docked_X11_those
set_option maxRecDepth 20000 in
theorem ggX11_docked_X11_ones : GoodIn wsX11_docked wsX11_ones := goodIn_r _ [13] (by decide +kernel) (by decide +kernel)
set_option maxRecDepth 20000 in
theorem gX11_docked_X11_ones : GoodIn wsX11_docked (va_wsS RX11 43 yX11_ones wsX11_ones) := goodIn_app (goodIn_of _ (by decide +kernel)) ggX11_docked_X11_ones
theorem dX11_docked_0 : decode cX11_docked 0 = .ok (.aload_n 0, 1) := by decide +kernel
theorem dX11_docked_1 : decode cX11_docked 1 = .ok (.iconst 0, 1) := by decide +kernel
theorem dX11_docked_2 : decode cX11_docked 2 = .ok (.iload_n 1, 1) := by decide +kernel
theorem dX11_docked_3 : decode cX11_docked 3 = .ok (.invokevirtual 40, 3) := by decide +kernel
theorem dX11_docked_6 : decode cX11_docked 6 = .ok (.invokestatic 43, 3) := by decide +kernel
theorem dX11_docked_9 : decode cX11_docked 9 = .ok (.ireturn, 1) := by decide +kernel
set_option maxRecDepth 20000 in
theorem ggX11_isFree_X11_docked : GoodIn wsX11_isFree wsX11_docked := goodIn_r _ [5, 6, 7, 8, 4, 9, 10, 11, 12, 13, 14, 15, 16, 17, 22, 23, 24, 25, 26, 27, 28, 29, 30, 31, 32, 33, 34, 35] (by decide +kernel) (by decide +kernel)
set_option maxRecDepth 20000 in
theorem gX11_isFree_X11_docked : GoodIn wsX11_isFree (wsV RX11 47 RX11 yX11_docked wsX11_docked) := goodIn_app (goodIn_of _ (by decide +kernel)) ggX11_isFree_X11_docked
set_option maxRecDepth 20000 in
theorem ggX11_isFree_X11_ofStation : GoodIn wsX11_isFree wsX11_ofStation := goodIn_r _ [21, 10, 22, 23, 24, 25, 26, 27, 28, 29, 30, 31, 32, 33, 34, 35] (by decide +kernel) (by decide +kernel)
set_option maxRecDepth 20000 in
theorem gX11_isFree_X11_ofStation : GoodIn wsX11_isFree (wsV RX11 50 RX11 yX11_ofStation wsX11_ofStation) := goodIn_app (goodIn_of _ (by decide +kernel)) ggX11_isFree_X11_ofStation
theorem dX11_isFree_0 : decode cX11_isFree 0 = .ok (.aload_n 0, 1) := by decide +kernel
theorem dX11_isFree_1 : decode cX11_isFree 1 = .ok (.iload_n 1, 1) := by decide +kernel
theorem dX11_isFree_2 : decode cX11_isFree 2 = .ok (.invokevirtual 47, 3) := by decide +kernel
theorem dX11_isFree_5 : decode cX11_isFree 5 = .ok (.aload_n 0, 1) := by decide +kernel
theorem dX11_isFree_6 : decode cX11_isFree 6 = .ok (.iload_n 1, 1) := by decide +kernel
theorem dX11_isFree_7 : decode cX11_isFree 7 = .ok (.iconst 1, 1) := by decide +kernel
theorem dX11_isFree_8 : decode cX11_isFree 8 = .ok (.invokevirtual 50, 3) := by decide +kernel
theorem dX11_isFree_11 : decode cX11_isFree 11 = .ok (.if_icmp .ge 7, 3) := by decide +kernel
theorem dX11_isFree_14 : decode cX11_isFree 14 = .ok (.iconst 1, 1) := by decide +kernel
theorem dX11_isFree_15 : decode cX11_isFree 15 = .ok (.goto 4, 3) := by decide +kernel
theorem dX11_isFree_18 : decode cX11_isFree 18 = .ok (.iconst 0, 1) := by decide +kernel
theorem dX11_isFree_19 : decode cX11_isFree 19 = .ok (.ireturn, 1) := by decide +kernel
set_option maxRecDepth 20000 in
theorem ggX11_station_X11_in : GoodIn wsX11_station wsX11_in := goodIn_r _ [5] (by decide +kernel) (by decide +kernel)
set_option maxRecDepth 20000 in
theorem gX11_station_X11_in : GoodIn wsX11_station (va_wsS RX11 53 yX11_in wsX11_in) := goodIn_app (goodIn_of _ (by decide +kernel)) ggX11_station_X11_in
set_option maxRecDepth 20000 in
theorem ggX11_station_X11_changes : GoodIn wsX11_station wsX11_changes := goodIn_r _ [9, 10, 11, 12, 1, 13, 14, 15, 16, 17, 18, 19, 20, 21, 22, 23, 24, 25, 26] (by decide +kernel) (by decide +kernel)
set_option maxRecDepth 20000 in
theorem gX11_station_X11_changes : GoodIn wsX11_station (wsV RX11 57 RX11 yX11_changes wsX11_changes) := goodIn_app (goodIn_of _ (by decide +kernel)) ggX11_station_X11_changes
theorem dX11_station_0 : decode cX11_station 0 = .ok (.iload_n 1, 1) := by decide +kernel
theorem dX11_station_1 : decode cX11_station 1 = .ok (.iconst 0, 1) := by decide +kernel
theorem dX11_station_2 : decode cX11_station 2 = .ok (.bipush 99, 2) := by decide +kernel
theorem dX11_station_4 : decode cX11_station 4 = .ok (.invokestatic 53, 3) := by decide +kernel
theorem dX11_station_7 : decode cX11_station 7 = .ok (.ifCond .eq 13, 3) := by decide +kernel
theorem dX11_station_10 : decode cX11_station 10 = .ok (.iload_n 2, 1) := by decide +kernel
theorem dX11_station_11 : decode cX11_station 11 = .ok (.iconst 1, 1) := by decide +kernel
theorem dX11_station_12 : decode cX11_station 12 = .ok (.bipush 8, 2) := by decide +kernel
theorem dX11_station_14 : decode cX11_station 14 = .ok (.invokestatic 53, 3) := by decide +kernel
theorem dX11_station_17 : decode cX11_station 17 = .ok (.ifCond .ne 5, 3) := by decide +kernel
theorem dX11_station_20 : decode cX11_station 20 = .ok (.iconst (-1), 1) := by decide +kernel
theorem dX11_station_21 : decode cX11_station 21 = .ok (.ireturn, 1) := by decide +kernel
theorem dX11_station_22 : decode cX11_station 22 = .ok (.aload_n 0, 1) := by decide +kernel
theorem dX11_station_23 : decode cX11_station 23 = .ok (.getfield 7, 3) := by decide +kernel
theorem dX11_station_26 : decode cX11_station 26 = .ok (.iconst 0, 1) := by decide +kernel
theorem dX11_station_27 : decode cX11_station 27 = .ok (.iaload, 1) := by decide +kernel
theorem dX11_station_28 : decode cX11_station 28 = .ok (.istore_n 3, 1) := by decide +kernel
theorem dX11_station_29 : decode cX11_station 29 = .ok (.iload_n 3, 1) := by decide +kernel
theorem dX11_station_30 : decode cX11_station 30 = .ok (.bipush 6, 2) := by decide +kernel
theorem dX11_station_32 : decode cX11_station 32 = .ok (.if_icmp .ne 6, 3) := by decide +kernel
theorem dX11_station_35 : decode cX11_station 35 = .ok (.bipush (-3), 2) := by decide +kernel
theorem dX11_station_37 : decode cX11_station 37 = .ok (.ireturn, 1) := by decide +kernel
theorem dX11_station_38 : decode cX11_station 38 = .ok (.aload_n 0, 1) := by decide +kernel
theorem dX11_station_39 : decode cX11_station 39 = .ok (.invokevirtual 57, 3) := by decide +kernel
theorem dX11_station_42 : decode cX11_station 42 = .ok (.aload_n 0, 1) := by decide +kernel
theorem dX11_station_43 : decode cX11_station 43 = .ok (.getfield 7, 3) := by decide +kernel
theorem dX11_station_46 : decode cX11_station 46 = .ok (.bipush 8, 2) := by decide +kernel
theorem dX11_station_48 : decode cX11_station 48 = .ok (.iconst 4, 1) := by decide +kernel
theorem dX11_station_49 : decode cX11_station 49 = .ok (.iload_n 3, 1) := by decide +kernel
theorem dX11_station_50 : decode cX11_station 50 = .ok (.imul, 1) := by decide +kernel
theorem dX11_station_51 : decode cX11_station 51 = .ok (.iadd, 1) := by decide +kernel
theorem dX11_station_52 : decode cX11_station 52 = .ok (.iconst 0, 1) := by decide +kernel
theorem dX11_station_53 : decode cX11_station 53 = .ok (.iadd, 1) := by decide +kernel
theorem dX11_station_54 : decode cX11_station 54 = .ok (.iload_n 1, 1) := by decide +kernel
theorem dX11_station_55 : decode cX11_station 55 = .ok (.iastore, 1) := by decide +kernel
theorem dX11_station_56 : decode cX11_station 56 = .ok (.aload_n 0, 1) := by decide +kernel
theorem dX11_station_57 : decode cX11_station 57 = .ok (.getfield 7, 3) := by decide +kernel
theorem dX11_station_60 : decode cX11_station 60 = .ok (.bipush 8, 2) := by decide +kernel
theorem dX11_station_62 : decode cX11_station 62 = .ok (.iconst 4, 1) := by decide +kernel
theorem dX11_station_63 : decode cX11_station 63 = .ok (.iload_n 3, 1) := by decide +kernel
theorem dX11_station_64 : decode cX11_station 64 = .ok (.imul, 1) := by decide +kernel
theorem dX11_station_65 : decode cX11_station 65 = .ok (.iadd, 1) := by decide +kernel
theorem dX11_station_66 : decode cX11_station 66 = .ok (.iconst 1, 1) := by decide +kernel
theorem dX11_station_67 : decode cX11_station 67 = .ok (.iadd, 1) := by decide +kernel
theorem dX11_station_68 : decode cX11_station 68 = .ok (.iload_n 2, 1) := by decide +kernel
theorem dX11_station_69 : decode cX11_station 69 = .ok (.iastore, 1) := by decide +kernel
theorem dX11_station_70 : decode cX11_station 70 = .ok (.aload_n 0, 1) := by decide +kernel
theorem dX11_station_71 : decode cX11_station 71 = .ok (.getfield 7, 3) := by decide +kernel
theorem dX11_station_74 : decode cX11_station 74 = .ok (.bipush 8, 2) := by decide +kernel
theorem dX11_station_76 : decode cX11_station 76 = .ok (.iconst 4, 1) := by decide +kernel
theorem dX11_station_77 : decode cX11_station 77 = .ok (.iload_n 3, 1) := by decide +kernel
theorem dX11_station_78 : decode cX11_station 78 = .ok (.imul, 1) := by decide +kernel
theorem dX11_station_79 : decode cX11_station 79 = .ok (.iadd, 1) := by decide +kernel
theorem dX11_station_80 : decode cX11_station 80 = .ok (.iconst 2, 1) := by decide +kernel
theorem dX11_station_81 : decode cX11_station 81 = .ok (.iadd, 1) := by decide +kernel
theorem dX11_station_82 : decode cX11_station 82 = .ok (.iconst 0, 1) := by decide +kernel
theorem dX11_station_83 : decode cX11_station 83 = .ok (.iastore, 1) := by decide +kernel
theorem dX11_station_84 : decode cX11_station 84 = .ok (.aload_n 0, 1) := by decide +kernel
theorem dX11_station_85 : decode cX11_station 85 = .ok (.getfield 7, 3) := by decide +kernel
theorem dX11_station_88 : decode cX11_station 88 = .ok (.bipush 8, 2) := by decide +kernel
theorem dX11_station_90 : decode cX11_station 90 = .ok (.iconst 4, 1) := by decide +kernel
theorem dX11_station_91 : decode cX11_station 91 = .ok (.iload_n 3, 1) := by decide +kernel
theorem dX11_station_92 : decode cX11_station 92 = .ok (.imul, 1) := by decide +kernel
theorem dX11_station_93 : decode cX11_station 93 = .ok (.iadd, 1) := by decide +kernel
theorem dX11_station_94 : decode cX11_station 94 = .ok (.iconst 3, 1) := by decide +kernel
theorem dX11_station_95 : decode cX11_station 95 = .ok (.iadd, 1) := by decide +kernel
theorem dX11_station_96 : decode cX11_station 96 = .ok (.iconst 0, 1) := by decide +kernel
theorem dX11_station_97 : decode cX11_station 97 = .ok (.iastore, 1) := by decide +kernel
theorem dX11_station_98 : decode cX11_station 98 = .ok (.aload_n 0, 1) := by decide +kernel
theorem dX11_station_99 : decode cX11_station 99 = .ok (.getfield 7, 3) := by decide +kernel
theorem dX11_station_102 : decode cX11_station 102 = .ok (.iconst 0, 1) := by decide +kernel
theorem dX11_station_103 : decode cX11_station 103 = .ok (.dup2, 1) := by decide +kernel
theorem dX11_station_104 : decode cX11_station 104 = .ok (.iaload, 1) := by decide +kernel
theorem dX11_station_105 : decode cX11_station 105 = .ok (.iconst 1, 1) := by decide +kernel
theorem dX11_station_106 : decode cX11_station 106 = .ok (.iadd, 1) := by decide +kernel
theorem dX11_station_107 : decode cX11_station 107 = .ok (.iastore, 1) := by decide +kernel
theorem dX11_station_108 : decode cX11_station 108 = .ok (.iload_n 3, 1) := by decide +kernel
theorem dX11_station_109 : decode cX11_station 109 = .ok (.ireturn, 1) := by decide +kernel
set_option maxRecDepth 20000 in
theorem ggX11_bicycle_X11_isStation : GoodIn wsX11_bicycle wsX11_isStation := goodIn_r _ [6, 1, 41, 42, 43, 44, 45, 46, 47, 48, 49, 50, 51, 52, 53, 54] (by decide +kernel) (by decide +kernel)
set_option maxRecDepth 20000 in
theorem gX11_bicycle_X11_isStation : GoodIn wsX11_bicycle (wsV RX11 60 RX11 yX11_isStation wsX11_isStation) := goodIn_app (goodIn_of _ (by decide +kernel)) ggX11_bicycle_X11_isStation
set_option maxRecDepth 20000 in
theorem ggX11_bicycle_X11_isFree : GoodIn wsX11_bicycle wsX11_isFree := goodIn_r _ [10, 11, 12, 13, 5, 14, 15, 16, 17, 18, 1, 19, 20, 21, 22, 23, 24, 25, 26, 27, 28, 29, 41, 42, 43, 44, 45, 46, 47, 48, 49, 50, 51, 52, 53, 54] (by decide +kernel) (by decide +kernel)
set_option maxRecDepth 20000 in
theorem gX11_bicycle_X11_isFree : GoodIn wsX11_bicycle (wsV RX11 64 RX11 yX11_isFree wsX11_isFree) := goodIn_app (goodIn_of _ (by decide +kernel)) ggX11_bicycle_X11_isFree
set_option maxRecDepth 20000 in
theorem ggX11_bicycle_X11_changes : GoodIn wsX11_bicycle wsX11_changes := goodIn_r _ [33, 34, 35, 36, 1, 41, 42, 43, 44, 45, 46, 47, 48, 49, 50, 51, 52, 53, 54] (by decide +kernel) (by decide +kernel)
set_option maxRecDepth 20000 in
theorem gX11_bicycle_X11_changes : GoodIn wsX11_bicycle (wsV RX11 57 RX11 yX11_changes wsX11_changes) := goodIn_app (goodIn_of _ (by decide +kernel)) ggX11_bicycle_X11_changes
set_option maxRecDepth 20000 in
theorem ggX11_bicycle_X11_puts : GoodIn wsX11_bicycle wsX11_puts := goodIn_r _ [40, 1, 41, 42, 43, 44, 45, 46, 47, 48, 49, 50, 51, 52, 53, 54] (by decide +kernel) (by decide +kernel)
set_option maxRecDepth 20000 in
theorem gX11_bicycle_X11_puts : GoodIn wsX11_bicycle (wsV RX11 67 RX11 yX11_puts wsX11_puts) := goodIn_app (goodIn_of _ (by decide +kernel)) ggX11_bicycle_X11_puts
theorem dX11_bicycle_0 : decode cX11_bicycle 0 = .ok (.aload_n 0, 1) := by decide +kernel
theorem dX11_bicycle_1 : decode cX11_bicycle 1 = .ok (.iload_n 1, 1) := by decide +kernel
theorem dX11_bicycle_2 : decode cX11_bicycle 2 = .ok (.invokevirtual 60, 3) := by decide +kernel
theorem dX11_bicycle_5 : decode cX11_bicycle 5 = .ok (.ifCond .ne 5, 3) := by decide +kernel
theorem dX11_bicycle_8 : decode cX11_bicycle 8 = .ok (.iconst (-1), 1) := by decide +kernel
theorem dX11_bicycle_9 : decode cX11_bicycle 9 = .ok (.ireturn, 1) := by decide +kernel
theorem dX11_bicycle_10 : decode cX11_bicycle 10 = .ok (.aload_n 0, 1) := by decide +kernel
theorem dX11_bicycle_11 : decode cX11_bicycle 11 = .ok (.iload_n 1, 1) := by decide +kernel
theorem dX11_bicycle_12 : decode cX11_bicycle 12 = .ok (.invokevirtual 64, 3) := by decide +kernel
theorem dX11_bicycle_15 : decode cX11_bicycle 15 = .ok (.ifCond .ne 6, 3) := by decide +kernel
theorem dX11_bicycle_18 : decode cX11_bicycle 18 = .ok (.bipush (-2), 2) := by decide +kernel
theorem dX11_bicycle_20 : decode cX11_bicycle 20 = .ok (.ireturn, 1) := by decide +kernel
theorem dX11_bicycle_21 : decode cX11_bicycle 21 = .ok (.aload_n 0, 1) := by decide +kernel
theorem dX11_bicycle_22 : decode cX11_bicycle 22 = .ok (.getfield 7, 3) := by decide +kernel
theorem dX11_bicycle_25 : decode cX11_bicycle 25 = .ok (.iconst 1, 1) := by decide +kernel
theorem dX11_bicycle_26 : decode cX11_bicycle 26 = .ok (.iaload, 1) := by decide +kernel
theorem dX11_bicycle_27 : decode cX11_bicycle 27 = .ok (.istore_n 2, 1) := by decide +kernel
theorem dX11_bicycle_28 : decode cX11_bicycle 28 = .ok (.iload_n 2, 1) := by decide +kernel
theorem dX11_bicycle_29 : decode cX11_bicycle 29 = .ok (.bipush 16, 2) := by decide +kernel
theorem dX11_bicycle_31 : decode cX11_bicycle 31 = .ok (.if_icmp .ne 6, 3) := by decide +kernel
theorem dX11_bicycle_34 : decode cX11_bicycle 34 = .ok (.bipush (-3), 2) := by decide +kernel
theorem dX11_bicycle_36 : decode cX11_bicycle 36 = .ok (.ireturn, 1) := by decide +kernel
theorem dX11_bicycle_37 : decode cX11_bicycle 37 = .ok (.aload_n 0, 1) := by decide +kernel
theorem dX11_bicycle_38 : decode cX11_bicycle 38 = .ok (.invokevirtual 57, 3) := by decide +kernel
theorem dX11_bicycle_41 : decode cX11_bicycle 41 = .ok (.iconst 0, 1) := by decide +kernel
theorem dX11_bicycle_42 : decode cX11_bicycle 42 = .ok (.istore_n 3, 1) := by decide +kernel
theorem dX11_bicycle_43 : decode cX11_bicycle 43 = .ok (.iload_n 3, 1) := by decide +kernel
theorem dX11_bicycle_44 : decode cX11_bicycle 44 = .ok (.bipush 6, 2) := by decide +kernel
theorem dX11_bicycle_46 : decode cX11_bicycle 46 = .ok (.if_icmp .ge 24, 3) := by decide +kernel
theorem dX11_bicycle_49 : decode cX11_bicycle 49 = .ok (.aload_n 0, 1) := by decide +kernel
theorem dX11_bicycle_50 : decode cX11_bicycle 50 = .ok (.getfield 7, 3) := by decide +kernel
theorem dX11_bicycle_53 : decode cX11_bicycle 53 = .ok (.bipush 32, 2) := by decide +kernel
theorem dX11_bicycle_55 : decode cX11_bicycle 55 = .ok (.bipush 6, 2) := by decide +kernel
theorem dX11_bicycle_57 : decode cX11_bicycle 57 = .ok (.iload_n 2, 1) := by decide +kernel
theorem dX11_bicycle_58 : decode cX11_bicycle 58 = .ok (.imul, 1) := by decide +kernel
theorem dX11_bicycle_59 : decode cX11_bicycle 59 = .ok (.iadd, 1) := by decide +kernel
theorem dX11_bicycle_60 : decode cX11_bicycle 60 = .ok (.iload_n 3, 1) := by decide +kernel
theorem dX11_bicycle_61 : decode cX11_bicycle 61 = .ok (.iadd, 1) := by decide +kernel
theorem dX11_bicycle_62 : decode cX11_bicycle 62 = .ok (.iconst 0, 1) := by decide +kernel
theorem dX11_bicycle_63 : decode cX11_bicycle 63 = .ok (.iastore, 1) := by decide +kernel
theorem dX11_bicycle_64 : decode cX11_bicycle 64 = .ok (.iinc 3 1, 3) := by decide +kernel
theorem dX11_bicycle_67 : decode cX11_bicycle 67 = .ok (.goto (-24), 3) := by decide +kernel
theorem dX11_bicycle_70 : decode cX11_bicycle 70 = .ok (.aload_n 0, 1) := by decide +kernel
theorem dX11_bicycle_71 : decode cX11_bicycle 71 = .ok (.iload_n 2, 1) := by decide +kernel
theorem dX11_bicycle_72 : decode cX11_bicycle 72 = .ok (.iconst 0, 1) := by decide +kernel
theorem dX11_bicycle_73 : decode cX11_bicycle 73 = .ok (.iload_n 1, 1) := by decide +kernel
theorem dX11_bicycle_74 : decode cX11_bicycle 74 = .ok (.invokevirtual 67, 3) := by decide +kernel
theorem dX11_bicycle_77 : decode cX11_bicycle 77 = .ok (.aload_n 0, 1) := by decide +kernel
theorem dX11_bicycle_78 : decode cX11_bicycle 78 = .ok (.getfield 7, 3) := by decide +kernel
theorem dX11_bicycle_81 : decode cX11_bicycle 81 = .ok (.iconst 1, 1) := by decide +kernel
theorem dX11_bicycle_82 : decode cX11_bicycle 82 = .ok (.dup2, 1) := by decide +kernel
theorem dX11_bicycle_83 : decode cX11_bicycle 83 = .ok (.iaload, 1) := by decide +kernel
theorem dX11_bicycle_84 : decode cX11_bicycle 84 = .ok (.iconst 1, 1) := by decide +kernel
theorem dX11_bicycle_85 : decode cX11_bicycle 85 = .ok (.iadd, 1) := by decide +kernel
theorem dX11_bicycle_86 : decode cX11_bicycle 86 = .ok (.iastore, 1) := by decide +kernel
theorem dX11_bicycle_87 : decode cX11_bicycle 87 = .ok (.iload_n 2, 1) := by decide +kernel
theorem dX11_bicycle_88 : decode cX11_bicycle 88 = .ok (.ireturn, 1) := by decide +kernel
set_option maxRecDepth 20000 in
theorem ggX11_rider_X11_changes : GoodIn wsX11_rider wsX11_changes := goodIn_r _ [6, 7, 8, 9, 1, 10, 11, 12, 13, 14, 15, 16, 17, 18, 19, 20, 21, 22, 23] (by decide +kernel) (by decide +kernel)
set_option maxRecDepth 20000 in
theorem gX11_rider_X11_changes : GoodIn wsX11_rider (wsV RX11 57 RX11 yX11_changes wsX11_changes) := goodIn_app (goodIn_of _ (by decide +kernel)) ggX11_rider_X11_changes
theorem dX11_rider_0 : decode cX11_rider 0 = .ok (.aload_n 0, 1) := by decide +kernel
theorem dX11_rider_1 : decode cX11_rider 1 = .ok (.getfield 7, 3) := by decide +kernel
theorem dX11_rider_4 : decode cX11_rider 4 = .ok (.iconst 2, 1) := by decide +kernel
theorem dX11_rider_5 : decode cX11_rider 5 = .ok (.iaload, 1) := by decide +kernel
theorem dX11_rider_6 : decode cX11_rider 6 = .ok (.istore_n 1, 1) := by decide +kernel
theorem dX11_rider_7 : decode cX11_rider 7 = .ok (.iload_n 1, 1) := by decide +kernel
theorem dX11_rider_8 : decode cX11_rider 8 = .ok (.bipush 8, 2) := by decide +kernel
theorem dX11_rider_10 : decode cX11_rider 10 = .ok (.if_icmp .ne 6, 3) := by decide +kernel
theorem dX11_rider_13 : decode cX11_rider 13 = .ok (.bipush (-3), 2) := by decide +kernel
theorem dX11_rider_15 : decode cX11_rider 15 = .ok (.ireturn, 1) := by decide +kernel
theorem dX11_rider_16 : decode cX11_rider 16 = .ok (.aload_n 0, 1) := by decide +kernel
theorem dX11_rider_17 : decode cX11_rider 17 = .ok (.invokevirtual 57, 3) := by decide +kernel
theorem dX11_rider_20 : decode cX11_rider 20 = .ok (.iconst 0, 1) := by decide +kernel
theorem dX11_rider_21 : decode cX11_rider 21 = .ok (.istore_n 2, 1) := by decide +kernel
theorem dX11_rider_22 : decode cX11_rider 22 = .ok (.iload_n 2, 1) := by decide +kernel
theorem dX11_rider_23 : decode cX11_rider 23 = .ok (.bipush 9, 2) := by decide +kernel
theorem dX11_rider_25 : decode cX11_rider 25 = .ok (.if_icmp .ge 25, 3) := by decide +kernel
theorem dX11_rider_28 : decode cX11_rider 28 = .ok (.aload_n 0, 1) := by decide +kernel
theorem dX11_rider_29 : decode cX11_rider 29 = .ok (.getfield 7, 3) := by decide +kernel
theorem dX11_rider_32 : decode cX11_rider 32 = .ok (.sipush 128, 3) := by decide +kernel
theorem dX11_rider_35 : decode cX11_rider 35 = .ok (.bipush 9, 2) := by decide +kernel
theorem dX11_rider_37 : decode cX11_rider 37 = .ok (.iload_n 1, 1) := by decide +kernel
theorem dX11_rider_38 : decode cX11_rider 38 = .ok (.imul, 1) := by decide +kernel
theorem dX11_rider_39 : decode cX11_rider 39 = .ok (.iadd, 1) := by decide +kernel
theorem dX11_rider_40 : decode cX11_rider 40 = .ok (.iload_n 2, 1) := by decide +kernel
theorem dX11_rider_41 : decode cX11_rider 41 = .ok (.iadd, 1) := by decide +kernel
theorem dX11_rider_42 : decode cX11_rider 42 = .ok (.iconst 0, 1) := by decide +kernel
theorem dX11_rider_43 : decode cX11_rider 43 = .ok (.iastore, 1) := by decide +kernel
theorem dX11_rider_44 : decode cX11_rider 44 = .ok (.iinc 2 1, 3) := by decide +kernel
theorem dX11_rider_47 : decode cX11_rider 47 = .ok (.goto (-25), 3) := by decide +kernel
theorem dX11_rider_50 : decode cX11_rider 50 = .ok (.aload_n 0, 1) := by decide +kernel
theorem dX11_rider_51 : decode cX11_rider 51 = .ok (.getfield 7, 3) := by decide +kernel
theorem dX11_rider_54 : decode cX11_rider 54 = .ok (.sipush 128, 3) := by decide +kernel
theorem dX11_rider_57 : decode cX11_rider 57 = .ok (.bipush 9, 2) := by decide +kernel
theorem dX11_rider_59 : decode cX11_rider 59 = .ok (.iload_n 1, 1) := by decide +kernel
theorem dX11_rider_60 : decode cX11_rider 60 = .ok (.imul, 1) := by decide +kernel
theorem dX11_rider_61 : decode cX11_rider 61 = .ok (.iadd, 1) := by decide +kernel
theorem dX11_rider_62 : decode cX11_rider 62 = .ok (.iconst 2, 1) := by decide +kernel
theorem dX11_rider_63 : decode cX11_rider 63 = .ok (.iadd, 1) := by decide +kernel
theorem dX11_rider_64 : decode cX11_rider 64 = .ok (.bipush (-4), 2) := by decide +kernel
theorem dX11_rider_66 : decode cX11_rider 66 = .ok (.iastore, 1) := by decide +kernel
theorem dX11_rider_67 : decode cX11_rider 67 = .ok (.aload_n 0, 1) := by decide +kernel
theorem dX11_rider_68 : decode cX11_rider 68 = .ok (.getfield 7, 3) := by decide +kernel
theorem dX11_rider_71 : decode cX11_rider 71 = .ok (.iconst 2, 1) := by decide +kernel
theorem dX11_rider_72 : decode cX11_rider 72 = .ok (.dup2, 1) := by decide +kernel
theorem dX11_rider_73 : decode cX11_rider 73 = .ok (.iaload, 1) := by decide +kernel
theorem dX11_rider_74 : decode cX11_rider 74 = .ok (.iconst 1, 1) := by decide +kernel
theorem dX11_rider_75 : decode cX11_rider 75 = .ok (.iadd, 1) := by decide +kernel
theorem dX11_rider_76 : decode cX11_rider 76 = .ok (.iastore, 1) := by decide +kernel
theorem dX11_rider_77 : decode cX11_rider 77 = .ok (.iload_n 1, 1) := by decide +kernel
theorem dX11_rider_78 : decode cX11_rider 78 = .ok (.ireturn, 1) := by decide +kernel
set_option maxRecDepth 20000 in
theorem ggX11_van_X11_isStation : GoodIn wsX11_van wsX11_isStation := goodIn_r _ [6, 1, 17, 18, 19, 20, 21, 22, 23, 24, 25, 26, 27, 28, 29, 30] (by decide +kernel) (by decide +kernel)
set_option maxRecDepth 20000 in
theorem gX11_van_X11_isStation : GoodIn wsX11_van (wsV RX11 60 RX11 yX11_isStation wsX11_isStation) := goodIn_app (goodIn_of _ (by decide +kernel)) ggX11_van_X11_isStation
set_option maxRecDepth 20000 in
theorem ggX11_van_X11_in : GoodIn wsX11_van wsX11_in := goodIn_r _ [9] (by decide +kernel) (by decide +kernel)
set_option maxRecDepth 20000 in
theorem gX11_van_X11_in : GoodIn wsX11_van (va_wsS RX11 53 yX11_in wsX11_in) := goodIn_app (goodIn_of _ (by decide +kernel)) ggX11_van_X11_in
set_option maxRecDepth 20000 in
theorem ggX11_van_X11_changes : GoodIn wsX11_van wsX11_changes := goodIn_r _ [13, 14, 15, 16, 1, 17, 18, 19, 20, 21, 22, 23, 24, 25, 26, 27, 28, 29, 30] (by decide +kernel) (by decide +kernel)
set_option maxRecDepth 20000 in
theorem gX11_van_X11_changes : GoodIn wsX11_van (wsV RX11 57 RX11 yX11_changes wsX11_changes) := goodIn_app (goodIn_of _ (by decide +kernel)) ggX11_van_X11_changes
theorem dX11_van_0 : decode cX11_van 0 = .ok (.aload_n 0, 1) := by decide +kernel
theorem dX11_van_1 : decode cX11_van 1 = .ok (.iload_n 1, 1) := by decide +kernel
theorem dX11_van_2 : decode cX11_van 2 = .ok (.invokevirtual 60, 3) := by decide +kernel
theorem dX11_van_5 : decode cX11_van 5 = .ok (.ifCond .eq 13, 3) := by decide +kernel
theorem dX11_van_8 : decode cX11_van 8 = .ok (.iload_n 2, 1) := by decide +kernel
theorem dX11_van_9 : decode cX11_van 9 = .ok (.iconst 1, 1) := by decide +kernel
theorem dX11_van_10 : decode cX11_van 10 = .ok (.bipush 6, 2) := by decide +kernel
theorem dX11_van_12 : decode cX11_van 12 = .ok (.invokestatic 53, 3) := by decide +kernel
theorem dX11_van_15 : decode cX11_van 15 = .ok (.ifCond .ne 5, 3) := by decide +kernel
theorem dX11_van_18 : decode cX11_van 18 = .ok (.iconst (-1), 1) := by decide +kernel
theorem dX11_van_19 : decode cX11_van 19 = .ok (.ireturn, 1) := by decide +kernel
theorem dX11_van_20 : decode cX11_van 20 = .ok (.aload_n 0, 1) := by decide +kernel
theorem dX11_van_21 : decode cX11_van 21 = .ok (.getfield 7, 3) := by decide +kernel
theorem dX11_van_24 : decode cX11_van 24 = .ok (.iconst 3, 1) := by decide +kernel
theorem dX11_van_25 : decode cX11_van 25 = .ok (.iaload, 1) := by decide +kernel
theorem dX11_van_26 : decode cX11_van 26 = .ok (.istore_n 3, 1) := by decide +kernel
theorem dX11_van_27 : decode cX11_van 27 = .ok (.iload_n 3, 1) := by decide +kernel
theorem dX11_van_28 : decode cX11_van 28 = .ok (.iconst 2, 1) := by decide +kernel
theorem dX11_van_29 : decode cX11_van 29 = .ok (.if_icmp .ne 6, 3) := by decide +kernel
theorem dX11_van_32 : decode cX11_van 32 = .ok (.bipush (-3), 2) := by decide +kernel
theorem dX11_van_34 : decode cX11_van 34 = .ok (.ireturn, 1) := by decide +kernel
theorem dX11_van_35 : decode cX11_van 35 = .ok (.aload_n 0, 1) := by decide +kernel
theorem dX11_van_36 : decode cX11_van 36 = .ok (.invokevirtual 57, 3) := by decide +kernel
theorem dX11_van_39 : decode cX11_van 39 = .ok (.aload_n 0, 1) := by decide +kernel
theorem dX11_van_40 : decode cX11_van 40 = .ok (.getfield 7, 3) := by decide +kernel
theorem dX11_van_43 : decode cX11_van 43 = .ok (.sipush 200, 3) := by decide +kernel
theorem dX11_van_46 : decode cX11_van 46 = .ok (.iconst 3, 1) := by decide +kernel
theorem dX11_van_47 : decode cX11_van 47 = .ok (.iload_n 3, 1) := by decide +kernel
theorem dX11_van_48 : decode cX11_van 48 = .ok (.imul, 1) := by decide +kernel
theorem dX11_van_49 : decode cX11_van 49 = .ok (.iadd, 1) := by decide +kernel
theorem dX11_van_50 : decode cX11_van 50 = .ok (.iconst 0, 1) := by decide +kernel
theorem dX11_van_51 : decode cX11_van 51 = .ok (.iadd, 1) := by decide +kernel
theorem dX11_van_52 : decode cX11_van 52 = .ok (.iload_n 1, 1) := by decide +kernel
theorem dX11_van_53 : decode cX11_van 53 = .ok (.iastore, 1) := by decide +kernel
theorem dX11_van_54 : decode cX11_van 54 = .ok (.aload_n 0, 1) := by decide +kernel
theorem dX11_van_55 : decode cX11_van 55 = .ok (.getfield 7, 3) := by decide +kernel
theorem dX11_van_58 : decode cX11_van 58 = .ok (.sipush 200, 3) := by decide +kernel
theorem dX11_van_61 : decode cX11_van 61 = .ok (.iconst 3, 1) := by decide +kernel
theorem dX11_van_62 : decode cX11_van 62 = .ok (.iload_n 3, 1) := by decide +kernel
theorem dX11_van_63 : decode cX11_van 63 = .ok (.imul, 1) := by decide +kernel
theorem dX11_van_64 : decode cX11_van 64 = .ok (.iadd, 1) := by decide +kernel
theorem dX11_van_65 : decode cX11_van 65 = .ok (.iconst 1, 1) := by decide +kernel
theorem dX11_van_66 : decode cX11_van 66 = .ok (.iadd, 1) := by decide +kernel
theorem dX11_van_67 : decode cX11_van 67 = .ok (.iload_n 2, 1) := by decide +kernel
theorem dX11_van_68 : decode cX11_van 68 = .ok (.iastore, 1) := by decide +kernel
theorem dX11_van_69 : decode cX11_van 69 = .ok (.aload_n 0, 1) := by decide +kernel
theorem dX11_van_70 : decode cX11_van 70 = .ok (.getfield 7, 3) := by decide +kernel
theorem dX11_van_73 : decode cX11_van 73 = .ok (.sipush 200, 3) := by decide +kernel
theorem dX11_van_76 : decode cX11_van 76 = .ok (.iconst 3, 1) := by decide +kernel
theorem dX11_van_77 : decode cX11_van 77 = .ok (.iload_n 3, 1) := by decide +kernel
theorem dX11_van_78 : decode cX11_van 78 = .ok (.imul, 1) := by decide +kernel
theorem dX11_van_79 : decode cX11_van 79 = .ok (.iadd, 1) := by decide +kernel
theorem dX11_van_80 : decode cX11_van 80 = .ok (.iconst 2, 1) := by decide +kernel
theorem dX11_van_81 : decode cX11_van 81 = .ok (.iadd, 1) := by decide +kernel
theorem dX11_van_82 : decode cX11_van 82 = .ok (.iconst 0, 1) := by decide +kernel
theorem dX11_van_83 : decode cX11_van 83 = .ok (.iastore, 1) := by decide +kernel
theorem dX11_van_84 : decode cX11_van 84 = .ok (.aload_n 0, 1) := by decide +kernel
theorem dX11_van_85 : decode cX11_van 85 = .ok (.getfield 7, 3) := by decide +kernel
theorem dX11_van_88 : decode cX11_van 88 = .ok (.iconst 3, 1) := by decide +kernel
theorem dX11_van_89 : decode cX11_van 89 = .ok (.dup2, 1) := by decide +kernel
theorem dX11_van_90 : decode cX11_van 90 = .ok (.iaload, 1) := by decide +kernel
theorem dX11_van_91 : decode cX11_van 91 = .ok (.iconst 1, 1) := by decide +kernel
theorem dX11_van_92 : decode cX11_van 92 = .ok (.iadd, 1) := by decide +kernel
theorem dX11_van_93 : decode cX11_van 93 = .ok (.iastore, 1) := by decide +kernel
theorem dX11_van_94 : decode cX11_van 94 = .ok (.iload_n 3, 1) := by decide +kernel
theorem dX11_van_95 : decode cX11_van 95 = .ok (.ireturn, 1) := by decide +kernel
set_option maxRecDepth 20000 in
theorem ggX11_hasPass_X11_ofRider : GoodIn wsX11_hasPass wsX11_ofRider := goodIn_r _ [6, 1, 7, 8, 9, 10, 11, 12, 13, 14, 15, 16, 17, 18, 19, 20] (by decide +kernel) (by decide +kernel)
set_option maxRecDepth 20000 in
theorem gX11_hasPass_X11_ofRider : GoodIn wsX11_hasPass (wsV RX11 71 RX11 yX11_ofRider wsX11_ofRider) := goodIn_app (goodIn_of _ (by decide +kernel)) ggX11_hasPass_X11_ofRider
theorem dX11_hasPass_0 : decode cX11_hasPass 0 = .ok (.aload_n 0, 1) := by decide +kernel
theorem dX11_hasPass_1 : decode cX11_hasPass 1 = .ok (.getfield 7, 3) := by decide +kernel
theorem dX11_hasPass_4 : decode cX11_hasPass 4 = .ok (.iconst 4, 1) := by decide +kernel
theorem dX11_hasPass_5 : decode cX11_hasPass 5 = .ok (.iaload, 1) := by decide +kernel
theorem dX11_hasPass_6 : decode cX11_hasPass 6 = .ok (.aload_n 0, 1) := by decide +kernel
theorem dX11_hasPass_7 : decode cX11_hasPass 7 = .ok (.iload_n 1, 1) := by decide +kernel
theorem dX11_hasPass_8 : decode cX11_hasPass 8 = .ok (.iconst 1, 1) := by decide +kernel
theorem dX11_hasPass_9 : decode cX11_hasPass 9 = .ok (.invokevirtual 71, 3) := by decide +kernel
theorem dX11_hasPass_12 : decode cX11_hasPass 12 = .ok (.if_icmp .ge 7, 3) := by decide +kernel
theorem dX11_hasPass_15 : decode cX11_hasPass 15 = .ok (.iconst 1, 1) := by decide +kernel
theorem dX11_hasPass_16 : decode cX11_hasPass 16 = .ok (.goto 4, 3) := by decide +kernel
theorem dX11_hasPass_19 : decode cX11_hasPass 19 = .ok (.iconst 0, 1) := by decide +kernel
theorem dX11_hasPass_20 : decode cX11_hasPass 20 = .ok (.ireturn, 1) := by decide +kernel
set_option maxRecDepth 20000 in
theorem ggX11_pass_X11_isRider : GoodIn wsX11_pass wsX11_isRider := goodIn_r _ [6, 1, 22, 23, 24, 25, 26, 27, 28, 29, 30, 31, 32, 33, 34, 35] (by decide +kernel) (by decide +kernel)
set_option maxRecDepth 20000 in
theorem gX11_pass_X11_isRider : GoodIn wsX11_pass (wsV RX11 74 RX11 yX11_isRider wsX11_isRider) := goodIn_app (goodIn_of _ (by decide +kernel)) ggX11_pass_X11_isRider
set_option maxRecDepth 20000 in
theorem ggX11_pass_X11_hasPass : GoodIn wsX11_pass wsX11_hasPass := goodIn_r _ [10, 1, 11, 12, 13, 5, 14, 22, 23, 24, 25, 26, 27, 28, 29, 30, 31, 32, 33, 34, 35] (by decide +kernel) (by decide +kernel)
set_option maxRecDepth 20000 in
theorem gX11_pass_X11_hasPass : GoodIn wsX11_pass (wsV RX11 77 RX11 yX11_hasPass wsX11_hasPass) := goodIn_app (goodIn_of _ (by decide +kernel)) ggX11_pass_X11_hasPass
set_option maxRecDepth 20000 in
theorem ggX11_pass_X11_ofRider : GoodIn wsX11_pass wsX11_ofRider := goodIn_r _ [14, 1, 22, 23, 24, 25, 26, 27, 28, 29, 30, 31, 32, 33, 34, 35] (by decide +kernel) (by decide +kernel)
set_option maxRecDepth 20000 in
theorem gX11_pass_X11_ofRider : GoodIn wsX11_pass (wsV RX11 71 RX11 yX11_ofRider wsX11_ofRider) := goodIn_app (goodIn_of _ (by decide +kernel)) ggX11_pass_X11_ofRider
set_option maxRecDepth 20000 in
theorem ggX11_pass_X11_changes : GoodIn wsX11_pass wsX11_changes := goodIn_r _ [18, 19, 20, 21, 1, 22, 23, 24, 25, 26, 27, 28, 29, 30, 31, 32, 33, 34, 35] (by decide +kernel) (by decide +kernel)
set_option maxRecDepth 20000 in
theorem gX11_pass_X11_changes : GoodIn wsX11_pass (wsV RX11 57 RX11 yX11_changes wsX11_changes) := goodIn_app (goodIn_of _ (by decide +kernel)) ggX11_pass_X11_changes
theorem dX11_pass_0 : decode cX11_pass 0 = .ok (.aload_n 0, 1) := by decide +kernel
theorem dX11_pass_1 : decode cX11_pass 1 = .ok (.iload_n 1, 1) := by decide +kernel
theorem dX11_pass_2 : decode cX11_pass 2 = .ok (.invokevirtual 74, 3) := by decide +kernel
theorem dX11_pass_5 : decode cX11_pass 5 = .ok (.ifCond .ne 5, 3) := by decide +kernel
theorem dX11_pass_8 : decode cX11_pass 8 = .ok (.iconst (-1), 1) := by decide +kernel
theorem dX11_pass_9 : decode cX11_pass 9 = .ok (.ireturn, 1) := by decide +kernel
theorem dX11_pass_10 : decode cX11_pass 10 = .ok (.aload_n 0, 1) := by decide +kernel
theorem dX11_pass_11 : decode cX11_pass 11 = .ok (.iload_n 1, 1) := by decide +kernel
theorem dX11_pass_12 : decode cX11_pass 12 = .ok (.invokevirtual 77, 3) := by decide +kernel
theorem dX11_pass_15 : decode cX11_pass 15 = .ok (.ifCond .eq 12, 3) := by decide +kernel
theorem dX11_pass_18 : decode cX11_pass 18 = .ok (.aload_n 0, 1) := by decide +kernel
theorem dX11_pass_19 : decode cX11_pass 19 = .ok (.iload_n 1, 1) := by decide +kernel
theorem dX11_pass_20 : decode cX11_pass 20 = .ok (.iconst 1, 1) := by decide +kernel
theorem dX11_pass_21 : decode cX11_pass 21 = .ok (.invokevirtual 71, 3) := by decide +kernel
theorem dX11_pass_24 : decode cX11_pass 24 = .ok (.goto 9, 3) := by decide +kernel
theorem dX11_pass_27 : decode cX11_pass 27 = .ok (.aload_n 0, 1) := by decide +kernel
theorem dX11_pass_28 : decode cX11_pass 28 = .ok (.getfield 7, 3) := by decide +kernel
theorem dX11_pass_31 : decode cX11_pass 31 = .ok (.iconst 4, 1) := by decide +kernel
theorem dX11_pass_32 : decode cX11_pass 32 = .ok (.iaload, 1) := by decide +kernel
theorem dX11_pass_33 : decode cX11_pass 33 = .ok (.sipush 1000, 3) := by decide +kernel
theorem dX11_pass_36 : decode cX11_pass 36 = .ok (.iadd, 1) := by decide +kernel
theorem dX11_pass_37 : decode cX11_pass 37 = .ok (.istore_n 2, 1) := by decide +kernel
theorem dX11_pass_38 : decode cX11_pass 38 = .ok (.iload_n 2, 1) := by decide +kernel
theorem dX11_pass_39 : decode cX11_pass 39 = .ok (.sipush 20000, 3) := by decide +kernel
theorem dX11_pass_42 : decode cX11_pass 42 = .ok (.if_icmp .le 6, 3) := by decide +kernel
theorem dX11_pass_45 : decode cX11_pass 45 = .ok (.bipush (-3), 2) := by decide +kernel
theorem dX11_pass_47 : decode cX11_pass 47 = .ok (.ireturn, 1) := by decide +kernel
theorem dX11_pass_48 : decode cX11_pass 48 = .ok (.aload_n 0, 1) := by decide +kernel
theorem dX11_pass_49 : decode cX11_pass 49 = .ok (.invokevirtual 57, 3) := by decide +kernel
theorem dX11_pass_52 : decode cX11_pass 52 = .ok (.aload_n 0, 1) := by decide +kernel
theorem dX11_pass_53 : decode cX11_pass 53 = .ok (.getfield 7, 3) := by decide +kernel
theorem dX11_pass_56 : decode cX11_pass 56 = .ok (.sipush 128, 3) := by decide +kernel
theorem dX11_pass_59 : decode cX11_pass 59 = .ok (.bipush 9, 2) := by decide +kernel
theorem dX11_pass_61 : decode cX11_pass 61 = .ok (.iload_n 1, 1) := by decide +kernel
theorem dX11_pass_62 : decode cX11_pass 62 = .ok (.imul, 1) := by decide +kernel
theorem dX11_pass_63 : decode cX11_pass 63 = .ok (.iadd, 1) := by decide +kernel
theorem dX11_pass_64 : decode cX11_pass 64 = .ok (.iconst 1, 1) := by decide +kernel
theorem dX11_pass_65 : decode cX11_pass 65 = .ok (.iadd, 1) := by decide +kernel
theorem dX11_pass_66 : decode cX11_pass 66 = .ok (.iload_n 2, 1) := by decide +kernel
theorem dX11_pass_67 : decode cX11_pass 67 = .ok (.iastore, 1) := by decide +kernel
theorem dX11_pass_68 : decode cX11_pass 68 = .ok (.aload_n 0, 1) := by decide +kernel
theorem dX11_pass_69 : decode cX11_pass 69 = .ok (.getfield 7, 3) := by decide +kernel
theorem dX11_pass_72 : decode cX11_pass 72 = .ok (.sipush 128, 3) := by decide +kernel
theorem dX11_pass_75 : decode cX11_pass 75 = .ok (.bipush 9, 2) := by decide +kernel
theorem dX11_pass_77 : decode cX11_pass 77 = .ok (.iload_n 1, 1) := by decide +kernel
theorem dX11_pass_78 : decode cX11_pass 78 = .ok (.imul, 1) := by decide +kernel
theorem dX11_pass_79 : decode cX11_pass 79 = .ok (.iadd, 1) := by decide +kernel
theorem dX11_pass_80 : decode cX11_pass 80 = .ok (.iconst 0, 1) := by decide +kernel
theorem dX11_pass_81 : decode cX11_pass 81 = .ok (.iadd, 1) := by decide +kernel
theorem dX11_pass_82 : decode cX11_pass 82 = .ok (.dup2, 1) := by decide +kernel
theorem dX11_pass_83 : decode cX11_pass 83 = .ok (.iaload, 1) := by decide +kernel
theorem dX11_pass_84 : decode cX11_pass 84 = .ok (.aload_n 0, 1) := by decide +kernel
theorem dX11_pass_85 : decode cX11_pass 85 = .ok (.getfield 7, 3) := by decide +kernel
theorem dX11_pass_88 : decode cX11_pass 88 = .ok (.bipush 7, 2) := by decide +kernel
theorem dX11_pass_90 : decode cX11_pass 90 = .ok (.iaload, 1) := by decide +kernel
theorem dX11_pass_91 : decode cX11_pass 91 = .ok (.iadd, 1) := by decide +kernel
theorem dX11_pass_92 : decode cX11_pass 92 = .ok (.iastore, 1) := by decide +kernel
theorem dX11_pass_93 : decode cX11_pass 93 = .ok (.aload_n 0, 1) := by decide +kernel
theorem dX11_pass_94 : decode cX11_pass 94 = .ok (.getfield 7, 3) := by decide +kernel
theorem dX11_pass_97 : decode cX11_pass 97 = .ok (.sipush 128, 3) := by decide +kernel
theorem dX11_pass_100 : decode cX11_pass 100 = .ok (.bipush 9, 2) := by decide +kernel
theorem dX11_pass_102 : decode cX11_pass 102 = .ok (.iload_n 1, 1) := by decide +kernel
theorem dX11_pass_103 : decode cX11_pass 103 = .ok (.imul, 1) := by decide +kernel
theorem dX11_pass_104 : decode cX11_pass 104 = .ok (.iadd, 1) := by decide +kernel
theorem dX11_pass_105 : decode cX11_pass 105 = .ok (.bipush 8, 2) := by decide +kernel
theorem dX11_pass_107 : decode cX11_pass 107 = .ok (.iadd, 1) := by decide +kernel
theorem dX11_pass_108 : decode cX11_pass 108 = .ok (.dup2, 1) := by decide +kernel
theorem dX11_pass_109 : decode cX11_pass 109 = .ok (.iaload, 1) := by decide +kernel
theorem dX11_pass_110 : decode cX11_pass 110 = .ok (.aload_n 0, 1) := by decide +kernel
theorem dX11_pass_111 : decode cX11_pass 111 = .ok (.getfield 7, 3) := by decide +kernel
theorem dX11_pass_114 : decode cX11_pass 114 = .ok (.bipush 7, 2) := by decide +kernel
theorem dX11_pass_116 : decode cX11_pass 116 = .ok (.iaload, 1) := by decide +kernel
theorem dX11_pass_117 : decode cX11_pass 117 = .ok (.iadd, 1) := by decide +kernel
theorem dX11_pass_118 : decode cX11_pass 118 = .ok (.iastore, 1) := by decide +kernel
theorem dX11_pass_119 : decode cX11_pass 119 = .ok (.iload_n 2, 1) := by decide +kernel
theorem dX11_pass_120 : decode cX11_pass 120 = .ok (.ireturn, 1) := by decide +kernel
set_option maxRecDepth 20000 in
theorem ggX11_rides_X11_ofRider : GoodIn wsX11_rides wsX11_ofRider := goodIn_r _ [5, 6, 7, 8, 9, 10, 11, 12, 13, 14, 15, 16, 17, 18, 19, 20] (by decide +kernel) (by decide +kernel)
set_option maxRecDepth 20000 in
theorem gX11_rides_X11_ofRider : GoodIn wsX11_rides (wsV RX11 71 RX11 yX11_ofRider wsX11_ofRider) := goodIn_app (goodIn_of _ (by decide +kernel)) ggX11_rides_X11_ofRider
theorem dX11_rides_0 : decode cX11_rides 0 = .ok (.aload_n 0, 1) := by decide +kernel
theorem dX11_rides_1 : decode cX11_rides 1 = .ok (.iload_n 1, 1) := by decide +kernel
theorem dX11_rides_2 : decode cX11_rides 2 = .ok (.iconst 2, 1) := by decide +kernel
theorem dX11_rides_3 : decode cX11_rides 3 = .ok (.invokevirtual 71, 3) := by decide +kernel
theorem dX11_rides_6 : decode cX11_rides 6 = .ok (.ifCond .lt 7, 3) := by decide +kernel
theorem dX11_rides_9 : decode cX11_rides 9 = .ok (.iconst 1, 1) := by decide +kernel
theorem dX11_rides_10 : decode cX11_rides 10 = .ok (.goto 4, 3) := by decide +kernel
theorem dX11_rides_13 : decode cX11_rides 13 = .ok (.iconst 0, 1) := by decide +kernel
theorem dX11_rides_14 : decode cX11_rides 14 = .ok (.ireturn, 1) := by decide +kernel
set_option maxRecDepth 20000 in
theorem ggX11_rent_X11_isRider : GoodIn wsX11_rent wsX11_isRider := goodIn_r _ [6, 1, 38, 39, 40, 41, 42, 43, 44, 45, 46, 47, 48, 49, 50, 51] (by decide +kernel) (by decide +kernel)
set_option maxRecDepth 20000 in
theorem gX11_rent_X11_isRider : GoodIn wsX11_rent (wsV RX11 74 RX11 yX11_isRider wsX11_isRider) := goodIn_app (goodIn_of _ (by decide +kernel)) ggX11_rent_X11_isRider
set_option maxRecDepth 20000 in
theorem ggX11_rent_X11_isStation : GoodIn wsX11_rent wsX11_isStation := goodIn_r _ [10, 1, 38, 39, 40, 41, 42, 43, 44, 45, 46, 47, 48, 49, 50, 51] (by decide +kernel) (by decide +kernel)
set_option maxRecDepth 20000 in
theorem gX11_rent_X11_isStation : GoodIn wsX11_rent (wsV RX11 60 RX11 yX11_isStation wsX11_isStation) := goodIn_app (goodIn_of _ (by decide +kernel)) ggX11_rent_X11_isStation
set_option maxRecDepth 20000 in
theorem ggX11_rent_X11_ofBicycle : GoodIn wsX11_rent wsX11_ofBicycle := goodIn_r _ [14, 1, 38, 39, 40, 41, 42, 43, 44, 45, 46, 47, 48, 49, 50, 51] (by decide +kernel) (by decide +kernel)
set_option maxRecDepth 20000 in
theorem gX11_rent_X11_ofBicycle : GoodIn wsX11_rent (wsV RX11 36 RX11 yX11_ofBicycle wsX11_ofBicycle) := goodIn_app (goodIn_of _ (by decide +kernel)) ggX11_rent_X11_ofBicycle
set_option maxRecDepth 20000 in
theorem ggX11_rent_X11_rides : GoodIn wsX11_rent wsX11_rides := goodIn_r _ [18, 19, 20, 21, 5, 22, 1, 38, 39, 40, 41, 42, 43, 44, 45, 46, 47, 48, 49, 50, 51] (by decide +kernel) (by decide +kernel)
set_option maxRecDepth 20000 in
theorem gX11_rent_X11_rides : GoodIn wsX11_rent (wsV RX11 80 RX11 yX11_rides wsX11_rides) := goodIn_app (goodIn_of _ (by decide +kernel)) ggX11_rent_X11_rides
set_option maxRecDepth 20000 in
theorem ggX11_rent_X11_changes : GoodIn wsX11_rent wsX11_changes := goodIn_r _ [26, 27, 28, 29, 1, 38, 39, 40, 41, 42, 43, 44, 45, 46, 47, 48, 49, 50, 51] (by decide +kernel) (by decide +kernel)
set_option maxRecDepth 20000 in
theorem gX11_rent_X11_changes : GoodIn wsX11_rent (wsV RX11 57 RX11 yX11_changes wsX11_changes) := goodIn_app (goodIn_of _ (by decide +kernel)) ggX11_rent_X11_changes
set_option maxRecDepth 20000 in
theorem ggX11_rent_X11_puts : GoodIn wsX11_rent wsX11_puts := goodIn_r _ [33, 1, 38, 39, 40, 41, 42, 43, 44, 45, 46, 47, 48, 49, 50, 51] (by decide +kernel) (by decide +kernel)
set_option maxRecDepth 20000 in
theorem gX11_rent_X11_puts : GoodIn wsX11_rent (wsV RX11 67 RX11 yX11_puts wsX11_puts) := goodIn_app (goodIn_of _ (by decide +kernel)) ggX11_rent_X11_puts
set_option maxRecDepth 20000 in
theorem ggX11_rent_X11_hasPass : GoodIn wsX11_rent wsX11_hasPass := goodIn_r _ [37, 1, 19, 20, 21, 5, 22, 38, 39, 40, 41, 42, 43, 44, 45, 46, 47, 48, 49, 50, 51] (by decide +kernel) (by decide +kernel)
set_option maxRecDepth 20000 in
theorem gX11_rent_X11_hasPass : GoodIn wsX11_rent (wsV RX11 77 RX11 yX11_hasPass wsX11_hasPass) := goodIn_app (goodIn_of _ (by decide +kernel)) ggX11_rent_X11_hasPass
theorem dX11_rent_0 : decode cX11_rent 0 = .ok (.aload_n 0, 1) := by decide +kernel
theorem dX11_rent_1 : decode cX11_rent 1 = .ok (.iload_n 1, 1) := by decide +kernel
theorem dX11_rent_2 : decode cX11_rent 2 = .ok (.invokevirtual 74, 3) := by decide +kernel
theorem dX11_rent_5 : decode cX11_rent 5 = .ok (.ifCond .eq 11, 3) := by decide +kernel
theorem dX11_rent_8 : decode cX11_rent 8 = .ok (.aload_n 0, 1) := by decide +kernel
theorem dX11_rent_9 : decode cX11_rent 9 = .ok (.iload_n 2, 1) := by decide +kernel
theorem dX11_rent_10 : decode cX11_rent 10 = .ok (.invokevirtual 60, 3) := by decide +kernel
theorem dX11_rent_13 : decode cX11_rent 13 = .ok (.ifCond .ne 5, 3) := by decide +kernel
theorem dX11_rent_16 : decode cX11_rent 16 = .ok (.iconst (-1), 1) := by decide +kernel
theorem dX11_rent_17 : decode cX11_rent 17 = .ok (.ireturn, 1) := by decide +kernel
theorem dX11_rent_18 : decode cX11_rent 18 = .ok (.bipush (-4), 2) := by decide +kernel
theorem dX11_rent_20 : decode cX11_rent 20 = .ok (.istore_n 3, 1) := by decide +kernel
theorem dX11_rent_21 : decode cX11_rent 21 = .ok (.iconst 0, 1) := by decide +kernel
theorem dX11_rent_22 : decode cX11_rent 22 = .ok (.istore 4, 2) := by decide +kernel
theorem dX11_rent_24 : decode cX11_rent 24 = .ok (.iload 4, 2) := by decide +kernel
theorem dX11_rent_26 : decode cX11_rent 26 = .ok (.aload_n 0, 1) := by decide +kernel
theorem dX11_rent_27 : decode cX11_rent 27 = .ok (.getfield 7, 3) := by decide +kernel
theorem dX11_rent_30 : decode cX11_rent 30 = .ok (.iconst 1, 1) := by decide +kernel
theorem dX11_rent_31 : decode cX11_rent 31 = .ok (.iaload, 1) := by decide +kernel
theorem dX11_rent_32 : decode cX11_rent 32 = .ok (.if_icmp .ge 79, 3) := by decide +kernel
theorem dX11_rent_35 : decode cX11_rent 35 = .ok (.aload_n 0, 1) := by decide +kernel
theorem dX11_rent_36 : decode cX11_rent 36 = .ok (.iload 4, 2) := by decide +kernel
theorem dX11_rent_38 : decode cX11_rent 38 = .ok (.iconst 0, 1) := by decide +kernel
theorem dX11_rent_39 : decode cX11_rent 39 = .ok (.invokevirtual 36, 3) := by decide +kernel
theorem dX11_rent_42 : decode cX11_rent 42 = .ok (.ifCond .ne 28, 3) := by decide +kernel
theorem dX11_rent_45 : decode cX11_rent 45 = .ok (.aload_n 0, 1) := by decide +kernel
theorem dX11_rent_46 : decode cX11_rent 46 = .ok (.iload 4, 2) := by decide +kernel
theorem dX11_rent_48 : decode cX11_rent 48 = .ok (.iconst 1, 1) := by decide +kernel
theorem dX11_rent_49 : decode cX11_rent 49 = .ok (.invokevirtual 36, 3) := by decide +kernel
theorem dX11_rent_52 : decode cX11_rent 52 = .ok (.iload_n 2, 1) := by decide +kernel
theorem dX11_rent_53 : decode cX11_rent 53 = .ok (.if_icmp .ne 17, 3) := by decide +kernel
theorem dX11_rent_56 : decode cX11_rent 56 = .ok (.aload_n 0, 1) := by decide +kernel
theorem dX11_rent_57 : decode cX11_rent 57 = .ok (.iload 4, 2) := by decide +kernel
theorem dX11_rent_59 : decode cX11_rent 59 = .ok (.iconst 3, 1) := by decide +kernel
theorem dX11_rent_60 : decode cX11_rent 60 = .ok (.invokevirtual 36, 3) := by decide +kernel
theorem dX11_rent_63 : decode cX11_rent 63 = .ok (.ifCond .ne 7, 3) := by decide +kernel
theorem dX11_rent_66 : decode cX11_rent 66 = .ok (.iconst 1, 1) := by decide +kernel
theorem dX11_rent_67 : decode cX11_rent 67 = .ok (.goto 4, 3) := by decide +kernel
theorem dX11_rent_70 : decode cX11_rent 70 = .ok (.iconst 0, 1) := by decide +kernel
theorem dX11_rent_71 : decode cX11_rent 71 = .ok (.istore 5, 2) := by decide +kernel
theorem dX11_rent_73 : decode cX11_rent 73 = .ok (.iload 5, 2) := by decide +kernel
theorem dX11_rent_75 : decode cX11_rent 75 = .ok (.ifCond .eq 28, 3) := by decide +kernel
theorem dX11_rent_78 : decode cX11_rent 78 = .ok (.iload_n 3, 1) := by decide +kernel
theorem dX11_rent_79 : decode cX11_rent 79 = .ok (.ifCond .lt 19, 3) := by decide +kernel
theorem dX11_rent_82 : decode cX11_rent 82 = .ok (.aload_n 0, 1) := by decide +kernel
theorem dX11_rent_83 : decode cX11_rent 83 = .ok (.iload 4, 2) := by decide +kernel
theorem dX11_rent_85 : decode cX11_rent 85 = .ok (.iconst 2, 1) := by decide +kernel
theorem dX11_rent_86 : decode cX11_rent 86 = .ok (.invokevirtual 36, 3) := by decide +kernel
theorem dX11_rent_89 : decode cX11_rent 89 = .ok (.aload_n 0, 1) := by decide +kernel
theorem dX11_rent_90 : decode cX11_rent 90 = .ok (.iload_n 3, 1) := by decide +kernel
theorem dX11_rent_91 : decode cX11_rent 91 = .ok (.iconst 2, 1) := by decide +kernel
theorem dX11_rent_92 : decode cX11_rent 92 = .ok (.invokevirtual 36, 3) := by decide +kernel
theorem dX11_rent_95 : decode cX11_rent 95 = .ok (.if_icmp .ge 8, 3) := by decide +kernel
theorem dX11_rent_98 : decode cX11_rent 98 = .ok (.iload 4, 2) := by decide +kernel
theorem dX11_rent_100 : decode cX11_rent 100 = .ok (.goto 4, 3) := by decide +kernel
theorem dX11_rent_103 : decode cX11_rent 103 = .ok (.iload_n 3, 1) := by decide +kernel
theorem dX11_rent_104 : decode cX11_rent 104 = .ok (.istore_n 3, 1) := by decide +kernel
theorem dX11_rent_105 : decode cX11_rent 105 = .ok (.iinc 4 1, 3) := by decide +kernel
theorem dX11_rent_108 : decode cX11_rent 108 = .ok (.goto (-84), 3) := by decide +kernel
theorem dX11_rent_111 : decode cX11_rent 111 = .ok (.aload_n 0, 1) := by decide +kernel
theorem dX11_rent_112 : decode cX11_rent 112 = .ok (.iload_n 1, 1) := by decide +kernel
theorem dX11_rent_113 : decode cX11_rent 113 = .ok (.invokevirtual 80, 3) := by decide +kernel
theorem dX11_rent_116 : decode cX11_rent 116 = .ok (.ifCond .ne 7, 3) := by decide +kernel
theorem dX11_rent_119 : decode cX11_rent 119 = .ok (.iload_n 3, 1) := by decide +kernel
theorem dX11_rent_120 : decode cX11_rent 120 = .ok (.ifCond .ge 6, 3) := by decide +kernel
theorem dX11_rent_123 : decode cX11_rent 123 = .ok (.bipush (-2), 2) := by decide +kernel
theorem dX11_rent_125 : decode cX11_rent 125 = .ok (.ireturn, 1) := by decide +kernel
theorem dX11_rent_126 : decode cX11_rent 126 = .ok (.aload_n 0, 1) := by decide +kernel
theorem dX11_rent_127 : decode cX11_rent 127 = .ok (.invokevirtual 57, 3) := by decide +kernel
theorem dX11_rent_130 : decode cX11_rent 130 = .ok (.aload_n 0, 1) := by decide +kernel
theorem dX11_rent_131 : decode cX11_rent 131 = .ok (.iload_n 3, 1) := by decide +kernel
theorem dX11_rent_132 : decode cX11_rent 132 = .ok (.iconst 1, 1) := by decide +kernel
theorem dX11_rent_133 : decode cX11_rent 133 = .ok (.iload_n 1, 1) := by decide +kernel
theorem dX11_rent_134 : decode cX11_rent 134 = .ok (.invokevirtual 67, 3) := by decide +kernel
theorem dX11_rent_137 : decode cX11_rent 137 = .ok (.sipush 128, 3) := by decide +kernel
theorem dX11_rent_140 : decode cX11_rent 140 = .ok (.bipush 9, 2) := by decide +kernel
theorem dX11_rent_142 : decode cX11_rent 142 = .ok (.iload_n 1, 1) := by decide +kernel
theorem dX11_rent_143 : decode cX11_rent 143 = .ok (.imul, 1) := by decide +kernel
theorem dX11_rent_144 : decode cX11_rent 144 = .ok (.iadd, 1) := by decide +kernel
theorem dX11_rent_145 : decode cX11_rent 145 = .ok (.istore 4, 2) := by decide +kernel
theorem dX11_rent_147 : decode cX11_rent 147 = .ok (.aload_n 0, 1) := by decide +kernel
theorem dX11_rent_148 : decode cX11_rent 148 = .ok (.getfield 7, 3) := by decide +kernel
theorem dX11_rent_151 : decode cX11_rent 151 = .ok (.iload 4, 2) := by decide +kernel
theorem dX11_rent_153 : decode cX11_rent 153 = .ok (.iconst 2, 1) := by decide +kernel
theorem dX11_rent_154 : decode cX11_rent 154 = .ok (.iadd, 1) := by decide +kernel
theorem dX11_rent_155 : decode cX11_rent 155 = .ok (.iload_n 3, 1) := by decide +kernel
theorem dX11_rent_156 : decode cX11_rent 156 = .ok (.iastore, 1) := by decide +kernel
theorem dX11_rent_157 : decode cX11_rent 157 = .ok (.aload_n 0, 1) := by decide +kernel
theorem dX11_rent_158 : decode cX11_rent 158 = .ok (.getfield 7, 3) := by decide +kernel
theorem dX11_rent_161 : decode cX11_rent 161 = .ok (.iload 4, 2) := by decide +kernel
theorem dX11_rent_163 : decode cX11_rent 163 = .ok (.iconst 3, 1) := by decide +kernel
theorem dX11_rent_164 : decode cX11_rent 164 = .ok (.iadd, 1) := by decide +kernel
theorem dX11_rent_165 : decode cX11_rent 165 = .ok (.aload_n 0, 1) := by decide +kernel
theorem dX11_rent_166 : decode cX11_rent 166 = .ok (.getfield 7, 3) := by decide +kernel
theorem dX11_rent_169 : decode cX11_rent 169 = .ok (.iconst 4, 1) := by decide +kernel
theorem dX11_rent_170 : decode cX11_rent 170 = .ok (.iaload, 1) := by decide +kernel
theorem dX11_rent_171 : decode cX11_rent 171 = .ok (.iastore, 1) := by decide +kernel
theorem dX11_rent_172 : decode cX11_rent 172 = .ok (.aload_n 0, 1) := by decide +kernel
theorem dX11_rent_173 : decode cX11_rent 173 = .ok (.getfield 7, 3) := by decide +kernel
theorem dX11_rent_176 : decode cX11_rent 176 = .ok (.iload 4, 2) := by decide +kernel
theorem dX11_rent_178 : decode cX11_rent 178 = .ok (.iconst 5, 1) := by decide +kernel
theorem dX11_rent_179 : decode cX11_rent 179 = .ok (.iadd, 1) := by decide +kernel
theorem dX11_rent_180 : decode cX11_rent 180 = .ok (.aload_n 0, 1) := by decide +kernel
theorem dX11_rent_181 : decode cX11_rent 181 = .ok (.iload_n 1, 1) := by decide +kernel
theorem dX11_rent_182 : decode cX11_rent 182 = .ok (.invokevirtual 77, 3) := by decide +kernel
theorem dX11_rent_185 : decode cX11_rent 185 = .ok (.ifCond .eq 7, 3) := by decide +kernel
theorem dX11_rent_188 : decode cX11_rent 188 = .ok (.iconst 1, 1) := by decide +kernel
theorem dX11_rent_189 : decode cX11_rent 189 = .ok (.goto 4, 3) := by decide +kernel
theorem dX11_rent_192 : decode cX11_rent 192 = .ok (.iconst 0, 1) := by decide +kernel
theorem dX11_rent_193 : decode cX11_rent 193 = .ok (.iastore, 1) := by decide +kernel
theorem dX11_rent_194 : decode cX11_rent 194 = .ok (.aload_n 0, 1) := by decide +kernel
theorem dX11_rent_195 : decode cX11_rent 195 = .ok (.getfield 7, 3) := by decide +kernel
theorem dX11_rent_198 : decode cX11_rent 198 = .ok (.iload 4, 2) := by decide +kernel
theorem dX11_rent_200 : decode cX11_rent 200 = .ok (.iconst 4, 1) := by decide +kernel
theorem dX11_rent_201 : decode cX11_rent 201 = .ok (.iadd, 1) := by decide +kernel
theorem dX11_rent_202 : decode cX11_rent 202 = .ok (.aload_n 0, 1) := by decide +kernel
theorem dX11_rent_203 : decode cX11_rent 203 = .ok (.iload_n 1, 1) := by decide +kernel
theorem dX11_rent_204 : decode cX11_rent 204 = .ok (.invokevirtual 77, 3) := by decide +kernel
theorem dX11_rent_207 : decode cX11_rent 207 = .ok (.ifCond .eq 12, 3) := by decide +kernel
theorem dX11_rent_210 : decode cX11_rent 210 = .ok (.aload_n 0, 1) := by decide +kernel
theorem dX11_rent_211 : decode cX11_rent 211 = .ok (.getfield 7, 3) := by decide +kernel
theorem dX11_rent_214 : decode cX11_rent 214 = .ok (.iconst 5, 1) := by decide +kernel
theorem dX11_rent_215 : decode cX11_rent 215 = .ok (.iaload, 1) := by decide +kernel
theorem dX11_rent_216 : decode cX11_rent 216 = .ok (.goto 4, 3) := by decide +kernel
theorem dX11_rent_219 : decode cX11_rent 219 = .ok (.iconst 0, 1) := by decide +kernel
theorem dX11_rent_220 : decode cX11_rent 220 = .ok (.iastore, 1) := by decide +kernel
theorem dX11_rent_221 : decode cX11_rent 221 = .ok (.aload_n 0, 1) := by decide +kernel
theorem dX11_rent_222 : decode cX11_rent 222 = .ok (.getfield 7, 3) := by decide +kernel
theorem dX11_rent_225 : decode cX11_rent 225 = .ok (.iload 4, 2) := by decide +kernel
theorem dX11_rent_227 : decode cX11_rent 227 = .ok (.bipush 6, 2) := by decide +kernel
theorem dX11_rent_229 : decode cX11_rent 229 = .ok (.iadd, 1) := by decide +kernel
theorem dX11_rent_230 : decode cX11_rent 230 = .ok (.iconst 0, 1) := by decide +kernel
theorem dX11_rent_231 : decode cX11_rent 231 = .ok (.iastore, 1) := by decide +kernel
theorem dX11_rent_232 : decode cX11_rent 232 = .ok (.aload_n 0, 1) := by decide +kernel
theorem dX11_rent_233 : decode cX11_rent 233 = .ok (.getfield 7, 3) := by decide +kernel
theorem dX11_rent_236 : decode cX11_rent 236 = .ok (.bipush 8, 2) := by decide +kernel
theorem dX11_rent_238 : decode cX11_rent 238 = .ok (.iconst 4, 1) := by decide +kernel
theorem dX11_rent_239 : decode cX11_rent 239 = .ok (.iload_n 2, 1) := by decide +kernel
theorem dX11_rent_240 : decode cX11_rent 240 = .ok (.imul, 1) := by decide +kernel
theorem dX11_rent_241 : decode cX11_rent 241 = .ok (.iadd, 1) := by decide +kernel
theorem dX11_rent_242 : decode cX11_rent 242 = .ok (.iconst 2, 1) := by decide +kernel
theorem dX11_rent_243 : decode cX11_rent 243 = .ok (.iadd, 1) := by decide +kernel
theorem dX11_rent_244 : decode cX11_rent 244 = .ok (.dup2, 1) := by decide +kernel
theorem dX11_rent_245 : decode cX11_rent 245 = .ok (.iaload, 1) := by decide +kernel
theorem dX11_rent_246 : decode cX11_rent 246 = .ok (.iconst 1, 1) := by decide +kernel
theorem dX11_rent_247 : decode cX11_rent 247 = .ok (.iadd, 1) := by decide +kernel
theorem dX11_rent_248 : decode cX11_rent 248 = .ok (.iastore, 1) := by decide +kernel
theorem dX11_rent_249 : decode cX11_rent 249 = .ok (.iload_n 3, 1) := by decide +kernel
theorem dX11_rent_250 : decode cX11_rent 250 = .ok (.ireturn, 1) := by decide +kernel
set_option maxRecDepth 20000 in
theorem ggX11_fee_X11_ofRider : GoodIn wsX11_fee wsX11_ofRider := goodIn_r _ [6, 1, 7, 8, 9, 10, 11, 12, 13, 14, 15, 16, 17, 18, 19, 20] (by decide +kernel) (by decide +kernel)
set_option maxRecDepth 20000 in
theorem gX11_fee_X11_ofRider : GoodIn wsX11_fee (wsV RX11 71 RX11 yX11_ofRider wsX11_ofRider) := goodIn_app (goodIn_of _ (by decide +kernel)) ggX11_fee_X11_ofRider
theorem dX11_fee_0 : decode cX11_fee 0 = .ok (.aload_n 0, 1) := by decide +kernel
theorem dX11_fee_1 : decode cX11_fee 1 = .ok (.getfield 7, 3) := by decide +kernel
theorem dX11_fee_4 : decode cX11_fee 4 = .ok (.iconst 4, 1) := by decide +kernel
theorem dX11_fee_5 : decode cX11_fee 5 = .ok (.iaload, 1) := by decide +kernel
theorem dX11_fee_6 : decode cX11_fee 6 = .ok (.aload_n 0, 1) := by decide +kernel
theorem dX11_fee_7 : decode cX11_fee 7 = .ok (.iload_n 1, 1) := by decide +kernel
theorem dX11_fee_8 : decode cX11_fee 8 = .ok (.iconst 3, 1) := by decide +kernel
theorem dX11_fee_9 : decode cX11_fee 9 = .ok (.invokevirtual 71, 3) := by decide +kernel
theorem dX11_fee_12 : decode cX11_fee 12 = .ok (.isub, 1) := by decide +kernel
theorem dX11_fee_13 : decode cX11_fee 13 = .ok (.aload_n 0, 1) := by decide +kernel
theorem dX11_fee_14 : decode cX11_fee 14 = .ok (.iload_n 1, 1) := by decide +kernel
theorem dX11_fee_15 : decode cX11_fee 15 = .ok (.iconst 4, 1) := by decide +kernel
theorem dX11_fee_16 : decode cX11_fee 16 = .ok (.invokevirtual 71, 3) := by decide +kernel
theorem dX11_fee_19 : decode cX11_fee 19 = .ok (.isub, 1) := by decide +kernel
theorem dX11_fee_20 : decode cX11_fee 20 = .ok (.istore_n 2, 1) := by decide +kernel
theorem dX11_fee_21 : decode cX11_fee 21 = .ok (.iload_n 2, 1) := by decide +kernel
theorem dX11_fee_22 : decode cX11_fee 22 = .ok (.ifCond .le 11, 3) := by decide +kernel
theorem dX11_fee_25 : decode cX11_fee 25 = .ok (.iload_n 2, 1) := by decide +kernel
theorem dX11_fee_26 : decode cX11_fee 26 = .ok (.iconst 4, 1) := by decide +kernel
theorem dX11_fee_27 : decode cX11_fee 27 = .ok (.iadd, 1) := by decide +kernel
theorem dX11_fee_28 : decode cX11_fee 28 = .ok (.iconst 5, 1) := by decide +kernel
theorem dX11_fee_29 : decode cX11_fee 29 = .ok (.idiv, 1) := by decide +kernel
theorem dX11_fee_30 : decode cX11_fee 30 = .ok (.goto 4, 3) := by decide +kernel
theorem dX11_fee_33 : decode cX11_fee 33 = .ok (.iconst 0, 1) := by decide +kernel
theorem dX11_fee_34 : decode cX11_fee 34 = .ok (.iconst 1, 1) := by decide +kernel
theorem dX11_fee_35 : decode cX11_fee 35 = .ok (.iadd, 1) := by decide +kernel
theorem dX11_fee_36 : decode cX11_fee 36 = .ok (.aload_n 0, 1) := by decide +kernel
theorem dX11_fee_37 : decode cX11_fee 37 = .ok (.iload_n 1, 1) := by decide +kernel
theorem dX11_fee_38 : decode cX11_fee 38 = .ok (.iconst 5, 1) := by decide +kernel
theorem dX11_fee_39 : decode cX11_fee 39 = .ok (.invokevirtual 71, 3) := by decide +kernel
theorem dX11_fee_42 : decode cX11_fee 42 = .ok (.isub, 1) := by decide +kernel
theorem dX11_fee_43 : decode cX11_fee 43 = .ok (.ireturn, 1) := by decide +kernel
set_option maxRecDepth 20000 in
theorem ggX11_back_X11_isRider : GoodIn wsX11_back wsX11_isRider := goodIn_r _ [6, 1, 57, 58, 59, 60, 61, 62, 63, 64, 65, 66, 67, 68, 69, 70] (by decide +kernel) (by decide +kernel)
set_option maxRecDepth 20000 in
theorem gX11_back_X11_isRider : GoodIn wsX11_back (wsV RX11 74 RX11 yX11_isRider wsX11_isRider) := goodIn_app (goodIn_of _ (by decide +kernel)) ggX11_back_X11_isRider
set_option maxRecDepth 20000 in
theorem ggX11_back_X11_isStation : GoodIn wsX11_back wsX11_isStation := goodIn_r _ [10, 1, 57, 58, 59, 60, 61, 62, 63, 64, 65, 66, 67, 68, 69, 70] (by decide +kernel) (by decide +kernel)
set_option maxRecDepth 20000 in
theorem gX11_back_X11_isStation : GoodIn wsX11_back (wsV RX11 60 RX11 yX11_isStation wsX11_isStation) := goodIn_app (goodIn_of _ (by decide +kernel)) ggX11_back_X11_isStation
set_option maxRecDepth 20000 in
theorem ggX11_back_X11_rides : GoodIn wsX11_back wsX11_rides := goodIn_r _ [14, 15, 16, 17, 5, 18, 1, 57, 58, 59, 60, 61, 62, 63, 64, 65, 66, 67, 68, 69, 70] (by decide +kernel) (by decide +kernel)
set_option maxRecDepth 20000 in
theorem gX11_back_X11_rides : GoodIn wsX11_back (wsV RX11 80 RX11 yX11_rides wsX11_rides) := goodIn_app (goodIn_of _ (by decide +kernel)) ggX11_back_X11_rides
set_option maxRecDepth 20000 in
theorem ggX11_back_X11_isFree : GoodIn wsX11_back wsX11_isFree := goodIn_r _ [22, 23, 24, 25, 5, 26, 27, 28, 29, 30, 1, 31, 32, 33, 34, 35, 36, 37, 38, 39, 40, 41, 57, 58, 59, 60, 61, 62, 63, 64, 65, 66, 67, 68, 69, 70] (by decide +kernel) (by decide +kernel)
set_option maxRecDepth 20000 in
theorem gX11_back_X11_isFree : GoodIn wsX11_back (wsV RX11 64 RX11 yX11_isFree wsX11_isFree) := goodIn_app (goodIn_of _ (by decide +kernel)) ggX11_back_X11_isFree
set_option maxRecDepth 20000 in
theorem ggX11_back_X11_changes : GoodIn wsX11_back wsX11_changes := goodIn_r _ [45, 46, 47, 48, 1, 57, 58, 59, 60, 61, 62, 63, 64, 65, 66, 67, 68, 69, 70] (by decide +kernel) (by decide +kernel)
set_option maxRecDepth 20000 in
theorem gX11_back_X11_changes : GoodIn wsX11_back (wsV RX11 57 RX11 yX11_changes wsX11_changes) := goodIn_app (goodIn_of _ (by decide +kernel)) ggX11_back_X11_changes
set_option maxRecDepth 20000 in
theorem ggX11_back_X11_fee : GoodIn wsX11_back wsX11_fee := goodIn_r _ [52, 1, 15, 16, 17, 5, 18, 57, 58, 59, 60, 61, 62, 63, 64, 65, 66, 67, 68, 69, 70] (by decide +kernel) (by decide +kernel)
set_option maxRecDepth 20000 in
theorem gX11_back_X11_fee : GoodIn wsX11_back (wsV RX11 83 RX11 yX11_fee wsX11_fee) := goodIn_app (goodIn_of _ (by decide +kernel)) ggX11_back_X11_fee
set_option maxRecDepth 20000 in
theorem ggX11_back_X11_puts : GoodIn wsX11_back wsX11_puts := goodIn_r _ [56, 1, 57, 58, 59, 60, 61, 62, 63, 64, 65, 66, 67, 68, 69, 70] (by decide +kernel) (by decide +kernel)
set_option maxRecDepth 20000 in
theorem gX11_back_X11_puts : GoodIn wsX11_back (wsV RX11 67 RX11 yX11_puts wsX11_puts) := goodIn_app (goodIn_of _ (by decide +kernel)) ggX11_back_X11_puts
theorem dX11_back_0 : decode cX11_back 0 = .ok (.aload_n 0, 1) := by decide +kernel
theorem dX11_back_1 : decode cX11_back 1 = .ok (.iload_n 1, 1) := by decide +kernel
theorem dX11_back_2 : decode cX11_back 2 = .ok (.invokevirtual 74, 3) := by decide +kernel
theorem dX11_back_5 : decode cX11_back 5 = .ok (.ifCond .eq 11, 3) := by decide +kernel
theorem dX11_back_8 : decode cX11_back 8 = .ok (.aload_n 0, 1) := by decide +kernel
theorem dX11_back_9 : decode cX11_back 9 = .ok (.iload_n 2, 1) := by decide +kernel
theorem dX11_back_10 : decode cX11_back 10 = .ok (.invokevirtual 60, 3) := by decide +kernel
theorem dX11_back_13 : decode cX11_back 13 = .ok (.ifCond .ne 5, 3) := by decide +kernel
theorem dX11_back_16 : decode cX11_back 16 = .ok (.iconst (-1), 1) := by decide +kernel
theorem dX11_back_17 : decode cX11_back 17 = .ok (.ireturn, 1) := by decide +kernel
theorem dX11_back_18 : decode cX11_back 18 = .ok (.aload_n 0, 1) := by decide +kernel
theorem dX11_back_19 : decode cX11_back 19 = .ok (.iload_n 1, 1) := by decide +kernel
theorem dX11_back_20 : decode cX11_back 20 = .ok (.invokevirtual 80, 3) := by decide +kernel
theorem dX11_back_23 : decode cX11_back 23 = .ok (.ifCond .eq 11, 3) := by decide +kernel
theorem dX11_back_26 : decode cX11_back 26 = .ok (.aload_n 0, 1) := by decide +kernel
theorem dX11_back_27 : decode cX11_back 27 = .ok (.iload_n 2, 1) := by decide +kernel
theorem dX11_back_28 : decode cX11_back 28 = .ok (.invokevirtual 64, 3) := by decide +kernel
theorem dX11_back_31 : decode cX11_back 31 = .ok (.ifCond .ne 6, 3) := by decide +kernel
theorem dX11_back_34 : decode cX11_back 34 = .ok (.bipush (-2), 2) := by decide +kernel
theorem dX11_back_36 : decode cX11_back 36 = .ok (.ireturn, 1) := by decide +kernel
theorem dX11_back_37 : decode cX11_back 37 = .ok (.aload_n 0, 1) := by decide +kernel
theorem dX11_back_38 : decode cX11_back 38 = .ok (.invokevirtual 57, 3) := by decide +kernel
theorem dX11_back_41 : decode cX11_back 41 = .ok (.aload_n 0, 1) := by decide +kernel
theorem dX11_back_42 : decode cX11_back 42 = .ok (.iload_n 1, 1) := by decide +kernel
theorem dX11_back_43 : decode cX11_back 43 = .ok (.invokevirtual 83, 3) := by decide +kernel
theorem dX11_back_46 : decode cX11_back 46 = .ok (.istore_n 3, 1) := by decide +kernel
theorem dX11_back_47 : decode cX11_back 47 = .ok (.sipush 128, 3) := by decide +kernel
theorem dX11_back_50 : decode cX11_back 50 = .ok (.bipush 9, 2) := by decide +kernel
theorem dX11_back_52 : decode cX11_back 52 = .ok (.iload_n 1, 1) := by decide +kernel
theorem dX11_back_53 : decode cX11_back 53 = .ok (.imul, 1) := by decide +kernel
theorem dX11_back_54 : decode cX11_back 54 = .ok (.iadd, 1) := by decide +kernel
theorem dX11_back_55 : decode cX11_back 55 = .ok (.istore 4, 2) := by decide +kernel
theorem dX11_back_57 : decode cX11_back 57 = .ok (.aload_n 0, 1) := by decide +kernel
theorem dX11_back_58 : decode cX11_back 58 = .ok (.getfield 7, 3) := by decide +kernel
theorem dX11_back_61 : decode cX11_back 61 = .ok (.iload 4, 2) := by decide +kernel
theorem dX11_back_63 : decode cX11_back 63 = .ok (.iconst 2, 1) := by decide +kernel
theorem dX11_back_64 : decode cX11_back 64 = .ok (.iadd, 1) := by decide +kernel
theorem dX11_back_65 : decode cX11_back 65 = .ok (.iaload, 1) := by decide +kernel
theorem dX11_back_66 : decode cX11_back 66 = .ok (.istore 5, 2) := by decide +kernel
theorem dX11_back_68 : decode cX11_back 68 = .ok (.aload_n 0, 1) := by decide +kernel
theorem dX11_back_69 : decode cX11_back 69 = .ok (.iload 5, 2) := by decide +kernel
theorem dX11_back_71 : decode cX11_back 71 = .ok (.iconst 0, 1) := by decide +kernel
theorem dX11_back_72 : decode cX11_back 72 = .ok (.iload_n 2, 1) := by decide +kernel
theorem dX11_back_73 : decode cX11_back 73 = .ok (.invokevirtual 67, 3) := by decide +kernel
theorem dX11_back_76 : decode cX11_back 76 = .ok (.aload_n 0, 1) := by decide +kernel
theorem dX11_back_77 : decode cX11_back 77 = .ok (.getfield 7, 3) := by decide +kernel
theorem dX11_back_80 : decode cX11_back 80 = .ok (.bipush 32, 2) := by decide +kernel
theorem dX11_back_82 : decode cX11_back 82 = .ok (.bipush 6, 2) := by decide +kernel
theorem dX11_back_84 : decode cX11_back 84 = .ok (.iload 5, 2) := by decide +kernel
theorem dX11_back_86 : decode cX11_back 86 = .ok (.imul, 1) := by decide +kernel
theorem dX11_back_87 : decode cX11_back 87 = .ok (.iadd, 1) := by decide +kernel
theorem dX11_back_88 : decode cX11_back 88 = .ok (.iconst 2, 1) := by decide +kernel
theorem dX11_back_89 : decode cX11_back 89 = .ok (.iadd, 1) := by decide +kernel
theorem dX11_back_90 : decode cX11_back 90 = .ok (.dup2, 1) := by decide +kernel
theorem dX11_back_91 : decode cX11_back 91 = .ok (.iaload, 1) := by decide +kernel
theorem dX11_back_92 : decode cX11_back 92 = .ok (.aload_n 0, 1) := by decide +kernel
theorem dX11_back_93 : decode cX11_back 93 = .ok (.getfield 7, 3) := by decide +kernel
theorem dX11_back_96 : decode cX11_back 96 = .ok (.iconst 4, 1) := by decide +kernel
theorem dX11_back_97 : decode cX11_back 97 = .ok (.iaload, 1) := by decide +kernel
theorem dX11_back_98 : decode cX11_back 98 = .ok (.aload_n 0, 1) := by decide +kernel
theorem dX11_back_99 : decode cX11_back 99 = .ok (.getfield 7, 3) := by decide +kernel
theorem dX11_back_102 : decode cX11_back 102 = .ok (.iload 4, 2) := by decide +kernel
theorem dX11_back_104 : decode cX11_back 104 = .ok (.iconst 3, 1) := by decide +kernel
theorem dX11_back_105 : decode cX11_back 105 = .ok (.iadd, 1) := by decide +kernel
theorem dX11_back_106 : decode cX11_back 106 = .ok (.iaload, 1) := by decide +kernel
theorem dX11_back_107 : decode cX11_back 107 = .ok (.isub, 1) := by decide +kernel
theorem dX11_back_108 : decode cX11_back 108 = .ok (.iadd, 1) := by decide +kernel
theorem dX11_back_109 : decode cX11_back 109 = .ok (.iastore, 1) := by decide +kernel
theorem dX11_back_110 : decode cX11_back 110 = .ok (.aload_n 0, 1) := by decide +kernel
theorem dX11_back_111 : decode cX11_back 111 = .ok (.getfield 7, 3) := by decide +kernel
theorem dX11_back_114 : decode cX11_back 114 = .ok (.bipush 32, 2) := by decide +kernel
theorem dX11_back_116 : decode cX11_back 116 = .ok (.bipush 6, 2) := by decide +kernel
theorem dX11_back_118 : decode cX11_back 118 = .ok (.iload 5, 2) := by decide +kernel
theorem dX11_back_120 : decode cX11_back 120 = .ok (.imul, 1) := by decide +kernel
theorem dX11_back_121 : decode cX11_back 121 = .ok (.iadd, 1) := by decide +kernel
theorem dX11_back_122 : decode cX11_back 122 = .ok (.iconst 4, 1) := by decide +kernel
theorem dX11_back_123 : decode cX11_back 123 = .ok (.iadd, 1) := by decide +kernel
theorem dX11_back_124 : decode cX11_back 124 = .ok (.dup2, 1) := by decide +kernel
theorem dX11_back_125 : decode cX11_back 125 = .ok (.iaload, 1) := by decide +kernel
theorem dX11_back_126 : decode cX11_back 126 = .ok (.iconst 1, 1) := by decide +kernel
theorem dX11_back_127 : decode cX11_back 127 = .ok (.iadd, 1) := by decide +kernel
theorem dX11_back_128 : decode cX11_back 128 = .ok (.iastore, 1) := by decide +kernel
theorem dX11_back_129 : decode cX11_back 129 = .ok (.aload_n 0, 1) := by decide +kernel
theorem dX11_back_130 : decode cX11_back 130 = .ok (.getfield 7, 3) := by decide +kernel
theorem dX11_back_133 : decode cX11_back 133 = .ok (.iload 4, 2) := by decide +kernel
theorem dX11_back_135 : decode cX11_back 135 = .ok (.iconst 2, 1) := by decide +kernel
theorem dX11_back_136 : decode cX11_back 136 = .ok (.iadd, 1) := by decide +kernel
theorem dX11_back_137 : decode cX11_back 137 = .ok (.bipush (-4), 2) := by decide +kernel
theorem dX11_back_139 : decode cX11_back 139 = .ok (.iastore, 1) := by decide +kernel
theorem dX11_back_140 : decode cX11_back 140 = .ok (.aload_n 0, 1) := by decide +kernel
theorem dX11_back_141 : decode cX11_back 141 = .ok (.getfield 7, 3) := by decide +kernel
theorem dX11_back_144 : decode cX11_back 144 = .ok (.iload 4, 2) := by decide +kernel
theorem dX11_back_146 : decode cX11_back 146 = .ok (.iconst 0, 1) := by decide +kernel
theorem dX11_back_147 : decode cX11_back 147 = .ok (.iadd, 1) := by decide +kernel
theorem dX11_back_148 : decode cX11_back 148 = .ok (.dup2, 1) := by decide +kernel
theorem dX11_back_149 : decode cX11_back 149 = .ok (.iaload, 1) := by decide +kernel
theorem dX11_back_150 : decode cX11_back 150 = .ok (.iload_n 3, 1) := by decide +kernel
theorem dX11_back_151 : decode cX11_back 151 = .ok (.iadd, 1) := by decide +kernel
theorem dX11_back_152 : decode cX11_back 152 = .ok (.iastore, 1) := by decide +kernel
theorem dX11_back_153 : decode cX11_back 153 = .ok (.aload_n 0, 1) := by decide +kernel
theorem dX11_back_154 : decode cX11_back 154 = .ok (.getfield 7, 3) := by decide +kernel
theorem dX11_back_157 : decode cX11_back 157 = .ok (.iload 4, 2) := by decide +kernel
theorem dX11_back_159 : decode cX11_back 159 = .ok (.bipush 7, 2) := by decide +kernel
theorem dX11_back_161 : decode cX11_back 161 = .ok (.iadd, 1) := by decide +kernel
theorem dX11_back_162 : decode cX11_back 162 = .ok (.dup2, 1) := by decide +kernel
theorem dX11_back_163 : decode cX11_back 163 = .ok (.iaload, 1) := by decide +kernel
theorem dX11_back_164 : decode cX11_back 164 = .ok (.iconst 1, 1) := by decide +kernel
theorem dX11_back_165 : decode cX11_back 165 = .ok (.iadd, 1) := by decide +kernel
theorem dX11_back_166 : decode cX11_back 166 = .ok (.iastore, 1) := by decide +kernel
theorem dX11_back_167 : decode cX11_back 167 = .ok (.aload_n 0, 1) := by decide +kernel
theorem dX11_back_168 : decode cX11_back 168 = .ok (.getfield 7, 3) := by decide +kernel
theorem dX11_back_171 : decode cX11_back 171 = .ok (.bipush 8, 2) := by decide +kernel
theorem dX11_back_173 : decode cX11_back 173 = .ok (.iconst 4, 1) := by decide +kernel
theorem dX11_back_174 : decode cX11_back 174 = .ok (.iload_n 2, 1) := by decide +kernel
theorem dX11_back_175 : decode cX11_back 175 = .ok (.imul, 1) := by decide +kernel
theorem dX11_back_176 : decode cX11_back 176 = .ok (.iadd, 1) := by decide +kernel
theorem dX11_back_177 : decode cX11_back 177 = .ok (.iconst 3, 1) := by decide +kernel
theorem dX11_back_178 : decode cX11_back 178 = .ok (.iadd, 1) := by decide +kernel
theorem dX11_back_179 : decode cX11_back 179 = .ok (.dup2, 1) := by decide +kernel
theorem dX11_back_180 : decode cX11_back 180 = .ok (.iaload, 1) := by decide +kernel
theorem dX11_back_181 : decode cX11_back 181 = .ok (.iconst 1, 1) := by decide +kernel
theorem dX11_back_182 : decode cX11_back 182 = .ok (.iadd, 1) := by decide +kernel
theorem dX11_back_183 : decode cX11_back 183 = .ok (.iastore, 1) := by decide +kernel
theorem dX11_back_184 : decode cX11_back 184 = .ok (.iload_n 3, 1) := by decide +kernel
theorem dX11_back_185 : decode cX11_back 185 = .ok (.ireturn, 1) := by decide +kernel
set_option maxRecDepth 20000 in
theorem ggX11_full_X11_isRider : GoodIn wsX11_full wsX11_isRider := goodIn_r _ [6, 1, 49, 50, 51, 52, 53, 54, 55, 56, 57, 58, 59, 60, 61, 62] (by decide +kernel) (by decide +kernel)
set_option maxRecDepth 20000 in
theorem gX11_full_X11_isRider : GoodIn wsX11_full (wsV RX11 74 RX11 yX11_isRider wsX11_isRider) := goodIn_app (goodIn_of _ (by decide +kernel)) ggX11_full_X11_isRider
set_option maxRecDepth 20000 in
theorem ggX11_full_X11_isStation : GoodIn wsX11_full wsX11_isStation := goodIn_r _ [10, 1, 49, 50, 51, 52, 53, 54, 55, 56, 57, 58, 59, 60, 61, 62] (by decide +kernel) (by decide +kernel)
set_option maxRecDepth 20000 in
theorem gX11_full_X11_isStation : GoodIn wsX11_full (wsV RX11 60 RX11 yX11_isStation wsX11_isStation) := goodIn_app (goodIn_of _ (by decide +kernel)) ggX11_full_X11_isStation
set_option maxRecDepth 20000 in
theorem ggX11_full_X11_rides : GoodIn wsX11_full wsX11_rides := goodIn_r _ [14, 15, 16, 17, 5, 18, 1, 49, 50, 51, 52, 53, 54, 55, 56, 57, 58, 59, 60, 61, 62] (by decide +kernel) (by decide +kernel)
set_option maxRecDepth 20000 in
theorem gX11_full_X11_rides : GoodIn wsX11_full (wsV RX11 80 RX11 yX11_rides wsX11_rides) := goodIn_app (goodIn_of _ (by decide +kernel)) ggX11_full_X11_rides
set_option maxRecDepth 20000 in
theorem ggX11_full_X11_isFree : GoodIn wsX11_full wsX11_isFree := goodIn_r _ [22, 23, 24, 25, 5, 26, 27, 28, 29, 30, 1, 31, 32, 33, 34, 35, 36, 37, 38, 39, 40, 41, 49, 50, 51, 52, 53, 54, 55, 56, 57, 58, 59, 60, 61, 62] (by decide +kernel) (by decide +kernel)
set_option maxRecDepth 20000 in
theorem gX11_full_X11_isFree : GoodIn wsX11_full (wsV RX11 64 RX11 yX11_isFree wsX11_isFree) := goodIn_app (goodIn_of _ (by decide +kernel)) ggX11_full_X11_isFree
set_option maxRecDepth 20000 in
theorem ggX11_full_X11_changes : GoodIn wsX11_full wsX11_changes := goodIn_r _ [45, 46, 47, 48, 1, 49, 50, 51, 52, 53, 54, 55, 56, 57, 58, 59, 60, 61, 62] (by decide +kernel) (by decide +kernel)
set_option maxRecDepth 20000 in
theorem gX11_full_X11_changes : GoodIn wsX11_full (wsV RX11 57 RX11 yX11_changes wsX11_changes) := goodIn_app (goodIn_of _ (by decide +kernel)) ggX11_full_X11_changes
theorem dX11_full_0 : decode cX11_full 0 = .ok (.aload_n 0, 1) := by decide +kernel
theorem dX11_full_1 : decode cX11_full 1 = .ok (.iload_n 1, 1) := by decide +kernel
theorem dX11_full_2 : decode cX11_full 2 = .ok (.invokevirtual 74, 3) := by decide +kernel
theorem dX11_full_5 : decode cX11_full 5 = .ok (.ifCond .eq 11, 3) := by decide +kernel
theorem dX11_full_8 : decode cX11_full 8 = .ok (.aload_n 0, 1) := by decide +kernel
theorem dX11_full_9 : decode cX11_full 9 = .ok (.iload_n 2, 1) := by decide +kernel
theorem dX11_full_10 : decode cX11_full 10 = .ok (.invokevirtual 60, 3) := by decide +kernel
theorem dX11_full_13 : decode cX11_full 13 = .ok (.ifCond .ne 5, 3) := by decide +kernel
theorem dX11_full_16 : decode cX11_full 16 = .ok (.iconst (-1), 1) := by decide +kernel
theorem dX11_full_17 : decode cX11_full 17 = .ok (.ireturn, 1) := by decide +kernel
theorem dX11_full_18 : decode cX11_full 18 = .ok (.sipush 128, 3) := by decide +kernel
theorem dX11_full_21 : decode cX11_full 21 = .ok (.bipush 9, 2) := by decide +kernel
theorem dX11_full_23 : decode cX11_full 23 = .ok (.iload_n 1, 1) := by decide +kernel
theorem dX11_full_24 : decode cX11_full 24 = .ok (.imul, 1) := by decide +kernel
theorem dX11_full_25 : decode cX11_full 25 = .ok (.iadd, 1) := by decide +kernel
theorem dX11_full_26 : decode cX11_full 26 = .ok (.istore_n 3, 1) := by decide +kernel
theorem dX11_full_27 : decode cX11_full 27 = .ok (.aload_n 0, 1) := by decide +kernel
theorem dX11_full_28 : decode cX11_full 28 = .ok (.iload_n 1, 1) := by decide +kernel
theorem dX11_full_29 : decode cX11_full 29 = .ok (.invokevirtual 80, 3) := by decide +kernel
theorem dX11_full_32 : decode cX11_full 32 = .ok (.ifCond .eq 28, 3) := by decide +kernel
theorem dX11_full_35 : decode cX11_full 35 = .ok (.aload_n 0, 1) := by decide +kernel
theorem dX11_full_36 : decode cX11_full 36 = .ok (.iload_n 2, 1) := by decide +kernel
theorem dX11_full_37 : decode cX11_full 37 = .ok (.invokevirtual 64, 3) := by decide +kernel
theorem dX11_full_40 : decode cX11_full 40 = .ok (.ifCond .ne 20, 3) := by decide +kernel
theorem dX11_full_43 : decode cX11_full 43 = .ok (.aload_n 0, 1) := by decide +kernel
theorem dX11_full_44 : decode cX11_full 44 = .ok (.getfield 7, 3) := by decide +kernel
theorem dX11_full_47 : decode cX11_full 47 = .ok (.iload_n 3, 1) := by decide +kernel
theorem dX11_full_48 : decode cX11_full 48 = .ok (.bipush 6, 2) := by decide +kernel
theorem dX11_full_50 : decode cX11_full 50 = .ok (.iadd, 1) := by decide +kernel
theorem dX11_full_51 : decode cX11_full 51 = .ok (.iaload, 1) := by decide +kernel
theorem dX11_full_52 : decode cX11_full 52 = .ok (.iload_n 2, 1) := by decide +kernel
theorem dX11_full_53 : decode cX11_full 53 = .ok (.ishr, 1) := by decide +kernel
theorem dX11_full_54 : decode cX11_full 54 = .ok (.iconst 1, 1) := by decide +kernel
theorem dX11_full_55 : decode cX11_full 55 = .ok (.iand, 1) := by decide +kernel
theorem dX11_full_56 : decode cX11_full 56 = .ok (.iconst 1, 1) := by decide +kernel
theorem dX11_full_57 : decode cX11_full 57 = .ok (.if_icmp .ne 6, 3) := by decide +kernel
theorem dX11_full_60 : decode cX11_full 60 = .ok (.bipush (-2), 2) := by decide +kernel
theorem dX11_full_62 : decode cX11_full 62 = .ok (.ireturn, 1) := by decide +kernel
theorem dX11_full_63 : decode cX11_full 63 = .ok (.aload_n 0, 1) := by decide +kernel
theorem dX11_full_64 : decode cX11_full 64 = .ok (.invokevirtual 57, 3) := by decide +kernel
theorem dX11_full_67 : decode cX11_full 67 = .ok (.aload_n 0, 1) := by decide +kernel
theorem dX11_full_68 : decode cX11_full 68 = .ok (.getfield 7, 3) := by decide +kernel
theorem dX11_full_71 : decode cX11_full 71 = .ok (.iload_n 3, 1) := by decide +kernel
theorem dX11_full_72 : decode cX11_full 72 = .ok (.bipush 6, 2) := by decide +kernel
theorem dX11_full_74 : decode cX11_full 74 = .ok (.iadd, 1) := by decide +kernel
theorem dX11_full_75 : decode cX11_full 75 = .ok (.dup2, 1) := by decide +kernel
theorem dX11_full_76 : decode cX11_full 76 = .ok (.iaload, 1) := by decide +kernel
theorem dX11_full_77 : decode cX11_full 77 = .ok (.iconst 1, 1) := by decide +kernel
theorem dX11_full_78 : decode cX11_full 78 = .ok (.iload_n 2, 1) := by decide +kernel
theorem dX11_full_79 : decode cX11_full 79 = .ok (.ishl, 1) := by decide +kernel
theorem dX11_full_80 : decode cX11_full 80 = .ok (.ior, 1) := by decide +kernel
theorem dX11_full_81 : decode cX11_full 81 = .ok (.iastore, 1) := by decide +kernel
theorem dX11_full_82 : decode cX11_full 82 = .ok (.aload_n 0, 1) := by decide +kernel
theorem dX11_full_83 : decode cX11_full 83 = .ok (.getfield 7, 3) := by decide +kernel
theorem dX11_full_86 : decode cX11_full 86 = .ok (.iload_n 3, 1) := by decide +kernel
theorem dX11_full_87 : decode cX11_full 87 = .ok (.iconst 4, 1) := by decide +kernel
theorem dX11_full_88 : decode cX11_full 88 = .ok (.iadd, 1) := by decide +kernel
theorem dX11_full_89 : decode cX11_full 89 = .ok (.dup2, 1) := by decide +kernel
theorem dX11_full_90 : decode cX11_full 90 = .ok (.iaload, 1) := by decide +kernel
theorem dX11_full_91 : decode cX11_full 91 = .ok (.bipush 15, 2) := by decide +kernel
theorem dX11_full_93 : decode cX11_full 93 = .ok (.iadd, 1) := by decide +kernel
theorem dX11_full_94 : decode cX11_full 94 = .ok (.iastore, 1) := by decide +kernel
theorem dX11_full_95 : decode cX11_full 95 = .ok (.aload_n 0, 1) := by decide +kernel
theorem dX11_full_96 : decode cX11_full 96 = .ok (.getfield 7, 3) := by decide +kernel
theorem dX11_full_99 : decode cX11_full 99 = .ok (.iload_n 3, 1) := by decide +kernel
theorem dX11_full_100 : decode cX11_full 100 = .ok (.iconst 4, 1) := by decide +kernel
theorem dX11_full_101 : decode cX11_full 101 = .ok (.iadd, 1) := by decide +kernel
theorem dX11_full_102 : decode cX11_full 102 = .ok (.iaload, 1) := by decide +kernel
theorem dX11_full_103 : decode cX11_full 103 = .ok (.ireturn, 1) := by decide +kernel
set_option maxRecDepth 20000 in
theorem ggX11_faulty_X11_ofBicycle : GoodIn wsX11_faulty wsX11_ofBicycle := goodIn_r _ [6, 1, 7, 8, 9, 10, 11, 12, 13, 14, 15, 16, 17, 18, 19, 20] (by decide +kernel) (by decide +kernel)
set_option maxRecDepth 20000 in
theorem gX11_faulty_X11_ofBicycle : GoodIn wsX11_faulty (wsV RX11 36 RX11 yX11_ofBicycle wsX11_ofBicycle) := goodIn_app (goodIn_of _ (by decide +kernel)) ggX11_faulty_X11_ofBicycle
theorem dX11_faulty_0 : decode cX11_faulty 0 = .ok (.iconst 0, 1) := by decide +kernel
theorem dX11_faulty_1 : decode cX11_faulty 1 = .ok (.istore_n 1, 1) := by decide +kernel
theorem dX11_faulty_2 : decode cX11_faulty 2 = .ok (.iconst 0, 1) := by decide +kernel
theorem dX11_faulty_3 : decode cX11_faulty 3 = .ok (.istore_n 2, 1) := by decide +kernel
theorem dX11_faulty_4 : decode cX11_faulty 4 = .ok (.iload_n 2, 1) := by decide +kernel
theorem dX11_faulty_5 : decode cX11_faulty 5 = .ok (.aload_n 0, 1) := by decide +kernel
theorem dX11_faulty_6 : decode cX11_faulty 6 = .ok (.getfield 7, 3) := by decide +kernel
theorem dX11_faulty_9 : decode cX11_faulty 9 = .ok (.iconst 1, 1) := by decide +kernel
theorem dX11_faulty_10 : decode cX11_faulty 10 = .ok (.iaload, 1) := by decide +kernel
theorem dX11_faulty_11 : decode cX11_faulty 11 = .ok (.if_icmp .ge 18, 3) := by decide +kernel
theorem dX11_faulty_14 : decode cX11_faulty 14 = .ok (.iload_n 1, 1) := by decide +kernel
theorem dX11_faulty_15 : decode cX11_faulty 15 = .ok (.aload_n 0, 1) := by decide +kernel
theorem dX11_faulty_16 : decode cX11_faulty 16 = .ok (.iload_n 2, 1) := by decide +kernel
theorem dX11_faulty_17 : decode cX11_faulty 17 = .ok (.iconst 3, 1) := by decide +kernel
theorem dX11_faulty_18 : decode cX11_faulty 18 = .ok (.invokevirtual 36, 3) := by decide +kernel
theorem dX11_faulty_21 : decode cX11_faulty 21 = .ok (.iadd, 1) := by decide +kernel
theorem dX11_faulty_22 : decode cX11_faulty 22 = .ok (.istore_n 1, 1) := by decide +kernel
theorem dX11_faulty_23 : decode cX11_faulty 23 = .ok (.iinc 2 1, 3) := by decide +kernel
theorem dX11_faulty_26 : decode cX11_faulty 26 = .ok (.goto (-22), 3) := by decide +kernel
theorem dX11_faulty_29 : decode cX11_faulty 29 = .ok (.iload_n 1, 1) := by decide +kernel
theorem dX11_faulty_30 : decode cX11_faulty 30 = .ok (.ireturn, 1) := by decide +kernel
set_option maxRecDepth 20000 in
theorem ggX11_report_X11_isBicycle : GoodIn wsX11_report wsX11_isBicycle := goodIn_r _ [6, 1, 22, 23, 24, 25, 26, 27, 28, 29, 30, 31, 32, 33, 34, 35] (by decide +kernel) (by decide +kernel)
set_option maxRecDepth 20000 in
theorem gX11_report_X11_isBicycle : GoodIn wsX11_report (wsV RX11 86 RX11 yX11_isBicycle wsX11_isBicycle) := goodIn_app (goodIn_of _ (by decide +kernel)) ggX11_report_X11_isBicycle
set_option maxRecDepth 20000 in
theorem ggX11_report_X11_ofBicycle : GoodIn wsX11_report wsX11_ofBicycle := goodIn_r _ [10, 1, 22, 23, 24, 25, 26, 27, 28, 29, 30, 31, 32, 33, 34, 35] (by decide +kernel) (by decide +kernel)
set_option maxRecDepth 20000 in
theorem gX11_report_X11_ofBicycle : GoodIn wsX11_report (wsV RX11 36 RX11 yX11_ofBicycle wsX11_ofBicycle) := goodIn_app (goodIn_of _ (by decide +kernel)) ggX11_report_X11_ofBicycle
set_option maxRecDepth 20000 in
theorem ggX11_report_X11_changes : GoodIn wsX11_report wsX11_changes := goodIn_r _ [14, 15, 16, 17, 1, 22, 23, 24, 25, 26, 27, 28, 29, 30, 31, 32, 33, 34, 35] (by decide +kernel) (by decide +kernel)
set_option maxRecDepth 20000 in
theorem gX11_report_X11_changes : GoodIn wsX11_report (wsV RX11 57 RX11 yX11_changes wsX11_changes) := goodIn_app (goodIn_of _ (by decide +kernel)) ggX11_report_X11_changes
set_option maxRecDepth 20000 in
theorem ggX11_report_X11_faulty : GoodIn wsX11_report wsX11_faulty := goodIn_r _ [21, 1, 7, 8, 9, 5, 10, 22, 23, 24, 25, 26, 27, 28, 29, 30, 31, 32, 33, 34, 35] (by decide +kernel) (by decide +kernel)
set_option maxRecDepth 20000 in
theorem gX11_report_X11_faulty : GoodIn wsX11_report (wsV RX11 89 RX11 yX11_faulty wsX11_faulty) := goodIn_app (goodIn_of _ (by decide +kernel)) ggX11_report_X11_faulty
theorem dX11_report_0 : decode cX11_report 0 = .ok (.aload_n 0, 1) := by decide +kernel
theorem dX11_report_1 : decode cX11_report 1 = .ok (.iload_n 1, 1) := by decide +kernel
theorem dX11_report_2 : decode cX11_report 2 = .ok (.invokevirtual 86, 3) := by decide +kernel
theorem dX11_report_5 : decode cX11_report 5 = .ok (.ifCond .ne 5, 3) := by decide +kernel
theorem dX11_report_8 : decode cX11_report 8 = .ok (.iconst (-1), 1) := by decide +kernel
theorem dX11_report_9 : decode cX11_report 9 = .ok (.ireturn, 1) := by decide +kernel
theorem dX11_report_10 : decode cX11_report 10 = .ok (.aload_n 0, 1) := by decide +kernel
theorem dX11_report_11 : decode cX11_report 11 = .ok (.iload_n 1, 1) := by decide +kernel
theorem dX11_report_12 : decode cX11_report 12 = .ok (.iconst 0, 1) := by decide +kernel
theorem dX11_report_13 : decode cX11_report 13 = .ok (.invokevirtual 36, 3) := by decide +kernel
theorem dX11_report_16 : decode cX11_report 16 = .ok (.iconst 1, 1) := by decide +kernel
theorem dX11_report_17 : decode cX11_report 17 = .ok (.if_icmp .gt 13, 3) := by decide +kernel
theorem dX11_report_20 : decode cX11_report 20 = .ok (.aload_n 0, 1) := by decide +kernel
theorem dX11_report_21 : decode cX11_report 21 = .ok (.iload_n 1, 1) := by decide +kernel
theorem dX11_report_22 : decode cX11_report 22 = .ok (.iconst 3, 1) := by decide +kernel
theorem dX11_report_23 : decode cX11_report 23 = .ok (.invokevirtual 36, 3) := by decide +kernel
theorem dX11_report_26 : decode cX11_report 26 = .ok (.iconst 1, 1) := by decide +kernel
theorem dX11_report_27 : decode cX11_report 27 = .ok (.if_icmp .ne 6, 3) := by decide +kernel
theorem dX11_report_30 : decode cX11_report 30 = .ok (.bipush (-2), 2) := by decide +kernel
theorem dX11_report_32 : decode cX11_report 32 = .ok (.ireturn, 1) := by decide +kernel
theorem dX11_report_33 : decode cX11_report 33 = .ok (.aload_n 0, 1) := by decide +kernel
theorem dX11_report_34 : decode cX11_report 34 = .ok (.invokevirtual 57, 3) := by decide +kernel
theorem dX11_report_37 : decode cX11_report 37 = .ok (.aload_n 0, 1) := by decide +kernel
theorem dX11_report_38 : decode cX11_report 38 = .ok (.getfield 7, 3) := by decide +kernel
theorem dX11_report_41 : decode cX11_report 41 = .ok (.bipush 32, 2) := by decide +kernel
theorem dX11_report_43 : decode cX11_report 43 = .ok (.bipush 6, 2) := by decide +kernel
theorem dX11_report_45 : decode cX11_report 45 = .ok (.iload_n 1, 1) := by decide +kernel
theorem dX11_report_46 : decode cX11_report 46 = .ok (.imul, 1) := by decide +kernel
theorem dX11_report_47 : decode cX11_report 47 = .ok (.iadd, 1) := by decide +kernel
theorem dX11_report_48 : decode cX11_report 48 = .ok (.iconst 3, 1) := by decide +kernel
theorem dX11_report_49 : decode cX11_report 49 = .ok (.iadd, 1) := by decide +kernel
theorem dX11_report_50 : decode cX11_report 50 = .ok (.iconst 1, 1) := by decide +kernel
theorem dX11_report_51 : decode cX11_report 51 = .ok (.iastore, 1) := by decide +kernel
theorem dX11_report_52 : decode cX11_report 52 = .ok (.aload_n 0, 1) := by decide +kernel
theorem dX11_report_53 : decode cX11_report 53 = .ok (.invokevirtual 89, 3) := by decide +kernel
theorem dX11_report_56 : decode cX11_report 56 = .ok (.ireturn, 1) := by decide +kernel
set_option maxRecDepth 20000 in
theorem ggX11_isUnderWay_X11_ofVan : GoodIn wsX11_isUnderWay wsX11_ofVan := goodIn_r _ [6, 1, 7, 8, 9, 10, 11, 12, 13, 14, 15, 16, 17, 18, 19, 20] (by decide +kernel) (by decide +kernel)
set_option maxRecDepth 20000 in
theorem gX11_isUnderWay_X11_ofVan : GoodIn wsX11_isUnderWay (wsV RX11 93 RX11 yX11_ofVan wsX11_ofVan) := goodIn_app (goodIn_of _ (by decide +kernel)) ggX11_isUnderWay_X11_ofVan
theorem dX11_isUnderWay_0 : decode cX11_isUnderWay 0 = .ok (.aload_n 0, 1) := by decide +kernel
theorem dX11_isUnderWay_1 : decode cX11_isUnderWay 1 = .ok (.iload_n 1, 1) := by decide +kernel
theorem dX11_isUnderWay_2 : decode cX11_isUnderWay 2 = .ok (.iconst 2, 1) := by decide +kernel
theorem dX11_isUnderWay_3 : decode cX11_isUnderWay 3 = .ok (.invokevirtual 93, 3) := by decide +kernel
theorem dX11_isUnderWay_6 : decode cX11_isUnderWay 6 = .ok (.aload_n 0, 1) := by decide +kernel
theorem dX11_isUnderWay_7 : decode cX11_isUnderWay 7 = .ok (.getfield 7, 3) := by decide +kernel
theorem dX11_isUnderWay_10 : decode cX11_isUnderWay 10 = .ok (.iconst 4, 1) := by decide +kernel
theorem dX11_isUnderWay_11 : decode cX11_isUnderWay 11 = .ok (.iaload, 1) := by decide +kernel
theorem dX11_isUnderWay_12 : decode cX11_isUnderWay 12 = .ok (.if_icmp .le 7, 3) := by decide +kernel
theorem dX11_isUnderWay_15 : decode cX11_isUnderWay 15 = .ok (.iconst 1, 1) := by decide +kernel
theorem dX11_isUnderWay_16 : decode cX11_isUnderWay 16 = .ok (.goto 4, 3) := by decide +kernel
theorem dX11_isUnderWay_19 : decode cX11_isUnderWay 19 = .ok (.iconst 0, 1) := by decide +kernel
theorem dX11_isUnderWay_20 : decode cX11_isUnderWay 20 = .ok (.ireturn, 1) := by decide +kernel
set_option maxRecDepth 20000 in
theorem ggX11_isAt_X11_ofBicycle : GoodIn wsX11_isAt wsX11_ofBicycle := goodIn_r _ [5, 6, 7, 8, 9, 10, 11, 12, 13, 14, 15, 16, 17, 18, 19, 20] (by decide +kernel) (by decide +kernel)
set_option maxRecDepth 20000 in
theorem gX11_isAt_X11_ofBicycle : GoodIn wsX11_isAt (wsV RX11 36 RX11 yX11_ofBicycle wsX11_ofBicycle) := goodIn_app (goodIn_of _ (by decide +kernel)) ggX11_isAt_X11_ofBicycle
theorem dX11_isAt_0 : decode cX11_isAt 0 = .ok (.aload_n 0, 1) := by decide +kernel
theorem dX11_isAt_1 : decode cX11_isAt 1 = .ok (.iload_n 1, 1) := by decide +kernel
theorem dX11_isAt_2 : decode cX11_isAt 2 = .ok (.iconst 0, 1) := by decide +kernel
theorem dX11_isAt_3 : decode cX11_isAt 3 = .ok (.invokevirtual 36, 3) := by decide +kernel
theorem dX11_isAt_6 : decode cX11_isAt 6 = .ok (.iload_n 2, 1) := by decide +kernel
theorem dX11_isAt_7 : decode cX11_isAt 7 = .ok (.if_icmp .ne 17, 3) := by decide +kernel
theorem dX11_isAt_10 : decode cX11_isAt 10 = .ok (.aload_n 0, 1) := by decide +kernel
theorem dX11_isAt_11 : decode cX11_isAt 11 = .ok (.iload_n 1, 1) := by decide +kernel
theorem dX11_isAt_12 : decode cX11_isAt 12 = .ok (.iconst 1, 1) := by decide +kernel
theorem dX11_isAt_13 : decode cX11_isAt 13 = .ok (.invokevirtual 36, 3) := by decide +kernel
theorem dX11_isAt_16 : decode cX11_isAt 16 = .ok (.iload_n 3, 1) := by decide +kernel
theorem dX11_isAt_17 : decode cX11_isAt 17 = .ok (.if_icmp .ne 7, 3) := by decide +kernel
theorem dX11_isAt_20 : decode cX11_isAt 20 = .ok (.iconst 1, 1) := by decide +kernel
theorem dX11_isAt_21 : decode cX11_isAt 21 = .ok (.goto 4, 3) := by decide +kernel
theorem dX11_isAt_24 : decode cX11_isAt 24 = .ok (.iconst 0, 1) := by decide +kernel
theorem dX11_isAt_25 : decode cX11_isAt 25 = .ok (.ireturn, 1) := by decide +kernel
set_option maxRecDepth 20000 in
theorem ggX11_carried_X11_those : GoodIn wsX11_carried wsX11_those := goodIn_r _ [5, 6, 7, 8, 9, 4, 10, 14, 15, 16, 17, 18, 19, 20, 21, 22, 23, 24, 25, 26, 27] (by decide +kernel) (by decide +kernel)
set_option maxRecDepth 20000 in
theorem gX11_carried_X11_those : GoodIn wsX11_carried (wsV RX11 40 RX11 yX11_those wsX11_those) := goodIn_app (goodIn_of _ (by decide +kernel)) ggX11_carried_X11_those
set_option maxRecDepth 20000 in
theorem ggX11_carried_X11_ones : GoodIn wsX11_carried wsX11_ones := goodIn_r _ [13] (by decide +kernel) (by decide +kernel)
set_option maxRecDepth 20000 in
theorem gX11_carried_X11_ones : GoodIn wsX11_carried (va_wsS RX11 43 yX11_ones wsX11_ones) := goodIn_app (goodIn_of _ (by decide +kernel)) ggX11_carried_X11_ones
theorem dX11_carried_0 : decode cX11_carried 0 = .ok (.aload_n 0, 1) := by decide +kernel
theorem dX11_carried_1 : decode cX11_carried 1 = .ok (.iconst 2, 1) := by decide +kernel
theorem dX11_carried_2 : decode cX11_carried 2 = .ok (.iload_n 1, 1) := by decide +kernel
theorem dX11_carried_3 : decode cX11_carried 3 = .ok (.invokevirtual 40, 3) := by decide +kernel
theorem dX11_carried_6 : decode cX11_carried 6 = .ok (.invokestatic 43, 3) := by decide +kernel
theorem dX11_carried_9 : decode cX11_carried 9 = .ok (.ireturn, 1) := by decide +kernel
set_option maxRecDepth 20000 in
theorem ggX11_take_X11_isVan : GoodIn wsX11_take wsX11_isVan := goodIn_r _ [5, 6, 49, 50, 51, 52, 53, 54, 55, 56, 57, 58, 59, 60, 61, 62] (by decide +kernel) (by decide +kernel)
set_option maxRecDepth 20000 in
theorem gX11_take_X11_isVan : GoodIn wsX11_take (wsV RX11 96 RX11 yX11_isVan wsX11_isVan) := goodIn_app (goodIn_of _ (by decide +kernel)) ggX11_take_X11_isVan
set_option maxRecDepth 20000 in
theorem ggX11_take_X11_isBicycle : GoodIn wsX11_take wsX11_isBicycle := goodIn_r _ [10, 6, 49, 50, 51, 52, 53, 54, 55, 56, 57, 58, 59, 60, 61, 62] (by decide +kernel) (by decide +kernel)
set_option maxRecDepth 20000 in
theorem gX11_take_X11_isBicycle : GoodIn wsX11_take (wsV RX11 86 RX11 yX11_isBicycle wsX11_isBicycle) := goodIn_app (goodIn_of _ (by decide +kernel)) ggX11_take_X11_isBicycle
set_option maxRecDepth 20000 in
theorem ggX11_take_X11_isUnderWay : GoodIn wsX11_take wsX11_isUnderWay := goodIn_r _ [14, 6, 15, 16, 17, 4, 18, 49, 50, 51, 52, 53, 54, 55, 56, 57, 58, 59, 60, 61, 62] (by decide +kernel) (by decide +kernel)
set_option maxRecDepth 20000 in
theorem gX11_take_X11_isUnderWay : GoodIn wsX11_take (wsV RX11 99 RX11 yX11_isUnderWay wsX11_isUnderWay) := goodIn_app (goodIn_of _ (by decide +kernel)) ggX11_take_X11_isUnderWay
set_option maxRecDepth 20000 in
theorem ggX11_take_X11_carried : GoodIn wsX11_take wsX11_carried := goodIn_r _ [22, 23, 24, 25, 4, 26, 6, 27, 28, 29, 30, 31, 32, 33, 49, 50, 51, 52, 53, 54, 55, 56, 57, 58, 59, 60, 61, 62] (by decide +kernel) (by decide +kernel)
set_option maxRecDepth 20000 in
theorem gX11_take_X11_carried : GoodIn wsX11_take (wsV RX11 102 RX11 yX11_carried wsX11_carried) := goodIn_app (goodIn_of _ (by decide +kernel)) ggX11_take_X11_carried
set_option maxRecDepth 20000 in
theorem ggX11_take_X11_ofVan : GoodIn wsX11_take wsX11_ofVan := goodIn_r _ [18, 6, 49, 50, 51, 52, 53, 54, 55, 56, 57, 58, 59, 60, 61, 62] (by decide +kernel) (by decide +kernel)
set_option maxRecDepth 20000 in
theorem gX11_take_X11_ofVan : GoodIn wsX11_take (wsV RX11 93 RX11 yX11_ofVan wsX11_ofVan) := goodIn_app (goodIn_of _ (by decide +kernel)) ggX11_take_X11_ofVan
set_option maxRecDepth 20000 in
theorem ggX11_take_X11_isAt : GoodIn wsX11_take wsX11_isAt := goodIn_r _ [37, 27, 28, 29, 4, 30, 6, 49, 50, 51, 52, 53, 54, 55, 56, 57, 58, 59, 60, 61, 62] (by decide +kernel) (by decide +kernel)
set_option maxRecDepth 20000 in
theorem gX11_take_X11_isAt : GoodIn wsX11_take (wsV RX11 105 RX11 yX11_isAt wsX11_isAt) := goodIn_app (goodIn_of _ (by decide +kernel)) ggX11_take_X11_isAt
set_option maxRecDepth 20000 in
theorem ggX11_take_X11_changes : GoodIn wsX11_take wsX11_changes := goodIn_r _ [41, 42, 43, 44, 6, 49, 50, 51, 52, 53, 54, 55, 56, 57, 58, 59, 60, 61, 62] (by decide +kernel) (by decide +kernel)
set_option maxRecDepth 20000 in
theorem gX11_take_X11_changes : GoodIn wsX11_take (wsV RX11 57 RX11 yX11_changes wsX11_changes) := goodIn_app (goodIn_of _ (by decide +kernel)) ggX11_take_X11_changes
set_option maxRecDepth 20000 in
theorem ggX11_take_X11_puts : GoodIn wsX11_take wsX11_puts := goodIn_r _ [48, 6, 49, 50, 51, 52, 53, 54, 55, 56, 57, 58, 59, 60, 61, 62] (by decide +kernel) (by decide +kernel)
set_option maxRecDepth 20000 in
theorem gX11_take_X11_puts : GoodIn wsX11_take (wsV RX11 67 RX11 yX11_puts wsX11_puts) := goodIn_app (goodIn_of _ (by decide +kernel)) ggX11_take_X11_puts
theorem dX11_take_0 : decode cX11_take 0 = .ok (.aload_n 0, 1) := by decide +kernel
theorem dX11_take_1 : decode cX11_take 1 = .ok (.iload_n 1, 1) := by decide +kernel
theorem dX11_take_2 : decode cX11_take 2 = .ok (.invokevirtual 96, 3) := by decide +kernel
theorem dX11_take_5 : decode cX11_take 5 = .ok (.ifCond .eq 11, 3) := by decide +kernel
theorem dX11_take_8 : decode cX11_take 8 = .ok (.aload_n 0, 1) := by decide +kernel
theorem dX11_take_9 : decode cX11_take 9 = .ok (.iload_n 2, 1) := by decide +kernel
theorem dX11_take_10 : decode cX11_take 10 = .ok (.invokevirtual 86, 3) := by decide +kernel
theorem dX11_take_13 : decode cX11_take 13 = .ok (.ifCond .ne 5, 3) := by decide +kernel
theorem dX11_take_16 : decode cX11_take 16 = .ok (.iconst (-1), 1) := by decide +kernel
theorem dX11_take_17 : decode cX11_take 17 = .ok (.ireturn, 1) := by decide +kernel
theorem dX11_take_18 : decode cX11_take 18 = .ok (.aload_n 0, 1) := by decide +kernel
theorem dX11_take_19 : decode cX11_take 19 = .ok (.iload_n 1, 1) := by decide +kernel
theorem dX11_take_20 : decode cX11_take 20 = .ok (.invokevirtual 99, 3) := by decide +kernel
theorem dX11_take_23 : decode cX11_take 23 = .ok (.ifCond .ne 32, 3) := by decide +kernel
theorem dX11_take_26 : decode cX11_take 26 = .ok (.aload_n 0, 1) := by decide +kernel
theorem dX11_take_27 : decode cX11_take 27 = .ok (.iload_n 1, 1) := by decide +kernel
theorem dX11_take_28 : decode cX11_take 28 = .ok (.invokevirtual 102, 3) := by decide +kernel
theorem dX11_take_31 : decode cX11_take 31 = .ok (.aload_n 0, 1) := by decide +kernel
theorem dX11_take_32 : decode cX11_take 32 = .ok (.iload_n 1, 1) := by decide +kernel
theorem dX11_take_33 : decode cX11_take 33 = .ok (.iconst 1, 1) := by decide +kernel
theorem dX11_take_34 : decode cX11_take 34 = .ok (.invokevirtual 93, 3) := by decide +kernel
theorem dX11_take_37 : decode cX11_take 37 = .ok (.if_icmp .eq 18, 3) := by decide +kernel
theorem dX11_take_40 : decode cX11_take 40 = .ok (.aload_n 0, 1) := by decide +kernel
theorem dX11_take_41 : decode cX11_take 41 = .ok (.iload_n 2, 1) := by decide +kernel
theorem dX11_take_42 : decode cX11_take 42 = .ok (.iconst 0, 1) := by decide +kernel
theorem dX11_take_43 : decode cX11_take 43 = .ok (.aload_n 0, 1) := by decide +kernel
theorem dX11_take_44 : decode cX11_take 44 = .ok (.iload_n 1, 1) := by decide +kernel
theorem dX11_take_45 : decode cX11_take 45 = .ok (.iconst 0, 1) := by decide +kernel
theorem dX11_take_46 : decode cX11_take 46 = .ok (.invokevirtual 93, 3) := by decide +kernel
theorem dX11_take_49 : decode cX11_take 49 = .ok (.invokevirtual 105, 3) := by decide +kernel
theorem dX11_take_52 : decode cX11_take 52 = .ok (.ifCond .ne 6, 3) := by decide +kernel
theorem dX11_take_55 : decode cX11_take 55 = .ok (.bipush (-2), 2) := by decide +kernel
theorem dX11_take_57 : decode cX11_take 57 = .ok (.ireturn, 1) := by decide +kernel
theorem dX11_take_58 : decode cX11_take 58 = .ok (.aload_n 0, 1) := by decide +kernel
theorem dX11_take_59 : decode cX11_take 59 = .ok (.invokevirtual 57, 3) := by decide +kernel
theorem dX11_take_62 : decode cX11_take 62 = .ok (.aload_n 0, 1) := by decide +kernel
theorem dX11_take_63 : decode cX11_take 63 = .ok (.iload_n 2, 1) := by decide +kernel
theorem dX11_take_64 : decode cX11_take 64 = .ok (.iconst 2, 1) := by decide +kernel
theorem dX11_take_65 : decode cX11_take 65 = .ok (.iload_n 1, 1) := by decide +kernel
theorem dX11_take_66 : decode cX11_take 66 = .ok (.invokevirtual 67, 3) := by decide +kernel
theorem dX11_take_69 : decode cX11_take 69 = .ok (.aload_n 0, 1) := by decide +kernel
theorem dX11_take_70 : decode cX11_take 70 = .ok (.iload_n 1, 1) := by decide +kernel
theorem dX11_take_71 : decode cX11_take 71 = .ok (.invokevirtual 102, 3) := by decide +kernel
theorem dX11_take_74 : decode cX11_take 74 = .ok (.ireturn, 1) := by decide +kernel
set_option maxRecDepth 20000 in
theorem ggX11_put_X11_isVan : GoodIn wsX11_put wsX11_isVan := goodIn_r _ [5, 6, 61, 62, 63, 64, 65, 66, 67, 68, 69, 70, 71, 72, 73, 74] (by decide +kernel) (by decide +kernel)
set_option maxRecDepth 20000 in
theorem gX11_put_X11_isVan : GoodIn wsX11_put (wsV RX11 96 RX11 yX11_isVan wsX11_isVan) := goodIn_app (goodIn_of _ (by decide +kernel)) ggX11_put_X11_isVan
set_option maxRecDepth 20000 in
theorem ggX11_put_X11_isBicycle : GoodIn wsX11_put wsX11_isBicycle := goodIn_r _ [10, 6, 61, 62, 63, 64, 65, 66, 67, 68, 69, 70, 71, 72, 73, 74] (by decide +kernel) (by decide +kernel)
set_option maxRecDepth 20000 in
theorem gX11_put_X11_isBicycle : GoodIn wsX11_put (wsV RX11 86 RX11 yX11_isBicycle wsX11_isBicycle) := goodIn_app (goodIn_of _ (by decide +kernel)) ggX11_put_X11_isBicycle
set_option maxRecDepth 20000 in
theorem ggX11_put_X11_isUnderWay : GoodIn wsX11_put wsX11_isUnderWay := goodIn_r _ [14, 6, 15, 16, 17, 4, 18, 61, 62, 63, 64, 65, 66, 67, 68, 69, 70, 71, 72, 73, 74] (by decide +kernel) (by decide +kernel)
set_option maxRecDepth 20000 in
theorem gX11_put_X11_isUnderWay : GoodIn wsX11_put (wsV RX11 99 RX11 yX11_isUnderWay wsX11_isUnderWay) := goodIn_app (goodIn_of _ (by decide +kernel)) ggX11_put_X11_isUnderWay
set_option maxRecDepth 20000 in
theorem ggX11_put_X11_isAt : GoodIn wsX11_put wsX11_isAt := goodIn_r _ [22, 23, 24, 25, 4, 26, 6, 61, 62, 63, 64, 65, 66, 67, 68, 69, 70, 71, 72, 73, 74] (by decide +kernel) (by decide +kernel)
set_option maxRecDepth 20000 in
theorem gX11_put_X11_isAt : GoodIn wsX11_put (wsV RX11 105 RX11 yX11_isAt wsX11_isAt) := goodIn_app (goodIn_of _ (by decide +kernel)) ggX11_put_X11_isAt
set_option maxRecDepth 20000 in
theorem ggX11_put_X11_ofVan : GoodIn wsX11_put wsX11_ofVan := goodIn_r _ [18, 6, 61, 62, 63, 64, 65, 66, 67, 68, 69, 70, 71, 72, 73, 74] (by decide +kernel) (by decide +kernel)
set_option maxRecDepth 20000 in
theorem gX11_put_X11_ofVan : GoodIn wsX11_put (wsV RX11 93 RX11 yX11_ofVan wsX11_ofVan) := goodIn_app (goodIn_of _ (by decide +kernel)) ggX11_put_X11_ofVan
set_option maxRecDepth 20000 in
theorem ggX11_put_X11_isFree : GoodIn wsX11_put wsX11_isFree := goodIn_r _ [30, 31, 32, 33, 4, 34, 35, 36, 37, 38, 6, 23, 24, 25, 26, 39, 40, 41, 42, 43, 44, 45, 61, 62, 63, 64, 65, 66, 67, 68, 69, 70, 71, 72, 73, 74] (by decide +kernel) (by decide +kernel)
set_option maxRecDepth 20000 in
theorem gX11_put_X11_isFree : GoodIn wsX11_put (wsV RX11 64 RX11 yX11_isFree wsX11_isFree) := goodIn_app (goodIn_of _ (by decide +kernel)) ggX11_put_X11_isFree
set_option maxRecDepth 20000 in
theorem ggX11_put_X11_changes : GoodIn wsX11_put wsX11_changes := goodIn_r _ [49, 50, 51, 52, 6, 61, 62, 63, 64, 65, 66, 67, 68, 69, 70, 71, 72, 73, 74] (by decide +kernel) (by decide +kernel)
set_option maxRecDepth 20000 in
theorem gX11_put_X11_changes : GoodIn wsX11_put (wsV RX11 57 RX11 yX11_changes wsX11_changes) := goodIn_app (goodIn_of _ (by decide +kernel)) ggX11_put_X11_changes
set_option maxRecDepth 20000 in
theorem ggX11_put_X11_puts : GoodIn wsX11_put wsX11_puts := goodIn_r _ [56, 6, 61, 62, 63, 64, 65, 66, 67, 68, 69, 70, 71, 72, 73, 74] (by decide +kernel) (by decide +kernel)
set_option maxRecDepth 20000 in
theorem gX11_put_X11_puts : GoodIn wsX11_put (wsV RX11 67 RX11 yX11_puts wsX11_puts) := goodIn_app (goodIn_of _ (by decide +kernel)) ggX11_put_X11_puts
set_option maxRecDepth 20000 in
theorem ggX11_put_X11_carried : GoodIn wsX11_put wsX11_carried := goodIn_r _ [60, 35, 36, 37, 4, 38, 6, 23, 24, 25, 26, 39, 40, 41, 61, 62, 63, 64, 65, 66, 67, 68, 69, 70, 71, 72, 73, 74] (by decide +kernel) (by decide +kernel)
set_option maxRecDepth 20000 in
theorem gX11_put_X11_carried : GoodIn wsX11_put (wsV RX11 102 RX11 yX11_carried wsX11_carried) := goodIn_app (goodIn_of _ (by decide +kernel)) ggX11_put_X11_carried
theorem dX11_put_0 : decode cX11_put 0 = .ok (.aload_n 0, 1) := by decide +kernel
theorem dX11_put_1 : decode cX11_put 1 = .ok (.iload_n 1, 1) := by decide +kernel
theorem dX11_put_2 : decode cX11_put 2 = .ok (.invokevirtual 96, 3) := by decide +kernel
theorem dX11_put_5 : decode cX11_put 5 = .ok (.ifCond .eq 11, 3) := by decide +kernel
theorem dX11_put_8 : decode cX11_put 8 = .ok (.aload_n 0, 1) := by decide +kernel
theorem dX11_put_9 : decode cX11_put 9 = .ok (.iload_n 2, 1) := by decide +kernel
theorem dX11_put_10 : decode cX11_put 10 = .ok (.invokevirtual 86, 3) := by decide +kernel
theorem dX11_put_13 : decode cX11_put 13 = .ok (.ifCond .ne 5, 3) := by decide +kernel
theorem dX11_put_16 : decode cX11_put 16 = .ok (.iconst (-1), 1) := by decide +kernel
theorem dX11_put_17 : decode cX11_put 17 = .ok (.ireturn, 1) := by decide +kernel
theorem dX11_put_18 : decode cX11_put 18 = .ok (.aload_n 0, 1) := by decide +kernel
theorem dX11_put_19 : decode cX11_put 19 = .ok (.iload_n 1, 1) := by decide +kernel
theorem dX11_put_20 : decode cX11_put 20 = .ok (.invokevirtual 99, 3) := by decide +kernel
theorem dX11_put_23 : decode cX11_put 23 = .ok (.ifCond .ne 26, 3) := by decide +kernel
theorem dX11_put_26 : decode cX11_put 26 = .ok (.aload_n 0, 1) := by decide +kernel
theorem dX11_put_27 : decode cX11_put 27 = .ok (.iload_n 2, 1) := by decide +kernel
theorem dX11_put_28 : decode cX11_put 28 = .ok (.iconst 2, 1) := by decide +kernel
theorem dX11_put_29 : decode cX11_put 29 = .ok (.iload_n 1, 1) := by decide +kernel
theorem dX11_put_30 : decode cX11_put 30 = .ok (.invokevirtual 105, 3) := by decide +kernel
theorem dX11_put_33 : decode cX11_put 33 = .ok (.ifCond .eq 16, 3) := by decide +kernel
theorem dX11_put_36 : decode cX11_put 36 = .ok (.aload_n 0, 1) := by decide +kernel
theorem dX11_put_37 : decode cX11_put 37 = .ok (.aload_n 0, 1) := by decide +kernel
theorem dX11_put_38 : decode cX11_put 38 = .ok (.iload_n 1, 1) := by decide +kernel
theorem dX11_put_39 : decode cX11_put 39 = .ok (.iconst 0, 1) := by decide +kernel
theorem dX11_put_40 : decode cX11_put 40 = .ok (.invokevirtual 93, 3) := by decide +kernel
theorem dX11_put_43 : decode cX11_put 43 = .ok (.invokevirtual 64, 3) := by decide +kernel
theorem dX11_put_46 : decode cX11_put 46 = .ok (.ifCond .ne 6, 3) := by decide +kernel
theorem dX11_put_49 : decode cX11_put 49 = .ok (.bipush (-2), 2) := by decide +kernel
theorem dX11_put_51 : decode cX11_put 51 = .ok (.ireturn, 1) := by decide +kernel
theorem dX11_put_52 : decode cX11_put 52 = .ok (.aload_n 0, 1) := by decide +kernel
theorem dX11_put_53 : decode cX11_put 53 = .ok (.invokevirtual 57, 3) := by decide +kernel
theorem dX11_put_56 : decode cX11_put 56 = .ok (.aload_n 0, 1) := by decide +kernel
theorem dX11_put_57 : decode cX11_put 57 = .ok (.iload_n 2, 1) := by decide +kernel
theorem dX11_put_58 : decode cX11_put 58 = .ok (.iconst 0, 1) := by decide +kernel
theorem dX11_put_59 : decode cX11_put 59 = .ok (.aload_n 0, 1) := by decide +kernel
theorem dX11_put_60 : decode cX11_put 60 = .ok (.iload_n 1, 1) := by decide +kernel
theorem dX11_put_61 : decode cX11_put 61 = .ok (.iconst 0, 1) := by decide +kernel
theorem dX11_put_62 : decode cX11_put 62 = .ok (.invokevirtual 93, 3) := by decide +kernel
theorem dX11_put_65 : decode cX11_put 65 = .ok (.invokevirtual 67, 3) := by decide +kernel
theorem dX11_put_68 : decode cX11_put 68 = .ok (.aload_n 0, 1) := by decide +kernel
theorem dX11_put_69 : decode cX11_put 69 = .ok (.iload_n 1, 1) := by decide +kernel
theorem dX11_put_70 : decode cX11_put 70 = .ok (.invokevirtual 102, 3) := by decide +kernel
theorem dX11_put_73 : decode cX11_put 73 = .ok (.ireturn, 1) := by decide +kernel
set_option maxRecDepth 20000 in
theorem ggX11_way_X11_ofStation : GoodIn wsX11_way wsX11_ofStation := goodIn_r _ [5, 6, 7, 8, 9, 10, 11, 12, 13, 14, 15, 16, 17, 18, 19, 20] (by decide +kernel) (by decide +kernel)
set_option maxRecDepth 20000 in
theorem gX11_way_X11_ofStation : GoodIn wsX11_way (wsV RX11 50 RX11 yX11_ofStation wsX11_ofStation) := goodIn_app (goodIn_of _ (by decide +kernel)) ggX11_way_X11_ofStation
theorem dX11_way_0 : decode cX11_way 0 = .ok (.aload_n 0, 1) := by decide +kernel
theorem dX11_way_1 : decode cX11_way 1 = .ok (.iload_n 1, 1) := by decide +kernel
theorem dX11_way_2 : decode cX11_way 2 = .ok (.iconst 0, 1) := by decide +kernel
theorem dX11_way_3 : decode cX11_way 3 = .ok (.invokevirtual 50, 3) := by decide +kernel
theorem dX11_way_6 : decode cX11_way 6 = .ok (.aload_n 0, 1) := by decide +kernel
theorem dX11_way_7 : decode cX11_way 7 = .ok (.iload_n 2, 1) := by decide +kernel
theorem dX11_way_8 : decode cX11_way 8 = .ok (.iconst 0, 1) := by decide +kernel
theorem dX11_way_9 : decode cX11_way 9 = .ok (.invokevirtual 50, 3) := by decide +kernel
theorem dX11_way_12 : decode cX11_way 12 = .ok (.isub, 1) := by decide +kernel
theorem dX11_way_13 : decode cX11_way 13 = .ok (.istore_n 3, 1) := by decide +kernel
theorem dX11_way_14 : decode cX11_way 14 = .ok (.iload_n 3, 1) := by decide +kernel
theorem dX11_way_15 : decode cX11_way 15 = .ok (.ifCond .ge 8, 3) := by decide +kernel
theorem dX11_way_18 : decode cX11_way 18 = .ok (.iload_n 3, 1) := by decide +kernel
theorem dX11_way_19 : decode cX11_way 19 = .ok (.ineg, 1) := by decide +kernel
