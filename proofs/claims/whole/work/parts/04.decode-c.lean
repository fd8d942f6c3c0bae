theorem dX6_init_0 : decode cX6_init 0 = .ok (.aload_n 0, 1) := by decide +kernel
theorem dX6_init_1 : decode cX6_init 1 = .ok (.invokespecial 1, 3) := by decide +kernel
theorem dX6_init_4 : decode cX6_init 4 = .ok (.aload_n 0, 1) := by decide +kernel
theorem dX6_init_5 : decode cX6_init 5 = .ok (.sipush 236, 3) := by decide +kernel
theorem dX6_init_8 : decode cX6_init 8 = .ok (.newarray .int, 2) := by decide +kernel
theorem dX6_init_10 : decode cX6_init 10 = .ok (.putfield 7, 3) := by decide +kernel
theorem dX6_init_13 : decode cX6_init 13 = .ok (.aload_n 0, 1) := by decide +kernel
theorem dX6_init_14 : decode cX6_init 14 = .ok (.sipush 1180, 3) := by decide +kernel
theorem dX6_init_17 : decode cX6_init 17 = .ok (.newarray .int, 2) := by decide +kernel
theorem dX6_init_19 : decode cX6_init 19 = .ok (.putfield 13, 3) := by decide +kernel
theorem dX6_init_22 : decode cX6_init 22 = .ok (.aload_n 0, 1) := by decide +kernel
theorem dX6_init_23 : decode cX6_init 23 = .ok (.sipush 236, 3) := by decide +kernel
theorem dX6_init_26 : decode cX6_init 26 = .ok (.newarray .int, 2) := by decide +kernel
theorem dX6_init_28 : decode cX6_init 28 = .ok (.putfield 16, 3) := by decide +kernel
theorem dX6_init_31 : decode cX6_init 31 = .ok (.aload_n 0, 1) := by decide +kernel
theorem dX6_init_32 : decode cX6_init 32 = .ok (.sipush 236, 3) := by decide +kernel
theorem dX6_init_35 : decode cX6_init 35 = .ok (.newarray .int, 2) := by decide +kernel
theorem dX6_init_37 : decode cX6_init 37 = .ok (.putfield 19, 3) := by decide +kernel
theorem dX6_init_40 : decode cX6_init 40 = .ok (.aload_n 0, 1) := by decide +kernel
theorem dX6_init_41 : decode cX6_init 41 = .ok (.bipush 12, 2) := by decide +kernel
theorem dX6_init_43 : decode cX6_init 43 = .ok (.newarray .int, 2) := by decide +kernel
theorem dX6_init_45 : decode cX6_init 45 = .ok (.putfield 22, 3) := by decide +kernel
theorem dX6_init_48 : decode cX6_init 48 = .ok (.aload_n 0, 1) := by decide +kernel
theorem dX6_init_49 : decode cX6_init 49 = .ok (.bipush 60, 2) := by decide +kernel
theorem dX6_init_51 : decode cX6_init 51 = .ok (.newarray .char, 2) := by decide +kernel
theorem dX6_init_53 : decode cX6_init 53 = .ok (.putfield 25, 3) := by decide +kernel
theorem dX6_init_56 : decode cX6_init 56 = .ok (.aload_n 0, 1) := by decide +kernel
theorem dX6_init_57 : decode cX6_init 57 = .ok (.bipush 36, 2) := by decide +kernel
theorem dX6_init_59 : decode cX6_init 59 = .ok (.newarray .int, 2) := by decide +kernel
theorem dX6_init_61 : decode cX6_init 61 = .ok (.putfield 29, 3) := by decide +kernel
theorem dX6_init_64 : decode cX6_init 64 = .ok (.aload_n 0, 1) := by decide +kernel
theorem dX6_init_65 : decode cX6_init 65 = .ok (.getfield 7, 3) := by decide +kernel
theorem dX6_init_68 : decode cX6_init 68 = .ok (.iconst 1, 1) := by decide +kernel
theorem dX6_init_69 : decode cX6_init 69 = .ok (.iconst 5, 1) := by decide +kernel
theorem dX6_init_70 : decode cX6_init 70 = .ok (.iastore, 1) := by decide +kernel
theorem dX6_init_71 : decode cX6_init 71 = .ok (.aload_n 0, 1) := by decide +kernel
theorem dX6_init_72 : decode cX6_init 72 = .ok (.getfield 7, 3) := by decide +kernel
theorem dX6_init_75 : decode cX6_init 75 = .ok (.iconst 2, 1) := by decide +kernel
theorem dX6_init_76 : decode cX6_init 76 = .ok (.bipush 10, 2) := by decide +kernel
theorem dX6_init_78 : decode cX6_init 78 = .ok (.iastore, 1) := by decide +kernel
theorem dX6_init_79 : decode cX6_init 79 = .ok (.return_, 1) := by decide +kernel
theorem dX6_in_0 : decode cX6_in 0 = .ok (.iload_n 0, 1) := by decide +kernel
theorem dX6_in_1 : decode cX6_in 1 = .ok (.iload_n 1, 1) := by decide +kernel
theorem dX6_in_2 : decode cX6_in 2 = .ok (.if_icmp .lt 12, 3) := by decide +kernel
theorem dX6_in_5 : decode cX6_in 5 = .ok (.iload_n 0, 1) := by decide +kernel
theorem dX6_in_6 : decode cX6_in 6 = .ok (.iload_n 2, 1) := by decide +kernel
theorem dX6_in_7 : decode cX6_in 7 = .ok (.if_icmp .gt 7, 3) := by decide +kernel
theorem dX6_in_10 : decode cX6_in 10 = .ok (.iconst 1, 1) := by decide +kernel
theorem dX6_in_11 : decode cX6_in 11 = .ok (.goto 4, 3) := by decide +kernel
theorem dX6_in_14 : decode cX6_in 14 = .ok (.iconst 0, 1) := by decide +kernel
theorem dX6_in_15 : decode cX6_in 15 = .ok (.ireturn, 1) := by decide +kernel
theorem dX6_least_0 : decode cX6_least 0 = .ok (.iload_n 0, 1) := by decide +kernel
theorem dX6_least_1 : decode cX6_least 1 = .ok (.iload_n 1, 1) := by decide +kernel
theorem dX6_least_2 : decode cX6_least 2 = .ok (.if_icmp .ge 7, 3) := by decide +kernel
theorem dX6_least_5 : decode cX6_least 5 = .ok (.iload_n 0, 1) := by decide +kernel
theorem dX6_least_6 : decode cX6_least 6 = .ok (.goto 4, 3) := by decide +kernel
theorem dX6_least_9 : decode cX6_least 9 = .ok (.iload_n 1, 1) := by decide +kernel
theorem dX6_least_10 : decode cX6_least 10 = .ok (.ireturn, 1) := by decide +kernel
theorem dX6_record_0 : decode cX6_record 0 = .ok (.aload_n 0, 1) := by decide +kernel
theorem dX6_record_1 : decode cX6_record 1 = .ok (.getfield 32, 3) := by decide +kernel
theorem dX6_record_4 : decode cX6_record 4 = .ok (.iconst 5, 1) := by decide +kernel
theorem dX6_record_5 : decode cX6_record 5 = .ok (.if_icmp .ne 44, 3) := by decide +kernel
theorem dX6_record_8 : decode cX6_record 8 = .ok (.iconst 0, 1) := by decide +kernel
theorem dX6_record_9 : decode cX6_record 9 = .ok (.istore_n 1, 1) := by decide +kernel
theorem dX6_record_10 : decode cX6_record 10 = .ok (.iload_n 1, 1) := by decide +kernel
theorem dX6_record_11 : decode cX6_record 11 = .ok (.sipush 944, 3) := by decide +kernel
theorem dX6_record_14 : decode cX6_record 14 = .ok (.if_icmp .ge 25, 3) := by decide +kernel
theorem dX6_record_17 : decode cX6_record 17 = .ok (.aload_n 0, 1) := by decide +kernel
theorem dX6_record_18 : decode cX6_record 18 = .ok (.getfield 13, 3) := by decide +kernel
theorem dX6_record_21 : decode cX6_record 21 = .ok (.iload_n 1, 1) := by decide +kernel
theorem dX6_record_22 : decode cX6_record 22 = .ok (.aload_n 0, 1) := by decide +kernel
theorem dX6_record_23 : decode cX6_record 23 = .ok (.getfield 13, 3) := by decide +kernel
theorem dX6_record_26 : decode cX6_record 26 = .ok (.iload_n 1, 1) := by decide +kernel
theorem dX6_record_27 : decode cX6_record 27 = .ok (.sipush 236, 3) := by decide +kernel
theorem dX6_record_30 : decode cX6_record 30 = .ok (.iadd, 1) := by decide +kernel
theorem dX6_record_31 : decode cX6_record 31 = .ok (.iaload, 1) := by decide +kernel
theorem dX6_record_32 : decode cX6_record 32 = .ok (.iastore, 1) := by decide +kernel
theorem dX6_record_33 : decode cX6_record 33 = .ok (.iinc 1 1, 3) := by decide +kernel
theorem dX6_record_36 : decode cX6_record 36 = .ok (.goto (-26), 3) := by decide +kernel
theorem dX6_record_39 : decode cX6_record 39 = .ok (.aload_n 0, 1) := by decide +kernel
theorem dX6_record_40 : decode cX6_record 40 = .ok (.dup, 1) := by decide +kernel
theorem dX6_record_41 : decode cX6_record 41 = .ok (.getfield 32, 3) := by decide +kernel
theorem dX6_record_44 : decode cX6_record 44 = .ok (.iconst 1, 1) := by decide +kernel
theorem dX6_record_45 : decode cX6_record 45 = .ok (.isub, 1) := by decide +kernel
theorem dX6_record_46 : decode cX6_record 46 = .ok (.putfield 32, 3) := by decide +kernel
theorem dX6_record_49 : decode cX6_record 49 = .ok (.iconst 0, 1) := by decide +kernel
theorem dX6_record_50 : decode cX6_record 50 = .ok (.istore_n 1, 1) := by decide +kernel
theorem dX6_record_51 : decode cX6_record 51 = .ok (.iload_n 1, 1) := by decide +kernel
theorem dX6_record_52 : decode cX6_record 52 = .ok (.sipush 236, 3) := by decide +kernel
theorem dX6_record_55 : decode cX6_record 55 = .ok (.if_icmp .ge 30, 3) := by decide +kernel
theorem dX6_record_58 : decode cX6_record 58 = .ok (.aload_n 0, 1) := by decide +kernel
theorem dX6_record_59 : decode cX6_record 59 = .ok (.getfield 13, 3) := by decide +kernel
theorem dX6_record_62 : decode cX6_record 62 = .ok (.sipush 236, 3) := by decide +kernel
theorem dX6_record_65 : decode cX6_record 65 = .ok (.aload_n 0, 1) := by decide +kernel
theorem dX6_record_66 : decode cX6_record 66 = .ok (.getfield 32, 3) := by decide +kernel
theorem dX6_record_69 : decode cX6_record 69 = .ok (.imul, 1) := by decide +kernel
theorem dX6_record_70 : decode cX6_record 70 = .ok (.iload_n 1, 1) := by decide +kernel
theorem dX6_record_71 : decode cX6_record 71 = .ok (.iadd, 1) := by decide +kernel
theorem dX6_record_72 : decode cX6_record 72 = .ok (.aload_n 0, 1) := by decide +kernel
theorem dX6_record_73 : decode cX6_record 73 = .ok (.getfield 7, 3) := by decide +kernel
theorem dX6_record_76 : decode cX6_record 76 = .ok (.iload_n 1, 1) := by decide +kernel
theorem dX6_record_77 : decode cX6_record 77 = .ok (.iaload, 1) := by decide +kernel
theorem dX6_record_78 : decode cX6_record 78 = .ok (.iastore, 1) := by decide +kernel
theorem dX6_record_79 : decode cX6_record 79 = .ok (.iinc 1 1, 3) := by decide +kernel
theorem dX6_record_82 : decode cX6_record 82 = .ok (.goto (-31), 3) := by decide +kernel
theorem dX6_record_85 : decode cX6_record 85 = .ok (.aload_n 0, 1) := by decide +kernel
theorem dX6_record_86 : decode cX6_record 86 = .ok (.dup, 1) := by decide +kernel
theorem dX6_record_87 : decode cX6_record 87 = .ok (.getfield 32, 3) := by decide +kernel
theorem dX6_record_90 : decode cX6_record 90 = .ok (.iconst 1, 1) := by decide +kernel
theorem dX6_record_91 : decode cX6_record 91 = .ok (.iadd, 1) := by decide +kernel
theorem dX6_record_92 : decode cX6_record 92 = .ok (.putfield 32, 3) := by decide +kernel
theorem dX6_record_95 : decode cX6_record 95 = .ok (.return_, 1) := by decide +kernel
theorem dX6_noSet_0 : decode cX6_noSet 0 = .ok (.iload_n 1, 1) := by decide +kernel
theorem dX6_noSet_1 : decode cX6_noSet 1 = .ok (.iconst 0, 1) := by decide +kernel
theorem dX6_noSet_2 : decode cX6_noSet 2 = .ok (.aload_n 0, 1) := by decide +kernel
theorem dX6_noSet_3 : decode cX6_noSet 3 = .ok (.getfield 7, 3) := by decide +kernel
theorem dX6_noSet_6 : decode cX6_noSet 6 = .ok (.bipush 6, 2) := by decide +kernel
theorem dX6_noSet_8 : decode cX6_noSet 8 = .ok (.iaload, 1) := by decide +kernel
theorem dX6_noSet_9 : decode cX6_noSet 9 = .ok (.iconst 1, 1) := by decide +kernel
theorem dX6_noSet_10 : decode cX6_noSet 10 = .ok (.isub, 1) := by decide +kernel
theorem dX6_noSet_11 : decode cX6_noSet 11 = .ok (.invokestatic 36, 3) := by decide +kernel
theorem dX6_noSet_14 : decode cX6_noSet 14 = .ok (.ifCond .ne 7, 3) := by decide +kernel
theorem dX6_noSet_17 : decode cX6_noSet 17 = .ok (.iconst 1, 1) := by decide +kernel
theorem dX6_noSet_18 : decode cX6_noSet 18 = .ok (.goto 4, 3) := by decide +kernel
theorem dX6_noSet_21 : decode cX6_noSet 21 = .ok (.iconst 0, 1) := by decide +kernel
theorem dX6_noSet_22 : decode cX6_noSet 22 = .ok (.ireturn, 1) := by decide +kernel
theorem dX6_noSite_0 : decode cX6_noSite 0 = .ok (.iload_n 1, 1) := by decide +kernel
theorem dX6_noSite_1 : decode cX6_noSite 1 = .ok (.iconst 0, 1) := by decide +kernel
theorem dX6_noSite_2 : decode cX6_noSite 2 = .ok (.aload_n 0, 1) := by decide +kernel
theorem dX6_noSite_3 : decode cX6_noSite 3 = .ok (.getfield 7, 3) := by decide +kernel
theorem dX6_noSite_6 : decode cX6_noSite 6 = .ok (.bipush 7, 2) := by decide +kernel
theorem dX6_noSite_8 : decode cX6_noSite 8 = .ok (.iaload, 1) := by decide +kernel
theorem dX6_noSite_9 : decode cX6_noSite 9 = .ok (.iconst 1, 1) := by decide +kernel
theorem dX6_noSite_10 : decode cX6_noSite 10 = .ok (.isub, 1) := by decide +kernel
theorem dX6_noSite_11 : decode cX6_noSite 11 = .ok (.invokestatic 36, 3) := by decide +kernel
theorem dX6_noSite_14 : decode cX6_noSite 14 = .ok (.ifCond .ne 7, 3) := by decide +kernel
theorem dX6_noSite_17 : decode cX6_noSite 17 = .ok (.iconst 1, 1) := by decide +kernel
theorem dX6_noSite_18 : decode cX6_noSite 18 = .ok (.goto 4, 3) := by decide +kernel
theorem dX6_noSite_21 : decode cX6_noSite 21 = .ok (.iconst 0, 1) := by decide +kernel
theorem dX6_noSite_22 : decode cX6_noSite 22 = .ok (.ireturn, 1) := by decide +kernel
theorem dX6_ofSet_0 : decode cX6_ofSet 0 = .ok (.aload_n 0, 1) := by decide +kernel
theorem dX6_ofSet_1 : decode cX6_ofSet 1 = .ok (.getfield 7, 3) := by decide +kernel
theorem dX6_ofSet_4 : decode cX6_ofSet 4 = .ok (.bipush 16, 2) := by decide +kernel
theorem dX6_ofSet_6 : decode cX6_ofSet 6 = .ok (.bipush 10, 2) := by decide +kernel
theorem dX6_ofSet_8 : decode cX6_ofSet 8 = .ok (.iload_n 1, 1) := by decide +kernel
theorem dX6_ofSet_9 : decode cX6_ofSet 9 = .ok (.imul, 1) := by decide +kernel
theorem dX6_ofSet_10 : decode cX6_ofSet 10 = .ok (.iadd, 1) := by decide +kernel
theorem dX6_ofSet_11 : decode cX6_ofSet 11 = .ok (.iload_n 2, 1) := by decide +kernel
theorem dX6_ofSet_12 : decode cX6_ofSet 12 = .ok (.iadd, 1) := by decide +kernel
theorem dX6_ofSet_13 : decode cX6_ofSet 13 = .ok (.iaload, 1) := by decide +kernel
theorem dX6_ofSet_14 : decode cX6_ofSet 14 = .ok (.ireturn, 1) := by decide +kernel
theorem dX6_toSet_0 : decode cX6_toSet 0 = .ok (.aload_n 0, 1) := by decide +kernel
theorem dX6_toSet_1 : decode cX6_toSet 1 = .ok (.getfield 7, 3) := by decide +kernel
theorem dX6_toSet_4 : decode cX6_toSet 4 = .ok (.bipush 16, 2) := by decide +kernel
theorem dX6_toSet_6 : decode cX6_toSet 6 = .ok (.bipush 10, 2) := by decide +kernel
theorem dX6_toSet_8 : decode cX6_toSet 8 = .ok (.iload_n 1, 1) := by decide +kernel
theorem dX6_toSet_9 : decode cX6_toSet 9 = .ok (.imul, 1) := by decide +kernel
theorem dX6_toSet_10 : decode cX6_toSet 10 = .ok (.iadd, 1) := by decide +kernel
theorem dX6_toSet_11 : decode cX6_toSet 11 = .ok (.iload_n 2, 1) := by decide +kernel
theorem dX6_toSet_12 : decode cX6_toSet 12 = .ok (.iadd, 1) := by decide +kernel
theorem dX6_toSet_13 : decode cX6_toSet 13 = .ok (.iload_n 3, 1) := by decide +kernel
theorem dX6_toSet_14 : decode cX6_toSet 14 = .ok (.iastore, 1) := by decide +kernel
theorem dX6_toSet_15 : decode cX6_toSet 15 = .ok (.return_, 1) := by decide +kernel
theorem dX6_ofSite_0 : decode cX6_ofSite 0 = .ok (.aload_n 0, 1) := by decide +kernel
theorem dX6_ofSite_1 : decode cX6_ofSite 1 = .ok (.getfield 7, 3) := by decide +kernel
theorem dX6_ofSite_4 : decode cX6_ofSite 4 = .ok (.bipush 116, 2) := by decide +kernel
theorem dX6_ofSite_6 : decode cX6_ofSite 6 = .ok (.bipush 10, 2) := by decide +kernel
theorem dX6_ofSite_8 : decode cX6_ofSite 8 = .ok (.iload_n 1, 1) := by decide +kernel
theorem dX6_ofSite_9 : decode cX6_ofSite 9 = .ok (.imul, 1) := by decide +kernel
theorem dX6_ofSite_10 : decode cX6_ofSite 10 = .ok (.iadd, 1) := by decide +kernel
theorem dX6_ofSite_11 : decode cX6_ofSite 11 = .ok (.iload_n 2, 1) := by decide +kernel
theorem dX6_ofSite_12 : decode cX6_ofSite 12 = .ok (.iadd, 1) := by decide +kernel
theorem dX6_ofSite_13 : decode cX6_ofSite 13 = .ok (.iaload, 1) := by decide +kernel
theorem dX6_ofSite_14 : decode cX6_ofSite 14 = .ok (.ireturn, 1) := by decide +kernel
theorem dX6_toSite_0 : decode cX6_toSite 0 = .ok (.aload_n 0, 1) := by decide +kernel
theorem dX6_toSite_1 : decode cX6_toSite 1 = .ok (.getfield 7, 3) := by decide +kernel
theorem dX6_toSite_4 : decode cX6_toSite 4 = .ok (.bipush 116, 2) := by decide +kernel
theorem dX6_toSite_6 : decode cX6_toSite 6 = .ok (.bipush 10, 2) := by decide +kernel
theorem dX6_toSite_8 : decode cX6_toSite 8 = .ok (.iload_n 1, 1) := by decide +kernel
theorem dX6_toSite_9 : decode cX6_toSite 9 = .ok (.imul, 1) := by decide +kernel
theorem dX6_toSite_10 : decode cX6_toSite 10 = .ok (.iadd, 1) := by decide +kernel
theorem dX6_toSite_11 : decode cX6_toSite 11 = .ok (.iload_n 2, 1) := by decide +kernel
theorem dX6_toSite_12 : decode cX6_toSite 12 = .ok (.iadd, 1) := by decide +kernel
theorem dX6_toSite_13 : decode cX6_toSite 13 = .ok (.iload_n 3, 1) := by decide +kernel
theorem dX6_toSite_14 : decode cX6_toSite 14 = .ok (.iastore, 1) := by decide +kernel
theorem dX6_toSite_15 : decode cX6_toSite 15 = .ok (.return_, 1) := by decide +kernel
theorem dX6_buy_0 : decode cX6_buy 0 = .ok (.iload_n 1, 1) := by decide +kernel
theorem dX6_buy_1 : decode cX6_buy 1 = .ok (.iconst 1, 1) := by decide +kernel
theorem dX6_buy_2 : decode cX6_buy 2 = .ok (.sipush 5000, 3) := by decide +kernel
theorem dX6_buy_5 : decode cX6_buy 5 = .ok (.invokestatic 36, 3) := by decide +kernel
theorem dX6_buy_8 : decode cX6_buy 8 = .ok (.ifCond .ne 6, 3) := by decide +kernel
theorem dX6_buy_11 : decode cX6_buy 11 = .ok (.bipush (-2), 2) := by decide +kernel
theorem dX6_buy_13 : decode cX6_buy 13 = .ok (.ireturn, 1) := by decide +kernel
theorem dX6_buy_14 : decode cX6_buy 14 = .ok (.aload_n 0, 1) := by decide +kernel
theorem dX6_buy_15 : decode cX6_buy 15 = .ok (.getfield 7, 3) := by decide +kernel
theorem dX6_buy_18 : decode cX6_buy 18 = .ok (.iconst 3, 1) := by decide +kernel
theorem dX6_buy_19 : decode cX6_buy 19 = .ok (.iaload, 1) := by decide +kernel
theorem dX6_buy_20 : decode cX6_buy 20 = .ok (.iload_n 1, 1) := by decide +kernel
theorem dX6_buy_21 : decode cX6_buy 21 = .ok (.iadd, 1) := by decide +kernel
theorem dX6_buy_22 : decode cX6_buy 22 = .ok (.ldc 40, 2) := by decide +kernel
theorem dX6_buy_24 : decode cX6_buy 24 = .ok (.if_icmp .le 6, 3) := by decide +kernel
theorem dX6_buy_27 : decode cX6_buy 27 = .ok (.bipush (-3), 2) := by decide +kernel
theorem dX6_buy_29 : decode cX6_buy 29 = .ok (.ireturn, 1) := by decide +kernel
theorem dX6_buy_30 : decode cX6_buy 30 = .ok (.aload_n 0, 1) := by decide +kernel
theorem dX6_buy_31 : decode cX6_buy 31 = .ok (.invokevirtual 41, 3) := by decide +kernel
theorem dX6_buy_34 : decode cX6_buy 34 = .ok (.aload_n 0, 1) := by decide +kernel
theorem dX6_buy_35 : decode cX6_buy 35 = .ok (.getfield 7, 3) := by decide +kernel
theorem dX6_buy_38 : decode cX6_buy 38 = .ok (.iconst 3, 1) := by decide +kernel
theorem dX6_buy_39 : decode cX6_buy 39 = .ok (.dup2, 1) := by decide +kernel
theorem dX6_buy_40 : decode cX6_buy 40 = .ok (.iaload, 1) := by decide +kernel
theorem dX6_buy_41 : decode cX6_buy 41 = .ok (.iload_n 1, 1) := by decide +kernel
theorem dX6_buy_42 : decode cX6_buy 42 = .ok (.iadd, 1) := by decide +kernel
theorem dX6_buy_43 : decode cX6_buy 43 = .ok (.iastore, 1) := by decide +kernel
theorem dX6_buy_44 : decode cX6_buy 44 = .ok (.aload_n 0, 1) := by decide +kernel
theorem dX6_buy_45 : decode cX6_buy 45 = .ok (.getfield 7, 3) := by decide +kernel
theorem dX6_buy_48 : decode cX6_buy 48 = .ok (.iconst 5, 1) := by decide +kernel
theorem dX6_buy_49 : decode cX6_buy 49 = .ok (.dup2, 1) := by decide +kernel
theorem dX6_buy_50 : decode cX6_buy 50 = .ok (.iaload, 1) := by decide +kernel
theorem dX6_buy_51 : decode cX6_buy 51 = .ok (.iload_n 1, 1) := by decide +kernel
theorem dX6_buy_52 : decode cX6_buy 52 = .ok (.iadd, 1) := by decide +kernel
theorem dX6_buy_53 : decode cX6_buy 53 = .ok (.iastore, 1) := by decide +kernel
theorem dX6_buy_54 : decode cX6_buy 54 = .ok (.aload_n 0, 1) := by decide +kernel
theorem dX6_buy_55 : decode cX6_buy 55 = .ok (.getfield 7, 3) := by decide +kernel
theorem dX6_buy_58 : decode cX6_buy 58 = .ok (.iconst 3, 1) := by decide +kernel
theorem dX6_buy_59 : decode cX6_buy 59 = .ok (.iaload, 1) := by decide +kernel
theorem dX6_buy_60 : decode cX6_buy 60 = .ok (.ireturn, 1) := by decide +kernel
theorem dX6_weather_0 : decode cX6_weather 0 = .ok (.iload_n 1, 1) := by decide +kernel
theorem dX6_weather_1 : decode cX6_weather 1 = .ok (.bipush (-30), 2) := by decide +kernel
theorem dX6_weather_3 : decode cX6_weather 3 = .ok (.bipush 20, 2) := by decide +kernel
theorem dX6_weather_5 : decode cX6_weather 5 = .ok (.invokestatic 36, 3) := by decide +kernel
theorem dX6_weather_8 : decode cX6_weather 8 = .ok (.ifCond .ne 6, 3) := by decide +kernel
theorem dX6_weather_11 : decode cX6_weather 11 = .ok (.bipush (-2), 2) := by decide +kernel
theorem dX6_weather_13 : decode cX6_weather 13 = .ok (.ireturn, 1) := by decide +kernel
theorem dX6_weather_14 : decode cX6_weather 14 = .ok (.iload_n 1, 1) := by decide +kernel
theorem dX6_weather_15 : decode cX6_weather 15 = .ok (.aload_n 0, 1) := by decide +kernel
theorem dX6_weather_16 : decode cX6_weather 16 = .ok (.getfield 7, 3) := by decide +kernel
theorem dX6_weather_19 : decode cX6_weather 19 = .ok (.iconst 1, 1) := by decide +kernel
theorem dX6_weather_20 : decode cX6_weather 20 = .ok (.iaload, 1) := by decide +kernel
theorem dX6_weather_21 : decode cX6_weather 21 = .ok (.isub, 1) := by decide +kernel
theorem dX6_weather_22 : decode cX6_weather 22 = .ok (.istore_n 2, 1) := by decide +kernel
theorem dX6_weather_23 : decode cX6_weather 23 = .ok (.iload_n 2, 1) := by decide +kernel
theorem dX6_weather_24 : decode cX6_weather 24 = .ok (.ifCond .ne 6, 3) := by decide +kernel
theorem dX6_weather_27 : decode cX6_weather 27 = .ok (.bipush (-5), 2) := by decide +kernel
theorem dX6_weather_29 : decode cX6_weather 29 = .ok (.ireturn, 1) := by decide +kernel
theorem dX6_weather_30 : decode cX6_weather 30 = .ok (.aload_n 0, 1) := by decide +kernel
theorem dX6_weather_31 : decode cX6_weather 31 = .ok (.invokevirtual 41, 3) := by decide +kernel
theorem dX6_weather_34 : decode cX6_weather 34 = .ok (.aload_n 0, 1) := by decide +kernel
theorem dX6_weather_35 : decode cX6_weather 35 = .ok (.getfield 7, 3) := by decide +kernel
theorem dX6_weather_38 : decode cX6_weather 38 = .ok (.iconst 1, 1) := by decide +kernel
theorem dX6_weather_39 : decode cX6_weather 39 = .ok (.iload_n 1, 1) := by decide +kernel
theorem dX6_weather_40 : decode cX6_weather 40 = .ok (.iastore, 1) := by decide +kernel
theorem dX6_weather_41 : decode cX6_weather 41 = .ok (.iload_n 2, 1) := by decide +kernel
theorem dX6_weather_42 : decode cX6_weather 42 = .ok (.ifCond .ge 8, 3) := by decide +kernel
theorem dX6_weather_45 : decode cX6_weather 45 = .ok (.iload_n 2, 1) := by decide +kernel
theorem dX6_weather_46 : decode cX6_weather 46 = .ok (.ineg, 1) := by decide +kernel
theorem dX6_weather_47 : decode cX6_weather 47 = .ok (.goto 4, 3) := by decide +kernel
theorem dX6_weather_50 : decode cX6_weather 50 = .ok (.iload_n 2, 1) := by decide +kernel
theorem dX6_weather_51 : decode cX6_weather 51 = .ok (.ireturn, 1) := by decide +kernel
theorem dX6_setPrice_0 : decode cX6_setPrice 0 = .ok (.iload_n 1, 1) := by decide +kernel
theorem dX6_setPrice_1 : decode cX6_setPrice 1 = .ok (.iconst 1, 1) := by decide +kernel
theorem dX6_setPrice_2 : decode cX6_setPrice 2 = .ok (.bipush 99, 2) := by decide +kernel
theorem dX6_setPrice_4 : decode cX6_setPrice 4 = .ok (.invokestatic 36, 3) := by decide +kernel
theorem dX6_setPrice_7 : decode cX6_setPrice 7 = .ok (.ifCond .ne 6, 3) := by decide +kernel
theorem dX6_setPrice_10 : decode cX6_setPrice 10 = .ok (.bipush (-2), 2) := by decide +kernel
theorem dX6_setPrice_12 : decode cX6_setPrice 12 = .ok (.ireturn, 1) := by decide +kernel
theorem dX6_setPrice_13 : decode cX6_setPrice 13 = .ok (.aload_n 0, 1) := by decide +kernel
theorem dX6_setPrice_14 : decode cX6_setPrice 14 = .ok (.getfield 7, 3) := by decide +kernel
theorem dX6_setPrice_17 : decode cX6_setPrice 17 = .ok (.iconst 2, 1) := by decide +kernel
theorem dX6_setPrice_18 : decode cX6_setPrice 18 = .ok (.iaload, 1) := by decide +kernel
theorem dX6_setPrice_19 : decode cX6_setPrice 19 = .ok (.istore_n 2, 1) := by decide +kernel
theorem dX6_setPrice_20 : decode cX6_setPrice 20 = .ok (.iload_n 2, 1) := by decide +kernel
theorem dX6_setPrice_21 : decode cX6_setPrice 21 = .ok (.iload_n 1, 1) := by decide +kernel
theorem dX6_setPrice_22 : decode cX6_setPrice 22 = .ok (.if_icmp .ne 6, 3) := by decide +kernel
theorem dX6_setPrice_25 : decode cX6_setPrice 25 = .ok (.bipush (-5), 2) := by decide +kernel
theorem dX6_setPrice_27 : decode cX6_setPrice 27 = .ok (.ireturn, 1) := by decide +kernel
theorem dX6_setPrice_28 : decode cX6_setPrice 28 = .ok (.aload_n 0, 1) := by decide +kernel
theorem dX6_setPrice_29 : decode cX6_setPrice 29 = .ok (.invokevirtual 41, 3) := by decide +kernel
theorem dX6_setPrice_32 : decode cX6_setPrice 32 = .ok (.aload_n 0, 1) := by decide +kernel
theorem dX6_setPrice_33 : decode cX6_setPrice 33 = .ok (.getfield 7, 3) := by decide +kernel
theorem dX6_setPrice_36 : decode cX6_setPrice 36 = .ok (.iconst 2, 1) := by decide +kernel
theorem dX6_setPrice_37 : decode cX6_setPrice 37 = .ok (.iload_n 1, 1) := by decide +kernel
theorem dX6_setPrice_38 : decode cX6_setPrice 38 = .ok (.iastore, 1) := by decide +kernel
theorem dX6_setPrice_39 : decode cX6_setPrice 39 = .ok (.iload_n 2, 1) := by decide +kernel
theorem dX6_setPrice_40 : decode cX6_setPrice 40 = .ok (.ireturn, 1) := by decide +kernel
theorem dX6_addSet_0 : decode cX6_addSet 0 = .ok (.iload_n 1, 1) := by decide +kernel
theorem dX6_addSet_1 : decode cX6_addSet 1 = .ok (.iconst 1, 1) := by decide +kernel
theorem dX6_addSet_2 : decode cX6_addSet 2 = .ok (.bipush 99, 2) := by decide +kernel
theorem dX6_addSet_4 : decode cX6_addSet 4 = .ok (.invokestatic 36, 3) := by decide +kernel
theorem dX6_addSet_7 : decode cX6_addSet 7 = .ok (.ifCond .eq 42, 3) := by decide +kernel
theorem dX6_addSet_10 : decode cX6_addSet 10 = .ok (.iload_n 2, 1) := by decide +kernel
theorem dX6_addSet_11 : decode cX6_addSet 11 = .ok (.bipush 10, 2) := by decide +kernel
theorem dX6_addSet_13 : decode cX6_addSet 13 = .ok (.sipush 500, 3) := by decide +kernel
theorem dX6_addSet_16 : decode cX6_addSet 16 = .ok (.invokestatic 36, 3) := by decide +kernel
theorem dX6_addSet_19 : decode cX6_addSet 19 = .ok (.ifCond .eq 30, 3) := by decide +kernel
theorem dX6_addSet_22 : decode cX6_addSet 22 = .ok (.iload_n 3, 1) := by decide +kernel
theorem dX6_addSet_23 : decode cX6_addSet 23 = .ok (.iconst 1, 1) := by decide +kernel
theorem dX6_addSet_24 : decode cX6_addSet 24 = .ok (.bipush 50, 2) := by decide +kernel
theorem dX6_addSet_26 : decode cX6_addSet 26 = .ok (.invokestatic 36, 3) := by decide +kernel
theorem dX6_addSet_29 : decode cX6_addSet 29 = .ok (.ifCond .eq 20, 3) := by decide +kernel
theorem dX6_addSet_32 : decode cX6_addSet 32 = .ok (.iload_n 3, 1) := by decide +kernel
theorem dX6_addSet_33 : decode cX6_addSet 33 = .ok (.iload_n 2, 1) := by decide +kernel
theorem dX6_addSet_34 : decode cX6_addSet 34 = .ok (.if_icmp .gt 15, 3) := by decide +kernel
theorem dX6_addSet_37 : decode cX6_addSet 37 = .ok (.iload 4, 2) := by decide +kernel
theorem dX6_addSet_39 : decode cX6_addSet 39 = .ok (.bipush (-30), 2) := by decide +kernel
theorem dX6_addSet_41 : decode cX6_addSet 41 = .ok (.bipush 10, 2) := by decide +kernel
theorem dX6_addSet_43 : decode cX6_addSet 43 = .ok (.invokestatic 36, 3) := by decide +kernel
theorem dX6_addSet_46 : decode cX6_addSet 46 = .ok (.ifCond .ne 6, 3) := by decide +kernel
theorem dX6_addSet_49 : decode cX6_addSet 49 = .ok (.bipush (-2), 2) := by decide +kernel
theorem dX6_addSet_51 : decode cX6_addSet 51 = .ok (.ireturn, 1) := by decide +kernel
theorem dX6_addSet_52 : decode cX6_addSet 52 = .ok (.aload_n 0, 1) := by decide +kernel
theorem dX6_addSet_53 : decode cX6_addSet 53 = .ok (.getfield 7, 3) := by decide +kernel
theorem dX6_addSet_56 : decode cX6_addSet 56 = .ok (.bipush 6, 2) := by decide +kernel
theorem dX6_addSet_58 : decode cX6_addSet 58 = .ok (.iaload, 1) := by decide +kernel
theorem dX6_addSet_59 : decode cX6_addSet 59 = .ok (.bipush 10, 2) := by decide +kernel
theorem dX6_addSet_61 : decode cX6_addSet 61 = .ok (.if_icmp .ne 6, 3) := by decide +kernel
theorem dX6_addSet_64 : decode cX6_addSet 64 = .ok (.bipush (-3), 2) := by decide +kernel
theorem dX6_addSet_66 : decode cX6_addSet 66 = .ok (.ireturn, 1) := by decide +kernel
theorem dX6_addSet_67 : decode cX6_addSet 67 = .ok (.aload_n 0, 1) := by decide +kernel
theorem dX6_addSet_68 : decode cX6_addSet 68 = .ok (.invokevirtual 41, 3) := by decide +kernel
theorem dX6_addSet_71 : decode cX6_addSet 71 = .ok (.aload_n 0, 1) := by decide +kernel
theorem dX6_addSet_72 : decode cX6_addSet 72 = .ok (.getfield 7, 3) := by decide +kernel
theorem dX6_addSet_75 : decode cX6_addSet 75 = .ok (.bipush 6, 2) := by decide +kernel
theorem dX6_addSet_77 : decode cX6_addSet 77 = .ok (.iaload, 1) := by decide +kernel
theorem dX6_addSet_78 : decode cX6_addSet 78 = .ok (.istore 5, 2) := by decide +kernel
theorem dX6_addSet_80 : decode cX6_addSet 80 = .ok (.aload_n 0, 1) := by decide +kernel
theorem dX6_addSet_81 : decode cX6_addSet 81 = .ok (.getfield 7, 3) := by decide +kernel
theorem dX6_addSet_84 : decode cX6_addSet 84 = .ok (.bipush 6, 2) := by decide +kernel
theorem dX6_addSet_86 : decode cX6_addSet 86 = .ok (.dup2, 1) := by decide +kernel
theorem dX6_addSet_87 : decode cX6_addSet 87 = .ok (.iaload, 1) := by decide +kernel
theorem dX6_addSet_88 : decode cX6_addSet 88 = .ok (.iconst 1, 1) := by decide +kernel
theorem dX6_addSet_89 : decode cX6_addSet 89 = .ok (.iadd, 1) := by decide +kernel
theorem dX6_addSet_90 : decode cX6_addSet 90 = .ok (.iastore, 1) := by decide +kernel
theorem dX6_addSet_91 : decode cX6_addSet 91 = .ok (.aload_n 0, 1) := by decide +kernel
theorem dX6_addSet_92 : decode cX6_addSet 92 = .ok (.iload 5, 2) := by decide +kernel
theorem dX6_addSet_94 : decode cX6_addSet 94 = .ok (.iconst 0, 1) := by decide +kernel
theorem dX6_addSet_95 : decode cX6_addSet 95 = .ok (.iload_n 1, 1) := by decide +kernel
theorem dX6_addSet_96 : decode cX6_addSet 96 = .ok (.invokevirtual 44, 3) := by decide +kernel
theorem dX6_addSet_99 : decode cX6_addSet 99 = .ok (.aload_n 0, 1) := by decide +kernel
theorem dX6_addSet_100 : decode cX6_addSet 100 = .ok (.iload 5, 2) := by decide +kernel
theorem dX6_addSet_102 : decode cX6_addSet 102 = .ok (.iconst 1, 1) := by decide +kernel
theorem dX6_addSet_103 : decode cX6_addSet 103 = .ok (.iload_n 2, 1) := by decide +kernel
theorem dX6_addSet_104 : decode cX6_addSet 104 = .ok (.invokevirtual 44, 3) := by decide +kernel
theorem dX6_addSet_107 : decode cX6_addSet 107 = .ok (.aload_n 0, 1) := by decide +kernel
theorem dX6_addSet_108 : decode cX6_addSet 108 = .ok (.iload 5, 2) := by decide +kernel
theorem dX6_addSet_110 : decode cX6_addSet 110 = .ok (.iconst 2, 1) := by decide +kernel
theorem dX6_addSet_111 : decode cX6_addSet 111 = .ok (.iload_n 3, 1) := by decide +kernel
theorem dX6_addSet_112 : decode cX6_addSet 112 = .ok (.invokevirtual 44, 3) := by decide +kernel
theorem dX6_addSet_115 : decode cX6_addSet 115 = .ok (.aload_n 0, 1) := by decide +kernel
theorem dX6_addSet_116 : decode cX6_addSet 116 = .ok (.iload 5, 2) := by decide +kernel
theorem dX6_addSet_118 : decode cX6_addSet 118 = .ok (.iconst 3, 1) := by decide +kernel
theorem dX6_addSet_119 : decode cX6_addSet 119 = .ok (.iload 4, 2) := by decide +kernel
theorem dX6_addSet_121 : decode cX6_addSet 121 = .ok (.invokevirtual 44, 3) := by decide +kernel
theorem dX6_addSet_124 : decode cX6_addSet 124 = .ok (.iconst 4, 1) := by decide +kernel
theorem dX6_addSet_125 : decode cX6_addSet 125 = .ok (.istore 6, 2) := by decide +kernel
theorem dX6_addSet_127 : decode cX6_addSet 127 = .ok (.iload 6, 2) := by decide +kernel
theorem dX6_addSet_129 : decode cX6_addSet 129 = .ok (.bipush 8, 2) := by decide +kernel
theorem dX6_addSet_131 : decode cX6_addSet 131 = .ok (.if_icmp .gt 18, 3) := by decide +kernel
theorem dX6_addSet_134 : decode cX6_addSet 134 = .ok (.aload_n 0, 1) := by decide +kernel
theorem dX6_addSet_135 : decode cX6_addSet 135 = .ok (.iload 5, 2) := by decide +kernel
theorem dX6_addSet_137 : decode cX6_addSet 137 = .ok (.iload 6, 2) := by decide +kernel
theorem dX6_addSet_139 : decode cX6_addSet 139 = .ok (.iconst 0, 1) := by decide +kernel
theorem dX6_addSet_140 : decode cX6_addSet 140 = .ok (.invokevirtual 44, 3) := by decide +kernel
theorem dX6_addSet_143 : decode cX6_addSet 143 = .ok (.iinc 6 1, 3) := by decide +kernel
theorem dX6_addSet_146 : decode cX6_addSet 146 = .ok (.goto (-19), 3) := by decide +kernel
theorem dX6_addSet_149 : decode cX6_addSet 149 = .ok (.iload 5, 2) := by decide +kernel
theorem dX6_addSet_151 : decode cX6_addSet 151 = .ok (.ireturn, 1) := by decide +kernel
theorem dX6_roomIn_0 : decode cX6_roomIn 0 = .ok (.aload_n 0, 1) := by decide +kernel
theorem dX6_roomIn_1 : decode cX6_roomIn 1 = .ok (.iload_n 1, 1) := by decide +kernel
theorem dX6_roomIn_2 : decode cX6_roomIn 2 = .ok (.iconst 1, 1) := by decide +kernel
theorem dX6_roomIn_3 : decode cX6_roomIn 3 = .ok (.invokevirtual 48, 3) := by decide +kernel
theorem dX6_roomIn_6 : decode cX6_roomIn 6 = .ok (.aload_n 0, 1) := by decide +kernel
theorem dX6_roomIn_7 : decode cX6_roomIn 7 = .ok (.iload_n 1, 1) := by decide +kernel
theorem dX6_roomIn_8 : decode cX6_roomIn 8 = .ok (.iconst 4, 1) := by decide +kernel
theorem dX6_roomIn_9 : decode cX6_roomIn 9 = .ok (.invokevirtual 48, 3) := by decide +kernel
theorem dX6_roomIn_12 : decode cX6_roomIn 12 = .ok (.isub, 1) := by decide +kernel
theorem dX6_roomIn_13 : decode cX6_roomIn 13 = .ok (.ireturn, 1) := by decide +kernel
theorem dX6_fills_0 : decode cX6_fills 0 = .ok (.aload_n 0, 1) := by decide +kernel
theorem dX6_fills_1 : decode cX6_fills 1 = .ok (.iload_n 1, 1) := by decide +kernel
theorem dX6_fills_2 : decode cX6_fills 2 = .ok (.iconst 4, 1) := by decide +kernel
theorem dX6_fills_3 : decode cX6_fills 3 = .ok (.aload_n 0, 1) := by decide +kernel
theorem dX6_fills_4 : decode cX6_fills 4 = .ok (.iload_n 1, 1) := by decide +kernel
theorem dX6_fills_5 : decode cX6_fills 5 = .ok (.iconst 4, 1) := by decide +kernel
theorem dX6_fills_6 : decode cX6_fills 6 = .ok (.invokevirtual 48, 3) := by decide +kernel
theorem dX6_fills_9 : decode cX6_fills 9 = .ok (.iload_n 2, 1) := by decide +kernel
theorem dX6_fills_10 : decode cX6_fills 10 = .ok (.iadd, 1) := by decide +kernel
theorem dX6_fills_11 : decode cX6_fills 11 = .ok (.invokevirtual 44, 3) := by decide +kernel
theorem dX6_fills_14 : decode cX6_fills 14 = .ok (.aload_n 0, 1) := by decide +kernel
theorem dX6_fills_15 : decode cX6_fills 15 = .ok (.getfield 7, 3) := by decide +kernel
theorem dX6_fills_18 : decode cX6_fills 18 = .ok (.iconst 3, 1) := by decide +kernel
theorem dX6_fills_19 : decode cX6_fills 19 = .ok (.dup2, 1) := by decide +kernel
theorem dX6_fills_20 : decode cX6_fills 20 = .ok (.iaload, 1) := by decide +kernel
theorem dX6_fills_21 : decode cX6_fills 21 = .ok (.iload_n 2, 1) := by decide +kernel
theorem dX6_fills_22 : decode cX6_fills 22 = .ok (.isub, 1) := by decide +kernel
theorem dX6_fills_23 : decode cX6_fills 23 = .ok (.iastore, 1) := by decide +kernel
theorem dX6_fills_24 : decode cX6_fills 24 = .ok (.return_, 1) := by decide +kernel
theorem dX6_fill_0 : decode cX6_fill 0 = .ok (.aload_n 0, 1) := by decide +kernel
theorem dX6_fill_1 : decode cX6_fill 1 = .ok (.iload_n 1, 1) := by decide +kernel
theorem dX6_fill_2 : decode cX6_fill 2 = .ok (.invokevirtual 52, 3) := by decide +kernel
theorem dX6_fill_5 : decode cX6_fill 5 = .ok (.ifCond .eq 5, 3) := by decide +kernel
theorem dX6_fill_8 : decode cX6_fill 8 = .ok (.iconst (-1), 1) := by decide +kernel
theorem dX6_fill_9 : decode cX6_fill 9 = .ok (.ireturn, 1) := by decide +kernel
theorem dX6_fill_10 : decode cX6_fill 10 = .ok (.aload_n 0, 1) := by decide +kernel
theorem dX6_fill_11 : decode cX6_fill 11 = .ok (.iload_n 1, 1) := by decide +kernel
theorem dX6_fill_12 : decode cX6_fill 12 = .ok (.iconst 5, 1) := by decide +kernel
theorem dX6_fill_13 : decode cX6_fill 13 = .ok (.invokevirtual 48, 3) := by decide +kernel
theorem dX6_fill_16 : decode cX6_fill 16 = .ok (.ifCond .le 6, 3) := by decide +kernel
theorem dX6_fill_19 : decode cX6_fill 19 = .ok (.bipush (-4), 2) := by decide +kernel
theorem dX6_fill_21 : decode cX6_fill 21 = .ok (.ireturn, 1) := by decide +kernel
theorem dX6_fill_22 : decode cX6_fill 22 = .ok (.aload_n 0, 1) := by decide +kernel
theorem dX6_fill_23 : decode cX6_fill 23 = .ok (.iload_n 1, 1) := by decide +kernel
theorem dX6_fill_24 : decode cX6_fill 24 = .ok (.invokevirtual 56, 3) := by decide +kernel
theorem dX6_fill_27 : decode cX6_fill 27 = .ok (.aload_n 0, 1) := by decide +kernel
theorem dX6_fill_28 : decode cX6_fill 28 = .ok (.getfield 7, 3) := by decide +kernel
theorem dX6_fill_31 : decode cX6_fill 31 = .ok (.iconst 3, 1) := by decide +kernel
theorem dX6_fill_32 : decode cX6_fill 32 = .ok (.iaload, 1) := by decide +kernel
theorem dX6_fill_33 : decode cX6_fill 33 = .ok (.invokestatic 60, 3) := by decide +kernel
theorem dX6_fill_36 : decode cX6_fill 36 = .ok (.istore_n 2, 1) := by decide +kernel
theorem dX6_fill_37 : decode cX6_fill 37 = .ok (.iload_n 2, 1) := by decide +kernel
theorem dX6_fill_38 : decode cX6_fill 38 = .ok (.ifCond .ne 6, 3) := by decide +kernel
theorem dX6_fill_41 : decode cX6_fill 41 = .ok (.bipush (-5), 2) := by decide +kernel
theorem dX6_fill_43 : decode cX6_fill 43 = .ok (.ireturn, 1) := by decide +kernel
theorem dX6_fill_44 : decode cX6_fill 44 = .ok (.aload_n 0, 1) := by decide +kernel
theorem dX6_fill_45 : decode cX6_fill 45 = .ok (.invokevirtual 41, 3) := by decide +kernel
theorem dX6_fill_48 : decode cX6_fill 48 = .ok (.aload_n 0, 1) := by decide +kernel
theorem dX6_fill_49 : decode cX6_fill 49 = .ok (.iload_n 1, 1) := by decide +kernel
theorem dX6_fill_50 : decode cX6_fill 50 = .ok (.iload_n 2, 1) := by decide +kernel
theorem dX6_fill_51 : decode cX6_fill 51 = .ok (.invokevirtual 63, 3) := by decide +kernel
theorem dX6_fill_54 : decode cX6_fill 54 = .ok (.iload_n 2, 1) := by decide +kernel
theorem dX6_fill_55 : decode cX6_fill 55 = .ok (.ireturn, 1) := by decide +kernel
theorem dX6_areHours_0 : decode cX6_areHours 0 = .ok (.iload_n 1, 1) := by decide +kernel
theorem dX6_areHours_1 : decode cX6_areHours 1 = .ok (.iconst 0, 1) := by decide +kernel
theorem dX6_areHours_2 : decode cX6_areHours 2 = .ok (.sipush 998, 3) := by decide +kernel
theorem dX6_areHours_5 : decode cX6_areHours 5 = .ok (.invokestatic 36, 3) := by decide +kernel
theorem dX6_areHours_8 : decode cX6_areHours 8 = .ok (.ifCond .eq 29, 3) := by decide +kernel
theorem dX6_areHours_11 : decode cX6_areHours 11 = .ok (.iload_n 2, 1) := by decide +kernel
theorem dX6_areHours_12 : decode cX6_areHours 12 = .ok (.iload_n 1, 1) := by decide +kernel
theorem dX6_areHours_13 : decode cX6_areHours 13 = .ok (.if_icmp .le 24, 3) := by decide +kernel
theorem dX6_areHours_16 : decode cX6_areHours 16 = .ok (.iload_n 2, 1) := by decide +kernel
theorem dX6_areHours_17 : decode cX6_areHours 17 = .ok (.aload_n 0, 1) := by decide +kernel
theorem dX6_areHours_18 : decode cX6_areHours 18 = .ok (.getfield 7, 3) := by decide +kernel
theorem dX6_areHours_21 : decode cX6_areHours 21 = .ok (.iconst 0, 1) := by decide +kernel
theorem dX6_areHours_22 : decode cX6_areHours 22 = .ok (.iaload, 1) := by decide +kernel
theorem dX6_areHours_23 : decode cX6_areHours 23 = .ok (.if_icmp .le 14, 3) := by decide +kernel
theorem dX6_areHours_26 : decode cX6_areHours 26 = .ok (.iload_n 2, 1) := by decide +kernel
theorem dX6_areHours_27 : decode cX6_areHours 27 = .ok (.sipush 999, 3) := by decide +kernel
theorem dX6_areHours_30 : decode cX6_areHours 30 = .ok (.if_icmp .gt 7, 3) := by decide +kernel
theorem dX6_areHours_33 : decode cX6_areHours 33 = .ok (.iconst 1, 1) := by decide +kernel
theorem dX6_areHours_34 : decode cX6_areHours 34 = .ok (.goto 4, 3) := by decide +kernel
theorem dX6_areHours_37 : decode cX6_areHours 37 = .ok (.iconst 0, 1) := by decide +kernel
theorem dX6_areHours_38 : decode cX6_areHours 38 = .ok (.ireturn, 1) := by decide +kernel
theorem dX6_adds_0 : decode cX6_adds 0 = .ok (.aload_n 0, 1) := by decide +kernel
theorem dX6_adds_1 : decode cX6_adds 1 = .ok (.getfield 7, 3) := by decide +kernel
theorem dX6_adds_4 : decode cX6_adds 4 = .ok (.bipush 7, 2) := by decide +kernel
theorem dX6_adds_6 : decode cX6_adds 6 = .ok (.iaload, 1) := by decide +kernel
theorem dX6_adds_7 : decode cX6_adds 7 = .ok (.istore 5, 2) := by decide +kernel
theorem dX6_adds_9 : decode cX6_adds 9 = .ok (.aload_n 0, 1) := by decide +kernel
theorem dX6_adds_10 : decode cX6_adds 10 = .ok (.getfield 7, 3) := by decide +kernel
theorem dX6_adds_13 : decode cX6_adds 13 = .ok (.bipush 7, 2) := by decide +kernel
theorem dX6_adds_15 : decode cX6_adds 15 = .ok (.dup2, 1) := by decide +kernel
theorem dX6_adds_16 : decode cX6_adds 16 = .ok (.iaload, 1) := by decide +kernel
theorem dX6_adds_17 : decode cX6_adds 17 = .ok (.iconst 1, 1) := by decide +kernel
theorem dX6_adds_18 : decode cX6_adds 18 = .ok (.iadd, 1) := by decide +kernel
theorem dX6_adds_19 : decode cX6_adds 19 = .ok (.iastore, 1) := by decide +kernel
theorem dX6_adds_20 : decode cX6_adds 20 = .ok (.aload_n 0, 1) := by decide +kernel
theorem dX6_adds_21 : decode cX6_adds 21 = .ok (.iload 5, 2) := by decide +kernel
theorem dX6_adds_23 : decode cX6_adds 23 = .ok (.iconst 0, 1) := by decide +kernel
theorem dX6_adds_24 : decode cX6_adds 24 = .ok (.iload_n 1, 1) := by decide +kernel
theorem dX6_adds_25 : decode cX6_adds 25 = .ok (.invokevirtual 67, 3) := by decide +kernel
theorem dX6_adds_28 : decode cX6_adds 28 = .ok (.aload_n 0, 1) := by decide +kernel
theorem dX6_adds_29 : decode cX6_adds 29 = .ok (.iload 5, 2) := by decide +kernel
theorem dX6_adds_31 : decode cX6_adds 31 = .ok (.iconst 1, 1) := by decide +kernel
theorem dX6_adds_32 : decode cX6_adds 32 = .ok (.iload_n 2, 1) := by decide +kernel
theorem dX6_adds_33 : decode cX6_adds 33 = .ok (.invokevirtual 67, 3) := by decide +kernel
theorem dX6_adds_36 : decode cX6_adds 36 = .ok (.aload_n 0, 1) := by decide +kernel
theorem dX6_adds_37 : decode cX6_adds 37 = .ok (.iload 5, 2) := by decide +kernel
theorem dX6_adds_39 : decode cX6_adds 39 = .ok (.iconst 2, 1) := by decide +kernel
theorem dX6_adds_40 : decode cX6_adds 40 = .ok (.iload_n 3, 1) := by decide +kernel
theorem dX6_adds_41 : decode cX6_adds 41 = .ok (.invokevirtual 67, 3) := by decide +kernel
theorem dX6_adds_44 : decode cX6_adds 44 = .ok (.aload_n 0, 1) := by decide +kernel
theorem dX6_adds_45 : decode cX6_adds 45 = .ok (.iload 5, 2) := by decide +kernel
theorem dX6_adds_47 : decode cX6_adds 47 = .ok (.iconst 3, 1) := by decide +kernel
theorem dX6_adds_48 : decode cX6_adds 48 = .ok (.iload 4, 2) := by decide +kernel
theorem dX6_adds_50 : decode cX6_adds 50 = .ok (.invokevirtual 67, 3) := by decide +kernel
theorem dX6_adds_53 : decode cX6_adds 53 = .ok (.iconst 4, 1) := by decide +kernel
theorem dX6_adds_54 : decode cX6_adds 54 = .ok (.istore 6, 2) := by decide +kernel
theorem dX6_adds_56 : decode cX6_adds 56 = .ok (.iload 6, 2) := by decide +kernel
theorem dX6_adds_58 : decode cX6_adds 58 = .ok (.bipush 8, 2) := by decide +kernel
theorem dX6_adds_60 : decode cX6_adds 60 = .ok (.if_icmp .gt 18, 3) := by decide +kernel
theorem dX6_adds_63 : decode cX6_adds 63 = .ok (.aload_n 0, 1) := by decide +kernel
theorem dX6_adds_64 : decode cX6_adds 64 = .ok (.iload 5, 2) := by decide +kernel
theorem dX6_adds_66 : decode cX6_adds 66 = .ok (.iload 6, 2) := by decide +kernel
theorem dX6_adds_68 : decode cX6_adds 68 = .ok (.iconst 0, 1) := by decide +kernel
theorem dX6_adds_69 : decode cX6_adds 69 = .ok (.invokevirtual 67, 3) := by decide +kernel
theorem dX6_adds_72 : decode cX6_adds 72 = .ok (.iinc 6 1, 3) := by decide +kernel
theorem dX6_adds_75 : decode cX6_adds 75 = .ok (.goto (-19), 3) := by decide +kernel
theorem dX6_adds_78 : decode cX6_adds 78 = .ok (.iload 5, 2) := by decide +kernel
theorem dX6_adds_80 : decode cX6_adds 80 = .ok (.ireturn, 1) := by decide +kernel
theorem dX6_addSite_0 : decode cX6_addSite 0 = .ok (.iload_n 1, 1) := by decide +kernel
theorem dX6_addSite_1 : decode cX6_addSite 1 = .ok (.iconst 1, 1) := by decide +kernel
theorem dX6_addSite_2 : decode cX6_addSite 2 = .ok (.bipush 9, 2) := by decide +kernel
theorem dX6_addSite_4 : decode cX6_addSite 4 = .ok (.invokestatic 36, 3) := by decide +kernel
theorem dX6_addSite_7 : decode cX6_addSite 7 = .ok (.ifCond .eq 23, 3) := by decide +kernel
theorem dX6_addSite_10 : decode cX6_addSite 10 = .ok (.iload_n 2, 1) := by decide +kernel
theorem dX6_addSite_11 : decode cX6_addSite 11 = .ok (.iconst 1, 1) := by decide +kernel
theorem dX6_addSite_12 : decode cX6_addSite 12 = .ok (.bipush 99, 2) := by decide +kernel
theorem dX6_addSite_14 : decode cX6_addSite 14 = .ok (.invokestatic 36, 3) := by decide +kernel
theorem dX6_addSite_17 : decode cX6_addSite 17 = .ok (.ifCond .eq 13, 3) := by decide +kernel
theorem dX6_addSite_20 : decode cX6_addSite 20 = .ok (.aload_n 0, 1) := by decide +kernel
theorem dX6_addSite_21 : decode cX6_addSite 21 = .ok (.iload_n 3, 1) := by decide +kernel
theorem dX6_addSite_22 : decode cX6_addSite 22 = .ok (.iload 4, 2) := by decide +kernel
theorem dX6_addSite_24 : decode cX6_addSite 24 = .ok (.invokevirtual 70, 3) := by decide +kernel
theorem dX6_addSite_27 : decode cX6_addSite 27 = .ok (.ifCond .ne 6, 3) := by decide +kernel
theorem dX6_addSite_30 : decode cX6_addSite 30 = .ok (.bipush (-2), 2) := by decide +kernel
theorem dX6_addSite_32 : decode cX6_addSite 32 = .ok (.ireturn, 1) := by decide +kernel
theorem dX6_addSite_33 : decode cX6_addSite 33 = .ok (.aload_n 0, 1) := by decide +kernel
theorem dX6_addSite_34 : decode cX6_addSite 34 = .ok (.getfield 7, 3) := by decide +kernel
theorem dX6_addSite_37 : decode cX6_addSite 37 = .ok (.bipush 7, 2) := by decide +kernel
theorem dX6_addSite_39 : decode cX6_addSite 39 = .ok (.iaload, 1) := by decide +kernel
theorem dX6_addSite_40 : decode cX6_addSite 40 = .ok (.bipush 12, 2) := by decide +kernel
theorem dX6_addSite_42 : decode cX6_addSite 42 = .ok (.if_icmp .ne 6, 3) := by decide +kernel
theorem dX6_addSite_45 : decode cX6_addSite 45 = .ok (.bipush (-3), 2) := by decide +kernel
theorem dX6_addSite_47 : decode cX6_addSite 47 = .ok (.ireturn, 1) := by decide +kernel
theorem dX6_addSite_48 : decode cX6_addSite 48 = .ok (.aload_n 0, 1) := by decide +kernel
theorem dX6_addSite_49 : decode cX6_addSite 49 = .ok (.invokevirtual 41, 3) := by decide +kernel
theorem dX6_addSite_52 : decode cX6_addSite 52 = .ok (.aload_n 0, 1) := by decide +kernel
theorem dX6_addSite_53 : decode cX6_addSite 53 = .ok (.iload_n 1, 1) := by decide +kernel
theorem dX6_addSite_54 : decode cX6_addSite 54 = .ok (.iload_n 2, 1) := by decide +kernel
theorem dX6_addSite_55 : decode cX6_addSite 55 = .ok (.iload_n 3, 1) := by decide +kernel
theorem dX6_addSite_56 : decode cX6_addSite 56 = .ok (.iload 4, 2) := by decide +kernel
theorem dX6_addSite_58 : decode cX6_addSite 58 = .ok (.invokevirtual 74, 3) := by decide +kernel
theorem dX6_addSite_61 : decode cX6_addSite 61 = .ok (.ireturn, 1) := by decide +kernel
theorem dX6_setAt_0 : decode cX6_setAt 0 = .ok (.aload_n 0, 1) := by decide +kernel
theorem dX6_setAt_1 : decode cX6_setAt 1 = .ok (.iload_n 1, 1) := by decide +kernel
theorem dX6_setAt_2 : decode cX6_setAt 2 = .ok (.iconst 4, 1) := by decide +kernel
theorem dX6_setAt_3 : decode cX6_setAt 3 = .ok (.invokevirtual 78, 3) := by decide +kernel
theorem dX6_setAt_6 : decode cX6_setAt 6 = .ok (.iconst 1, 1) := by decide +kernel
theorem dX6_setAt_7 : decode cX6_setAt 7 = .ok (.isub, 1) := by decide +kernel
theorem dX6_setAt_8 : decode cX6_setAt 8 = .ok (.ireturn, 1) := by decide +kernel
theorem dX6_isOpen_0 : decode cX6_isOpen 0 = .ok (.aload_n 0, 1) := by decide +kernel
theorem dX6_isOpen_1 : decode cX6_isOpen 1 = .ok (.iload_n 1, 1) := by decide +kernel
theorem dX6_isOpen_2 : decode cX6_isOpen 2 = .ok (.iconst 2, 1) := by decide +kernel
theorem dX6_isOpen_3 : decode cX6_isOpen 3 = .ok (.invokevirtual 78, 3) := by decide +kernel
theorem dX6_isOpen_6 : decode cX6_isOpen 6 = .ok (.aload_n 0, 1) := by decide +kernel
theorem dX6_isOpen_7 : decode cX6_isOpen 7 = .ok (.getfield 7, 3) := by decide +kernel
theorem dX6_isOpen_10 : decode cX6_isOpen 10 = .ok (.iconst 0, 1) := by decide +kernel
theorem dX6_isOpen_11 : decode cX6_isOpen 11 = .ok (.iaload, 1) := by decide +kernel
theorem dX6_isOpen_12 : decode cX6_isOpen 12 = .ok (.if_icmp .gt 22, 3) := by decide +kernel
theorem dX6_isOpen_15 : decode cX6_isOpen 15 = .ok (.aload_n 0, 1) := by decide +kernel
theorem dX6_isOpen_16 : decode cX6_isOpen 16 = .ok (.getfield 7, 3) := by decide +kernel
theorem dX6_isOpen_19 : decode cX6_isOpen 19 = .ok (.iconst 0, 1) := by decide +kernel
theorem dX6_isOpen_20 : decode cX6_isOpen 20 = .ok (.iaload, 1) := by decide +kernel
theorem dX6_isOpen_21 : decode cX6_isOpen 21 = .ok (.aload_n 0, 1) := by decide +kernel
theorem dX6_isOpen_22 : decode cX6_isOpen 22 = .ok (.iload_n 1, 1) := by decide +kernel
theorem dX6_isOpen_23 : decode cX6_isOpen 23 = .ok (.iconst 3, 1) := by decide +kernel
theorem dX6_isOpen_24 : decode cX6_isOpen 24 = .ok (.invokevirtual 78, 3) := by decide +kernel
theorem dX6_isOpen_27 : decode cX6_isOpen 27 = .ok (.if_icmp .ge 7, 3) := by decide +kernel
theorem dX6_isOpen_30 : decode cX6_isOpen 30 = .ok (.iconst 1, 1) := by decide +kernel
theorem dX6_isOpen_31 : decode cX6_isOpen 31 = .ok (.goto 4, 3) := by decide +kernel
theorem dX6_isOpen_34 : decode cX6_isOpen 34 = .ok (.iconst 0, 1) := by decide +kernel
theorem dX6_isOpen_35 : decode cX6_isOpen 35 = .ok (.ireturn, 1) := by decide +kernel
theorem dX6_fits_0 : decode cX6_fits 0 = .ok (.aload_n 0, 1) := by decide +kernel
theorem dX6_fits_1 : decode cX6_fits 1 = .ok (.iload_n 1, 1) := by decide +kernel
theorem dX6_fits_2 : decode cX6_fits 2 = .ok (.iconst 0, 1) := by decide +kernel
theorem dX6_fits_3 : decode cX6_fits 3 = .ok (.invokevirtual 48, 3) := by decide +kernel
theorem dX6_fits_6 : decode cX6_fits 6 = .ok (.aload_n 0, 1) := by decide +kernel
theorem dX6_fits_7 : decode cX6_fits 7 = .ok (.iload_n 2, 1) := by decide +kernel
theorem dX6_fits_8 : decode cX6_fits 8 = .ok (.iconst 1, 1) := by decide +kernel
theorem dX6_fits_9 : decode cX6_fits 9 = .ok (.invokevirtual 78, 3) := by decide +kernel
theorem dX6_fits_12 : decode cX6_fits 12 = .ok (.if_icmp .lt 7, 3) := by decide +kernel
theorem dX6_fits_15 : decode cX6_fits 15 = .ok (.iconst 1, 1) := by decide +kernel
theorem dX6_fits_16 : decode cX6_fits 16 = .ok (.goto 4, 3) := by decide +kernel
theorem dX6_fits_19 : decode cX6_fits 19 = .ok (.iconst 0, 1) := by decide +kernel
theorem dX6_fits_20 : decode cX6_fits 20 = .ok (.ireturn, 1) := by decide +kernel
theorem dX6_comes_0 : decode cX6_comes 0 = .ok (.aload_n 0, 1) := by decide +kernel
theorem dX6_comes_1 : decode cX6_comes 1 = .ok (.iload_n 1, 1) := by decide +kernel
theorem dX6_comes_2 : decode cX6_comes 2 = .ok (.iconst 5, 1) := by decide +kernel
theorem dX6_comes_3 : decode cX6_comes 3 = .ok (.iload_n 2, 1) := by decide +kernel
theorem dX6_comes_4 : decode cX6_comes 4 = .ok (.iconst 1, 1) := by decide +kernel
theorem dX6_comes_5 : decode cX6_comes 5 = .ok (.iadd, 1) := by decide +kernel
theorem dX6_comes_6 : decode cX6_comes 6 = .ok (.invokevirtual 44, 3) := by decide +kernel
theorem dX6_comes_9 : decode cX6_comes 9 = .ok (.aload_n 0, 1) := by decide +kernel
theorem dX6_comes_10 : decode cX6_comes 10 = .ok (.iload_n 1, 1) := by decide +kernel
theorem dX6_comes_11 : decode cX6_comes 11 = .ok (.bipush 6, 2) := by decide +kernel
theorem dX6_comes_13 : decode cX6_comes 13 = .ok (.iconst 0, 1) := by decide +kernel
theorem dX6_comes_14 : decode cX6_comes 14 = .ok (.invokevirtual 44, 3) := by decide +kernel
theorem dX6_comes_17 : decode cX6_comes 17 = .ok (.aload_n 0, 1) := by decide +kernel
theorem dX6_comes_18 : decode cX6_comes 18 = .ok (.iload_n 1, 1) := by decide +kernel
theorem dX6_comes_19 : decode cX6_comes 19 = .ok (.bipush 7, 2) := by decide +kernel
theorem dX6_comes_21 : decode cX6_comes 21 = .ok (.iconst 0, 1) := by decide +kernel
theorem dX6_comes_22 : decode cX6_comes 22 = .ok (.invokevirtual 44, 3) := by decide +kernel
theorem dX6_comes_25 : decode cX6_comes 25 = .ok (.aload_n 0, 1) := by decide +kernel
theorem dX6_comes_26 : decode cX6_comes 26 = .ok (.iload_n 2, 1) := by decide +kernel
theorem dX6_comes_27 : decode cX6_comes 27 = .ok (.iconst 4, 1) := by decide +kernel
theorem dX6_comes_28 : decode cX6_comes 28 = .ok (.iload_n 1, 1) := by decide +kernel
theorem dX6_comes_29 : decode cX6_comes 29 = .ok (.iconst 1, 1) := by decide +kernel
theorem dX6_comes_30 : decode cX6_comes 30 = .ok (.iadd, 1) := by decide +kernel
theorem dX6_comes_31 : decode cX6_comes 31 = .ok (.invokevirtual 67, 3) := by decide +kernel
theorem dX6_comes_34 : decode cX6_comes 34 = .ok (.return_, 1) := by decide +kernel
theorem dX6_goesBack_0 : decode cX6_goesBack 0 = .ok (.aload_n 0, 1) := by decide +kernel
theorem dX6_goesBack_1 : decode cX6_goesBack 1 = .ok (.iload_n 1, 1) := by decide +kernel
theorem dX6_goesBack_2 : decode cX6_goesBack 2 = .ok (.invokevirtual 81, 3) := by decide +kernel
theorem dX6_goesBack_5 : decode cX6_goesBack 5 = .ok (.istore_n 2, 1) := by decide +kernel
theorem dX6_goesBack_6 : decode cX6_goesBack 6 = .ok (.aload_n 0, 1) := by decide +kernel
theorem dX6_goesBack_7 : decode cX6_goesBack 7 = .ok (.iload_n 2, 1) := by decide +kernel
theorem dX6_goesBack_8 : decode cX6_goesBack 8 = .ok (.iconst 5, 1) := by decide +kernel
theorem dX6_goesBack_9 : decode cX6_goesBack 9 = .ok (.iconst 0, 1) := by decide +kernel
theorem dX6_goesBack_10 : decode cX6_goesBack 10 = .ok (.invokevirtual 44, 3) := by decide +kernel
theorem dX6_goesBack_13 : decode cX6_goesBack 13 = .ok (.aload_n 0, 1) := by decide +kernel
theorem dX6_goesBack_14 : decode cX6_goesBack 14 = .ok (.iload_n 2, 1) := by decide +kernel
theorem dX6_goesBack_15 : decode cX6_goesBack 15 = .ok (.bipush 6, 2) := by decide +kernel
theorem dX6_goesBack_17 : decode cX6_goesBack 17 = .ok (.iconst 0, 1) := by decide +kernel
theorem dX6_goesBack_18 : decode cX6_goesBack 18 = .ok (.invokevirtual 44, 3) := by decide +kernel
theorem dX6_goesBack_21 : decode cX6_goesBack 21 = .ok (.aload_n 0, 1) := by decide +kernel
theorem dX6_goesBack_22 : decode cX6_goesBack 22 = .ok (.iload_n 2, 1) := by decide +kernel
theorem dX6_goesBack_23 : decode cX6_goesBack 23 = .ok (.bipush 7, 2) := by decide +kernel
theorem dX6_goesBack_25 : decode cX6_goesBack 25 = .ok (.iconst 0, 1) := by decide +kernel
theorem dX6_goesBack_26 : decode cX6_goesBack 26 = .ok (.invokevirtual 44, 3) := by decide +kernel
theorem dX6_goesBack_29 : decode cX6_goesBack 29 = .ok (.aload_n 0, 1) := by decide +kernel
theorem dX6_goesBack_30 : decode cX6_goesBack 30 = .ok (.iload_n 1, 1) := by decide +kernel
theorem dX6_goesBack_31 : decode cX6_goesBack 31 = .ok (.iconst 4, 1) := by decide +kernel
theorem dX6_goesBack_32 : decode cX6_goesBack 32 = .ok (.iconst 0, 1) := by decide +kernel
theorem dX6_goesBack_33 : decode cX6_goesBack 33 = .ok (.invokevirtual 67, 3) := by decide +kernel
theorem dX6_goesBack_36 : decode cX6_goesBack 36 = .ok (.return_, 1) := by decide +kernel
theorem dX6_inYard_0 : decode cX6_inYard 0 = .ok (.iconst 0, 1) := by decide +kernel
theorem dX6_inYard_1 : decode cX6_inYard 1 = .ok (.istore_n 1, 1) := by decide +kernel
theorem dX6_inYard_2 : decode cX6_inYard 2 = .ok (.iconst 0, 1) := by decide +kernel
theorem dX6_inYard_3 : decode cX6_inYard 3 = .ok (.istore_n 2, 1) := by decide +kernel
theorem dX6_inYard_4 : decode cX6_inYard 4 = .ok (.iload_n 2, 1) := by decide +kernel
theorem dX6_inYard_5 : decode cX6_inYard 5 = .ok (.aload_n 0, 1) := by decide +kernel
theorem dX6_inYard_6 : decode cX6_inYard 6 = .ok (.getfield 7, 3) := by decide +kernel
theorem dX6_inYard_9 : decode cX6_inYard 9 = .ok (.bipush 6, 2) := by decide +kernel
theorem dX6_inYard_11 : decode cX6_inYard 11 = .ok (.iaload, 1) := by decide +kernel
theorem dX6_inYard_12 : decode cX6_inYard 12 = .ok (.if_icmp .ge 26, 3) := by decide +kernel
theorem dX6_inYard_15 : decode cX6_inYard 15 = .ok (.iload_n 1, 1) := by decide +kernel
theorem dX6_inYard_16 : decode cX6_inYard 16 = .ok (.aload_n 0, 1) := by decide +kernel
theorem dX6_inYard_17 : decode cX6_inYard 17 = .ok (.iload_n 2, 1) := by decide +kernel
theorem dX6_inYard_18 : decode cX6_inYard 18 = .ok (.iconst 5, 1) := by decide +kernel
theorem dX6_inYard_19 : decode cX6_inYard 19 = .ok (.invokevirtual 48, 3) := by decide +kernel
theorem dX6_inYard_22 : decode cX6_inYard 22 = .ok (.ifCond .ne 7, 3) := by decide +kernel
theorem dX6_inYard_25 : decode cX6_inYard 25 = .ok (.iconst 1, 1) := by decide +kernel
theorem dX6_inYard_26 : decode cX6_inYard 26 = .ok (.goto 4, 3) := by decide +kernel
theorem dX6_inYard_29 : decode cX6_inYard 29 = .ok (.iconst 0, 1) := by decide +kernel
theorem dX6_inYard_30 : decode cX6_inYard 30 = .ok (.iadd, 1) := by decide +kernel
theorem dX6_inYard_31 : decode cX6_inYard 31 = .ok (.istore_n 1, 1) := by decide +kernel
theorem dX6_inYard_32 : decode cX6_inYard 32 = .ok (.iinc 2 1, 3) := by decide +kernel
theorem dX6_inYard_35 : decode cX6_inYard 35 = .ok (.goto (-31), 3) := by decide +kernel
theorem dX6_inYard_38 : decode cX6_inYard 38 = .ok (.iload_n 1, 1) := by decide +kernel
theorem dX6_inYard_39 : decode cX6_inYard 39 = .ok (.ireturn, 1) := by decide +kernel
theorem dX6_bring_0 : decode cX6_bring 0 = .ok (.aload_n 0, 1) := by decide +kernel
theorem dX6_bring_1 : decode cX6_bring 1 = .ok (.iload_n 1, 1) := by decide +kernel
theorem dX6_bring_2 : decode cX6_bring 2 = .ok (.invokevirtual 52, 3) := by decide +kernel
theorem dX6_bring_5 : decode cX6_bring 5 = .ok (.ifCond .ne 11, 3) := by decide +kernel
theorem dX6_bring_8 : decode cX6_bring 8 = .ok (.aload_n 0, 1) := by decide +kernel
theorem dX6_bring_9 : decode cX6_bring 9 = .ok (.iload_n 2, 1) := by decide +kernel
theorem dX6_bring_10 : decode cX6_bring 10 = .ok (.invokevirtual 84, 3) := by decide +kernel
theorem dX6_bring_13 : decode cX6_bring 13 = .ok (.ifCond .eq 5, 3) := by decide +kernel
theorem dX6_bring_16 : decode cX6_bring 16 = .ok (.iconst (-1), 1) := by decide +kernel
theorem dX6_bring_17 : decode cX6_bring 17 = .ok (.ireturn, 1) := by decide +kernel
theorem dX6_bring_18 : decode cX6_bring 18 = .ok (.aload_n 0, 1) := by decide +kernel
theorem dX6_bring_19 : decode cX6_bring 19 = .ok (.iload_n 1, 1) := by decide +kernel
theorem dX6_bring_20 : decode cX6_bring 20 = .ok (.iconst 5, 1) := by decide +kernel
theorem dX6_bring_21 : decode cX6_bring 21 = .ok (.invokevirtual 48, 3) := by decide +kernel
theorem dX6_bring_24 : decode cX6_bring 24 = .ok (.ifCond .gt 35, 3) := by decide +kernel
theorem dX6_bring_27 : decode cX6_bring 27 = .ok (.aload_n 0, 1) := by decide +kernel
theorem dX6_bring_28 : decode cX6_bring 28 = .ok (.iload_n 2, 1) := by decide +kernel
theorem dX6_bring_29 : decode cX6_bring 29 = .ok (.invokevirtual 81, 3) := by decide +kernel
theorem dX6_bring_32 : decode cX6_bring 32 = .ok (.ifCond .ge 27, 3) := by decide +kernel
theorem dX6_bring_35 : decode cX6_bring 35 = .ok (.aload_n 0, 1) := by decide +kernel
theorem dX6_bring_36 : decode cX6_bring 36 = .ok (.getfield 7, 3) := by decide +kernel
theorem dX6_bring_39 : decode cX6_bring 39 = .ok (.iconst 0, 1) := by decide +kernel
theorem dX6_bring_40 : decode cX6_bring 40 = .ok (.iaload, 1) := by decide +kernel
theorem dX6_bring_41 : decode cX6_bring 41 = .ok (.aload_n 0, 1) := by decide +kernel
theorem dX6_bring_42 : decode cX6_bring 42 = .ok (.iload_n 2, 1) := by decide +kernel
theorem dX6_bring_43 : decode cX6_bring 43 = .ok (.iconst 3, 1) := by decide +kernel
theorem dX6_bring_44 : decode cX6_bring 44 = .ok (.invokevirtual 78, 3) := by decide +kernel
theorem dX6_bring_47 : decode cX6_bring 47 = .ok (.if_icmp .ge 12, 3) := by decide +kernel
theorem dX6_bring_50 : decode cX6_bring 50 = .ok (.aload_n 0, 1) := by decide +kernel
theorem dX6_bring_51 : decode cX6_bring 51 = .ok (.iload_n 1, 1) := by decide +kernel
theorem dX6_bring_52 : decode cX6_bring 52 = .ok (.iload_n 2, 1) := by decide +kernel
theorem dX6_bring_53 : decode cX6_bring 53 = .ok (.invokevirtual 87, 3) := by decide +kernel
theorem dX6_bring_56 : decode cX6_bring 56 = .ok (.ifCond .ne 6, 3) := by decide +kernel
theorem dX6_bring_59 : decode cX6_bring 59 = .ok (.bipush (-4), 2) := by decide +kernel
theorem dX6_bring_61 : decode cX6_bring 61 = .ok (.ireturn, 1) := by decide +kernel
theorem dX6_bring_62 : decode cX6_bring 62 = .ok (.aload_n 0, 1) := by decide +kernel
theorem dX6_bring_63 : decode cX6_bring 63 = .ok (.invokevirtual 41, 3) := by decide +kernel
theorem dX6_bring_66 : decode cX6_bring 66 = .ok (.aload_n 0, 1) := by decide +kernel
theorem dX6_bring_67 : decode cX6_bring 67 = .ok (.iload_n 1, 1) := by decide +kernel
theorem dX6_bring_68 : decode cX6_bring 68 = .ok (.iload_n 2, 1) := by decide +kernel
theorem dX6_bring_69 : decode cX6_bring 69 = .ok (.invokevirtual 90, 3) := by decide +kernel
theorem dX6_bring_72 : decode cX6_bring 72 = .ok (.aload_n 0, 1) := by decide +kernel
theorem dX6_bring_73 : decode cX6_bring 73 = .ok (.invokevirtual 93, 3) := by decide +kernel
theorem dX6_bring_76 : decode cX6_bring 76 = .ok (.ireturn, 1) := by decide +kernel
theorem dX6_takeBack_0 : decode cX6_takeBack 0 = .ok (.aload_n 0, 1) := by decide +kernel
theorem dX6_takeBack_1 : decode cX6_takeBack 1 = .ok (.iload_n 1, 1) := by decide +kernel
theorem dX6_takeBack_2 : decode cX6_takeBack 2 = .ok (.invokevirtual 84, 3) := by decide +kernel
theorem dX6_takeBack_5 : decode cX6_takeBack 5 = .ok (.ifCond .eq 5, 3) := by decide +kernel
theorem dX6_takeBack_8 : decode cX6_takeBack 8 = .ok (.iconst (-1), 1) := by decide +kernel
theorem dX6_takeBack_9 : decode cX6_takeBack 9 = .ok (.ireturn, 1) := by decide +kernel
theorem dX6_takeBack_10 : decode cX6_takeBack 10 = .ok (.aload_n 0, 1) := by decide +kernel
theorem dX6_takeBack_11 : decode cX6_takeBack 11 = .ok (.iload_n 1, 1) := by decide +kernel
theorem dX6_takeBack_12 : decode cX6_takeBack 12 = .ok (.invokevirtual 81, 3) := by decide +kernel
theorem dX6_takeBack_15 : decode cX6_takeBack 15 = .ok (.istore_n 2, 1) := by decide +kernel
theorem dX6_takeBack_16 : decode cX6_takeBack 16 = .ok (.iload_n 2, 1) := by decide +kernel
theorem dX6_takeBack_17 : decode cX6_takeBack 17 = .ok (.ifCond .ge 6, 3) := by decide +kernel
theorem dX6_takeBack_20 : decode cX6_takeBack 20 = .ok (.bipush (-5), 2) := by decide +kernel
theorem dX6_takeBack_22 : decode cX6_takeBack 22 = .ok (.ireturn, 1) := by decide +kernel
theorem dX6_takeBack_23 : decode cX6_takeBack 23 = .ok (.aload_n 0, 1) := by decide +kernel
theorem dX6_takeBack_24 : decode cX6_takeBack 24 = .ok (.invokevirtual 41, 3) := by decide +kernel
theorem dX6_takeBack_27 : decode cX6_takeBack 27 = .ok (.aload_n 0, 1) := by decide +kernel
theorem dX6_takeBack_28 : decode cX6_takeBack 28 = .ok (.iload_n 1, 1) := by decide +kernel
theorem dX6_takeBack_29 : decode cX6_takeBack 29 = .ok (.invokevirtual 97, 3) := by decide +kernel
theorem dX6_takeBack_32 : decode cX6_takeBack 32 = .ok (.iload_n 2, 1) := by decide +kernel
theorem dX6_takeBack_33 : decode cX6_takeBack 33 = .ok (.ireturn, 1) := by decide +kernel
theorem dX6_isNeedier_0 : decode cX6_isNeedier 0 = .ok (.aload_n 0, 1) := by decide +kernel
theorem dX6_isNeedier_1 : decode cX6_isNeedier 1 = .ok (.iload_n 1, 1) := by decide +kernel
theorem dX6_isNeedier_2 : decode cX6_isNeedier 2 = .ok (.iconst 0, 1) := by decide +kernel
theorem dX6_isNeedier_3 : decode cX6_isNeedier 3 = .ok (.invokevirtual 78, 3) := by decide +kernel
theorem dX6_isNeedier_6 : decode cX6_isNeedier 6 = .ok (.aload_n 0, 1) := by decide +kernel
theorem dX6_isNeedier_7 : decode cX6_isNeedier 7 = .ok (.iload_n 2, 1) := by decide +kernel
theorem dX6_isNeedier_8 : decode cX6_isNeedier 8 = .ok (.iconst 0, 1) := by decide +kernel
theorem dX6_isNeedier_9 : decode cX6_isNeedier 9 = .ok (.invokevirtual 78, 3) := by decide +kernel
theorem dX6_isNeedier_12 : decode cX6_isNeedier 12 = .ok (.if_icmp .eq 24, 3) := by decide +kernel
theorem dX6_isNeedier_15 : decode cX6_isNeedier 15 = .ok (.aload_n 0, 1) := by decide +kernel
theorem dX6_isNeedier_16 : decode cX6_isNeedier 16 = .ok (.iload_n 1, 1) := by decide +kernel
theorem dX6_isNeedier_17 : decode cX6_isNeedier 17 = .ok (.iconst 0, 1) := by decide +kernel
theorem dX6_isNeedier_18 : decode cX6_isNeedier 18 = .ok (.invokevirtual 78, 3) := by decide +kernel
theorem dX6_isNeedier_21 : decode cX6_isNeedier 21 = .ok (.aload_n 0, 1) := by decide +kernel
theorem dX6_isNeedier_22 : decode cX6_isNeedier 22 = .ok (.iload_n 2, 1) := by decide +kernel
theorem dX6_isNeedier_23 : decode cX6_isNeedier 23 = .ok (.iconst 0, 1) := by decide +kernel
theorem dX6_isNeedier_24 : decode cX6_isNeedier 24 = .ok (.invokevirtual 78, 3) := by decide +kernel
theorem dX6_isNeedier_27 : decode cX6_isNeedier 27 = .ok (.if_icmp .le 7, 3) := by decide +kernel
theorem dX6_isNeedier_30 : decode cX6_isNeedier 30 = .ok (.iconst 1, 1) := by decide +kernel
theorem dX6_isNeedier_31 : decode cX6_isNeedier 31 = .ok (.goto 4, 3) := by decide +kernel
theorem dX6_isNeedier_34 : decode cX6_isNeedier 34 = .ok (.iconst 0, 1) := by decide +kernel
theorem dX6_isNeedier_35 : decode cX6_isNeedier 35 = .ok (.ireturn, 1) := by decide +kernel
theorem dX6_isNeedier_36 : decode cX6_isNeedier 36 = .ok (.aload_n 0, 1) := by decide +kernel
theorem dX6_isNeedier_37 : decode cX6_isNeedier 37 = .ok (.iload_n 1, 1) := by decide +kernel
theorem dX6_isNeedier_38 : decode cX6_isNeedier 38 = .ok (.iconst 1, 1) := by decide +kernel
theorem dX6_isNeedier_39 : decode cX6_isNeedier 39 = .ok (.invokevirtual 78, 3) := by decide +kernel
theorem dX6_isNeedier_42 : decode cX6_isNeedier 42 = .ok (.aload_n 0, 1) := by decide +kernel
theorem dX6_isNeedier_43 : decode cX6_isNeedier 43 = .ok (.iload_n 2, 1) := by decide +kernel
theorem dX6_isNeedier_44 : decode cX6_isNeedier 44 = .ok (.iconst 1, 1) := by decide +kernel
theorem dX6_isNeedier_45 : decode cX6_isNeedier 45 = .ok (.invokevirtual 78, 3) := by decide +kernel
theorem dX6_isNeedier_48 : decode cX6_isNeedier 48 = .ok (.if_icmp .eq 26, 3) := by decide +kernel
theorem dX6_isNeedier_51 : decode cX6_isNeedier 51 = .ok (.aload_n 0, 1) := by decide +kernel
theorem dX6_isNeedier_52 : decode cX6_isNeedier 52 = .ok (.iload_n 1, 1) := by decide +kernel
theorem dX6_isNeedier_53 : decode cX6_isNeedier 53 = .ok (.iconst 1, 1) := by decide +kernel
theorem dX6_isNeedier_54 : decode cX6_isNeedier 54 = .ok (.invokevirtual 78, 3) := by decide +kernel
theorem dX6_isNeedier_57 : decode cX6_isNeedier 57 = .ok (.aload_n 0, 1) := by decide +kernel
theorem dX6_isNeedier_58 : decode cX6_isNeedier 58 = .ok (.iload_n 2, 1) := by decide +kernel
theorem dX6_isNeedier_59 : decode cX6_isNeedier 59 = .ok (.iconst 1, 1) := by decide +kernel
theorem dX6_isNeedier_60 : decode cX6_isNeedier 60 = .ok (.invokevirtual 78, 3) := by decide +kernel
theorem dX6_isNeedier_63 : decode cX6_isNeedier 63 = .ok (.if_icmp .le 7, 3) := by decide +kernel
theorem dX6_isNeedier_66 : decode cX6_isNeedier 66 = .ok (.iconst 1, 1) := by decide +kernel
theorem dX6_isNeedier_67 : decode cX6_isNeedier 67 = .ok (.goto 17, 3) := by decide +kernel
theorem dX6_isNeedier_70 : decode cX6_isNeedier 70 = .ok (.iconst 0, 1) := by decide +kernel
theorem dX6_isNeedier_71 : decode cX6_isNeedier 71 = .ok (.goto 13, 3) := by decide +kernel
theorem dX6_isNeedier_74 : decode cX6_isNeedier 74 = .ok (.iload_n 1, 1) := by decide +kernel
theorem dX6_isNeedier_75 : decode cX6_isNeedier 75 = .ok (.iload_n 2, 1) := by decide +kernel
theorem dX6_isNeedier_76 : decode cX6_isNeedier 76 = .ok (.if_icmp .ge 7, 3) := by decide +kernel
theorem dX6_isNeedier_79 : decode cX6_isNeedier 79 = .ok (.iconst 1, 1) := by decide +kernel
theorem dX6_isNeedier_80 : decode cX6_isNeedier 80 = .ok (.goto 4, 3) := by decide +kernel
theorem dX6_isNeedier_83 : decode cX6_isNeedier 83 = .ok (.iconst 0, 1) := by decide +kernel
theorem dX6_isNeedier_84 : decode cX6_isNeedier 84 = .ok (.ireturn, 1) := by decide +kernel
theorem dX6_needyAt_0 : decode cX6_needyAt 0 = .ok (.iconst 0, 1) := by decide +kernel
theorem dX6_needyAt_1 : decode cX6_needyAt 1 = .ok (.istore_n 2, 1) := by decide +kernel
theorem dX6_needyAt_2 : decode cX6_needyAt 2 = .ok (.iload_n 2, 1) := by decide +kernel
theorem dX6_needyAt_3 : decode cX6_needyAt 3 = .ok (.aload_n 0, 1) := by decide +kernel
theorem dX6_needyAt_4 : decode cX6_needyAt 4 = .ok (.getfield 7, 3) := by decide +kernel
theorem dX6_needyAt_7 : decode cX6_needyAt 7 = .ok (.bipush 7, 2) := by decide +kernel
theorem dX6_needyAt_9 : decode cX6_needyAt 9 = .ok (.iaload, 1) := by decide +kernel
theorem dX6_needyAt_10 : decode cX6_needyAt 10 = .ok (.if_icmp .ge 80, 3) := by decide +kernel
theorem dX6_needyAt_13 : decode cX6_needyAt 13 = .ok (.iconst 0, 1) := by decide +kernel
theorem dX6_needyAt_14 : decode cX6_needyAt 14 = .ok (.istore_n 3, 1) := by decide +kernel
theorem dX6_needyAt_15 : decode cX6_needyAt 15 = .ok (.iconst 0, 1) := by decide +kernel
theorem dX6_needyAt_16 : decode cX6_needyAt 16 = .ok (.istore 4, 2) := by decide +kernel
theorem dX6_needyAt_18 : decode cX6_needyAt 18 = .ok (.iload 4, 2) := by decide +kernel
theorem dX6_needyAt_20 : decode cX6_needyAt 20 = .ok (.aload_n 0, 1) := by decide +kernel
theorem dX6_needyAt_21 : decode cX6_needyAt 21 = .ok (.getfield 7, 3) := by decide +kernel
theorem dX6_needyAt_24 : decode cX6_needyAt 24 = .ok (.bipush 7, 2) := by decide +kernel
theorem dX6_needyAt_26 : decode cX6_needyAt 26 = .ok (.iaload, 1) := by decide +kernel
theorem dX6_needyAt_27 : decode cX6_needyAt 27 = .ok (.if_icmp .ge 42, 3) := by decide +kernel
theorem dX6_needyAt_30 : decode cX6_needyAt 30 = .ok (.iload_n 3, 1) := by decide +kernel
theorem dX6_needyAt_31 : decode cX6_needyAt 31 = .ok (.iload 4, 2) := by decide +kernel
theorem dX6_needyAt_33 : decode cX6_needyAt 33 = .ok (.iload_n 2, 1) := by decide +kernel
theorem dX6_needyAt_34 : decode cX6_needyAt 34 = .ok (.if_icmp .eq 26, 3) := by decide +kernel
theorem dX6_needyAt_37 : decode cX6_needyAt 37 = .ok (.aload_n 0, 1) := by decide +kernel
theorem dX6_needyAt_38 : decode cX6_needyAt 38 = .ok (.iload 4, 2) := by decide +kernel
theorem dX6_needyAt_40 : decode cX6_needyAt 40 = .ok (.invokevirtual 101, 3) := by decide +kernel
theorem dX6_needyAt_43 : decode cX6_needyAt 43 = .ok (.ifCond .eq 17, 3) := by decide +kernel
theorem dX6_needyAt_46 : decode cX6_needyAt 46 = .ok (.aload_n 0, 1) := by decide +kernel
theorem dX6_needyAt_47 : decode cX6_needyAt 47 = .ok (.iload 4, 2) := by decide +kernel
theorem dX6_needyAt_49 : decode cX6_needyAt 49 = .ok (.iload_n 2, 1) := by decide +kernel
theorem dX6_needyAt_50 : decode cX6_needyAt 50 = .ok (.invokevirtual 104, 3) := by decide +kernel
theorem dX6_needyAt_53 : decode cX6_needyAt 53 = .ok (.ifCond .eq 7, 3) := by decide +kernel
theorem dX6_needyAt_56 : decode cX6_needyAt 56 = .ok (.iconst 1, 1) := by decide +kernel
theorem dX6_needyAt_57 : decode cX6_needyAt 57 = .ok (.goto 4, 3) := by decide +kernel
theorem dX6_needyAt_60 : decode cX6_needyAt 60 = .ok (.iconst 0, 1) := by decide +kernel
theorem dX6_needyAt_61 : decode cX6_needyAt 61 = .ok (.iadd, 1) := by decide +kernel
theorem dX6_needyAt_62 : decode cX6_needyAt 62 = .ok (.istore_n 3, 1) := by decide +kernel
theorem dX6_needyAt_63 : decode cX6_needyAt 63 = .ok (.iinc 4 1, 3) := by decide +kernel
theorem dX6_needyAt_66 : decode cX6_needyAt 66 = .ok (.goto (-48), 3) := by decide +kernel
theorem dX6_needyAt_69 : decode cX6_needyAt 69 = .ok (.aload_n 0, 1) := by decide +kernel
theorem dX6_needyAt_70 : decode cX6_needyAt 70 = .ok (.iload_n 2, 1) := by decide +kernel
theorem dX6_needyAt_71 : decode cX6_needyAt 71 = .ok (.invokevirtual 101, 3) := by decide +kernel
theorem dX6_needyAt_74 : decode cX6_needyAt 74 = .ok (.ifCond .eq 10, 3) := by decide +kernel
theorem dX6_needyAt_77 : decode cX6_needyAt 77 = .ok (.iload_n 3, 1) := by decide +kernel
theorem dX6_needyAt_78 : decode cX6_needyAt 78 = .ok (.iload_n 1, 1) := by decide +kernel
theorem dX6_needyAt_79 : decode cX6_needyAt 79 = .ok (.if_icmp .ne 5, 3) := by decide +kernel
theorem dX6_needyAt_82 : decode cX6_needyAt 82 = .ok (.iload_n 2, 1) := by decide +kernel
theorem dX6_needyAt_83 : decode cX6_needyAt 83 = .ok (.ireturn, 1) := by decide +kernel
theorem dX6_needyAt_84 : decode cX6_needyAt 84 = .ok (.iinc 2 1, 3) := by decide +kernel
theorem dX6_needyAt_87 : decode cX6_needyAt 87 = .ok (.goto (-85), 3) := by decide +kernel
theorem dX6_needyAt_90 : decode cX6_needyAt 90 = .ok (.bipush (-5), 2) := by decide +kernel
theorem dX6_needyAt_92 : decode cX6_needyAt 92 = .ok (.ireturn, 1) := by decide +kernel
theorem dX6_yardFor_0 : decode cX6_yardFor 0 = .ok (.bipush (-5), 2) := by decide +kernel
theorem dX6_yardFor_2 : decode cX6_yardFor 2 = .ok (.istore_n 2, 1) := by decide +kernel
theorem dX6_yardFor_3 : decode cX6_yardFor 3 = .ok (.iconst 0, 1) := by decide +kernel
theorem dX6_yardFor_4 : decode cX6_yardFor 4 = .ok (.istore_n 3, 1) := by decide +kernel
theorem dX6_yardFor_5 : decode cX6_yardFor 5 = .ok (.iload_n 3, 1) := by decide +kernel
theorem dX6_yardFor_6 : decode cX6_yardFor 6 = .ok (.aload_n 0, 1) := by decide +kernel
theorem dX6_yardFor_7 : decode cX6_yardFor 7 = .ok (.getfield 7, 3) := by decide +kernel
theorem dX6_yardFor_10 : decode cX6_yardFor 10 = .ok (.bipush 6, 2) := by decide +kernel
theorem dX6_yardFor_12 : decode cX6_yardFor 12 = .ok (.iaload, 1) := by decide +kernel
theorem dX6_yardFor_13 : decode cX6_yardFor 13 = .ok (.if_icmp .ge 66, 3) := by decide +kernel
theorem dX6_yardFor_16 : decode cX6_yardFor 16 = .ok (.aload_n 0, 1) := by decide +kernel
theorem dX6_yardFor_17 : decode cX6_yardFor 17 = .ok (.iload_n 3, 1) := by decide +kernel
theorem dX6_yardFor_18 : decode cX6_yardFor 18 = .ok (.iconst 5, 1) := by decide +kernel
theorem dX6_yardFor_19 : decode cX6_yardFor 19 = .ok (.invokevirtual 48, 3) := by decide +kernel
theorem dX6_yardFor_22 : decode cX6_yardFor 22 = .ok (.ifCond .ne 16, 3) := by decide +kernel
theorem dX6_yardFor_25 : decode cX6_yardFor 25 = .ok (.aload_n 0, 1) := by decide +kernel
theorem dX6_yardFor_26 : decode cX6_yardFor 26 = .ok (.iload_n 3, 1) := by decide +kernel
theorem dX6_yardFor_27 : decode cX6_yardFor 27 = .ok (.iload_n 1, 1) := by decide +kernel
theorem dX6_yardFor_28 : decode cX6_yardFor 28 = .ok (.invokevirtual 87, 3) := by decide +kernel
theorem dX6_yardFor_31 : decode cX6_yardFor 31 = .ok (.ifCond .eq 7, 3) := by decide +kernel
theorem dX6_yardFor_34 : decode cX6_yardFor 34 = .ok (.iconst 1, 1) := by decide +kernel
theorem dX6_yardFor_35 : decode cX6_yardFor 35 = .ok (.goto 4, 3) := by decide +kernel
theorem dX6_yardFor_38 : decode cX6_yardFor 38 = .ok (.iconst 0, 1) := by decide +kernel
theorem dX6_yardFor_39 : decode cX6_yardFor 39 = .ok (.istore 4, 2) := by decide +kernel
theorem dX6_yardFor_41 : decode cX6_yardFor 41 = .ok (.iload 4, 2) := by decide +kernel
theorem dX6_yardFor_43 : decode cX6_yardFor 43 = .ok (.ifCond .eq 28, 3) := by decide +kernel
theorem dX6_yardFor_46 : decode cX6_yardFor 46 = .ok (.iload_n 2, 1) := by decide +kernel
theorem dX6_yardFor_47 : decode cX6_yardFor 47 = .ok (.bipush (-5), 2) := by decide +kernel
theorem dX6_yardFor_49 : decode cX6_yardFor 49 = .ok (.if_icmp .eq 18, 3) := by decide +kernel
theorem dX6_yardFor_52 : decode cX6_yardFor 52 = .ok (.aload_n 0, 1) := by decide +kernel
theorem dX6_yardFor_53 : decode cX6_yardFor 53 = .ok (.iload_n 3, 1) := by decide +kernel
theorem dX6_yardFor_54 : decode cX6_yardFor 54 = .ok (.iconst 0, 1) := by decide +kernel
theorem dX6_yardFor_55 : decode cX6_yardFor 55 = .ok (.invokevirtual 48, 3) := by decide +kernel
theorem dX6_yardFor_58 : decode cX6_yardFor 58 = .ok (.aload_n 0, 1) := by decide +kernel
theorem dX6_yardFor_59 : decode cX6_yardFor 59 = .ok (.iload_n 2, 1) := by decide +kernel
theorem dX6_yardFor_60 : decode cX6_yardFor 60 = .ok (.iconst 0, 1) := by decide +kernel
theorem dX6_yardFor_61 : decode cX6_yardFor 61 = .ok (.invokevirtual 48, 3) := by decide +kernel
theorem dX6_yardFor_64 : decode cX6_yardFor 64 = .ok (.if_icmp .ge 7, 3) := by decide +kernel
theorem dX6_yardFor_67 : decode cX6_yardFor 67 = .ok (.iload_n 3, 1) := by decide +kernel
theorem dX6_yardFor_68 : decode cX6_yardFor 68 = .ok (.goto 4, 3) := by decide +kernel
theorem dX6_yardFor_71 : decode cX6_yardFor 71 = .ok (.iload_n 2, 1) := by decide +kernel
theorem dX6_yardFor_72 : decode cX6_yardFor 72 = .ok (.istore_n 2, 1) := by decide +kernel
theorem dX6_yardFor_73 : decode cX6_yardFor 73 = .ok (.iinc 3 1, 3) := by decide +kernel
theorem dX6_yardFor_76 : decode cX6_yardFor 76 = .ok (.goto (-71), 3) := by decide +kernel
theorem dX6_yardFor_79 : decode cX6_yardFor 79 = .ok (.iload_n 2, 1) := by decide +kernel
theorem dX6_yardFor_80 : decode cX6_yardFor 80 = .ok (.ireturn, 1) := by decide +kernel
theorem dX6_wants_0 : decode cX6_wants 0 = .ok (.aload_n 0, 1) := by decide +kernel
theorem dX6_wants_1 : decode cX6_wants 1 = .ok (.iload_n 1, 1) := by decide +kernel
theorem dX6_wants_2 : decode cX6_wants 2 = .ok (.invokevirtual 81, 3) := by decide +kernel
theorem dX6_wants_5 : decode cX6_wants 5 = .ok (.ifCond .ge 7, 3) := by decide +kernel
theorem dX6_wants_8 : decode cX6_wants 8 = .ok (.iconst 1, 1) := by decide +kernel
theorem dX6_wants_9 : decode cX6_wants 9 = .ok (.goto 4, 3) := by decide +kernel
theorem dX6_wants_12 : decode cX6_wants 12 = .ok (.iconst 0, 1) := by decide +kernel
theorem dX6_wants_13 : decode cX6_wants 13 = .ok (.ireturn, 1) := by decide +kernel
theorem dX6_giveOut_0 : decode cX6_giveOut 0 = .ok (.iconst 0, 1) := by decide +kernel
theorem dX6_giveOut_1 : decode cX6_giveOut 1 = .ok (.istore_n 1, 1) := by decide +kernel
theorem dX6_giveOut_2 : decode cX6_giveOut 2 = .ok (.iconst 0, 1) := by decide +kernel
theorem dX6_giveOut_3 : decode cX6_giveOut 3 = .ok (.istore_n 2, 1) := by decide +kernel
theorem dX6_giveOut_4 : decode cX6_giveOut 4 = .ok (.iload_n 2, 1) := by decide +kernel
theorem dX6_giveOut_5 : decode cX6_giveOut 5 = .ok (.aload_n 0, 1) := by decide +kernel
theorem dX6_giveOut_6 : decode cX6_giveOut 6 = .ok (.getfield 7, 3) := by decide +kernel
theorem dX6_giveOut_9 : decode cX6_giveOut 9 = .ok (.bipush 7, 2) := by decide +kernel
theorem dX6_giveOut_11 : decode cX6_giveOut 11 = .ok (.iaload, 1) := by decide +kernel
theorem dX6_giveOut_12 : decode cX6_giveOut 12 = .ok (.if_icmp .ge 45, 3) := by decide +kernel
theorem dX6_giveOut_15 : decode cX6_giveOut 15 = .ok (.iload_n 1, 1) := by decide +kernel
theorem dX6_giveOut_16 : decode cX6_giveOut 16 = .ok (.ifCond .ne 29, 3) := by decide +kernel
theorem dX6_giveOut_19 : decode cX6_giveOut 19 = .ok (.aload_n 0, 1) := by decide +kernel
theorem dX6_giveOut_20 : decode cX6_giveOut 20 = .ok (.iload_n 2, 1) := by decide +kernel
theorem dX6_giveOut_21 : decode cX6_giveOut 21 = .ok (.invokevirtual 101, 3) := by decide +kernel
theorem dX6_giveOut_24 : decode cX6_giveOut 24 = .ok (.ifCond .eq 25, 3) := by decide +kernel
theorem dX6_giveOut_27 : decode cX6_giveOut 27 = .ok (.aload_n 0, 1) := by decide +kernel
theorem dX6_giveOut_28 : decode cX6_giveOut 28 = .ok (.iload_n 2, 1) := by decide +kernel
theorem dX6_giveOut_29 : decode cX6_giveOut 29 = .ok (.invokevirtual 107, 3) := by decide +kernel
theorem dX6_giveOut_32 : decode cX6_giveOut 32 = .ok (.ifCond .eq 17, 3) := by decide +kernel
theorem dX6_giveOut_35 : decode cX6_giveOut 35 = .ok (.aload_n 0, 1) := by decide +kernel
theorem dX6_giveOut_36 : decode cX6_giveOut 36 = .ok (.iload_n 2, 1) := by decide +kernel
theorem dX6_giveOut_37 : decode cX6_giveOut 37 = .ok (.invokevirtual 110, 3) := by decide +kernel
theorem dX6_giveOut_40 : decode cX6_giveOut 40 = .ok (.bipush (-5), 2) := by decide +kernel
theorem dX6_giveOut_42 : decode cX6_giveOut 42 = .ok (.if_icmp .eq 7, 3) := by decide +kernel
theorem dX6_giveOut_45 : decode cX6_giveOut 45 = .ok (.iconst 1, 1) := by decide +kernel
theorem dX6_giveOut_46 : decode cX6_giveOut 46 = .ok (.goto 4, 3) := by decide +kernel
theorem dX6_giveOut_49 : decode cX6_giveOut 49 = .ok (.iconst 0, 1) := by decide +kernel
theorem dX6_giveOut_50 : decode cX6_giveOut 50 = .ok (.istore_n 1, 1) := by decide +kernel
theorem dX6_giveOut_51 : decode cX6_giveOut 51 = .ok (.iinc 2 1, 3) := by decide +kernel
theorem dX6_giveOut_54 : decode cX6_giveOut 54 = .ok (.goto (-50), 3) := by decide +kernel
theorem dX6_giveOut_57 : decode cX6_giveOut 57 = .ok (.iload_n 1, 1) := by decide +kernel
theorem dX6_giveOut_58 : decode cX6_giveOut 58 = .ok (.ifCond .ne 6, 3) := by decide +kernel
theorem dX6_giveOut_61 : decode cX6_giveOut 61 = .ok (.bipush (-5), 2) := by decide +kernel
theorem dX6_giveOut_63 : decode cX6_giveOut 63 = .ok (.ireturn, 1) := by decide +kernel
theorem dX6_giveOut_64 : decode cX6_giveOut 64 = .ok (.aload_n 0, 1) := by decide +kernel
theorem dX6_giveOut_65 : decode cX6_giveOut 65 = .ok (.invokevirtual 41, 3) := by decide +kernel
theorem dX6_giveOut_68 : decode cX6_giveOut 68 = .ok (.iconst 0, 1) := by decide +kernel
theorem dX6_giveOut_69 : decode cX6_giveOut 69 = .ok (.istore_n 2, 1) := by decide +kernel
theorem dX6_giveOut_70 : decode cX6_giveOut 70 = .ok (.iconst 0, 1) := by decide +kernel
theorem dX6_giveOut_71 : decode cX6_giveOut 71 = .ok (.istore_n 3, 1) := by decide +kernel
theorem dX6_giveOut_72 : decode cX6_giveOut 72 = .ok (.aload_n 0, 1) := by decide +kernel
theorem dX6_giveOut_73 : decode cX6_giveOut 73 = .ok (.iconst 0, 1) := by decide +kernel
theorem dX6_giveOut_74 : decode cX6_giveOut 74 = .ok (.invokevirtual 113, 3) := by decide +kernel
theorem dX6_giveOut_77 : decode cX6_giveOut 77 = .ok (.istore 4, 2) := by decide +kernel
theorem dX6_giveOut_79 : decode cX6_giveOut 79 = .ok (.iload 4, 2) := by decide +kernel
theorem dX6_giveOut_81 : decode cX6_giveOut 81 = .ok (.bipush (-5), 2) := by decide +kernel
theorem dX6_giveOut_83 : decode cX6_giveOut 83 = .ok (.if_icmp .eq 56, 3) := by decide +kernel
theorem dX6_giveOut_86 : decode cX6_giveOut 86 = .ok (.aload_n 0, 1) := by decide +kernel
theorem dX6_giveOut_87 : decode cX6_giveOut 87 = .ok (.iload 4, 2) := by decide +kernel
theorem dX6_giveOut_89 : decode cX6_giveOut 89 = .ok (.invokevirtual 107, 3) := by decide +kernel
theorem dX6_giveOut_92 : decode cX6_giveOut 92 = .ok (.ifCond .eq 12, 3) := by decide +kernel
theorem dX6_giveOut_95 : decode cX6_giveOut 95 = .ok (.aload_n 0, 1) := by decide +kernel
theorem dX6_giveOut_96 : decode cX6_giveOut 96 = .ok (.iload 4, 2) := by decide +kernel
theorem dX6_giveOut_98 : decode cX6_giveOut 98 = .ok (.invokevirtual 110, 3) := by decide +kernel
theorem dX6_giveOut_101 : decode cX6_giveOut 101 = .ok (.goto 5, 3) := by decide +kernel
theorem dX6_giveOut_104 : decode cX6_giveOut 104 = .ok (.bipush (-5), 2) := by decide +kernel
theorem dX6_giveOut_106 : decode cX6_giveOut 106 = .ok (.istore 5, 2) := by decide +kernel
theorem dX6_giveOut_108 : decode cX6_giveOut 108 = .ok (.iload 5, 2) := by decide +kernel
theorem dX6_giveOut_110 : decode cX6_giveOut 110 = .ok (.bipush (-5), 2) := by decide +kernel
theorem dX6_giveOut_112 : decode cX6_giveOut 112 = .ok (.if_icmp .eq 14, 3) := by decide +kernel
theorem dX6_giveOut_115 : decode cX6_giveOut 115 = .ok (.aload_n 0, 1) := by decide +kernel
theorem dX6_giveOut_116 : decode cX6_giveOut 116 = .ok (.iload 5, 2) := by decide +kernel
theorem dX6_giveOut_118 : decode cX6_giveOut 118 = .ok (.iload 4, 2) := by decide +kernel
theorem dX6_giveOut_120 : decode cX6_giveOut 120 = .ok (.invokevirtual 90, 3) := by decide +kernel
theorem dX6_giveOut_123 : decode cX6_giveOut 123 = .ok (.iinc 2 1, 3) := by decide +kernel
theorem dX6_giveOut_126 : decode cX6_giveOut 126 = .ok (.iinc 3 1, 3) := by decide +kernel
theorem dX6_giveOut_129 : decode cX6_giveOut 129 = .ok (.aload_n 0, 1) := by decide +kernel
theorem dX6_giveOut_130 : decode cX6_giveOut 130 = .ok (.iload_n 3, 1) := by decide +kernel
theorem dX6_giveOut_131 : decode cX6_giveOut 131 = .ok (.invokevirtual 113, 3) := by decide +kernel
theorem dX6_giveOut_134 : decode cX6_giveOut 134 = .ok (.istore 4, 2) := by decide +kernel
theorem dX6_giveOut_136 : decode cX6_giveOut 136 = .ok (.goto (-57), 3) := by decide +kernel
theorem dX6_giveOut_139 : decode cX6_giveOut 139 = .ok (.iload_n 2, 1) := by decide +kernel
theorem dX6_giveOut_140 : decode cX6_giveOut 140 = .ok (.ireturn, 1) := by decide +kernel
theorem dX6_partnerOf_0 : decode cX6_partnerOf 0 = .ok (.bipush (-5), 2) := by decide +kernel
theorem dX6_partnerOf_2 : decode cX6_partnerOf 2 = .ok (.istore_n 2, 1) := by decide +kernel
theorem dX6_partnerOf_3 : decode cX6_partnerOf 3 = .ok (.iconst 0, 1) := by decide +kernel
theorem dX6_partnerOf_4 : decode cX6_partnerOf 4 = .ok (.istore_n 3, 1) := by decide +kernel
theorem dX6_partnerOf_5 : decode cX6_partnerOf 5 = .ok (.iload_n 3, 1) := by decide +kernel
theorem dX6_partnerOf_6 : decode cX6_partnerOf 6 = .ok (.aload_n 0, 1) := by decide +kernel
theorem dX6_partnerOf_7 : decode cX6_partnerOf 7 = .ok (.getfield 7, 3) := by decide +kernel
theorem dX6_partnerOf_10 : decode cX6_partnerOf 10 = .ok (.bipush 7, 2) := by decide +kernel
theorem dX6_partnerOf_12 : decode cX6_partnerOf 12 = .ok (.iaload, 1) := by decide +kernel
theorem dX6_partnerOf_13 : decode cX6_partnerOf 13 = .ok (.if_icmp .ge 87, 3) := by decide +kernel
theorem dX6_partnerOf_16 : decode cX6_partnerOf 16 = .ok (.aload_n 0, 1) := by decide +kernel
theorem dX6_partnerOf_17 : decode cX6_partnerOf 17 = .ok (.iload_n 3, 1) := by decide +kernel
theorem dX6_partnerOf_18 : decode cX6_partnerOf 18 = .ok (.invokevirtual 81, 3) := by decide +kernel
theorem dX6_partnerOf_21 : decode cX6_partnerOf 21 = .ok (.ifCond .lt 30, 3) := by decide +kernel
theorem dX6_partnerOf_24 : decode cX6_partnerOf 24 = .ok (.aload_n 0, 1) := by decide +kernel
theorem dX6_partnerOf_25 : decode cX6_partnerOf 25 = .ok (.aload_n 0, 1) := by decide +kernel
theorem dX6_partnerOf_26 : decode cX6_partnerOf 26 = .ok (.iload_n 3, 1) := by decide +kernel
theorem dX6_partnerOf_27 : decode cX6_partnerOf 27 = .ok (.invokevirtual 81, 3) := by decide +kernel
theorem dX6_partnerOf_30 : decode cX6_partnerOf 30 = .ok (.iload_n 1, 1) := by decide +kernel
theorem dX6_partnerOf_31 : decode cX6_partnerOf 31 = .ok (.invokevirtual 87, 3) := by decide +kernel
theorem dX6_partnerOf_34 : decode cX6_partnerOf 34 = .ok (.ifCond .eq 17, 3) := by decide +kernel
theorem dX6_partnerOf_37 : decode cX6_partnerOf 37 = .ok (.aload_n 0, 1) := by decide +kernel
theorem dX6_partnerOf_38 : decode cX6_partnerOf 38 = .ok (.iload_n 3, 1) := by decide +kernel
theorem dX6_partnerOf_39 : decode cX6_partnerOf 39 = .ok (.invokevirtual 110, 3) := by decide +kernel
theorem dX6_partnerOf_42 : decode cX6_partnerOf 42 = .ok (.bipush (-5), 2) := by decide +kernel
theorem dX6_partnerOf_44 : decode cX6_partnerOf 44 = .ok (.if_icmp .eq 7, 3) := by decide +kernel
theorem dX6_partnerOf_47 : decode cX6_partnerOf 47 = .ok (.iconst 1, 1) := by decide +kernel
theorem dX6_partnerOf_48 : decode cX6_partnerOf 48 = .ok (.goto 4, 3) := by decide +kernel
theorem dX6_partnerOf_51 : decode cX6_partnerOf 51 = .ok (.iconst 0, 1) := by decide +kernel
theorem dX6_partnerOf_52 : decode cX6_partnerOf 52 = .ok (.istore 4, 2) := by decide +kernel
theorem dX6_partnerOf_54 : decode cX6_partnerOf 54 = .ok (.iload 4, 2) := by decide +kernel
theorem dX6_partnerOf_56 : decode cX6_partnerOf 56 = .ok (.ifCond .eq 36, 3) := by decide +kernel
theorem dX6_partnerOf_59 : decode cX6_partnerOf 59 = .ok (.iload_n 2, 1) := by decide +kernel
theorem dX6_partnerOf_60 : decode cX6_partnerOf 60 = .ok (.bipush (-5), 2) := by decide +kernel
theorem dX6_partnerOf_62 : decode cX6_partnerOf 62 = .ok (.if_icmp .eq 26, 3) := by decide +kernel
theorem dX6_partnerOf_65 : decode cX6_partnerOf 65 = .ok (.aload_n 0, 1) := by decide +kernel
theorem dX6_partnerOf_66 : decode cX6_partnerOf 66 = .ok (.aload_n 0, 1) := by decide +kernel
theorem dX6_partnerOf_67 : decode cX6_partnerOf 67 = .ok (.iload_n 3, 1) := by decide +kernel
theorem dX6_partnerOf_68 : decode cX6_partnerOf 68 = .ok (.invokevirtual 81, 3) := by decide +kernel
theorem dX6_partnerOf_71 : decode cX6_partnerOf 71 = .ok (.iconst 0, 1) := by decide +kernel
theorem dX6_partnerOf_72 : decode cX6_partnerOf 72 = .ok (.invokevirtual 48, 3) := by decide +kernel
theorem dX6_partnerOf_75 : decode cX6_partnerOf 75 = .ok (.aload_n 0, 1) := by decide +kernel
theorem dX6_partnerOf_76 : decode cX6_partnerOf 76 = .ok (.aload_n 0, 1) := by decide +kernel
theorem dX6_partnerOf_77 : decode cX6_partnerOf 77 = .ok (.iload_n 2, 1) := by decide +kernel
theorem dX6_partnerOf_78 : decode cX6_partnerOf 78 = .ok (.invokevirtual 81, 3) := by decide +kernel
theorem dX6_partnerOf_81 : decode cX6_partnerOf 81 = .ok (.iconst 0, 1) := by decide +kernel
theorem dX6_partnerOf_82 : decode cX6_partnerOf 82 = .ok (.invokevirtual 48, 3) := by decide +kernel
theorem dX6_partnerOf_85 : decode cX6_partnerOf 85 = .ok (.if_icmp .ge 7, 3) := by decide +kernel
theorem dX6_partnerOf_88 : decode cX6_partnerOf 88 = .ok (.iload_n 3, 1) := by decide +kernel
theorem dX6_partnerOf_89 : decode cX6_partnerOf 89 = .ok (.goto 4, 3) := by decide +kernel
theorem dX6_partnerOf_92 : decode cX6_partnerOf 92 = .ok (.iload_n 2, 1) := by decide +kernel
theorem dX6_partnerOf_93 : decode cX6_partnerOf 93 = .ok (.istore_n 2, 1) := by decide +kernel
theorem dX6_partnerOf_94 : decode cX6_partnerOf 94 = .ok (.iinc 3 1, 3) := by decide +kernel
theorem dX6_partnerOf_97 : decode cX6_partnerOf 97 = .ok (.goto (-92), 3) := by decide +kernel
theorem dX6_partnerOf_100 : decode cX6_partnerOf 100 = .ok (.iload_n 2, 1) := by decide +kernel
theorem dX6_partnerOf_101 : decode cX6_partnerOf 101 = .ok (.ireturn, 1) := by decide +kernel
theorem dX6_swap_0 : decode cX6_swap 0 = .ok (.iconst 0, 1) := by decide +kernel
theorem dX6_swap_1 : decode cX6_swap 1 = .ok (.istore_n 1, 1) := by decide +kernel
theorem dX6_swap_2 : decode cX6_swap 2 = .ok (.aload_n 0, 1) := by decide +kernel
theorem dX6_swap_3 : decode cX6_swap 3 = .ok (.iconst 0, 1) := by decide +kernel
theorem dX6_swap_4 : decode cX6_swap 4 = .ok (.invokevirtual 113, 3) := by decide +kernel
theorem dX6_swap_7 : decode cX6_swap 7 = .ok (.istore_n 2, 1) := by decide +kernel
theorem dX6_swap_8 : decode cX6_swap 8 = .ok (.iload_n 2, 1) := by decide +kernel
theorem dX6_swap_9 : decode cX6_swap 9 = .ok (.bipush (-5), 2) := by decide +kernel
theorem dX6_swap_11 : decode cX6_swap 11 = .ok (.if_icmp .eq 89, 3) := by decide +kernel
theorem dX6_swap_14 : decode cX6_swap 14 = .ok (.aload_n 0, 1) := by decide +kernel
theorem dX6_swap_15 : decode cX6_swap 15 = .ok (.iload_n 2, 1) := by decide +kernel
theorem dX6_swap_16 : decode cX6_swap 16 = .ok (.invokevirtual 107, 3) := by decide +kernel
theorem dX6_swap_19 : decode cX6_swap 19 = .ok (.ifCond .eq 21, 3) := by decide +kernel
theorem dX6_swap_22 : decode cX6_swap 22 = .ok (.aload_n 0, 1) := by decide +kernel
theorem dX6_swap_23 : decode cX6_swap 23 = .ok (.iload_n 2, 1) := by decide +kernel
theorem dX6_swap_24 : decode cX6_swap 24 = .ok (.invokevirtual 110, 3) := by decide +kernel
theorem dX6_swap_27 : decode cX6_swap 27 = .ok (.bipush (-5), 2) := by decide +kernel
theorem dX6_swap_29 : decode cX6_swap 29 = .ok (.if_icmp .ne 11, 3) := by decide +kernel
theorem dX6_swap_32 : decode cX6_swap 32 = .ok (.aload_n 0, 1) := by decide +kernel
theorem dX6_swap_33 : decode cX6_swap 33 = .ok (.iload_n 2, 1) := by decide +kernel
theorem dX6_swap_34 : decode cX6_swap 34 = .ok (.invokevirtual 116, 3) := by decide +kernel
theorem dX6_swap_37 : decode cX6_swap 37 = .ok (.goto 5, 3) := by decide +kernel
theorem dX6_swap_40 : decode cX6_swap 40 = .ok (.bipush (-5), 2) := by decide +kernel
theorem dX6_swap_42 : decode cX6_swap 42 = .ok (.istore_n 3, 1) := by decide +kernel
theorem dX6_swap_43 : decode cX6_swap 43 = .ok (.iload_n 3, 1) := by decide +kernel
theorem dX6_swap_44 : decode cX6_swap 44 = .ok (.bipush (-5), 2) := by decide +kernel
theorem dX6_swap_46 : decode cX6_swap 46 = .ok (.if_icmp .eq 42, 3) := by decide +kernel
theorem dX6_swap_49 : decode cX6_swap 49 = .ok (.aload_n 0, 1) := by decide +kernel
theorem dX6_swap_50 : decode cX6_swap 50 = .ok (.invokevirtual 41, 3) := by decide +kernel
theorem dX6_swap_53 : decode cX6_swap 53 = .ok (.aload_n 0, 1) := by decide +kernel
theorem dX6_swap_54 : decode cX6_swap 54 = .ok (.iload_n 3, 1) := by decide +kernel
theorem dX6_swap_55 : decode cX6_swap 55 = .ok (.invokevirtual 81, 3) := by decide +kernel
theorem dX6_swap_58 : decode cX6_swap 58 = .ok (.istore 4, 2) := by decide +kernel
theorem dX6_swap_60 : decode cX6_swap 60 = .ok (.aload_n 0, 1) := by decide +kernel
theorem dX6_swap_61 : decode cX6_swap 61 = .ok (.iload_n 3, 1) := by decide +kernel
theorem dX6_swap_62 : decode cX6_swap 62 = .ok (.invokevirtual 110, 3) := by decide +kernel
theorem dX6_swap_65 : decode cX6_swap 65 = .ok (.istore 5, 2) := by decide +kernel
theorem dX6_swap_67 : decode cX6_swap 67 = .ok (.aload_n 0, 1) := by decide +kernel
theorem dX6_swap_68 : decode cX6_swap 68 = .ok (.iload 5, 2) := by decide +kernel
theorem dX6_swap_70 : decode cX6_swap 70 = .ok (.iload_n 3, 1) := by decide +kernel
theorem dX6_swap_71 : decode cX6_swap 71 = .ok (.invokevirtual 90, 3) := by decide +kernel
theorem dX6_swap_74 : decode cX6_swap 74 = .ok (.aload_n 0, 1) := by decide +kernel
theorem dX6_swap_75 : decode cX6_swap 75 = .ok (.iload 4, 2) := by decide +kernel
theorem dX6_swap_77 : decode cX6_swap 77 = .ok (.iload_n 2, 1) := by decide +kernel
theorem dX6_swap_78 : decode cX6_swap 78 = .ok (.invokevirtual 90, 3) := by decide +kernel
theorem dX6_swap_81 : decode cX6_swap 81 = .ok (.bipush 100, 2) := by decide +kernel
theorem dX6_swap_83 : decode cX6_swap 83 = .ok (.iload_n 2, 1) := by decide +kernel
theorem dX6_swap_84 : decode cX6_swap 84 = .ok (.imul, 1) := by decide +kernel
theorem dX6_swap_85 : decode cX6_swap 85 = .ok (.iload_n 3, 1) := by decide +kernel
theorem dX6_swap_86 : decode cX6_swap 86 = .ok (.iadd, 1) := by decide +kernel
theorem dX6_swap_87 : decode cX6_swap 87 = .ok (.ireturn, 1) := by decide +kernel
theorem dX6_swap_88 : decode cX6_swap 88 = .ok (.iinc 1 1, 3) := by decide +kernel
theorem dX6_swap_91 : decode cX6_swap 91 = .ok (.aload_n 0, 1) := by decide +kernel
theorem dX6_swap_92 : decode cX6_swap 92 = .ok (.iload_n 1, 1) := by decide +kernel
theorem dX6_swap_93 : decode cX6_swap 93 = .ok (.invokevirtual 113, 3) := by decide +kernel
theorem dX6_swap_96 : decode cX6_swap 96 = .ok (.istore_n 2, 1) := by decide +kernel
theorem dX6_swap_97 : decode cX6_swap 97 = .ok (.goto (-89), 3) := by decide +kernel
theorem dX6_swap_100 : decode cX6_swap 100 = .ok (.bipush (-5), 2) := by decide +kernel
theorem dX6_swap_102 : decode cX6_swap 102 = .ok (.ireturn, 1) := by decide +kernel
theorem dX6_hoursLeft_0 : decode cX6_hoursLeft 0 = .ok (.aload_n 0, 1) := by decide +kernel
theorem dX6_hoursLeft_1 : decode cX6_hoursLeft 1 = .ok (.iload_n 1, 1) := by decide +kernel
theorem dX6_hoursLeft_2 : decode cX6_hoursLeft 2 = .ok (.iconst 4, 1) := by decide +kernel
theorem dX6_hoursLeft_3 : decode cX6_hoursLeft 3 = .ok (.invokevirtual 48, 3) := by decide +kernel
theorem dX6_hoursLeft_6 : decode cX6_hoursLeft 6 = .ok (.aload_n 0, 1) := by decide +kernel
theorem dX6_hoursLeft_7 : decode cX6_hoursLeft 7 = .ok (.iload_n 1, 1) := by decide +kernel
theorem dX6_hoursLeft_8 : decode cX6_hoursLeft 8 = .ok (.iconst 2, 1) := by decide +kernel
theorem dX6_hoursLeft_9 : decode cX6_hoursLeft 9 = .ok (.invokevirtual 48, 3) := by decide +kernel
theorem dX6_hoursLeft_12 : decode cX6_hoursLeft 12 = .ok (.idiv, 1) := by decide +kernel
theorem dX6_hoursLeft_13 : decode cX6_hoursLeft 13 = .ok (.ireturn, 1) := by decide +kernel
theorem dX6_thirstyAt_0 : decode cX6_thirstyAt 0 = .ok (.iconst 0, 1) := by decide +kernel
theorem dX6_thirstyAt_1 : decode cX6_thirstyAt 1 = .ok (.istore_n 2, 1) := by decide +kernel
theorem dX6_thirstyAt_2 : decode cX6_thirstyAt 2 = .ok (.iload_n 2, 1) := by decide +kernel
theorem dX6_thirstyAt_3 : decode cX6_thirstyAt 3 = .ok (.aload_n 0, 1) := by decide +kernel
theorem dX6_thirstyAt_4 : decode cX6_thirstyAt 4 = .ok (.getfield 7, 3) := by decide +kernel
theorem dX6_thirstyAt_7 : decode cX6_thirstyAt 7 = .ok (.bipush 7, 2) := by decide +kernel
theorem dX6_thirstyAt_9 : decode cX6_thirstyAt 9 = .ok (.iaload, 1) := by decide +kernel
theorem dX6_thirstyAt_10 : decode cX6_thirstyAt 10 = .ok (.if_icmp .ge 120, 3) := by decide +kernel
theorem dX6_thirstyAt_13 : decode cX6_thirstyAt 13 = .ok (.iconst 0, 1) := by decide +kernel
theorem dX6_thirstyAt_14 : decode cX6_thirstyAt 14 = .ok (.istore_n 3, 1) := by decide +kernel
theorem dX6_thirstyAt_15 : decode cX6_thirstyAt 15 = .ok (.iconst 0, 1) := by decide +kernel
theorem dX6_thirstyAt_16 : decode cX6_thirstyAt 16 = .ok (.istore 4, 2) := by decide +kernel
theorem dX6_thirstyAt_18 : decode cX6_thirstyAt 18 = .ok (.iload 4, 2) := by decide +kernel
theorem dX6_thirstyAt_20 : decode cX6_thirstyAt 20 = .ok (.aload_n 0, 1) := by decide +kernel
theorem dX6_thirstyAt_21 : decode cX6_thirstyAt 21 = .ok (.getfield 7, 3) := by decide +kernel
theorem dX6_thirstyAt_24 : decode cX6_thirstyAt 24 = .ok (.bipush 7, 2) := by decide +kernel
theorem dX6_thirstyAt_26 : decode cX6_thirstyAt 26 = .ok (.iaload, 1) := by decide +kernel
theorem dX6_thirstyAt_27 : decode cX6_thirstyAt 27 = .ok (.if_icmp .ge 82, 3) := by decide +kernel
theorem dX6_thirstyAt_30 : decode cX6_thirstyAt 30 = .ok (.iload 4, 2) := by decide +kernel
theorem dX6_thirstyAt_32 : decode cX6_thirstyAt 32 = .ok (.iload_n 2, 1) := by decide +kernel
theorem dX6_thirstyAt_33 : decode cX6_thirstyAt 33 = .ok (.if_icmp .eq 70, 3) := by decide +kernel
theorem dX6_thirstyAt_36 : decode cX6_thirstyAt 36 = .ok (.aload_n 0, 1) := by decide +kernel
theorem dX6_thirstyAt_37 : decode cX6_thirstyAt 37 = .ok (.iload 4, 2) := by decide +kernel
theorem dX6_thirstyAt_39 : decode cX6_thirstyAt 39 = .ok (.invokevirtual 81, 3) := by decide +kernel
theorem dX6_thirstyAt_42 : decode cX6_thirstyAt 42 = .ok (.ifCond .lt 61, 3) := by decide +kernel
theorem dX6_thirstyAt_45 : decode cX6_thirstyAt 45 = .ok (.aload_n 0, 1) := by decide +kernel
theorem dX6_thirstyAt_46 : decode cX6_thirstyAt 46 = .ok (.iload_n 2, 1) := by decide +kernel
theorem dX6_thirstyAt_47 : decode cX6_thirstyAt 47 = .ok (.invokevirtual 81, 3) := by decide +kernel
theorem dX6_thirstyAt_50 : decode cX6_thirstyAt 50 = .ok (.ifCond .lt 53, 3) := by decide +kernel
theorem dX6_thirstyAt_53 : decode cX6_thirstyAt 53 = .ok (.aload_n 0, 1) := by decide +kernel
theorem dX6_thirstyAt_54 : decode cX6_thirstyAt 54 = .ok (.aload_n 0, 1) := by decide +kernel
theorem dX6_thirstyAt_55 : decode cX6_thirstyAt 55 = .ok (.iload_n 2, 1) := by decide +kernel
theorem dX6_thirstyAt_56 : decode cX6_thirstyAt 56 = .ok (.invokevirtual 81, 3) := by decide +kernel
theorem dX6_thirstyAt_59 : decode cX6_thirstyAt 59 = .ok (.invokevirtual 119, 3) := by decide +kernel
theorem dX6_thirstyAt_62 : decode cX6_thirstyAt 62 = .ok (.aload_n 0, 1) := by decide +kernel
theorem dX6_thirstyAt_63 : decode cX6_thirstyAt 63 = .ok (.aload_n 0, 1) := by decide +kernel
theorem dX6_thirstyAt_64 : decode cX6_thirstyAt 64 = .ok (.iload 4, 2) := by decide +kernel
theorem dX6_thirstyAt_66 : decode cX6_thirstyAt 66 = .ok (.invokevirtual 81, 3) := by decide +kernel
theorem dX6_thirstyAt_69 : decode cX6_thirstyAt 69 = .ok (.invokevirtual 119, 3) := by decide +kernel
theorem dX6_thirstyAt_72 : decode cX6_thirstyAt 72 = .ok (.isub, 1) := by decide +kernel
theorem dX6_thirstyAt_73 : decode cX6_thirstyAt 73 = .ok (.istore 5, 2) := by decide +kernel
theorem dX6_thirstyAt_75 : decode cX6_thirstyAt 75 = .ok (.iload_n 3, 1) := by decide +kernel
theorem dX6_thirstyAt_76 : decode cX6_thirstyAt 76 = .ok (.iload 5, 2) := by decide +kernel
theorem dX6_thirstyAt_78 : decode cX6_thirstyAt 78 = .ok (.ifCond .gt 18, 3) := by decide +kernel
theorem dX6_thirstyAt_81 : decode cX6_thirstyAt 81 = .ok (.iload 5, 2) := by decide +kernel
theorem dX6_thirstyAt_83 : decode cX6_thirstyAt 83 = .ok (.ifCond .ne 17, 3) := by decide +kernel
theorem dX6_thirstyAt_86 : decode cX6_thirstyAt 86 = .ok (.aload_n 0, 1) := by decide +kernel
theorem dX6_thirstyAt_87 : decode cX6_thirstyAt 87 = .ok (.iload 4, 2) := by decide +kernel
theorem dX6_thirstyAt_89 : decode cX6_thirstyAt 89 = .ok (.iload_n 2, 1) := by decide +kernel
theorem dX6_thirstyAt_90 : decode cX6_thirstyAt 90 = .ok (.invokevirtual 104, 3) := by decide +kernel
theorem dX6_thirstyAt_93 : decode cX6_thirstyAt 93 = .ok (.ifCond .eq 7, 3) := by decide +kernel
theorem dX6_thirstyAt_96 : decode cX6_thirstyAt 96 = .ok (.iconst 1, 1) := by decide +kernel
theorem dX6_thirstyAt_97 : decode cX6_thirstyAt 97 = .ok (.goto 4, 3) := by decide +kernel
theorem dX6_thirstyAt_100 : decode cX6_thirstyAt 100 = .ok (.iconst 0, 1) := by decide +kernel
theorem dX6_thirstyAt_101 : decode cX6_thirstyAt 101 = .ok (.iadd, 1) := by decide +kernel
theorem dX6_thirstyAt_102 : decode cX6_thirstyAt 102 = .ok (.istore_n 3, 1) := by decide +kernel
theorem dX6_thirstyAt_103 : decode cX6_thirstyAt 103 = .ok (.iinc 4 1, 3) := by decide +kernel
theorem dX6_thirstyAt_106 : decode cX6_thirstyAt 106 = .ok (.goto (-88), 3) := by decide +kernel
theorem dX6_thirstyAt_109 : decode cX6_thirstyAt 109 = .ok (.aload_n 0, 1) := by decide +kernel
theorem dX6_thirstyAt_110 : decode cX6_thirstyAt 110 = .ok (.iload_n 2, 1) := by decide +kernel
theorem dX6_thirstyAt_111 : decode cX6_thirstyAt 111 = .ok (.invokevirtual 81, 3) := by decide +kernel
theorem dX6_thirstyAt_114 : decode cX6_thirstyAt 114 = .ok (.ifCond .lt 10, 3) := by decide +kernel
theorem dX6_thirstyAt_117 : decode cX6_thirstyAt 117 = .ok (.iload_n 3, 1) := by decide +kernel
theorem dX6_thirstyAt_118 : decode cX6_thirstyAt 118 = .ok (.iload_n 1, 1) := by decide +kernel
theorem dX6_thirstyAt_119 : decode cX6_thirstyAt 119 = .ok (.if_icmp .ne 5, 3) := by decide +kernel
theorem dX6_thirstyAt_122 : decode cX6_thirstyAt 122 = .ok (.iload_n 2, 1) := by decide +kernel
theorem dX6_thirstyAt_123 : decode cX6_thirstyAt 123 = .ok (.ireturn, 1) := by decide +kernel
theorem dX6_thirstyAt_124 : decode cX6_thirstyAt 124 = .ok (.iinc 2 1, 3) := by decide +kernel
theorem dX6_thirstyAt_127 : decode cX6_thirstyAt 127 = .ok (.goto (-125), 3) := by decide +kernel
theorem dX6_thirstyAt_130 : decode cX6_thirstyAt 130 = .ok (.bipush (-5), 2) := by decide +kernel
theorem dX6_thirstyAt_132 : decode cX6_thirstyAt 132 = .ok (.ireturn, 1) := by decide +kernel
theorem dX6_fuelRun_0 : decode cX6_fuelRun 0 = .ok (.iconst 0, 1) := by decide +kernel
theorem dX6_fuelRun_1 : decode cX6_fuelRun 1 = .ok (.istore_n 1, 1) := by decide +kernel
theorem dX6_fuelRun_2 : decode cX6_fuelRun 2 = .ok (.iconst 0, 1) := by decide +kernel
theorem dX6_fuelRun_3 : decode cX6_fuelRun 3 = .ok (.istore_n 2, 1) := by decide +kernel
theorem dX6_fuelRun_4 : decode cX6_fuelRun 4 = .ok (.aload_n 0, 1) := by decide +kernel
theorem dX6_fuelRun_5 : decode cX6_fuelRun 5 = .ok (.iload_n 1, 1) := by decide +kernel
theorem dX6_fuelRun_6 : decode cX6_fuelRun 6 = .ok (.invokevirtual 122, 3) := by decide +kernel
theorem dX6_fuelRun_9 : decode cX6_fuelRun 9 = .ok (.bipush (-5), 2) := by decide +kernel
theorem dX6_fuelRun_11 : decode cX6_fuelRun 11 = .ok (.if_icmp .eq 37, 3) := by decide +kernel
theorem dX6_fuelRun_14 : decode cX6_fuelRun 14 = .ok (.aload_n 0, 1) := by decide +kernel
theorem dX6_fuelRun_15 : decode cX6_fuelRun 15 = .ok (.getfield 22, 3) := by decide +kernel
theorem dX6_fuelRun_18 : decode cX6_fuelRun 18 = .ok (.iload_n 1, 1) := by decide +kernel
theorem dX6_fuelRun_19 : decode cX6_fuelRun 19 = .ok (.aload_n 0, 1) := by decide +kernel
theorem dX6_fuelRun_20 : decode cX6_fuelRun 20 = .ok (.iload_n 1, 1) := by decide +kernel
theorem dX6_fuelRun_21 : decode cX6_fuelRun 21 = .ok (.invokevirtual 122, 3) := by decide +kernel
theorem dX6_fuelRun_24 : decode cX6_fuelRun 24 = .ok (.iastore, 1) := by decide +kernel
theorem dX6_fuelRun_25 : decode cX6_fuelRun 25 = .ok (.iload_n 2, 1) := by decide +kernel
theorem dX6_fuelRun_26 : decode cX6_fuelRun 26 = .ok (.aload_n 0, 1) := by decide +kernel
theorem dX6_fuelRun_27 : decode cX6_fuelRun 27 = .ok (.aload_n 0, 1) := by decide +kernel
theorem dX6_fuelRun_28 : decode cX6_fuelRun 28 = .ok (.aload_n 0, 1) := by decide +kernel
theorem dX6_fuelRun_29 : decode cX6_fuelRun 29 = .ok (.getfield 22, 3) := by decide +kernel
theorem dX6_fuelRun_32 : decode cX6_fuelRun 32 = .ok (.iload_n 1, 1) := by decide +kernel
theorem dX6_fuelRun_33 : decode cX6_fuelRun 33 = .ok (.iaload, 1) := by decide +kernel
theorem dX6_fuelRun_34 : decode cX6_fuelRun 34 = .ok (.invokevirtual 81, 3) := by decide +kernel
theorem dX6_fuelRun_37 : decode cX6_fuelRun 37 = .ok (.invokevirtual 56, 3) := by decide +kernel
theorem dX6_fuelRun_40 : decode cX6_fuelRun 40 = .ok (.iadd, 1) := by decide +kernel
theorem dX6_fuelRun_41 : decode cX6_fuelRun 41 = .ok (.istore_n 2, 1) := by decide +kernel
theorem dX6_fuelRun_42 : decode cX6_fuelRun 42 = .ok (.iinc 1 1, 3) := by decide +kernel
theorem dX6_fuelRun_45 : decode cX6_fuelRun 45 = .ok (.goto (-41), 3) := by decide +kernel
theorem dX6_fuelRun_48 : decode cX6_fuelRun 48 = .ok (.sipush 300, 3) := by decide +kernel
theorem dX6_fuelRun_51 : decode cX6_fuelRun 51 = .ok (.aload_n 0, 1) := by decide +kernel
theorem dX6_fuelRun_52 : decode cX6_fuelRun 52 = .ok (.getfield 7, 3) := by decide +kernel
theorem dX6_fuelRun_55 : decode cX6_fuelRun 55 = .ok (.iconst 3, 1) := by decide +kernel
theorem dX6_fuelRun_56 : decode cX6_fuelRun 56 = .ok (.iaload, 1) := by decide +kernel
theorem dX6_fuelRun_57 : decode cX6_fuelRun 57 = .ok (.invokestatic 60, 3) := by decide +kernel
theorem dX6_fuelRun_60 : decode cX6_fuelRun 60 = .ok (.istore_n 3, 1) := by decide +kernel
theorem dX6_fuelRun_61 : decode cX6_fuelRun 61 = .ok (.iload_n 3, 1) := by decide +kernel
theorem dX6_fuelRun_62 : decode cX6_fuelRun 62 = .ok (.ifCond .eq 7, 3) := by decide +kernel
theorem dX6_fuelRun_65 : decode cX6_fuelRun 65 = .ok (.iload_n 2, 1) := by decide +kernel
theorem dX6_fuelRun_66 : decode cX6_fuelRun 66 = .ok (.ifCond .ne 6, 3) := by decide +kernel
theorem dX6_fuelRun_69 : decode cX6_fuelRun 69 = .ok (.bipush (-5), 2) := by decide +kernel
theorem dX6_fuelRun_71 : decode cX6_fuelRun 71 = .ok (.ireturn, 1) := by decide +kernel
theorem dX6_fuelRun_72 : decode cX6_fuelRun 72 = .ok (.aload_n 0, 1) := by decide +kernel
theorem dX6_fuelRun_73 : decode cX6_fuelRun 73 = .ok (.invokevirtual 41, 3) := by decide +kernel
theorem dX6_fuelRun_76 : decode cX6_fuelRun 76 = .ok (.iload_n 3, 1) := by decide +kernel
theorem dX6_fuelRun_77 : decode cX6_fuelRun 77 = .ok (.istore 4, 2) := by decide +kernel
theorem dX6_fuelRun_79 : decode cX6_fuelRun 79 = .ok (.iconst 0, 1) := by decide +kernel
theorem dX6_fuelRun_80 : decode cX6_fuelRun 80 = .ok (.istore 5, 2) := by decide +kernel
theorem dX6_fuelRun_82 : decode cX6_fuelRun 82 = .ok (.iload 5, 2) := by decide +kernel
theorem dX6_fuelRun_84 : decode cX6_fuelRun 84 = .ok (.iload_n 1, 1) := by decide +kernel
theorem dX6_fuelRun_85 : decode cX6_fuelRun 85 = .ok (.if_icmp .ge 55, 3) := by decide +kernel
theorem dX6_fuelRun_88 : decode cX6_fuelRun 88 = .ok (.iload 4, 2) := by decide +kernel
theorem dX6_fuelRun_90 : decode cX6_fuelRun 90 = .ok (.aload_n 0, 1) := by decide +kernel
theorem dX6_fuelRun_91 : decode cX6_fuelRun 91 = .ok (.aload_n 0, 1) := by decide +kernel
theorem dX6_fuelRun_92 : decode cX6_fuelRun 92 = .ok (.aload_n 0, 1) := by decide +kernel
theorem dX6_fuelRun_93 : decode cX6_fuelRun 93 = .ok (.getfield 22, 3) := by decide +kernel
theorem dX6_fuelRun_96 : decode cX6_fuelRun 96 = .ok (.iload 5, 2) := by decide +kernel
theorem dX6_fuelRun_98 : decode cX6_fuelRun 98 = .ok (.iaload, 1) := by decide +kernel
theorem dX6_fuelRun_99 : decode cX6_fuelRun 99 = .ok (.invokevirtual 81, 3) := by decide +kernel
theorem dX6_fuelRun_102 : decode cX6_fuelRun 102 = .ok (.invokevirtual 56, 3) := by decide +kernel
theorem dX6_fuelRun_105 : decode cX6_fuelRun 105 = .ok (.invokestatic 60, 3) := by decide +kernel
theorem dX6_fuelRun_108 : decode cX6_fuelRun 108 = .ok (.istore 6, 2) := by decide +kernel
theorem dX6_fuelRun_110 : decode cX6_fuelRun 110 = .ok (.aload_n 0, 1) := by decide +kernel
theorem dX6_fuelRun_111 : decode cX6_fuelRun 111 = .ok (.aload_n 0, 1) := by decide +kernel
theorem dX6_fuelRun_112 : decode cX6_fuelRun 112 = .ok (.aload_n 0, 1) := by decide +kernel
theorem dX6_fuelRun_113 : decode cX6_fuelRun 113 = .ok (.getfield 22, 3) := by decide +kernel
theorem dX6_fuelRun_116 : decode cX6_fuelRun 116 = .ok (.iload 5, 2) := by decide +kernel
theorem dX6_fuelRun_118 : decode cX6_fuelRun 118 = .ok (.iaload, 1) := by decide +kernel
theorem dX6_fuelRun_119 : decode cX6_fuelRun 119 = .ok (.invokevirtual 81, 3) := by decide +kernel
theorem dX6_fuelRun_122 : decode cX6_fuelRun 122 = .ok (.iload 6, 2) := by decide +kernel
theorem dX6_fuelRun_124 : decode cX6_fuelRun 124 = .ok (.invokevirtual 63, 3) := by decide +kernel
theorem dX6_fuelRun_127 : decode cX6_fuelRun 127 = .ok (.iload 4, 2) := by decide +kernel
theorem dX6_fuelRun_129 : decode cX6_fuelRun 129 = .ok (.iload 6, 2) := by decide +kernel
theorem dX6_fuelRun_131 : decode cX6_fuelRun 131 = .ok (.isub, 1) := by decide +kernel
theorem dX6_fuelRun_132 : decode cX6_fuelRun 132 = .ok (.istore 4, 2) := by decide +kernel
theorem dX6_fuelRun_134 : decode cX6_fuelRun 134 = .ok (.iinc 5 1, 3) := by decide +kernel
theorem dX6_fuelRun_137 : decode cX6_fuelRun 137 = .ok (.goto (-55), 3) := by decide +kernel
theorem dX6_fuelRun_140 : decode cX6_fuelRun 140 = .ok (.iload_n 3, 1) := by decide +kernel
theorem dX6_fuelRun_141 : decode cX6_fuelRun 141 = .ok (.iload 4, 2) := by decide +kernel
theorem dX6_fuelRun_143 : decode cX6_fuelRun 143 = .ok (.isub, 1) := by decide +kernel
theorem dX6_fuelRun_144 : decode cX6_fuelRun 144 = .ok (.ireturn, 1) := by decide +kernel
theorem dX6_against_0 : decode cX6_against 0 = .ok (.aload_n 0, 1) := by decide +kernel
theorem dX6_against_1 : decode cX6_against 1 = .ok (.iload_n 1, 1) := by decide +kernel
theorem dX6_against_2 : decode cX6_against 2 = .ok (.bipush 6, 2) := by decide +kernel
theorem dX6_against_4 : decode cX6_against 4 = .ok (.invokevirtual 48, 3) := by decide +kernel
theorem dX6_against_7 : decode cX6_against 7 = .ok (.iconst 1, 1) := by decide +kernel
theorem dX6_against_8 : decode cX6_against 8 = .ok (.if_icmp .ne 5, 3) := by decide +kernel
theorem dX6_against_11 : decode cX6_against 11 = .ok (.iconst 0, 1) := by decide +kernel
theorem dX6_against_12 : decode cX6_against 12 = .ok (.ireturn, 1) := by decide +kernel
theorem dX6_against_13 : decode cX6_against 13 = .ok (.aload_n 0, 1) := by decide +kernel
theorem dX6_against_14 : decode cX6_against 14 = .ok (.iload_n 1, 1) := by decide +kernel
theorem dX6_against_15 : decode cX6_against 15 = .ok (.iconst 4, 1) := by decide +kernel
theorem dX6_against_16 : decode cX6_against 16 = .ok (.invokevirtual 48, 3) := by decide +kernel
theorem dX6_against_19 : decode cX6_against 19 = .ok (.aload_n 0, 1) := by decide +kernel
theorem dX6_against_20 : decode cX6_against 20 = .ok (.iload_n 1, 1) := by decide +kernel
theorem dX6_against_21 : decode cX6_against 21 = .ok (.iconst 2, 1) := by decide +kernel
theorem dX6_against_22 : decode cX6_against 22 = .ok (.invokevirtual 48, 3) := by decide +kernel
theorem dX6_against_25 : decode cX6_against 25 = .ok (.if_icmp .ge 5, 3) := by decide +kernel
theorem dX6_against_28 : decode cX6_against 28 = .ok (.iconst 2, 1) := by decide +kernel
theorem dX6_against_29 : decode cX6_against 29 = .ok (.ireturn, 1) := by decide +kernel
theorem dX6_against_30 : decode cX6_against 30 = .ok (.aload_n 0, 1) := by decide +kernel
theorem dX6_against_31 : decode cX6_against 31 = .ok (.iload_n 1, 1) := by decide +kernel
theorem dX6_against_32 : decode cX6_against 32 = .ok (.iconst 3, 1) := by decide +kernel
theorem dX6_against_33 : decode cX6_against 33 = .ok (.invokevirtual 48, 3) := by decide +kernel
theorem dX6_against_36 : decode cX6_against 36 = .ok (.aload_n 0, 1) := by decide +kernel
theorem dX6_against_37 : decode cX6_against 37 = .ok (.getfield 7, 3) := by decide +kernel
theorem dX6_against_40 : decode cX6_against 40 = .ok (.iconst 1, 1) := by decide +kernel
theorem dX6_against_41 : decode cX6_against 41 = .ok (.iaload, 1) := by decide +kernel
theorem dX6_against_42 : decode cX6_against 42 = .ok (.isub, 1) := by decide +kernel
theorem dX6_against_43 : decode cX6_against 43 = .ok (.istore_n 2, 1) := by decide +kernel
theorem dX6_against_44 : decode cX6_against 44 = .ok (.iload_n 2, 1) := by decide +kernel
