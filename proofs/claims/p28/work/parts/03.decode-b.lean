theorem dX5_init_0 : decode cX5_init 0 = .ok (.aload_n 0, 1) := by decide +kernel
theorem dX5_init_1 : decode cX5_init 1 = .ok (.invokespecial 1, 3) := by decide +kernel
theorem dX5_init_4 : decode cX5_init 4 = .ok (.aload_n 0, 1) := by decide +kernel
theorem dX5_init_5 : decode cX5_init 5 = .ok (.new 7, 3) := by decide +kernel
theorem dX5_init_8 : decode cX5_init 8 = .ok (.dup, 1) := by decide +kernel
theorem dX5_init_9 : decode cX5_init 9 = .ok (.invokespecial 9, 3) := by decide +kernel
theorem dX5_init_12 : decode cX5_init 12 = .ok (.putfield 10, 3) := by decide +kernel
theorem dX5_init_15 : decode cX5_init 15 = .ok (.aload_n 0, 1) := by decide +kernel
theorem dX5_init_16 : decode cX5_init 16 = .ok (.new 7, 3) := by decide +kernel
theorem dX5_init_19 : decode cX5_init 19 = .ok (.dup, 1) := by decide +kernel
theorem dX5_init_20 : decode cX5_init 20 = .ok (.invokespecial 9, 3) := by decide +kernel
theorem dX5_init_23 : decode cX5_init 23 = .ok (.putfield 16, 3) := by decide +kernel
theorem dX5_init_26 : decode cX5_init 26 = .ok (.aload_n 0, 1) := by decide +kernel
theorem dX5_init_27 : decode cX5_init 27 = .ok (.new 7, 3) := by decide +kernel
theorem dX5_init_30 : decode cX5_init 30 = .ok (.dup, 1) := by decide +kernel
theorem dX5_init_31 : decode cX5_init 31 = .ok (.invokespecial 9, 3) := by decide +kernel
theorem dX5_init_34 : decode cX5_init 34 = .ok (.putfield 19, 3) := by decide +kernel
theorem dX5_init_37 : decode cX5_init 37 = .ok (.aload_n 0, 1) := by decide +kernel
theorem dX5_init_38 : decode cX5_init 38 = .ok (.iconst 0, 1) := by decide +kernel
theorem dX5_init_39 : decode cX5_init 39 = .ok (.putfield 22, 3) := by decide +kernel
theorem dX5_init_42 : decode cX5_init 42 = .ok (.aload_n 0, 1) := by decide +kernel
theorem dX5_init_43 : decode cX5_init 43 = .ok (.new 26, 3) := by decide +kernel
theorem dX5_init_46 : decode cX5_init 46 = .ok (.dup, 1) := by decide +kernel
theorem dX5_init_47 : decode cX5_init 47 = .ok (.invokespecial 28, 3) := by decide +kernel
theorem dX5_init_50 : decode cX5_init 50 = .ok (.putfield 29, 3) := by decide +kernel
theorem dX5_init_53 : decode cX5_init 53 = .ok (.aload_n 0, 1) := by decide +kernel
theorem dX5_init_54 : decode cX5_init 54 = .ok (.new 33, 3) := by decide +kernel
theorem dX5_init_57 : decode cX5_init 57 = .ok (.dup, 1) := by decide +kernel
theorem dX5_init_58 : decode cX5_init 58 = .ok (.invokespecial 35, 3) := by decide +kernel
theorem dX5_init_61 : decode cX5_init 61 = .ok (.putfield 36, 3) := by decide +kernel
theorem dX5_init_64 : decode cX5_init 64 = .ok (.aload_n 0, 1) := by decide +kernel
theorem dX5_init_65 : decode cX5_init 65 = .ok (.bipush 12, 2) := by decide +kernel
theorem dX5_init_67 : decode cX5_init 67 = .ok (.newarray .int, 2) := by decide +kernel
theorem dX5_init_69 : decode cX5_init 69 = .ok (.putfield 40, 3) := by decide +kernel
theorem dX5_init_72 : decode cX5_init 72 = .ok (.return_, 1) := by decide +kernel
theorem dX5_buy_0 : decode cX5_buy 0 = .ok (.iload_n 1, 1) := by decide +kernel
theorem dX5_buy_1 : decode cX5_buy 1 = .ok (.iconst 1, 1) := by decide +kernel
theorem dX5_buy_2 : decode cX5_buy 2 = .ok (.sipush 5000, 3) := by decide +kernel
theorem dX5_buy_5 : decode cX5_buy 5 = .ok (.invokestatic 44, 3) := by decide +kernel
theorem dX5_buy_8 : decode cX5_buy 8 = .ok (.ifCond .ne 6, 3) := by decide +kernel
theorem dX5_buy_11 : decode cX5_buy 11 = .ok (.bipush (-2), 2) := by decide +kernel
theorem dX5_buy_13 : decode cX5_buy 13 = .ok (.ireturn, 1) := by decide +kernel
theorem dX5_buy_14 : decode cX5_buy 14 = .ok (.aload_n 0, 1) := by decide +kernel
theorem dX5_buy_15 : decode cX5_buy 15 = .ok (.getfield 10, 3) := by decide +kernel
theorem dX5_buy_18 : decode cX5_buy 18 = .ok (.getfield 48, 3) := by decide +kernel
theorem dX5_buy_21 : decode cX5_buy 21 = .ok (.iload_n 1, 1) := by decide +kernel
theorem dX5_buy_22 : decode cX5_buy 22 = .ok (.iadd, 1) := by decide +kernel
theorem dX5_buy_23 : decode cX5_buy 23 = .ok (.ldc 52, 2) := by decide +kernel
theorem dX5_buy_25 : decode cX5_buy 25 = .ok (.if_icmp .le 6, 3) := by decide +kernel
theorem dX5_buy_28 : decode cX5_buy 28 = .ok (.bipush (-3), 2) := by decide +kernel
theorem dX5_buy_30 : decode cX5_buy 30 = .ok (.ireturn, 1) := by decide +kernel
theorem dX5_buy_31 : decode cX5_buy 31 = .ok (.aload_n 0, 1) := by decide +kernel
theorem dX5_buy_32 : decode cX5_buy 32 = .ok (.getfield 29, 3) := by decide +kernel
theorem dX5_buy_35 : decode cX5_buy 35 = .ok (.aload_n 0, 1) := by decide +kernel
theorem dX5_buy_36 : decode cX5_buy 36 = .ok (.getfield 10, 3) := by decide +kernel
theorem dX5_buy_39 : decode cX5_buy 39 = .ok (.invokevirtual 53, 3) := by decide +kernel
theorem dX5_buy_42 : decode cX5_buy 42 = .ok (.aload_n 0, 1) := by decide +kernel
theorem dX5_buy_43 : decode cX5_buy 43 = .ok (.getfield 10, 3) := by decide +kernel
theorem dX5_buy_46 : decode cX5_buy 46 = .ok (.dup, 1) := by decide +kernel
theorem dX5_buy_47 : decode cX5_buy 47 = .ok (.getfield 48, 3) := by decide +kernel
theorem dX5_buy_50 : decode cX5_buy 50 = .ok (.iload_n 1, 1) := by decide +kernel
theorem dX5_buy_51 : decode cX5_buy 51 = .ok (.iadd, 1) := by decide +kernel
theorem dX5_buy_52 : decode cX5_buy 52 = .ok (.putfield 48, 3) := by decide +kernel
theorem dX5_buy_55 : decode cX5_buy 55 = .ok (.aload_n 0, 1) := by decide +kernel
theorem dX5_buy_56 : decode cX5_buy 56 = .ok (.getfield 10, 3) := by decide +kernel
theorem dX5_buy_59 : decode cX5_buy 59 = .ok (.dup, 1) := by decide +kernel
theorem dX5_buy_60 : decode cX5_buy 60 = .ok (.getfield 57, 3) := by decide +kernel
theorem dX5_buy_63 : decode cX5_buy 63 = .ok (.iload_n 1, 1) := by decide +kernel
theorem dX5_buy_64 : decode cX5_buy 64 = .ok (.iadd, 1) := by decide +kernel
theorem dX5_buy_65 : decode cX5_buy 65 = .ok (.putfield 57, 3) := by decide +kernel
theorem dX5_buy_68 : decode cX5_buy 68 = .ok (.aload_n 0, 1) := by decide +kernel
theorem dX5_buy_69 : decode cX5_buy 69 = .ok (.getfield 10, 3) := by decide +kernel
theorem dX5_buy_72 : decode cX5_buy 72 = .ok (.getfield 48, 3) := by decide +kernel
theorem dX5_buy_75 : decode cX5_buy 75 = .ok (.ireturn, 1) := by decide +kernel
theorem dX5_weather_0 : decode cX5_weather 0 = .ok (.iload_n 1, 1) := by decide +kernel
theorem dX5_weather_1 : decode cX5_weather 1 = .ok (.bipush (-30), 2) := by decide +kernel
theorem dX5_weather_3 : decode cX5_weather 3 = .ok (.bipush 20, 2) := by decide +kernel
theorem dX5_weather_5 : decode cX5_weather 5 = .ok (.invokestatic 44, 3) := by decide +kernel
theorem dX5_weather_8 : decode cX5_weather 8 = .ok (.ifCond .ne 6, 3) := by decide +kernel
theorem dX5_weather_11 : decode cX5_weather 11 = .ok (.bipush (-2), 2) := by decide +kernel
theorem dX5_weather_13 : decode cX5_weather 13 = .ok (.ireturn, 1) := by decide +kernel
theorem dX5_weather_14 : decode cX5_weather 14 = .ok (.iload_n 1, 1) := by decide +kernel
theorem dX5_weather_15 : decode cX5_weather 15 = .ok (.aload_n 0, 1) := by decide +kernel
theorem dX5_weather_16 : decode cX5_weather 16 = .ok (.getfield 10, 3) := by decide +kernel
theorem dX5_weather_19 : decode cX5_weather 19 = .ok (.getfield 60, 3) := by decide +kernel
theorem dX5_weather_22 : decode cX5_weather 22 = .ok (.if_icmp .ne 6, 3) := by decide +kernel
theorem dX5_weather_25 : decode cX5_weather 25 = .ok (.bipush (-5), 2) := by decide +kernel
theorem dX5_weather_27 : decode cX5_weather 27 = .ok (.ireturn, 1) := by decide +kernel
theorem dX5_weather_28 : decode cX5_weather 28 = .ok (.aload_n 0, 1) := by decide +kernel
theorem dX5_weather_29 : decode cX5_weather 29 = .ok (.getfield 29, 3) := by decide +kernel
theorem dX5_weather_32 : decode cX5_weather 32 = .ok (.aload_n 0, 1) := by decide +kernel
theorem dX5_weather_33 : decode cX5_weather 33 = .ok (.getfield 10, 3) := by decide +kernel
theorem dX5_weather_36 : decode cX5_weather 36 = .ok (.invokevirtual 53, 3) := by decide +kernel
theorem dX5_weather_39 : decode cX5_weather 39 = .ok (.iload_n 1, 1) := by decide +kernel
theorem dX5_weather_40 : decode cX5_weather 40 = .ok (.aload_n 0, 1) := by decide +kernel
theorem dX5_weather_41 : decode cX5_weather 41 = .ok (.getfield 10, 3) := by decide +kernel
theorem dX5_weather_44 : decode cX5_weather 44 = .ok (.getfield 60, 3) := by decide +kernel
theorem dX5_weather_47 : decode cX5_weather 47 = .ok (.isub, 1) := by decide +kernel
theorem dX5_weather_48 : decode cX5_weather 48 = .ok (.invokestatic 63, 3) := by decide +kernel
theorem dX5_weather_51 : decode cX5_weather 51 = .ok (.istore_n 2, 1) := by decide +kernel
theorem dX5_weather_52 : decode cX5_weather 52 = .ok (.aload_n 0, 1) := by decide +kernel
theorem dX5_weather_53 : decode cX5_weather 53 = .ok (.getfield 10, 3) := by decide +kernel
theorem dX5_weather_56 : decode cX5_weather 56 = .ok (.iload_n 1, 1) := by decide +kernel
theorem dX5_weather_57 : decode cX5_weather 57 = .ok (.putfield 60, 3) := by decide +kernel
theorem dX5_weather_60 : decode cX5_weather 60 = .ok (.iload_n 2, 1) := by decide +kernel
theorem dX5_weather_61 : decode cX5_weather 61 = .ok (.ireturn, 1) := by decide +kernel
theorem dX5_setPrice_0 : decode cX5_setPrice 0 = .ok (.iload_n 1, 1) := by decide +kernel
theorem dX5_setPrice_1 : decode cX5_setPrice 1 = .ok (.iconst 1, 1) := by decide +kernel
theorem dX5_setPrice_2 : decode cX5_setPrice 2 = .ok (.bipush 99, 2) := by decide +kernel
theorem dX5_setPrice_4 : decode cX5_setPrice 4 = .ok (.invokestatic 44, 3) := by decide +kernel
theorem dX5_setPrice_7 : decode cX5_setPrice 7 = .ok (.ifCond .ne 6, 3) := by decide +kernel
theorem dX5_setPrice_10 : decode cX5_setPrice 10 = .ok (.bipush (-2), 2) := by decide +kernel
theorem dX5_setPrice_12 : decode cX5_setPrice 12 = .ok (.ireturn, 1) := by decide +kernel
theorem dX5_setPrice_13 : decode cX5_setPrice 13 = .ok (.iload_n 1, 1) := by decide +kernel
theorem dX5_setPrice_14 : decode cX5_setPrice 14 = .ok (.aload_n 0, 1) := by decide +kernel
theorem dX5_setPrice_15 : decode cX5_setPrice 15 = .ok (.getfield 10, 3) := by decide +kernel
theorem dX5_setPrice_18 : decode cX5_setPrice 18 = .ok (.getfield 69, 3) := by decide +kernel
theorem dX5_setPrice_21 : decode cX5_setPrice 21 = .ok (.if_icmp .ne 6, 3) := by decide +kernel
theorem dX5_setPrice_24 : decode cX5_setPrice 24 = .ok (.bipush (-5), 2) := by decide +kernel
theorem dX5_setPrice_26 : decode cX5_setPrice 26 = .ok (.ireturn, 1) := by decide +kernel
theorem dX5_setPrice_27 : decode cX5_setPrice 27 = .ok (.aload_n 0, 1) := by decide +kernel
theorem dX5_setPrice_28 : decode cX5_setPrice 28 = .ok (.getfield 29, 3) := by decide +kernel
theorem dX5_setPrice_31 : decode cX5_setPrice 31 = .ok (.aload_n 0, 1) := by decide +kernel
theorem dX5_setPrice_32 : decode cX5_setPrice 32 = .ok (.getfield 10, 3) := by decide +kernel
theorem dX5_setPrice_35 : decode cX5_setPrice 35 = .ok (.invokevirtual 53, 3) := by decide +kernel
theorem dX5_setPrice_38 : decode cX5_setPrice 38 = .ok (.aload_n 0, 1) := by decide +kernel
theorem dX5_setPrice_39 : decode cX5_setPrice 39 = .ok (.getfield 10, 3) := by decide +kernel
theorem dX5_setPrice_42 : decode cX5_setPrice 42 = .ok (.getfield 69, 3) := by decide +kernel
theorem dX5_setPrice_45 : decode cX5_setPrice 45 = .ok (.istore_n 2, 1) := by decide +kernel
theorem dX5_setPrice_46 : decode cX5_setPrice 46 = .ok (.aload_n 0, 1) := by decide +kernel
theorem dX5_setPrice_47 : decode cX5_setPrice 47 = .ok (.getfield 10, 3) := by decide +kernel
theorem dX5_setPrice_50 : decode cX5_setPrice 50 = .ok (.iload_n 1, 1) := by decide +kernel
theorem dX5_setPrice_51 : decode cX5_setPrice 51 = .ok (.putfield 69, 3) := by decide +kernel
theorem dX5_setPrice_54 : decode cX5_setPrice 54 = .ok (.iload_n 2, 1) := by decide +kernel
theorem dX5_setPrice_55 : decode cX5_setPrice 55 = .ok (.ireturn, 1) := by decide +kernel
theorem dX5_addSet_0 : decode cX5_addSet 0 = .ok (.iload_n 1, 1) := by decide +kernel
theorem dX5_addSet_1 : decode cX5_addSet 1 = .ok (.iconst 1, 1) := by decide +kernel
theorem dX5_addSet_2 : decode cX5_addSet 2 = .ok (.bipush 99, 2) := by decide +kernel
theorem dX5_addSet_4 : decode cX5_addSet 4 = .ok (.invokestatic 44, 3) := by decide +kernel
theorem dX5_addSet_7 : decode cX5_addSet 7 = .ok (.ifCond .eq 46, 3) := by decide +kernel
theorem dX5_addSet_10 : decode cX5_addSet 10 = .ok (.iload_n 2, 1) := by decide +kernel
theorem dX5_addSet_11 : decode cX5_addSet 11 = .ok (.bipush 10, 2) := by decide +kernel
theorem dX5_addSet_13 : decode cX5_addSet 13 = .ok (.sipush 500, 3) := by decide +kernel
theorem dX5_addSet_16 : decode cX5_addSet 16 = .ok (.invokestatic 44, 3) := by decide +kernel
theorem dX5_addSet_19 : decode cX5_addSet 19 = .ok (.ifCond .eq 34, 3) := by decide +kernel
theorem dX5_addSet_22 : decode cX5_addSet 22 = .ok (.iload_n 3, 1) := by decide +kernel
theorem dX5_addSet_23 : decode cX5_addSet 23 = .ok (.iconst 1, 1) := by decide +kernel
theorem dX5_addSet_24 : decode cX5_addSet 24 = .ok (.bipush 50, 2) := by decide +kernel
theorem dX5_addSet_26 : decode cX5_addSet 26 = .ok (.invokestatic 44, 3) := by decide +kernel
theorem dX5_addSet_29 : decode cX5_addSet 29 = .ok (.ifCond .eq 24, 3) := by decide +kernel
theorem dX5_addSet_32 : decode cX5_addSet 32 = .ok (.iload_n 3, 1) := by decide +kernel
theorem dX5_addSet_33 : decode cX5_addSet 33 = .ok (.iload_n 2, 1) := by decide +kernel
theorem dX5_addSet_34 : decode cX5_addSet 34 = .ok (.if_icmp .gt 19, 3) := by decide +kernel
theorem dX5_addSet_37 : decode cX5_addSet 37 = .ok (.iload 4, 2) := by decide +kernel
theorem dX5_addSet_39 : decode cX5_addSet 39 = .ok (.bipush (-30), 2) := by decide +kernel
theorem dX5_addSet_41 : decode cX5_addSet 41 = .ok (.bipush 10, 2) := by decide +kernel
theorem dX5_addSet_43 : decode cX5_addSet 43 = .ok (.invokestatic 44, 3) := by decide +kernel
theorem dX5_addSet_46 : decode cX5_addSet 46 = .ok (.ifCond .eq 7, 3) := by decide +kernel
theorem dX5_addSet_49 : decode cX5_addSet 49 = .ok (.iconst 1, 1) := by decide +kernel
theorem dX5_addSet_50 : decode cX5_addSet 50 = .ok (.goto 4, 3) := by decide +kernel
theorem dX5_addSet_53 : decode cX5_addSet 53 = .ok (.iconst 0, 1) := by decide +kernel
theorem dX5_addSet_54 : decode cX5_addSet 54 = .ok (.istore 5, 2) := by decide +kernel
theorem dX5_addSet_56 : decode cX5_addSet 56 = .ok (.iload 5, 2) := by decide +kernel
theorem dX5_addSet_58 : decode cX5_addSet 58 = .ok (.ifCond .ne 6, 3) := by decide +kernel
theorem dX5_addSet_61 : decode cX5_addSet 61 = .ok (.bipush (-2), 2) := by decide +kernel
theorem dX5_addSet_63 : decode cX5_addSet 63 = .ok (.ireturn, 1) := by decide +kernel
theorem dX5_addSet_64 : decode cX5_addSet 64 = .ok (.aload_n 0, 1) := by decide +kernel
theorem dX5_addSet_65 : decode cX5_addSet 65 = .ok (.getfield 10, 3) := by decide +kernel
theorem dX5_addSet_68 : decode cX5_addSet 68 = .ok (.getfield 72, 3) := by decide +kernel
theorem dX5_addSet_71 : decode cX5_addSet 71 = .ok (.bipush 10, 2) := by decide +kernel
theorem dX5_addSet_73 : decode cX5_addSet 73 = .ok (.if_icmp .lt 6, 3) := by decide +kernel
theorem dX5_addSet_76 : decode cX5_addSet 76 = .ok (.bipush (-3), 2) := by decide +kernel
theorem dX5_addSet_78 : decode cX5_addSet 78 = .ok (.ireturn, 1) := by decide +kernel
theorem dX5_addSet_79 : decode cX5_addSet 79 = .ok (.aload_n 0, 1) := by decide +kernel
theorem dX5_addSet_80 : decode cX5_addSet 80 = .ok (.getfield 29, 3) := by decide +kernel
theorem dX5_addSet_83 : decode cX5_addSet 83 = .ok (.aload_n 0, 1) := by decide +kernel
theorem dX5_addSet_84 : decode cX5_addSet 84 = .ok (.getfield 10, 3) := by decide +kernel
theorem dX5_addSet_87 : decode cX5_addSet 87 = .ok (.invokevirtual 53, 3) := by decide +kernel
theorem dX5_addSet_90 : decode cX5_addSet 90 = .ok (.aload_n 0, 1) := by decide +kernel
theorem dX5_addSet_91 : decode cX5_addSet 91 = .ok (.getfield 10, 3) := by decide +kernel
theorem dX5_addSet_94 : decode cX5_addSet 94 = .ok (.iload_n 1, 1) := by decide +kernel
theorem dX5_addSet_95 : decode cX5_addSet 95 = .ok (.iload_n 2, 1) := by decide +kernel
theorem dX5_addSet_96 : decode cX5_addSet 96 = .ok (.iload_n 3, 1) := by decide +kernel
theorem dX5_addSet_97 : decode cX5_addSet 97 = .ok (.iload 4, 2) := by decide +kernel
theorem dX5_addSet_99 : decode cX5_addSet 99 = .ok (.invokevirtual 75, 3) := by decide +kernel
theorem dX5_addSet_102 : decode cX5_addSet 102 = .ok (.ireturn, 1) := by decide +kernel
theorem dX5_fill_0 : decode cX5_fill 0 = .ok (.aload_n 0, 1) := by decide +kernel
theorem dX5_fill_1 : decode cX5_fill 1 = .ok (.getfield 10, 3) := by decide +kernel
theorem dX5_fill_4 : decode cX5_fill 4 = .ok (.iload_n 1, 1) := by decide +kernel
theorem dX5_fill_5 : decode cX5_fill 5 = .ok (.invokevirtual 79, 3) := by decide +kernel
theorem dX5_fill_8 : decode cX5_fill 8 = .ok (.ifCond .ne 5, 3) := by decide +kernel
theorem dX5_fill_11 : decode cX5_fill 11 = .ok (.iconst (-1), 1) := by decide +kernel
theorem dX5_fill_12 : decode cX5_fill 12 = .ok (.ireturn, 1) := by decide +kernel
theorem dX5_fill_13 : decode cX5_fill 13 = .ok (.aload_n 0, 1) := by decide +kernel
theorem dX5_fill_14 : decode cX5_fill 14 = .ok (.getfield 10, 3) := by decide +kernel
theorem dX5_fill_17 : decode cX5_fill 17 = .ok (.getfield 83, 3) := by decide +kernel
theorem dX5_fill_20 : decode cX5_fill 20 = .ok (.iload_n 1, 1) := by decide +kernel
theorem dX5_fill_21 : decode cX5_fill 21 = .ok (.aaload, 1) := by decide +kernel
theorem dX5_fill_22 : decode cX5_fill 22 = .ok (.astore_n 2, 1) := by decide +kernel
theorem dX5_fill_23 : decode cX5_fill 23 = .ok (.aload_n 2, 1) := by decide +kernel
theorem dX5_fill_24 : decode cX5_fill 24 = .ok (.getfield 87, 3) := by decide +kernel
theorem dX5_fill_27 : decode cX5_fill 27 = .ok (.bipush (-5), 2) := by decide +kernel
theorem dX5_fill_29 : decode cX5_fill 29 = .ok (.if_icmp .eq 6, 3) := by decide +kernel
theorem dX5_fill_32 : decode cX5_fill 32 = .ok (.bipush (-4), 2) := by decide +kernel
theorem dX5_fill_34 : decode cX5_fill 34 = .ok (.ireturn, 1) := by decide +kernel
theorem dX5_fill_35 : decode cX5_fill 35 = .ok (.aload_n 2, 1) := by decide +kernel
theorem dX5_fill_36 : decode cX5_fill 36 = .ok (.invokevirtual 92, 3) := by decide +kernel
theorem dX5_fill_39 : decode cX5_fill 39 = .ok (.aload_n 0, 1) := by decide +kernel
theorem dX5_fill_40 : decode cX5_fill 40 = .ok (.getfield 10, 3) := by decide +kernel
theorem dX5_fill_43 : decode cX5_fill 43 = .ok (.getfield 48, 3) := by decide +kernel
theorem dX5_fill_46 : decode cX5_fill 46 = .ok (.invokestatic 96, 3) := by decide +kernel
theorem dX5_fill_49 : decode cX5_fill 49 = .ok (.istore_n 3, 1) := by decide +kernel
theorem dX5_fill_50 : decode cX5_fill 50 = .ok (.iload_n 3, 1) := by decide +kernel
theorem dX5_fill_51 : decode cX5_fill 51 = .ok (.ifCond .gt 6, 3) := by decide +kernel
theorem dX5_fill_54 : decode cX5_fill 54 = .ok (.bipush (-5), 2) := by decide +kernel
theorem dX5_fill_56 : decode cX5_fill 56 = .ok (.ireturn, 1) := by decide +kernel
theorem dX5_fill_57 : decode cX5_fill 57 = .ok (.aload_n 0, 1) := by decide +kernel
theorem dX5_fill_58 : decode cX5_fill 58 = .ok (.getfield 29, 3) := by decide +kernel
theorem dX5_fill_61 : decode cX5_fill 61 = .ok (.aload_n 0, 1) := by decide +kernel
theorem dX5_fill_62 : decode cX5_fill 62 = .ok (.getfield 10, 3) := by decide +kernel
theorem dX5_fill_65 : decode cX5_fill 65 = .ok (.invokevirtual 53, 3) := by decide +kernel
theorem dX5_fill_68 : decode cX5_fill 68 = .ok (.aload_n 2, 1) := by decide +kernel
theorem dX5_fill_69 : decode cX5_fill 69 = .ok (.dup, 1) := by decide +kernel
theorem dX5_fill_70 : decode cX5_fill 70 = .ok (.getfield 100, 3) := by decide +kernel
theorem dX5_fill_73 : decode cX5_fill 73 = .ok (.iload_n 3, 1) := by decide +kernel
theorem dX5_fill_74 : decode cX5_fill 74 = .ok (.iadd, 1) := by decide +kernel
theorem dX5_fill_75 : decode cX5_fill 75 = .ok (.putfield 100, 3) := by decide +kernel
theorem dX5_fill_78 : decode cX5_fill 78 = .ok (.aload_n 0, 1) := by decide +kernel
theorem dX5_fill_79 : decode cX5_fill 79 = .ok (.getfield 10, 3) := by decide +kernel
theorem dX5_fill_82 : decode cX5_fill 82 = .ok (.dup, 1) := by decide +kernel
theorem dX5_fill_83 : decode cX5_fill 83 = .ok (.getfield 48, 3) := by decide +kernel
theorem dX5_fill_86 : decode cX5_fill 86 = .ok (.iload_n 3, 1) := by decide +kernel
theorem dX5_fill_87 : decode cX5_fill 87 = .ok (.isub, 1) := by decide +kernel
theorem dX5_fill_88 : decode cX5_fill 88 = .ok (.putfield 48, 3) := by decide +kernel
theorem dX5_fill_91 : decode cX5_fill 91 = .ok (.iload_n 3, 1) := by decide +kernel
theorem dX5_fill_92 : decode cX5_fill 92 = .ok (.ireturn, 1) := by decide +kernel
theorem dX5_addSite_0 : decode cX5_addSite 0 = .ok (.iload_n 1, 1) := by decide +kernel
theorem dX5_addSite_1 : decode cX5_addSite 1 = .ok (.iconst 1, 1) := by decide +kernel
theorem dX5_addSite_2 : decode cX5_addSite 2 = .ok (.bipush 9, 2) := by decide +kernel
theorem dX5_addSite_4 : decode cX5_addSite 4 = .ok (.invokestatic 44, 3) := by decide +kernel
theorem dX5_addSite_7 : decode cX5_addSite 7 = .ok (.ifCond .eq 26, 3) := by decide +kernel
theorem dX5_addSite_10 : decode cX5_addSite 10 = .ok (.iload_n 2, 1) := by decide +kernel
theorem dX5_addSite_11 : decode cX5_addSite 11 = .ok (.iconst 1, 1) := by decide +kernel
theorem dX5_addSite_12 : decode cX5_addSite 12 = .ok (.bipush 99, 2) := by decide +kernel
theorem dX5_addSite_14 : decode cX5_addSite 14 = .ok (.invokestatic 44, 3) := by decide +kernel
theorem dX5_addSite_17 : decode cX5_addSite 17 = .ok (.ifCond .eq 16, 3) := by decide +kernel
theorem dX5_addSite_20 : decode cX5_addSite 20 = .ok (.aload_n 0, 1) := by decide +kernel
theorem dX5_addSite_21 : decode cX5_addSite 21 = .ok (.getfield 10, 3) := by decide +kernel
theorem dX5_addSite_24 : decode cX5_addSite 24 = .ok (.iload_n 3, 1) := by decide +kernel
theorem dX5_addSite_25 : decode cX5_addSite 25 = .ok (.iload 4, 2) := by decide +kernel
theorem dX5_addSite_27 : decode cX5_addSite 27 = .ok (.invokevirtual 103, 3) := by decide +kernel
theorem dX5_addSite_30 : decode cX5_addSite 30 = .ok (.ifCond .ne 6, 3) := by decide +kernel
theorem dX5_addSite_33 : decode cX5_addSite 33 = .ok (.bipush (-2), 2) := by decide +kernel
theorem dX5_addSite_35 : decode cX5_addSite 35 = .ok (.ireturn, 1) := by decide +kernel
theorem dX5_addSite_36 : decode cX5_addSite 36 = .ok (.aload_n 0, 1) := by decide +kernel
theorem dX5_addSite_37 : decode cX5_addSite 37 = .ok (.getfield 10, 3) := by decide +kernel
theorem dX5_addSite_40 : decode cX5_addSite 40 = .ok (.getfield 107, 3) := by decide +kernel
theorem dX5_addSite_43 : decode cX5_addSite 43 = .ok (.bipush 12, 2) := by decide +kernel
theorem dX5_addSite_45 : decode cX5_addSite 45 = .ok (.if_icmp .lt 6, 3) := by decide +kernel
theorem dX5_addSite_48 : decode cX5_addSite 48 = .ok (.bipush (-3), 2) := by decide +kernel
theorem dX5_addSite_50 : decode cX5_addSite 50 = .ok (.ireturn, 1) := by decide +kernel
theorem dX5_addSite_51 : decode cX5_addSite 51 = .ok (.aload_n 0, 1) := by decide +kernel
theorem dX5_addSite_52 : decode cX5_addSite 52 = .ok (.getfield 29, 3) := by decide +kernel
theorem dX5_addSite_55 : decode cX5_addSite 55 = .ok (.aload_n 0, 1) := by decide +kernel
theorem dX5_addSite_56 : decode cX5_addSite 56 = .ok (.getfield 10, 3) := by decide +kernel
theorem dX5_addSite_59 : decode cX5_addSite 59 = .ok (.invokevirtual 53, 3) := by decide +kernel
theorem dX5_addSite_62 : decode cX5_addSite 62 = .ok (.aload_n 0, 1) := by decide +kernel
theorem dX5_addSite_63 : decode cX5_addSite 63 = .ok (.getfield 10, 3) := by decide +kernel
theorem dX5_addSite_66 : decode cX5_addSite 66 = .ok (.iload_n 1, 1) := by decide +kernel
theorem dX5_addSite_67 : decode cX5_addSite 67 = .ok (.iload_n 2, 1) := by decide +kernel
theorem dX5_addSite_68 : decode cX5_addSite 68 = .ok (.iload_n 3, 1) := by decide +kernel
theorem dX5_addSite_69 : decode cX5_addSite 69 = .ok (.iload 4, 2) := by decide +kernel
theorem dX5_addSite_71 : decode cX5_addSite 71 = .ok (.invokevirtual 110, 3) := by decide +kernel
theorem dX5_addSite_74 : decode cX5_addSite 74 = .ok (.ireturn, 1) := by decide +kernel
theorem dX5_bring_0 : decode cX5_bring 0 = .ok (.aload_n 0, 1) := by decide +kernel
theorem dX5_bring_1 : decode cX5_bring 1 = .ok (.getfield 10, 3) := by decide +kernel
theorem dX5_bring_4 : decode cX5_bring 4 = .ok (.iload_n 1, 1) := by decide +kernel
theorem dX5_bring_5 : decode cX5_bring 5 = .ok (.invokevirtual 79, 3) := by decide +kernel
theorem dX5_bring_8 : decode cX5_bring 8 = .ok (.ifCond .eq 14, 3) := by decide +kernel
theorem dX5_bring_11 : decode cX5_bring 11 = .ok (.aload_n 0, 1) := by decide +kernel
theorem dX5_bring_12 : decode cX5_bring 12 = .ok (.getfield 10, 3) := by decide +kernel
theorem dX5_bring_15 : decode cX5_bring 15 = .ok (.iload_n 2, 1) := by decide +kernel
theorem dX5_bring_16 : decode cX5_bring 16 = .ok (.invokevirtual 113, 3) := by decide +kernel
theorem dX5_bring_19 : decode cX5_bring 19 = .ok (.ifCond .ne 5, 3) := by decide +kernel
theorem dX5_bring_22 : decode cX5_bring 22 = .ok (.iconst (-1), 1) := by decide +kernel
theorem dX5_bring_23 : decode cX5_bring 23 = .ok (.ireturn, 1) := by decide +kernel
theorem dX5_bring_24 : decode cX5_bring 24 = .ok (.aload_n 0, 1) := by decide +kernel
theorem dX5_bring_25 : decode cX5_bring 25 = .ok (.getfield 10, 3) := by decide +kernel
theorem dX5_bring_28 : decode cX5_bring 28 = .ok (.getfield 83, 3) := by decide +kernel
theorem dX5_bring_31 : decode cX5_bring 31 = .ok (.iload_n 1, 1) := by decide +kernel
theorem dX5_bring_32 : decode cX5_bring 32 = .ok (.aaload, 1) := by decide +kernel
theorem dX5_bring_33 : decode cX5_bring 33 = .ok (.astore_n 3, 1) := by decide +kernel
theorem dX5_bring_34 : decode cX5_bring 34 = .ok (.aload_n 0, 1) := by decide +kernel
theorem dX5_bring_35 : decode cX5_bring 35 = .ok (.getfield 10, 3) := by decide +kernel
theorem dX5_bring_38 : decode cX5_bring 38 = .ok (.getfield 116, 3) := by decide +kernel
theorem dX5_bring_41 : decode cX5_bring 41 = .ok (.iload_n 2, 1) := by decide +kernel
theorem dX5_bring_42 : decode cX5_bring 42 = .ok (.aaload, 1) := by decide +kernel
theorem dX5_bring_43 : decode cX5_bring 43 = .ok (.astore 4, 2) := by decide +kernel
theorem dX5_bring_45 : decode cX5_bring 45 = .ok (.aload_n 3, 1) := by decide +kernel
theorem dX5_bring_46 : decode cX5_bring 46 = .ok (.getfield 87, 3) := by decide +kernel
theorem dX5_bring_49 : decode cX5_bring 49 = .ok (.bipush (-5), 2) := by decide +kernel
theorem dX5_bring_51 : decode cX5_bring 51 = .ok (.if_icmp .ne 44, 3) := by decide +kernel
theorem dX5_bring_54 : decode cX5_bring 54 = .ok (.aload 4, 2) := by decide +kernel
theorem dX5_bring_56 : decode cX5_bring 56 = .ok (.getfield 120, 3) := by decide +kernel
theorem dX5_bring_59 : decode cX5_bring 59 = .ok (.bipush (-5), 2) := by decide +kernel
theorem dX5_bring_61 : decode cX5_bring 61 = .ok (.if_icmp .ne 34, 3) := by decide +kernel
theorem dX5_bring_64 : decode cX5_bring 64 = .ok (.aload_n 0, 1) := by decide +kernel
theorem dX5_bring_65 : decode cX5_bring 65 = .ok (.getfield 10, 3) := by decide +kernel
theorem dX5_bring_68 : decode cX5_bring 68 = .ok (.getfield 125, 3) := by decide +kernel
theorem dX5_bring_71 : decode cX5_bring 71 = .ok (.aload 4, 2) := by decide +kernel
theorem dX5_bring_73 : decode cX5_bring 73 = .ok (.getfield 128, 3) := by decide +kernel
theorem dX5_bring_76 : decode cX5_bring 76 = .ok (.if_icmp .ge 19, 3) := by decide +kernel
theorem dX5_bring_79 : decode cX5_bring 79 = .ok (.aload_n 3, 1) := by decide +kernel
theorem dX5_bring_80 : decode cX5_bring 80 = .ok (.getfield 131, 3) := by decide +kernel
theorem dX5_bring_83 : decode cX5_bring 83 = .ok (.aload 4, 2) := by decide +kernel
theorem dX5_bring_85 : decode cX5_bring 85 = .ok (.getfield 134, 3) := by decide +kernel
theorem dX5_bring_88 : decode cX5_bring 88 = .ok (.if_icmp .lt 7, 3) := by decide +kernel
theorem dX5_bring_91 : decode cX5_bring 91 = .ok (.iconst 1, 1) := by decide +kernel
theorem dX5_bring_92 : decode cX5_bring 92 = .ok (.goto 4, 3) := by decide +kernel
theorem dX5_bring_95 : decode cX5_bring 95 = .ok (.iconst 0, 1) := by decide +kernel
theorem dX5_bring_96 : decode cX5_bring 96 = .ok (.istore 5, 2) := by decide +kernel
theorem dX5_bring_98 : decode cX5_bring 98 = .ok (.iload 5, 2) := by decide +kernel
theorem dX5_bring_100 : decode cX5_bring 100 = .ok (.ifCond .ne 6, 3) := by decide +kernel
theorem dX5_bring_103 : decode cX5_bring 103 = .ok (.bipush (-4), 2) := by decide +kernel
theorem dX5_bring_105 : decode cX5_bring 105 = .ok (.ireturn, 1) := by decide +kernel
theorem dX5_bring_106 : decode cX5_bring 106 = .ok (.aload_n 0, 1) := by decide +kernel
theorem dX5_bring_107 : decode cX5_bring 107 = .ok (.getfield 29, 3) := by decide +kernel
theorem dX5_bring_110 : decode cX5_bring 110 = .ok (.aload_n 0, 1) := by decide +kernel
theorem dX5_bring_111 : decode cX5_bring 111 = .ok (.getfield 10, 3) := by decide +kernel
theorem dX5_bring_114 : decode cX5_bring 114 = .ok (.invokevirtual 53, 3) := by decide +kernel
theorem dX5_bring_117 : decode cX5_bring 117 = .ok (.aload_n 0, 1) := by decide +kernel
theorem dX5_bring_118 : decode cX5_bring 118 = .ok (.getfield 10, 3) := by decide +kernel
theorem dX5_bring_121 : decode cX5_bring 121 = .ok (.iload_n 1, 1) := by decide +kernel
theorem dX5_bring_122 : decode cX5_bring 122 = .ok (.iload_n 2, 1) := by decide +kernel
theorem dX5_bring_123 : decode cX5_bring 123 = .ok (.invokevirtual 137, 3) := by decide +kernel
theorem dX5_bring_126 : decode cX5_bring 126 = .ok (.aload_n 0, 1) := by decide +kernel
theorem dX5_bring_127 : decode cX5_bring 127 = .ok (.getfield 10, 3) := by decide +kernel
theorem dX5_bring_130 : decode cX5_bring 130 = .ok (.invokevirtual 141, 3) := by decide +kernel
theorem dX5_bring_133 : decode cX5_bring 133 = .ok (.ireturn, 1) := by decide +kernel
theorem dX5_takeBack_0 : decode cX5_takeBack 0 = .ok (.aload_n 0, 1) := by decide +kernel
theorem dX5_takeBack_1 : decode cX5_takeBack 1 = .ok (.getfield 10, 3) := by decide +kernel
theorem dX5_takeBack_4 : decode cX5_takeBack 4 = .ok (.iload_n 1, 1) := by decide +kernel
theorem dX5_takeBack_5 : decode cX5_takeBack 5 = .ok (.invokevirtual 113, 3) := by decide +kernel
theorem dX5_takeBack_8 : decode cX5_takeBack 8 = .ok (.ifCond .ne 5, 3) := by decide +kernel
theorem dX5_takeBack_11 : decode cX5_takeBack 11 = .ok (.iconst (-1), 1) := by decide +kernel
theorem dX5_takeBack_12 : decode cX5_takeBack 12 = .ok (.ireturn, 1) := by decide +kernel
theorem dX5_takeBack_13 : decode cX5_takeBack 13 = .ok (.aload_n 0, 1) := by decide +kernel
theorem dX5_takeBack_14 : decode cX5_takeBack 14 = .ok (.getfield 10, 3) := by decide +kernel
theorem dX5_takeBack_17 : decode cX5_takeBack 17 = .ok (.getfield 116, 3) := by decide +kernel
theorem dX5_takeBack_20 : decode cX5_takeBack 20 = .ok (.iload_n 1, 1) := by decide +kernel
theorem dX5_takeBack_21 : decode cX5_takeBack 21 = .ok (.aaload, 1) := by decide +kernel
theorem dX5_takeBack_22 : decode cX5_takeBack 22 = .ok (.getfield 120, 3) := by decide +kernel
theorem dX5_takeBack_25 : decode cX5_takeBack 25 = .ok (.istore_n 2, 1) := by decide +kernel
theorem dX5_takeBack_26 : decode cX5_takeBack 26 = .ok (.iload_n 2, 1) := by decide +kernel
theorem dX5_takeBack_27 : decode cX5_takeBack 27 = .ok (.bipush (-5), 2) := by decide +kernel
theorem dX5_takeBack_29 : decode cX5_takeBack 29 = .ok (.if_icmp .ne 6, 3) := by decide +kernel
theorem dX5_takeBack_32 : decode cX5_takeBack 32 = .ok (.bipush (-5), 2) := by decide +kernel
theorem dX5_takeBack_34 : decode cX5_takeBack 34 = .ok (.ireturn, 1) := by decide +kernel
theorem dX5_takeBack_35 : decode cX5_takeBack 35 = .ok (.aload_n 0, 1) := by decide +kernel
theorem dX5_takeBack_36 : decode cX5_takeBack 36 = .ok (.getfield 29, 3) := by decide +kernel
theorem dX5_takeBack_39 : decode cX5_takeBack 39 = .ok (.aload_n 0, 1) := by decide +kernel
theorem dX5_takeBack_40 : decode cX5_takeBack 40 = .ok (.getfield 10, 3) := by decide +kernel
theorem dX5_takeBack_43 : decode cX5_takeBack 43 = .ok (.invokevirtual 53, 3) := by decide +kernel
theorem dX5_takeBack_46 : decode cX5_takeBack 46 = .ok (.aload_n 0, 1) := by decide +kernel
theorem dX5_takeBack_47 : decode cX5_takeBack 47 = .ok (.getfield 10, 3) := by decide +kernel
theorem dX5_takeBack_50 : decode cX5_takeBack 50 = .ok (.iload_n 1, 1) := by decide +kernel
theorem dX5_takeBack_51 : decode cX5_takeBack 51 = .ok (.invokevirtual 144, 3) := by decide +kernel
theorem dX5_takeBack_54 : decode cX5_takeBack 54 = .ok (.iload_n 2, 1) := by decide +kernel
theorem dX5_takeBack_55 : decode cX5_takeBack 55 = .ok (.ireturn, 1) := by decide +kernel
theorem dX5_giveOut_0 : decode cX5_giveOut 0 = .ok (.iconst 0, 1) := by decide +kernel
theorem dX5_giveOut_1 : decode cX5_giveOut 1 = .ok (.istore_n 1, 1) := by decide +kernel
theorem dX5_giveOut_2 : decode cX5_giveOut 2 = .ok (.aload_n 0, 1) := by decide +kernel
theorem dX5_giveOut_3 : decode cX5_giveOut 3 = .ok (.getfield 10, 3) := by decide +kernel
theorem dX5_giveOut_6 : decode cX5_giveOut 6 = .ok (.aload_n 0, 1) := by decide +kernel
theorem dX5_giveOut_7 : decode cX5_giveOut 7 = .ok (.getfield 40, 3) := by decide +kernel
theorem dX5_giveOut_10 : decode cX5_giveOut 10 = .ok (.invokevirtual 148, 3) := by decide +kernel
theorem dX5_giveOut_13 : decode cX5_giveOut 13 = .ok (.istore_n 2, 1) := by decide +kernel
theorem dX5_giveOut_14 : decode cX5_giveOut 14 = .ok (.iconst 0, 1) := by decide +kernel
theorem dX5_giveOut_15 : decode cX5_giveOut 15 = .ok (.istore_n 3, 1) := by decide +kernel
theorem dX5_giveOut_16 : decode cX5_giveOut 16 = .ok (.iload_n 3, 1) := by decide +kernel
theorem dX5_giveOut_17 : decode cX5_giveOut 17 = .ok (.iload_n 2, 1) := by decide +kernel
theorem dX5_giveOut_18 : decode cX5_giveOut 18 = .ok (.if_icmp .ge 87, 3) := by decide +kernel
theorem dX5_giveOut_21 : decode cX5_giveOut 21 = .ok (.aload_n 0, 1) := by decide +kernel
theorem dX5_giveOut_22 : decode cX5_giveOut 22 = .ok (.getfield 40, 3) := by decide +kernel
theorem dX5_giveOut_25 : decode cX5_giveOut 25 = .ok (.iload_n 3, 1) := by decide +kernel
theorem dX5_giveOut_26 : decode cX5_giveOut 26 = .ok (.iaload, 1) := by decide +kernel
theorem dX5_giveOut_27 : decode cX5_giveOut 27 = .ok (.istore 4, 2) := by decide +kernel
theorem dX5_giveOut_29 : decode cX5_giveOut 29 = .ok (.aload_n 0, 1) := by decide +kernel
theorem dX5_giveOut_30 : decode cX5_giveOut 30 = .ok (.getfield 10, 3) := by decide +kernel
theorem dX5_giveOut_33 : decode cX5_giveOut 33 = .ok (.getfield 116, 3) := by decide +kernel
theorem dX5_giveOut_36 : decode cX5_giveOut 36 = .ok (.iload 4, 2) := by decide +kernel
theorem dX5_giveOut_38 : decode cX5_giveOut 38 = .ok (.aaload, 1) := by decide +kernel
theorem dX5_giveOut_39 : decode cX5_giveOut 39 = .ok (.getfield 120, 3) := by decide +kernel
theorem dX5_giveOut_42 : decode cX5_giveOut 42 = .ok (.bipush (-5), 2) := by decide +kernel
theorem dX5_giveOut_44 : decode cX5_giveOut 44 = .ok (.if_icmp .ne 15, 3) := by decide +kernel
theorem dX5_giveOut_47 : decode cX5_giveOut 47 = .ok (.aload_n 0, 1) := by decide +kernel
theorem dX5_giveOut_48 : decode cX5_giveOut 48 = .ok (.getfield 10, 3) := by decide +kernel
theorem dX5_giveOut_51 : decode cX5_giveOut 51 = .ok (.iload 4, 2) := by decide +kernel
theorem dX5_giveOut_53 : decode cX5_giveOut 53 = .ok (.invokevirtual 152, 3) := by decide +kernel
theorem dX5_giveOut_56 : decode cX5_giveOut 56 = .ok (.goto 5, 3) := by decide +kernel
theorem dX5_giveOut_59 : decode cX5_giveOut 59 = .ok (.bipush (-5), 2) := by decide +kernel
theorem dX5_giveOut_61 : decode cX5_giveOut 61 = .ok (.istore 5, 2) := by decide +kernel
theorem dX5_giveOut_63 : decode cX5_giveOut 63 = .ok (.iload 5, 2) := by decide +kernel
theorem dX5_giveOut_65 : decode cX5_giveOut 65 = .ok (.bipush (-5), 2) := by decide +kernel
theorem dX5_giveOut_67 : decode cX5_giveOut 67 = .ok (.if_icmp .eq 32, 3) := by decide +kernel
theorem dX5_giveOut_70 : decode cX5_giveOut 70 = .ok (.iload_n 1, 1) := by decide +kernel
theorem dX5_giveOut_71 : decode cX5_giveOut 71 = .ok (.ifCond .ne 14, 3) := by decide +kernel
theorem dX5_giveOut_74 : decode cX5_giveOut 74 = .ok (.aload_n 0, 1) := by decide +kernel
theorem dX5_giveOut_75 : decode cX5_giveOut 75 = .ok (.getfield 29, 3) := by decide +kernel
theorem dX5_giveOut_78 : decode cX5_giveOut 78 = .ok (.aload_n 0, 1) := by decide +kernel
theorem dX5_giveOut_79 : decode cX5_giveOut 79 = .ok (.getfield 10, 3) := by decide +kernel
theorem dX5_giveOut_82 : decode cX5_giveOut 82 = .ok (.invokevirtual 53, 3) := by decide +kernel
theorem dX5_giveOut_85 : decode cX5_giveOut 85 = .ok (.aload_n 0, 1) := by decide +kernel
theorem dX5_giveOut_86 : decode cX5_giveOut 86 = .ok (.getfield 10, 3) := by decide +kernel
theorem dX5_giveOut_89 : decode cX5_giveOut 89 = .ok (.iload 5, 2) := by decide +kernel
theorem dX5_giveOut_91 : decode cX5_giveOut 91 = .ok (.iload 4, 2) := by decide +kernel
theorem dX5_giveOut_93 : decode cX5_giveOut 93 = .ok (.invokevirtual 137, 3) := by decide +kernel
theorem dX5_giveOut_96 : decode cX5_giveOut 96 = .ok (.iinc 1 1, 3) := by decide +kernel
theorem dX5_giveOut_99 : decode cX5_giveOut 99 = .ok (.iinc 3 1, 3) := by decide +kernel
theorem dX5_giveOut_102 : decode cX5_giveOut 102 = .ok (.goto (-86), 3) := by decide +kernel
theorem dX5_giveOut_105 : decode cX5_giveOut 105 = .ok (.iload_n 1, 1) := by decide +kernel
theorem dX5_giveOut_106 : decode cX5_giveOut 106 = .ok (.ifCond .le 7, 3) := by decide +kernel
theorem dX5_giveOut_109 : decode cX5_giveOut 109 = .ok (.iload_n 1, 1) := by decide +kernel
theorem dX5_giveOut_110 : decode cX5_giveOut 110 = .ok (.goto 5, 3) := by decide +kernel
theorem dX5_giveOut_113 : decode cX5_giveOut 113 = .ok (.bipush (-5), 2) := by decide +kernel
theorem dX5_giveOut_115 : decode cX5_giveOut 115 = .ok (.ireturn, 1) := by decide +kernel
theorem dX5_swap_0 : decode cX5_swap 0 = .ok (.aload_n 0, 1) := by decide +kernel
theorem dX5_swap_1 : decode cX5_swap 1 = .ok (.getfield 10, 3) := by decide +kernel
theorem dX5_swap_4 : decode cX5_swap 4 = .ok (.aload_n 0, 1) := by decide +kernel
theorem dX5_swap_5 : decode cX5_swap 5 = .ok (.getfield 40, 3) := by decide +kernel
theorem dX5_swap_8 : decode cX5_swap 8 = .ok (.invokevirtual 148, 3) := by decide +kernel
theorem dX5_swap_11 : decode cX5_swap 11 = .ok (.istore_n 1, 1) := by decide +kernel
theorem dX5_swap_12 : decode cX5_swap 12 = .ok (.iconst 0, 1) := by decide +kernel
theorem dX5_swap_13 : decode cX5_swap 13 = .ok (.istore_n 2, 1) := by decide +kernel
theorem dX5_swap_14 : decode cX5_swap 14 = .ok (.iload_n 2, 1) := by decide +kernel
theorem dX5_swap_15 : decode cX5_swap 15 = .ok (.iload_n 1, 1) := by decide +kernel
theorem dX5_swap_16 : decode cX5_swap 16 = .ok (.if_icmp .ge 109, 3) := by decide +kernel
theorem dX5_swap_19 : decode cX5_swap 19 = .ok (.aload_n 0, 1) := by decide +kernel
theorem dX5_swap_20 : decode cX5_swap 20 = .ok (.getfield 40, 3) := by decide +kernel
theorem dX5_swap_23 : decode cX5_swap 23 = .ok (.iload_n 2, 1) := by decide +kernel
theorem dX5_swap_24 : decode cX5_swap 24 = .ok (.iaload, 1) := by decide +kernel
theorem dX5_swap_25 : decode cX5_swap 25 = .ok (.istore_n 3, 1) := by decide +kernel
theorem dX5_swap_26 : decode cX5_swap 26 = .ok (.aload_n 0, 1) := by decide +kernel
theorem dX5_swap_27 : decode cX5_swap 27 = .ok (.getfield 10, 3) := by decide +kernel
theorem dX5_swap_30 : decode cX5_swap 30 = .ok (.getfield 116, 3) := by decide +kernel
theorem dX5_swap_33 : decode cX5_swap 33 = .ok (.iload_n 3, 1) := by decide +kernel
theorem dX5_swap_34 : decode cX5_swap 34 = .ok (.aaload, 1) := by decide +kernel
theorem dX5_swap_35 : decode cX5_swap 35 = .ok (.getfield 120, 3) := by decide +kernel
theorem dX5_swap_38 : decode cX5_swap 38 = .ok (.bipush (-5), 2) := by decide +kernel
theorem dX5_swap_40 : decode cX5_swap 40 = .ok (.if_icmp .ne 20, 3) := by decide +kernel
theorem dX5_swap_43 : decode cX5_swap 43 = .ok (.aload_n 0, 1) := by decide +kernel
theorem dX5_swap_44 : decode cX5_swap 44 = .ok (.getfield 10, 3) := by decide +kernel
theorem dX5_swap_47 : decode cX5_swap 47 = .ok (.iload_n 3, 1) := by decide +kernel
theorem dX5_swap_48 : decode cX5_swap 48 = .ok (.invokevirtual 152, 3) := by decide +kernel
theorem dX5_swap_51 : decode cX5_swap 51 = .ok (.bipush (-5), 2) := by decide +kernel
theorem dX5_swap_53 : decode cX5_swap 53 = .ok (.if_icmp .ne 7, 3) := by decide +kernel
theorem dX5_swap_56 : decode cX5_swap 56 = .ok (.iconst 1, 1) := by decide +kernel
theorem dX5_swap_57 : decode cX5_swap 57 = .ok (.goto 4, 3) := by decide +kernel
theorem dX5_swap_60 : decode cX5_swap 60 = .ok (.iconst 0, 1) := by decide +kernel
theorem dX5_swap_61 : decode cX5_swap 61 = .ok (.istore 4, 2) := by decide +kernel
theorem dX5_swap_63 : decode cX5_swap 63 = .ok (.iload 4, 2) := by decide +kernel
theorem dX5_swap_65 : decode cX5_swap 65 = .ok (.ifCond .eq 14, 3) := by decide +kernel
theorem dX5_swap_68 : decode cX5_swap 68 = .ok (.aload_n 0, 1) := by decide +kernel
theorem dX5_swap_69 : decode cX5_swap 69 = .ok (.getfield 10, 3) := by decide +kernel
theorem dX5_swap_72 : decode cX5_swap 72 = .ok (.iload_n 3, 1) := by decide +kernel
theorem dX5_swap_73 : decode cX5_swap 73 = .ok (.invokevirtual 155, 3) := by decide +kernel
theorem dX5_swap_76 : decode cX5_swap 76 = .ok (.goto 5, 3) := by decide +kernel
theorem dX5_swap_79 : decode cX5_swap 79 = .ok (.bipush (-5), 2) := by decide +kernel
theorem dX5_swap_81 : decode cX5_swap 81 = .ok (.istore 5, 2) := by decide +kernel
theorem dX5_swap_83 : decode cX5_swap 83 = .ok (.iload 5, 2) := by decide +kernel
theorem dX5_swap_85 : decode cX5_swap 85 = .ok (.bipush (-5), 2) := by decide +kernel
theorem dX5_swap_87 : decode cX5_swap 87 = .ok (.if_icmp .eq 32, 3) := by decide +kernel
theorem dX5_swap_90 : decode cX5_swap 90 = .ok (.aload_n 0, 1) := by decide +kernel
theorem dX5_swap_91 : decode cX5_swap 91 = .ok (.getfield 29, 3) := by decide +kernel
theorem dX5_swap_94 : decode cX5_swap 94 = .ok (.aload_n 0, 1) := by decide +kernel
theorem dX5_swap_95 : decode cX5_swap 95 = .ok (.getfield 10, 3) := by decide +kernel
theorem dX5_swap_98 : decode cX5_swap 98 = .ok (.invokevirtual 53, 3) := by decide +kernel
theorem dX5_swap_101 : decode cX5_swap 101 = .ok (.aload_n 0, 1) := by decide +kernel
theorem dX5_swap_102 : decode cX5_swap 102 = .ok (.getfield 10, 3) := by decide +kernel
theorem dX5_swap_105 : decode cX5_swap 105 = .ok (.iload_n 3, 1) := by decide +kernel
theorem dX5_swap_106 : decode cX5_swap 106 = .ok (.iload 5, 2) := by decide +kernel
theorem dX5_swap_108 : decode cX5_swap 108 = .ok (.invokevirtual 158, 3) := by decide +kernel
theorem dX5_swap_111 : decode cX5_swap 111 = .ok (.bipush 100, 2) := by decide +kernel
theorem dX5_swap_113 : decode cX5_swap 113 = .ok (.iload_n 3, 1) := by decide +kernel
theorem dX5_swap_114 : decode cX5_swap 114 = .ok (.imul, 1) := by decide +kernel
theorem dX5_swap_115 : decode cX5_swap 115 = .ok (.iload 5, 2) := by decide +kernel
theorem dX5_swap_117 : decode cX5_swap 117 = .ok (.iadd, 1) := by decide +kernel
theorem dX5_swap_118 : decode cX5_swap 118 = .ok (.ireturn, 1) := by decide +kernel
theorem dX5_swap_119 : decode cX5_swap 119 = .ok (.iinc 2 1, 3) := by decide +kernel
theorem dX5_swap_122 : decode cX5_swap 122 = .ok (.goto (-108), 3) := by decide +kernel
theorem dX5_swap_125 : decode cX5_swap 125 = .ok (.bipush (-5), 2) := by decide +kernel
theorem dX5_swap_127 : decode cX5_swap 127 = .ok (.ireturn, 1) := by decide +kernel
theorem dX5_fuelRun_0 : decode cX5_fuelRun 0 = .ok (.sipush 300, 3) := by decide +kernel
theorem dX5_fuelRun_3 : decode cX5_fuelRun 3 = .ok (.aload_n 0, 1) := by decide +kernel
theorem dX5_fuelRun_4 : decode cX5_fuelRun 4 = .ok (.getfield 10, 3) := by decide +kernel
theorem dX5_fuelRun_7 : decode cX5_fuelRun 7 = .ok (.getfield 48, 3) := by decide +kernel
theorem dX5_fuelRun_10 : decode cX5_fuelRun 10 = .ok (.invokestatic 96, 3) := by decide +kernel
theorem dX5_fuelRun_13 : decode cX5_fuelRun 13 = .ok (.istore_n 1, 1) := by decide +kernel
theorem dX5_fuelRun_14 : decode cX5_fuelRun 14 = .ok (.iconst 0, 1) := by decide +kernel
theorem dX5_fuelRun_15 : decode cX5_fuelRun 15 = .ok (.istore_n 2, 1) := by decide +kernel
theorem dX5_fuelRun_16 : decode cX5_fuelRun 16 = .ok (.aload_n 0, 1) := by decide +kernel
theorem dX5_fuelRun_17 : decode cX5_fuelRun 17 = .ok (.getfield 10, 3) := by decide +kernel
theorem dX5_fuelRun_20 : decode cX5_fuelRun 20 = .ok (.aload_n 0, 1) := by decide +kernel
theorem dX5_fuelRun_21 : decode cX5_fuelRun 21 = .ok (.getfield 40, 3) := by decide +kernel
theorem dX5_fuelRun_24 : decode cX5_fuelRun 24 = .ok (.invokevirtual 161, 3) := by decide +kernel
theorem dX5_fuelRun_27 : decode cX5_fuelRun 27 = .ok (.istore_n 3, 1) := by decide +kernel
theorem dX5_fuelRun_28 : decode cX5_fuelRun 28 = .ok (.iconst 0, 1) := by decide +kernel
theorem dX5_fuelRun_29 : decode cX5_fuelRun 29 = .ok (.istore 4, 2) := by decide +kernel
theorem dX5_fuelRun_31 : decode cX5_fuelRun 31 = .ok (.iload 4, 2) := by decide +kernel
theorem dX5_fuelRun_33 : decode cX5_fuelRun 33 = .ok (.iload_n 3, 1) := by decide +kernel
theorem dX5_fuelRun_34 : decode cX5_fuelRun 34 = .ok (.if_icmp .ge 111, 3) := by decide +kernel
theorem dX5_fuelRun_37 : decode cX5_fuelRun 37 = .ok (.aload_n 0, 1) := by decide +kernel
theorem dX5_fuelRun_38 : decode cX5_fuelRun 38 = .ok (.getfield 10, 3) := by decide +kernel
theorem dX5_fuelRun_41 : decode cX5_fuelRun 41 = .ok (.aload_n 0, 1) := by decide +kernel
theorem dX5_fuelRun_42 : decode cX5_fuelRun 42 = .ok (.getfield 10, 3) := by decide +kernel
theorem dX5_fuelRun_45 : decode cX5_fuelRun 45 = .ok (.getfield 116, 3) := by decide +kernel
theorem dX5_fuelRun_48 : decode cX5_fuelRun 48 = .ok (.aload_n 0, 1) := by decide +kernel
theorem dX5_fuelRun_49 : decode cX5_fuelRun 49 = .ok (.getfield 40, 3) := by decide +kernel
theorem dX5_fuelRun_52 : decode cX5_fuelRun 52 = .ok (.iload 4, 2) := by decide +kernel
theorem dX5_fuelRun_54 : decode cX5_fuelRun 54 = .ok (.iaload, 1) := by decide +kernel
theorem dX5_fuelRun_55 : decode cX5_fuelRun 55 = .ok (.aaload, 1) := by decide +kernel
theorem dX5_fuelRun_56 : decode cX5_fuelRun 56 = .ok (.invokevirtual 164, 3) := by decide +kernel
theorem dX5_fuelRun_59 : decode cX5_fuelRun 59 = .ok (.astore 5, 2) := by decide +kernel
theorem dX5_fuelRun_61 : decode cX5_fuelRun 61 = .ok (.aload 5, 2) := by decide +kernel
theorem dX5_fuelRun_63 : decode cX5_fuelRun 63 = .ok (.ifnonnull 7, 3) := by decide +kernel
theorem dX5_fuelRun_66 : decode cX5_fuelRun 66 = .ok (.iconst 0, 1) := by decide +kernel
theorem dX5_fuelRun_67 : decode cX5_fuelRun 67 = .ok (.goto 14, 3) := by decide +kernel
theorem dX5_fuelRun_70 : decode cX5_fuelRun 70 = .ok (.aload 5, 2) := by decide +kernel
theorem dX5_fuelRun_72 : decode cX5_fuelRun 72 = .ok (.invokevirtual 92, 3) := by decide +kernel
theorem dX5_fuelRun_75 : decode cX5_fuelRun 75 = .ok (.iload_n 1, 1) := by decide +kernel
theorem dX5_fuelRun_76 : decode cX5_fuelRun 76 = .ok (.iload_n 2, 1) := by decide +kernel
theorem dX5_fuelRun_77 : decode cX5_fuelRun 77 = .ok (.isub, 1) := by decide +kernel
theorem dX5_fuelRun_78 : decode cX5_fuelRun 78 = .ok (.invokestatic 96, 3) := by decide +kernel
theorem dX5_fuelRun_81 : decode cX5_fuelRun 81 = .ok (.istore 6, 2) := by decide +kernel
theorem dX5_fuelRun_83 : decode cX5_fuelRun 83 = .ok (.aload 5, 2) := by decide +kernel
theorem dX5_fuelRun_85 : decode cX5_fuelRun 85 = .ok (.ifnull 54, 3) := by decide +kernel
theorem dX5_fuelRun_88 : decode cX5_fuelRun 88 = .ok (.iload 6, 2) := by decide +kernel
theorem dX5_fuelRun_90 : decode cX5_fuelRun 90 = .ok (.ifCond .le 49, 3) := by decide +kernel
theorem dX5_fuelRun_93 : decode cX5_fuelRun 93 = .ok (.iload_n 2, 1) := by decide +kernel
theorem dX5_fuelRun_94 : decode cX5_fuelRun 94 = .ok (.ifCond .ne 14, 3) := by decide +kernel
theorem dX5_fuelRun_97 : decode cX5_fuelRun 97 = .ok (.aload_n 0, 1) := by decide +kernel
theorem dX5_fuelRun_98 : decode cX5_fuelRun 98 = .ok (.getfield 29, 3) := by decide +kernel
theorem dX5_fuelRun_101 : decode cX5_fuelRun 101 = .ok (.aload_n 0, 1) := by decide +kernel
theorem dX5_fuelRun_102 : decode cX5_fuelRun 102 = .ok (.getfield 10, 3) := by decide +kernel
theorem dX5_fuelRun_105 : decode cX5_fuelRun 105 = .ok (.invokevirtual 53, 3) := by decide +kernel
theorem dX5_fuelRun_108 : decode cX5_fuelRun 108 = .ok (.aload 5, 2) := by decide +kernel
theorem dX5_fuelRun_110 : decode cX5_fuelRun 110 = .ok (.dup, 1) := by decide +kernel
theorem dX5_fuelRun_111 : decode cX5_fuelRun 111 = .ok (.getfield 100, 3) := by decide +kernel
theorem dX5_fuelRun_114 : decode cX5_fuelRun 114 = .ok (.iload 6, 2) := by decide +kernel
theorem dX5_fuelRun_116 : decode cX5_fuelRun 116 = .ok (.iadd, 1) := by decide +kernel
theorem dX5_fuelRun_117 : decode cX5_fuelRun 117 = .ok (.putfield 100, 3) := by decide +kernel
theorem dX5_fuelRun_120 : decode cX5_fuelRun 120 = .ok (.aload_n 0, 1) := by decide +kernel
theorem dX5_fuelRun_121 : decode cX5_fuelRun 121 = .ok (.getfield 10, 3) := by decide +kernel
theorem dX5_fuelRun_124 : decode cX5_fuelRun 124 = .ok (.dup, 1) := by decide +kernel
theorem dX5_fuelRun_125 : decode cX5_fuelRun 125 = .ok (.getfield 48, 3) := by decide +kernel
theorem dX5_fuelRun_128 : decode cX5_fuelRun 128 = .ok (.iload 6, 2) := by decide +kernel
theorem dX5_fuelRun_130 : decode cX5_fuelRun 130 = .ok (.isub, 1) := by decide +kernel
theorem dX5_fuelRun_131 : decode cX5_fuelRun 131 = .ok (.putfield 48, 3) := by decide +kernel
theorem dX5_fuelRun_134 : decode cX5_fuelRun 134 = .ok (.iload_n 2, 1) := by decide +kernel
theorem dX5_fuelRun_135 : decode cX5_fuelRun 135 = .ok (.iload 6, 2) := by decide +kernel
theorem dX5_fuelRun_137 : decode cX5_fuelRun 137 = .ok (.iadd, 1) := by decide +kernel
theorem dX5_fuelRun_138 : decode cX5_fuelRun 138 = .ok (.istore_n 2, 1) := by decide +kernel
theorem dX5_fuelRun_139 : decode cX5_fuelRun 139 = .ok (.iinc 4 1, 3) := by decide +kernel
theorem dX5_fuelRun_142 : decode cX5_fuelRun 142 = .ok (.goto (-111), 3) := by decide +kernel
theorem dX5_fuelRun_145 : decode cX5_fuelRun 145 = .ok (.iload_n 2, 1) := by decide +kernel
theorem dX5_fuelRun_146 : decode cX5_fuelRun 146 = .ok (.ifCond .le 7, 3) := by decide +kernel
theorem dX5_fuelRun_149 : decode cX5_fuelRun 149 = .ok (.iload_n 2, 1) := by decide +kernel
theorem dX5_fuelRun_150 : decode cX5_fuelRun 150 = .ok (.goto 5, 3) := by decide +kernel
theorem dX5_fuelRun_153 : decode cX5_fuelRun 153 = .ok (.bipush (-5), 2) := by decide +kernel
theorem dX5_fuelRun_155 : decode cX5_fuelRun 155 = .ok (.ireturn, 1) := by decide +kernel
theorem dX5_pass_0 : decode cX5_pass 0 = .ok (.iload_n 1, 1) := by decide +kernel
theorem dX5_pass_1 : decode cX5_pass 1 = .ok (.iconst 1, 1) := by decide +kernel
theorem dX5_pass_2 : decode cX5_pass 2 = .ok (.bipush 24, 2) := by decide +kernel
theorem dX5_pass_4 : decode cX5_pass 4 = .ok (.invokestatic 44, 3) := by decide +kernel
theorem dX5_pass_7 : decode cX5_pass 7 = .ok (.ifCond .ne 6, 3) := by decide +kernel
theorem dX5_pass_10 : decode cX5_pass 10 = .ok (.bipush (-2), 2) := by decide +kernel
theorem dX5_pass_12 : decode cX5_pass 12 = .ok (.ireturn, 1) := by decide +kernel
theorem dX5_pass_13 : decode cX5_pass 13 = .ok (.aload_n 0, 1) := by decide +kernel
theorem dX5_pass_14 : decode cX5_pass 14 = .ok (.getfield 10, 3) := by decide +kernel
theorem dX5_pass_17 : decode cX5_pass 17 = .ok (.getfield 125, 3) := by decide +kernel
theorem dX5_pass_20 : decode cX5_pass 20 = .ok (.iload_n 1, 1) := by decide +kernel
theorem dX5_pass_21 : decode cX5_pass 21 = .ok (.iadd, 1) := by decide +kernel
theorem dX5_pass_22 : decode cX5_pass 22 = .ok (.sipush 999, 3) := by decide +kernel
theorem dX5_pass_25 : decode cX5_pass 25 = .ok (.if_icmp .le 6, 3) := by decide +kernel
theorem dX5_pass_28 : decode cX5_pass 28 = .ok (.bipush (-4), 2) := by decide +kernel
theorem dX5_pass_30 : decode cX5_pass 30 = .ok (.ireturn, 1) := by decide +kernel
theorem dX5_pass_31 : decode cX5_pass 31 = .ok (.aload_n 0, 1) := by decide +kernel
theorem dX5_pass_32 : decode cX5_pass 32 = .ok (.getfield 29, 3) := by decide +kernel
theorem dX5_pass_35 : decode cX5_pass 35 = .ok (.aload_n 0, 1) := by decide +kernel
theorem dX5_pass_36 : decode cX5_pass 36 = .ok (.getfield 10, 3) := by decide +kernel
theorem dX5_pass_39 : decode cX5_pass 39 = .ok (.invokevirtual 53, 3) := by decide +kernel
theorem dX5_pass_42 : decode cX5_pass 42 = .ok (.aload_n 0, 1) := by decide +kernel
theorem dX5_pass_43 : decode cX5_pass 43 = .ok (.getfield 10, 3) := by decide +kernel
theorem dX5_pass_46 : decode cX5_pass 46 = .ok (.invokevirtual 168, 3) := by decide +kernel
theorem dX5_pass_49 : decode cX5_pass 49 = .ok (.istore_n 2, 1) := by decide +kernel
theorem dX5_pass_50 : decode cX5_pass 50 = .ok (.aload_n 0, 1) := by decide +kernel
theorem dX5_pass_51 : decode cX5_pass 51 = .ok (.getfield 10, 3) := by decide +kernel
theorem dX5_pass_54 : decode cX5_pass 54 = .ok (.iload_n 1, 1) := by decide +kernel
theorem dX5_pass_55 : decode cX5_pass 55 = .ok (.invokevirtual 171, 3) := by decide +kernel
theorem dX5_pass_58 : decode cX5_pass 58 = .ok (.aload_n 0, 1) := by decide +kernel
theorem dX5_pass_59 : decode cX5_pass 59 = .ok (.getfield 10, 3) := by decide +kernel
theorem dX5_pass_62 : decode cX5_pass 62 = .ok (.invokevirtual 168, 3) := by decide +kernel
theorem dX5_pass_65 : decode cX5_pass 65 = .ok (.iload_n 2, 1) := by decide +kernel
theorem dX5_pass_66 : decode cX5_pass 66 = .ok (.isub, 1) := by decide +kernel
theorem dX5_pass_67 : decode cX5_pass 67 = .ok (.ireturn, 1) := by decide +kernel
theorem dX5_readSites_0 : decode cX5_readSites 0 = .ok (.aload_n 0, 1) := by decide +kernel
theorem dX5_readSites_1 : decode cX5_readSites 1 = .ok (.getfield 36, 3) := by decide +kernel
theorem dX5_readSites_4 : decode cX5_readSites 4 = .ok (.invokevirtual 181, 3) := by decide +kernel
theorem dX5_readSites_7 : decode cX5_readSites 7 = .ok (.ifCond .ne 14, 3) := by decide +kernel
theorem dX5_readSites_10 : decode cX5_readSites 10 = .ok (.bipush (-100), 2) := by decide +kernel
theorem dX5_readSites_12 : decode cX5_readSites 12 = .ok (.aload_n 0, 1) := by decide +kernel
theorem dX5_readSites_13 : decode cX5_readSites 13 = .ok (.getfield 36, 3) := by decide +kernel
theorem dX5_readSites_16 : decode cX5_readSites 16 = .ok (.getfield 185, 3) := by decide +kernel
theorem dX5_readSites_19 : decode cX5_readSites 19 = .ok (.isub, 1) := by decide +kernel
theorem dX5_readSites_20 : decode cX5_readSites 20 = .ok (.ireturn, 1) := by decide +kernel
theorem dX5_readSites_21 : decode cX5_readSites 21 = .ok (.iconst 0, 1) := by decide +kernel
theorem dX5_readSites_22 : decode cX5_readSites 22 = .ok (.istore_n 1, 1) := by decide +kernel
theorem dX5_readSites_23 : decode cX5_readSites 23 = .ok (.iload_n 1, 1) := by decide +kernel
theorem dX5_readSites_24 : decode cX5_readSites 24 = .ok (.aload_n 0, 1) := by decide +kernel
theorem dX5_readSites_25 : decode cX5_readSites 25 = .ok (.getfield 36, 3) := by decide +kernel
theorem dX5_readSites_28 : decode cX5_readSites 28 = .ok (.getfield 188, 3) := by decide +kernel
theorem dX5_readSites_31 : decode cX5_readSites 31 = .ok (.if_icmp .ge 46, 3) := by decide +kernel
theorem dX5_readSites_34 : decode cX5_readSites 34 = .ok (.aload_n 0, 1) := by decide +kernel
theorem dX5_readSites_35 : decode cX5_readSites 35 = .ok (.getfield 10, 3) := by decide +kernel
theorem dX5_readSites_38 : decode cX5_readSites 38 = .ok (.aload_n 0, 1) := by decide +kernel
theorem dX5_readSites_39 : decode cX5_readSites 39 = .ok (.getfield 36, 3) := by decide +kernel
theorem dX5_readSites_42 : decode cX5_readSites 42 = .ok (.getfield 191, 3) := by decide +kernel
theorem dX5_readSites_45 : decode cX5_readSites 45 = .ok (.iload_n 1, 1) := by decide +kernel
theorem dX5_readSites_46 : decode cX5_readSites 46 = .ok (.aaload, 1) := by decide +kernel
theorem dX5_readSites_47 : decode cX5_readSites 47 = .ok (.getfield 194, 3) := by decide +kernel
theorem dX5_readSites_50 : decode cX5_readSites 50 = .ok (.aload_n 0, 1) := by decide +kernel
theorem dX5_readSites_51 : decode cX5_readSites 51 = .ok (.getfield 36, 3) := by decide +kernel
theorem dX5_readSites_54 : decode cX5_readSites 54 = .ok (.getfield 191, 3) := by decide +kernel
theorem dX5_readSites_57 : decode cX5_readSites 57 = .ok (.iload_n 1, 1) := by decide +kernel
theorem dX5_readSites_58 : decode cX5_readSites 58 = .ok (.aaload, 1) := by decide +kernel
theorem dX5_readSites_59 : decode cX5_readSites 59 = .ok (.getfield 128, 3) := by decide +kernel
theorem dX5_readSites_62 : decode cX5_readSites 62 = .ok (.invokevirtual 103, 3) := by decide +kernel
theorem dX5_readSites_65 : decode cX5_readSites 65 = .ok (.ifCond .ne 6, 3) := by decide +kernel
theorem dX5_readSites_68 : decode cX5_readSites 68 = .ok (.bipush (-2), 2) := by decide +kernel
theorem dX5_readSites_70 : decode cX5_readSites 70 = .ok (.ireturn, 1) := by decide +kernel
theorem dX5_readSites_71 : decode cX5_readSites 71 = .ok (.iinc 1 1, 3) := by decide +kernel
theorem dX5_readSites_74 : decode cX5_readSites 74 = .ok (.goto (-51), 3) := by decide +kernel
theorem dX5_readSites_77 : decode cX5_readSites 77 = .ok (.aload_n 0, 1) := by decide +kernel
theorem dX5_readSites_78 : decode cX5_readSites 78 = .ok (.getfield 10, 3) := by decide +kernel
theorem dX5_readSites_81 : decode cX5_readSites 81 = .ok (.getfield 107, 3) := by decide +kernel
theorem dX5_readSites_84 : decode cX5_readSites 84 = .ok (.aload_n 0, 1) := by decide +kernel
theorem dX5_readSites_85 : decode cX5_readSites 85 = .ok (.getfield 36, 3) := by decide +kernel
theorem dX5_readSites_88 : decode cX5_readSites 88 = .ok (.getfield 188, 3) := by decide +kernel
theorem dX5_readSites_91 : decode cX5_readSites 91 = .ok (.iadd, 1) := by decide +kernel
theorem dX5_readSites_92 : decode cX5_readSites 92 = .ok (.bipush 12, 2) := by decide +kernel
theorem dX5_readSites_94 : decode cX5_readSites 94 = .ok (.if_icmp .le 6, 3) := by decide +kernel
theorem dX5_readSites_97 : decode cX5_readSites 97 = .ok (.bipush (-3), 2) := by decide +kernel
theorem dX5_readSites_99 : decode cX5_readSites 99 = .ok (.ireturn, 1) := by decide +kernel
theorem dX5_readSites_100 : decode cX5_readSites 100 = .ok (.aload_n 0, 1) := by decide +kernel
theorem dX5_readSites_101 : decode cX5_readSites 101 = .ok (.getfield 29, 3) := by decide +kernel
theorem dX5_readSites_104 : decode cX5_readSites 104 = .ok (.aload_n 0, 1) := by decide +kernel
theorem dX5_readSites_105 : decode cX5_readSites 105 = .ok (.getfield 10, 3) := by decide +kernel
theorem dX5_readSites_108 : decode cX5_readSites 108 = .ok (.invokevirtual 53, 3) := by decide +kernel
theorem dX5_readSites_111 : decode cX5_readSites 111 = .ok (.iconst 0, 1) := by decide +kernel
theorem dX5_readSites_112 : decode cX5_readSites 112 = .ok (.istore_n 1, 1) := by decide +kernel
theorem dX5_readSites_113 : decode cX5_readSites 113 = .ok (.iload_n 1, 1) := by decide +kernel
theorem dX5_readSites_114 : decode cX5_readSites 114 = .ok (.aload_n 0, 1) := by decide +kernel
theorem dX5_readSites_115 : decode cX5_readSites 115 = .ok (.getfield 36, 3) := by decide +kernel
theorem dX5_readSites_118 : decode cX5_readSites 118 = .ok (.getfield 188, 3) := by decide +kernel
theorem dX5_readSites_121 : decode cX5_readSites 121 = .ok (.if_icmp .ge 43, 3) := by decide +kernel
theorem dX5_readSites_124 : decode cX5_readSites 124 = .ok (.aload_n 0, 1) := by decide +kernel
theorem dX5_readSites_125 : decode cX5_readSites 125 = .ok (.getfield 36, 3) := by decide +kernel
theorem dX5_readSites_128 : decode cX5_readSites 128 = .ok (.getfield 191, 3) := by decide +kernel
theorem dX5_readSites_131 : decode cX5_readSites 131 = .ok (.iload_n 1, 1) := by decide +kernel
theorem dX5_readSites_132 : decode cX5_readSites 132 = .ok (.aaload, 1) := by decide +kernel
theorem dX5_readSites_133 : decode cX5_readSites 133 = .ok (.astore_n 2, 1) := by decide +kernel
theorem dX5_readSites_134 : decode cX5_readSites 134 = .ok (.aload_n 0, 1) := by decide +kernel
theorem dX5_readSites_135 : decode cX5_readSites 135 = .ok (.getfield 10, 3) := by decide +kernel
theorem dX5_readSites_138 : decode cX5_readSites 138 = .ok (.aload_n 2, 1) := by decide +kernel
theorem dX5_readSites_139 : decode cX5_readSites 139 = .ok (.getfield 197, 3) := by decide +kernel
theorem dX5_readSites_142 : decode cX5_readSites 142 = .ok (.aload_n 2, 1) := by decide +kernel
theorem dX5_readSites_143 : decode cX5_readSites 143 = .ok (.getfield 134, 3) := by decide +kernel
theorem dX5_readSites_146 : decode cX5_readSites 146 = .ok (.aload_n 2, 1) := by decide +kernel
theorem dX5_readSites_147 : decode cX5_readSites 147 = .ok (.getfield 194, 3) := by decide +kernel
theorem dX5_readSites_150 : decode cX5_readSites 150 = .ok (.aload_n 2, 1) := by decide +kernel
theorem dX5_readSites_151 : decode cX5_readSites 151 = .ok (.getfield 128, 3) := by decide +kernel
theorem dX5_readSites_154 : decode cX5_readSites 154 = .ok (.invokevirtual 110, 3) := by decide +kernel
theorem dX5_readSites_157 : decode cX5_readSites 157 = .ok (.pop, 1) := by decide +kernel
theorem dX5_readSites_158 : decode cX5_readSites 158 = .ok (.iinc 1 1, 3) := by decide +kernel
theorem dX5_readSites_161 : decode cX5_readSites 161 = .ok (.goto (-48), 3) := by decide +kernel
theorem dX5_readSites_164 : decode cX5_readSites 164 = .ok (.aload_n 0, 1) := by decide +kernel
theorem dX5_readSites_165 : decode cX5_readSites 165 = .ok (.getfield 36, 3) := by decide +kernel
theorem dX5_readSites_168 : decode cX5_readSites 168 = .ok (.getfield 188, 3) := by decide +kernel
theorem dX5_readSites_171 : decode cX5_readSites 171 = .ok (.ireturn, 1) := by decide +kernel
theorem dX5_undo_0 : decode cX5_undo 0 = .ok (.aload_n 0, 1) := by decide +kernel
theorem dX5_undo_1 : decode cX5_undo 1 = .ok (.getfield 29, 3) := by decide +kernel
theorem dX5_undo_4 : decode cX5_undo 4 = .ok (.aload_n 0, 1) := by decide +kernel
theorem dX5_undo_5 : decode cX5_undo 5 = .ok (.getfield 10, 3) := by decide +kernel
theorem dX5_undo_8 : decode cX5_undo 8 = .ok (.invokevirtual 200, 3) := by decide +kernel
theorem dX5_undo_11 : decode cX5_undo 11 = .ok (.ifCond .eq 13, 3) := by decide +kernel
theorem dX5_undo_14 : decode cX5_undo 14 = .ok (.aload_n 0, 1) := by decide +kernel
theorem dX5_undo_15 : decode cX5_undo 15 = .ok (.getfield 29, 3) := by decide +kernel
theorem dX5_undo_18 : decode cX5_undo 18 = .ok (.getfield 204, 3) := by decide +kernel
theorem dX5_undo_21 : decode cX5_undo 21 = .ok (.goto 5, 3) := by decide +kernel
theorem dX5_undo_24 : decode cX5_undo 24 = .ok (.bipush (-5), 2) := by decide +kernel
theorem dX5_undo_26 : decode cX5_undo 26 = .ok (.ireturn, 1) := by decide +kernel
theorem dX5_keep_0 : decode cX5_keep 0 = .ok (.aload_n 0, 1) := by decide +kernel
theorem dX5_keep_1 : decode cX5_keep 1 = .ok (.getfield 19, 3) := by decide +kernel
theorem dX5_keep_4 : decode cX5_keep 4 = .ok (.aload_n 0, 1) := by decide +kernel
theorem dX5_keep_5 : decode cX5_keep 5 = .ok (.getfield 10, 3) := by decide +kernel
theorem dX5_keep_8 : decode cX5_keep 8 = .ok (.invokevirtual 207, 3) := by decide +kernel
theorem dX5_keep_11 : decode cX5_keep 11 = .ok (.aload_n 0, 1) := by decide +kernel
theorem dX5_keep_12 : decode cX5_keep 12 = .ok (.iconst 1, 1) := by decide +kernel
theorem dX5_keep_13 : decode cX5_keep 13 = .ok (.putfield 22, 3) := by decide +kernel
theorem dX5_keep_16 : decode cX5_keep 16 = .ok (.aload_n 0, 1) := by decide +kernel
theorem dX5_keep_17 : decode cX5_keep 17 = .ok (.getfield 10, 3) := by decide +kernel
theorem dX5_keep_20 : decode cX5_keep 20 = .ok (.getfield 125, 3) := by decide +kernel
theorem dX5_keep_23 : decode cX5_keep 23 = .ok (.ireturn, 1) := by decide +kernel
theorem dX5_restore_0 : decode cX5_restore 0 = .ok (.aload_n 0, 1) := by decide +kernel
theorem dX5_restore_1 : decode cX5_restore 1 = .ok (.getfield 22, 3) := by decide +kernel
theorem dX5_restore_4 : decode cX5_restore 4 = .ok (.ifCond .ne 6, 3) := by decide +kernel
theorem dX5_restore_7 : decode cX5_restore 7 = .ok (.bipush (-5), 2) := by decide +kernel
theorem dX5_restore_9 : decode cX5_restore 9 = .ok (.ireturn, 1) := by decide +kernel
theorem dX5_restore_10 : decode cX5_restore 10 = .ok (.aload_n 0, 1) := by decide +kernel
theorem dX5_restore_11 : decode cX5_restore 11 = .ok (.getfield 29, 3) := by decide +kernel
theorem dX5_restore_14 : decode cX5_restore 14 = .ok (.aload_n 0, 1) := by decide +kernel
theorem dX5_restore_15 : decode cX5_restore 15 = .ok (.getfield 10, 3) := by decide +kernel
theorem dX5_restore_18 : decode cX5_restore 18 = .ok (.invokevirtual 53, 3) := by decide +kernel
theorem dX5_restore_21 : decode cX5_restore 21 = .ok (.aload_n 0, 1) := by decide +kernel
theorem dX5_restore_22 : decode cX5_restore 22 = .ok (.getfield 10, 3) := by decide +kernel
theorem dX5_restore_25 : decode cX5_restore 25 = .ok (.aload_n 0, 1) := by decide +kernel
theorem dX5_restore_26 : decode cX5_restore 26 = .ok (.getfield 19, 3) := by decide +kernel
theorem dX5_restore_29 : decode cX5_restore 29 = .ok (.invokevirtual 207, 3) := by decide +kernel
theorem dX5_restore_32 : decode cX5_restore 32 = .ok (.aload_n 0, 1) := by decide +kernel
theorem dX5_restore_33 : decode cX5_restore 33 = .ok (.getfield 10, 3) := by decide +kernel
theorem dX5_restore_36 : decode cX5_restore 36 = .ok (.getfield 125, 3) := by decide +kernel
theorem dX5_restore_39 : decode cX5_restore 39 = .ok (.ireturn, 1) := by decide +kernel
theorem dX5_set_0 : decode cX5_set 0 = .ok (.aload_n 0, 1) := by decide +kernel
theorem dX5_set_1 : decode cX5_set 1 = .ok (.getfield 10, 3) := by decide +kernel
theorem dX5_set_4 : decode cX5_set 4 = .ok (.iload_n 1, 1) := by decide +kernel
theorem dX5_set_5 : decode cX5_set 5 = .ok (.invokevirtual 79, 3) := by decide +kernel
theorem dX5_set_8 : decode cX5_set 8 = .ok (.ifCond .ne 5, 3) := by decide +kernel
theorem dX5_set_11 : decode cX5_set 11 = .ok (.iconst (-1), 1) := by decide +kernel
theorem dX5_set_12 : decode cX5_set 12 = .ok (.ireturn, 1) := by decide +kernel
theorem dX5_set_13 : decode cX5_set 13 = .ok (.aload_n 0, 1) := by decide +kernel
theorem dX5_set_14 : decode cX5_set 14 = .ok (.getfield 10, 3) := by decide +kernel
theorem dX5_set_17 : decode cX5_set 17 = .ok (.getfield 83, 3) := by decide +kernel
theorem dX5_set_20 : decode cX5_set 20 = .ok (.iload_n 1, 1) := by decide +kernel
theorem dX5_set_21 : decode cX5_set 21 = .ok (.aaload, 1) := by decide +kernel
theorem dX5_set_22 : decode cX5_set 22 = .ok (.astore_n 3, 1) := by decide +kernel
theorem dX5_set_23 : decode cX5_set 23 = .ok (.iload_n 2, 1) := by decide +kernel
theorem dX5_set_24 : decode cX5_set 24 = .ok (.tableswitch 114 0 9 #[56, 61, 66, 71, 76, 81, 86, 99, 104, 109], 56) := by decide +kernel
theorem dX5_set_80 : decode cX5_set 80 = .ok (.aload_n 3, 1) := by decide +kernel
theorem dX5_set_81 : decode cX5_set 81 = .ok (.getfield 131, 3) := by decide +kernel
theorem dX5_set_84 : decode cX5_set 84 = .ok (.ireturn, 1) := by decide +kernel
theorem dX5_set_85 : decode cX5_set 85 = .ok (.aload_n 3, 1) := by decide +kernel
theorem dX5_set_86 : decode cX5_set 86 = .ok (.getfield 210, 3) := by decide +kernel
theorem dX5_set_89 : decode cX5_set 89 = .ok (.ireturn, 1) := by decide +kernel
theorem dX5_set_90 : decode cX5_set 90 = .ok (.aload_n 3, 1) := by decide +kernel
theorem dX5_set_91 : decode cX5_set 91 = .ok (.getfield 213, 3) := by decide +kernel
theorem dX5_set_94 : decode cX5_set 94 = .ok (.ireturn, 1) := by decide +kernel
theorem dX5_set_95 : decode cX5_set 95 = .ok (.aload_n 3, 1) := by decide +kernel
theorem dX5_set_96 : decode cX5_set 96 = .ok (.getfield 216, 3) := by decide +kernel
theorem dX5_set_99 : decode cX5_set 99 = .ok (.ireturn, 1) := by decide +kernel
theorem dX5_set_100 : decode cX5_set 100 = .ok (.aload_n 3, 1) := by decide +kernel
theorem dX5_set_101 : decode cX5_set 101 = .ok (.getfield 100, 3) := by decide +kernel
theorem dX5_set_104 : decode cX5_set 104 = .ok (.ireturn, 1) := by decide +kernel
theorem dX5_set_105 : decode cX5_set 105 = .ok (.aload_n 3, 1) := by decide +kernel
theorem dX5_set_106 : decode cX5_set 106 = .ok (.getfield 87, 3) := by decide +kernel
theorem dX5_set_109 : decode cX5_set 109 = .ok (.ireturn, 1) := by decide +kernel
theorem dX5_set_110 : decode cX5_set 110 = .ok (.aload_n 3, 1) := by decide +kernel
theorem dX5_set_111 : decode cX5_set 111 = .ok (.getfield 219, 3) := by decide +kernel
theorem dX5_set_114 : decode cX5_set 114 = .ok (.ifCond .eq 7, 3) := by decide +kernel
theorem dX5_set_117 : decode cX5_set 117 = .ok (.iconst 1, 1) := by decide +kernel
theorem dX5_set_118 : decode cX5_set 118 = .ok (.goto 4, 3) := by decide +kernel
theorem dX5_set_121 : decode cX5_set 121 = .ok (.iconst 0, 1) := by decide +kernel
theorem dX5_set_122 : decode cX5_set 122 = .ok (.ireturn, 1) := by decide +kernel
theorem dX5_set_123 : decode cX5_set 123 = .ok (.aload_n 3, 1) := by decide +kernel
theorem dX5_set_124 : decode cX5_set 124 = .ok (.getfield 222, 3) := by decide +kernel
theorem dX5_set_127 : decode cX5_set 127 = .ok (.ireturn, 1) := by decide +kernel
theorem dX5_set_128 : decode cX5_set 128 = .ok (.aload_n 3, 1) := by decide +kernel
theorem dX5_set_129 : decode cX5_set 129 = .ok (.getfield 225, 3) := by decide +kernel
theorem dX5_set_132 : decode cX5_set 132 = .ok (.ireturn, 1) := by decide +kernel
theorem dX5_set_133 : decode cX5_set 133 = .ok (.aload_n 3, 1) := by decide +kernel
theorem dX5_set_134 : decode cX5_set 134 = .ok (.invokevirtual 228, 3) := by decide +kernel
theorem dX5_set_137 : decode cX5_set 137 = .ok (.ireturn, 1) := by decide +kernel
theorem dX5_set_138 : decode cX5_set 138 = .ok (.bipush (-2), 2) := by decide +kernel
theorem dX5_set_140 : decode cX5_set 140 = .ok (.ireturn, 1) := by decide +kernel
theorem dX5_site_0 : decode cX5_site 0 = .ok (.aload_n 0, 1) := by decide +kernel
theorem dX5_site_1 : decode cX5_site 1 = .ok (.getfield 10, 3) := by decide +kernel
theorem dX5_site_4 : decode cX5_site 4 = .ok (.iload_n 1, 1) := by decide +kernel
theorem dX5_site_5 : decode cX5_site 5 = .ok (.invokevirtual 113, 3) := by decide +kernel
theorem dX5_site_8 : decode cX5_site 8 = .ok (.ifCond .ne 5, 3) := by decide +kernel
theorem dX5_site_11 : decode cX5_site 11 = .ok (.iconst (-1), 1) := by decide +kernel
theorem dX5_site_12 : decode cX5_site 12 = .ok (.ireturn, 1) := by decide +kernel
theorem dX5_site_13 : decode cX5_site 13 = .ok (.aload_n 0, 1) := by decide +kernel
theorem dX5_site_14 : decode cX5_site 14 = .ok (.getfield 10, 3) := by decide +kernel
theorem dX5_site_17 : decode cX5_site 17 = .ok (.getfield 116, 3) := by decide +kernel
theorem dX5_site_20 : decode cX5_site 20 = .ok (.iload_n 1, 1) := by decide +kernel
theorem dX5_site_21 : decode cX5_site 21 = .ok (.aaload, 1) := by decide +kernel
theorem dX5_site_22 : decode cX5_site 22 = .ok (.astore_n 3, 1) := by decide +kernel
theorem dX5_site_23 : decode cX5_site 23 = .ok (.iload_n 2, 1) := by decide +kernel
theorem dX5_site_24 : decode cX5_site 24 = .ok (.tableswitch 121 0 9 #[56, 61, 66, 71, 76, 81, 86, 91, 96, 101], 56) := by decide +kernel
theorem dX5_site_80 : decode cX5_site 80 = .ok (.aload_n 3, 1) := by decide +kernel
theorem dX5_site_81 : decode cX5_site 81 = .ok (.getfield 197, 3) := by decide +kernel
theorem dX5_site_84 : decode cX5_site 84 = .ok (.ireturn, 1) := by decide +kernel
theorem dX5_site_85 : decode cX5_site 85 = .ok (.aload_n 3, 1) := by decide +kernel
theorem dX5_site_86 : decode cX5_site 86 = .ok (.getfield 134, 3) := by decide +kernel
theorem dX5_site_89 : decode cX5_site 89 = .ok (.ireturn, 1) := by decide +kernel
theorem dX5_site_90 : decode cX5_site 90 = .ok (.aload_n 3, 1) := by decide +kernel
theorem dX5_site_91 : decode cX5_site 91 = .ok (.getfield 194, 3) := by decide +kernel
theorem dX5_site_94 : decode cX5_site 94 = .ok (.ireturn, 1) := by decide +kernel
theorem dX5_site_95 : decode cX5_site 95 = .ok (.aload_n 3, 1) := by decide +kernel
theorem dX5_site_96 : decode cX5_site 96 = .ok (.getfield 128, 3) := by decide +kernel
theorem dX5_site_99 : decode cX5_site 99 = .ok (.ireturn, 1) := by decide +kernel
theorem dX5_site_100 : decode cX5_site 100 = .ok (.aload_n 3, 1) := by decide +kernel
theorem dX5_site_101 : decode cX5_site 101 = .ok (.getfield 120, 3) := by decide +kernel
theorem dX5_site_104 : decode cX5_site 104 = .ok (.ireturn, 1) := by decide +kernel
theorem dX5_site_105 : decode cX5_site 105 = .ok (.aload_n 3, 1) := by decide +kernel
theorem dX5_site_106 : decode cX5_site 106 = .ok (.getfield 231, 3) := by decide +kernel
theorem dX5_site_109 : decode cX5_site 109 = .ok (.ireturn, 1) := by decide +kernel
theorem dX5_site_110 : decode cX5_site 110 = .ok (.aload_n 3, 1) := by decide +kernel
theorem dX5_site_111 : decode cX5_site 111 = .ok (.getfield 234, 3) := by decide +kernel
theorem dX5_site_114 : decode cX5_site 114 = .ok (.ireturn, 1) := by decide +kernel
theorem dX5_site_115 : decode cX5_site 115 = .ok (.aload_n 3, 1) := by decide +kernel
theorem dX5_site_116 : decode cX5_site 116 = .ok (.getfield 237, 3) := by decide +kernel
theorem dX5_site_119 : decode cX5_site 119 = .ok (.ireturn, 1) := by decide +kernel
theorem dX5_site_120 : decode cX5_site 120 = .ok (.aload_n 3, 1) := by decide +kernel
theorem dX5_site_121 : decode cX5_site 121 = .ok (.getfield 240, 3) := by decide +kernel
theorem dX5_site_124 : decode cX5_site 124 = .ok (.ireturn, 1) := by decide +kernel
theorem dX5_site_125 : decode cX5_site 125 = .ok (.aload_n 3, 1) := by decide +kernel
theorem dX5_site_126 : decode cX5_site 126 = .ok (.aload_n 0, 1) := by decide +kernel
theorem dX5_site_127 : decode cX5_site 127 = .ok (.getfield 10, 3) := by decide +kernel
theorem dX5_site_130 : decode cX5_site 130 = .ok (.getfield 125, 3) := by decide +kernel
theorem dX5_site_133 : decode cX5_site 133 = .ok (.invokevirtual 243, 3) := by decide +kernel
theorem dX5_site_136 : decode cX5_site 136 = .ok (.ifCond .eq 7, 3) := by decide +kernel
theorem dX5_site_139 : decode cX5_site 139 = .ok (.iconst 1, 1) := by decide +kernel
theorem dX5_site_140 : decode cX5_site 140 = .ok (.goto 4, 3) := by decide +kernel
theorem dX5_site_143 : decode cX5_site 143 = .ok (.iconst 0, 1) := by decide +kernel
theorem dX5_site_144 : decode cX5_site 144 = .ok (.ireturn, 1) := by decide +kernel
theorem dX5_site_145 : decode cX5_site 145 = .ok (.bipush (-2), 2) := by decide +kernel
theorem dX5_site_147 : decode cX5_site 147 = .ok (.ireturn, 1) := by decide +kernel
theorem dX5_why_0 : decode cX5_why 0 = .ok (.aload_n 0, 1) := by decide +kernel
theorem dX5_why_1 : decode cX5_why 1 = .ok (.getfield 10, 3) := by decide +kernel
theorem dX5_why_4 : decode cX5_why 4 = .ok (.iload_n 1, 1) := by decide +kernel
theorem dX5_why_5 : decode cX5_why 5 = .ok (.invokevirtual 113, 3) := by decide +kernel
theorem dX5_why_8 : decode cX5_why 8 = .ok (.ifCond .ne 5, 3) := by decide +kernel
theorem dX5_why_11 : decode cX5_why 11 = .ok (.iconst (-1), 1) := by decide +kernel
theorem dX5_why_12 : decode cX5_why 12 = .ok (.ireturn, 1) := by decide +kernel
theorem dX5_why_13 : decode cX5_why 13 = .ok (.aload_n 0, 1) := by decide +kernel
theorem dX5_why_14 : decode cX5_why 14 = .ok (.getfield 10, 3) := by decide +kernel
theorem dX5_why_17 : decode cX5_why 17 = .ok (.getfield 116, 3) := by decide +kernel
theorem dX5_why_20 : decode cX5_why 20 = .ok (.iload_n 1, 1) := by decide +kernel
theorem dX5_why_21 : decode cX5_why 21 = .ok (.aaload, 1) := by decide +kernel
theorem dX5_why_22 : decode cX5_why 22 = .ok (.astore_n 2, 1) := by decide +kernel
theorem dX5_why_23 : decode cX5_why 23 = .ok (.aload_n 2, 1) := by decide +kernel
theorem dX5_why_24 : decode cX5_why 24 = .ok (.aload_n 0, 1) := by decide +kernel
theorem dX5_why_25 : decode cX5_why 25 = .ok (.getfield 10, 3) := by decide +kernel
theorem dX5_why_28 : decode cX5_why 28 = .ok (.getfield 125, 3) := by decide +kernel
theorem dX5_why_31 : decode cX5_why 31 = .ok (.invokevirtual 243, 3) := by decide +kernel
theorem dX5_why_34 : decode cX5_why 34 = .ok (.ifCond .eq 14, 3) := by decide +kernel
theorem dX5_why_37 : decode cX5_why 37 = .ok (.aload_n 0, 1) := by decide +kernel
theorem dX5_why_38 : decode cX5_why 38 = .ok (.getfield 10, 3) := by decide +kernel
theorem dX5_why_41 : decode cX5_why 41 = .ok (.aload_n 2, 1) := by decide +kernel
theorem dX5_why_42 : decode cX5_why 42 = .ok (.invokevirtual 246, 3) := by decide +kernel
theorem dX5_why_45 : decode cX5_why 45 = .ok (.goto 5, 3) := by decide +kernel
theorem dX5_why_48 : decode cX5_why 48 = .ok (.bipush (-5), 2) := by decide +kernel
theorem dX5_why_50 : decode cX5_why 50 = .ok (.ireturn, 1) := by decide +kernel
theorem dX5_needy_0 : decode cX5_needy 0 = .ok (.iload_n 1, 1) := by decide +kernel
theorem dX5_needy_1 : decode cX5_needy 1 = .ok (.ifCond .ge 6, 3) := by decide +kernel
theorem dX5_needy_4 : decode cX5_needy 4 = .ok (.bipush (-2), 2) := by decide +kernel
theorem dX5_needy_6 : decode cX5_needy 6 = .ok (.ireturn, 1) := by decide +kernel
theorem dX5_needy_7 : decode cX5_needy 7 = .ok (.aload_n 0, 1) := by decide +kernel
theorem dX5_needy_8 : decode cX5_needy 8 = .ok (.getfield 10, 3) := by decide +kernel
theorem dX5_needy_11 : decode cX5_needy 11 = .ok (.aload_n 0, 1) := by decide +kernel
theorem dX5_needy_12 : decode cX5_needy 12 = .ok (.getfield 40, 3) := by decide +kernel
theorem dX5_needy_15 : decode cX5_needy 15 = .ok (.invokevirtual 148, 3) := by decide +kernel
theorem dX5_needy_18 : decode cX5_needy 18 = .ok (.istore_n 2, 1) := by decide +kernel
theorem dX5_needy_19 : decode cX5_needy 19 = .ok (.iload_n 1, 1) := by decide +kernel
theorem dX5_needy_20 : decode cX5_needy 20 = .ok (.iload_n 2, 1) := by decide +kernel
theorem dX5_needy_21 : decode cX5_needy 21 = .ok (.if_icmp .ge 12, 3) := by decide +kernel
theorem dX5_needy_24 : decode cX5_needy 24 = .ok (.aload_n 0, 1) := by decide +kernel
theorem dX5_needy_25 : decode cX5_needy 25 = .ok (.getfield 40, 3) := by decide +kernel
theorem dX5_needy_28 : decode cX5_needy 28 = .ok (.iload_n 1, 1) := by decide +kernel
theorem dX5_needy_29 : decode cX5_needy 29 = .ok (.iaload, 1) := by decide +kernel
theorem dX5_needy_30 : decode cX5_needy 30 = .ok (.goto 5, 3) := by decide +kernel
theorem dX5_needy_33 : decode cX5_needy 33 = .ok (.bipush (-5), 2) := by decide +kernel
theorem dX5_needy_35 : decode cX5_needy 35 = .ok (.ireturn, 1) := by decide +kernel
theorem dX5_thirsty_0 : decode cX5_thirsty 0 = .ok (.iload_n 1, 1) := by decide +kernel
theorem dX5_thirsty_1 : decode cX5_thirsty 1 = .ok (.ifCond .ge 6, 3) := by decide +kernel
theorem dX5_thirsty_4 : decode cX5_thirsty 4 = .ok (.bipush (-2), 2) := by decide +kernel
theorem dX5_thirsty_6 : decode cX5_thirsty 6 = .ok (.ireturn, 1) := by decide +kernel
theorem dX5_thirsty_7 : decode cX5_thirsty 7 = .ok (.aload_n 0, 1) := by decide +kernel
theorem dX5_thirsty_8 : decode cX5_thirsty 8 = .ok (.getfield 10, 3) := by decide +kernel
theorem dX5_thirsty_11 : decode cX5_thirsty 11 = .ok (.aload_n 0, 1) := by decide +kernel
theorem dX5_thirsty_12 : decode cX5_thirsty 12 = .ok (.getfield 40, 3) := by decide +kernel
theorem dX5_thirsty_15 : decode cX5_thirsty 15 = .ok (.invokevirtual 161, 3) := by decide +kernel
theorem dX5_thirsty_18 : decode cX5_thirsty 18 = .ok (.istore_n 2, 1) := by decide +kernel
theorem dX5_thirsty_19 : decode cX5_thirsty 19 = .ok (.iload_n 1, 1) := by decide +kernel
theorem dX5_thirsty_20 : decode cX5_thirsty 20 = .ok (.iload_n 2, 1) := by decide +kernel
theorem dX5_thirsty_21 : decode cX5_thirsty 21 = .ok (.if_icmp .ge 12, 3) := by decide +kernel
theorem dX5_thirsty_24 : decode cX5_thirsty 24 = .ok (.aload_n 0, 1) := by decide +kernel
theorem dX5_thirsty_25 : decode cX5_thirsty 25 = .ok (.getfield 40, 3) := by decide +kernel
theorem dX5_thirsty_28 : decode cX5_thirsty 28 = .ok (.iload_n 1, 1) := by decide +kernel
theorem dX5_thirsty_29 : decode cX5_thirsty 29 = .ok (.iaload, 1) := by decide +kernel
theorem dX5_thirsty_30 : decode cX5_thirsty 30 = .ok (.goto 5, 3) := by decide +kernel
theorem dX5_thirsty_33 : decode cX5_thirsty 33 = .ok (.bipush (-5), 2) := by decide +kernel
theorem dX5_thirsty_35 : decode cX5_thirsty 35 = .ok (.ireturn, 1) := by decide +kernel
theorem dX5_forecast_0 : decode cX5_forecast 0 = .ok (.iload_n 1, 1) := by decide +kernel
theorem dX5_forecast_1 : decode cX5_forecast 1 = .ok (.iconst 1, 1) := by decide +kernel
theorem dX5_forecast_2 : decode cX5_forecast 2 = .ok (.bipush 24, 2) := by decide +kernel
theorem dX5_forecast_4 : decode cX5_forecast 4 = .ok (.invokestatic 44, 3) := by decide +kernel
theorem dX5_forecast_7 : decode cX5_forecast 7 = .ok (.ifCond .eq 12, 3) := by decide +kernel
theorem dX5_forecast_10 : decode cX5_forecast 10 = .ok (.iload_n 2, 1) := by decide +kernel
theorem dX5_forecast_11 : decode cX5_forecast 11 = .ok (.iconst 0, 1) := by decide +kernel
theorem dX5_forecast_12 : decode cX5_forecast 12 = .ok (.iconst 3, 1) := by decide +kernel
theorem dX5_forecast_13 : decode cX5_forecast 13 = .ok (.invokestatic 44, 3) := by decide +kernel
theorem dX5_forecast_16 : decode cX5_forecast 16 = .ok (.ifCond .ne 6, 3) := by decide +kernel
theorem dX5_forecast_19 : decode cX5_forecast 19 = .ok (.bipush (-2), 2) := by decide +kernel
theorem dX5_forecast_21 : decode cX5_forecast 21 = .ok (.ireturn, 1) := by decide +kernel
theorem dX5_forecast_22 : decode cX5_forecast 22 = .ok (.aload_n 0, 1) := by decide +kernel
theorem dX5_forecast_23 : decode cX5_forecast 23 = .ok (.getfield 10, 3) := by decide +kernel
theorem dX5_forecast_26 : decode cX5_forecast 26 = .ok (.getfield 125, 3) := by decide +kernel
theorem dX5_forecast_29 : decode cX5_forecast 29 = .ok (.iload_n 1, 1) := by decide +kernel
theorem dX5_forecast_30 : decode cX5_forecast 30 = .ok (.iadd, 1) := by decide +kernel
theorem dX5_forecast_31 : decode cX5_forecast 31 = .ok (.sipush 999, 3) := by decide +kernel
theorem dX5_forecast_34 : decode cX5_forecast 34 = .ok (.if_icmp .le 6, 3) := by decide +kernel
theorem dX5_forecast_37 : decode cX5_forecast 37 = .ok (.bipush (-4), 2) := by decide +kernel
theorem dX5_forecast_39 : decode cX5_forecast 39 = .ok (.ireturn, 1) := by decide +kernel
theorem dX5_forecast_40 : decode cX5_forecast 40 = .ok (.aload_n 0, 1) := by decide +kernel
theorem dX5_forecast_41 : decode cX5_forecast 41 = .ok (.getfield 16, 3) := by decide +kernel
theorem dX5_forecast_44 : decode cX5_forecast 44 = .ok (.aload_n 0, 1) := by decide +kernel
theorem dX5_forecast_45 : decode cX5_forecast 45 = .ok (.getfield 10, 3) := by decide +kernel
theorem dX5_forecast_48 : decode cX5_forecast 48 = .ok (.invokevirtual 207, 3) := by decide +kernel
theorem dX5_forecast_51 : decode cX5_forecast 51 = .ok (.aload_n 0, 1) := by decide +kernel
theorem dX5_forecast_52 : decode cX5_forecast 52 = .ok (.getfield 16, 3) := by decide +kernel
theorem dX5_forecast_55 : decode cX5_forecast 55 = .ok (.iload_n 1, 1) := by decide +kernel
theorem dX5_forecast_56 : decode cX5_forecast 56 = .ok (.invokevirtual 171, 3) := by decide +kernel
theorem dX5_forecast_59 : decode cX5_forecast 59 = .ok (.iload_n 2, 1) := by decide +kernel
theorem dX5_forecast_60 : decode cX5_forecast 60 = .ok (.tableswitch 76 0 2 #[28, 44, 60], 28) := by decide +kernel
theorem dX5_forecast_88 : decode cX5_forecast 88 = .ok (.aload_n 0, 1) := by decide +kernel
theorem dX5_forecast_89 : decode cX5_forecast 89 = .ok (.getfield 16, 3) := by decide +kernel
theorem dX5_forecast_92 : decode cX5_forecast 92 = .ok (.invokevirtual 168, 3) := by decide +kernel
theorem dX5_forecast_95 : decode cX5_forecast 95 = .ok (.aload_n 0, 1) := by decide +kernel
theorem dX5_forecast_96 : decode cX5_forecast 96 = .ok (.getfield 10, 3) := by decide +kernel
theorem dX5_forecast_99 : decode cX5_forecast 99 = .ok (.invokevirtual 168, 3) := by decide +kernel
theorem dX5_forecast_102 : decode cX5_forecast 102 = .ok (.isub, 1) := by decide +kernel
theorem dX5_forecast_103 : decode cX5_forecast 103 = .ok (.ireturn, 1) := by decide +kernel
theorem dX5_forecast_104 : decode cX5_forecast 104 = .ok (.aload_n 0, 1) := by decide +kernel
theorem dX5_forecast_105 : decode cX5_forecast 105 = .ok (.getfield 16, 3) := by decide +kernel
theorem dX5_forecast_108 : decode cX5_forecast 108 = .ok (.invokevirtual 250, 3) := by decide +kernel
theorem dX5_forecast_111 : decode cX5_forecast 111 = .ok (.aload_n 0, 1) := by decide +kernel
theorem dX5_forecast_112 : decode cX5_forecast 112 = .ok (.getfield 10, 3) := by decide +kernel
theorem dX5_forecast_115 : decode cX5_forecast 115 = .ok (.invokevirtual 250, 3) := by decide +kernel
theorem dX5_forecast_118 : decode cX5_forecast 118 = .ok (.isub, 1) := by decide +kernel
theorem dX5_forecast_119 : decode cX5_forecast 119 = .ok (.ireturn, 1) := by decide +kernel
theorem dX5_forecast_120 : decode cX5_forecast 120 = .ok (.aload_n 0, 1) := by decide +kernel
theorem dX5_forecast_121 : decode cX5_forecast 121 = .ok (.getfield 16, 3) := by decide +kernel
theorem dX5_forecast_124 : decode cX5_forecast 124 = .ok (.getfield 253, 3) := by decide +kernel
theorem dX5_forecast_127 : decode cX5_forecast 127 = .ok (.aload_n 0, 1) := by decide +kernel
theorem dX5_forecast_128 : decode cX5_forecast 128 = .ok (.getfield 10, 3) := by decide +kernel
theorem dX5_forecast_131 : decode cX5_forecast 131 = .ok (.getfield 253, 3) := by decide +kernel
theorem dX5_forecast_134 : decode cX5_forecast 134 = .ok (.isub, 1) := by decide +kernel
theorem dX5_forecast_135 : decode cX5_forecast 135 = .ok (.ireturn, 1) := by decide +kernel
theorem dX5_forecast_136 : decode cX5_forecast 136 = .ok (.aload_n 0, 1) := by decide +kernel
theorem dX5_forecast_137 : decode cX5_forecast 137 = .ok (.getfield 16, 3) := by decide +kernel
theorem dX5_forecast_140 : decode cX5_forecast 140 = .ok (.aload_n 0, 1) := by decide +kernel
theorem dX5_forecast_141 : decode cX5_forecast 141 = .ok (.getfield 10, 3) := by decide +kernel
theorem dX5_forecast_144 : decode cX5_forecast 144 = .ok (.invokevirtual 256, 3) := by decide +kernel
theorem dX5_forecast_147 : decode cX5_forecast 147 = .ok (.ireturn, 1) := by decide +kernel
theorem dX5_count_0 : decode cX5_count 0 = .ok (.iload_n 1, 1) := by decide +kernel
theorem dX5_count_1 : decode cX5_count 1 = .ok (.tableswitch 226 0 16 #[83, 91, 102, 110, 118, 126, 134, 142, 150, 158, 166, 178, 186, 194, 202, 210, 218], 83) := by decide +kernel
theorem dX5_count_84 : decode cX5_count 84 = .ok (.aload_n 0, 1) := by decide +kernel
theorem dX5_count_85 : decode cX5_count 85 = .ok (.getfield 10, 3) := by decide +kernel
theorem dX5_count_88 : decode cX5_count 88 = .ok (.getfield 125, 3) := by decide +kernel
theorem dX5_count_91 : decode cX5_count 91 = .ok (.ireturn, 1) := by decide +kernel
theorem dX5_count_92 : decode cX5_count 92 = .ok (.aload_n 0, 1) := by decide +kernel
theorem dX5_count_93 : decode cX5_count 93 = .ok (.getfield 10, 3) := by decide +kernel
theorem dX5_count_96 : decode cX5_count 96 = .ok (.getfield 60, 3) := by decide +kernel
theorem dX5_count_99 : decode cX5_count 99 = .ok (.bipush 100, 2) := by decide +kernel
theorem dX5_count_101 : decode cX5_count 101 = .ok (.iadd, 1) := by decide +kernel
theorem dX5_count_102 : decode cX5_count 102 = .ok (.ireturn, 1) := by decide +kernel
theorem dX5_count_103 : decode cX5_count 103 = .ok (.aload_n 0, 1) := by decide +kernel
theorem dX5_count_104 : decode cX5_count 104 = .ok (.getfield 10, 3) := by decide +kernel
theorem dX5_count_107 : decode cX5_count 107 = .ok (.getfield 69, 3) := by decide +kernel
theorem dX5_count_110 : decode cX5_count 110 = .ok (.ireturn, 1) := by decide +kernel
theorem dX5_count_111 : decode cX5_count 111 = .ok (.aload_n 0, 1) := by decide +kernel
theorem dX5_count_112 : decode cX5_count 112 = .ok (.getfield 10, 3) := by decide +kernel
theorem dX5_count_115 : decode cX5_count 115 = .ok (.getfield 48, 3) := by decide +kernel
theorem dX5_count_118 : decode cX5_count 118 = .ok (.ireturn, 1) := by decide +kernel
theorem dX5_count_119 : decode cX5_count 119 = .ok (.aload_n 0, 1) := by decide +kernel
theorem dX5_count_120 : decode cX5_count 120 = .ok (.getfield 10, 3) := by decide +kernel
theorem dX5_count_123 : decode cX5_count 123 = .ok (.invokevirtual 260, 3) := by decide +kernel
theorem dX5_count_126 : decode cX5_count 126 = .ok (.ireturn, 1) := by decide +kernel
theorem dX5_count_127 : decode cX5_count 127 = .ok (.aload_n 0, 1) := by decide +kernel
theorem dX5_count_128 : decode cX5_count 128 = .ok (.getfield 10, 3) := by decide +kernel
theorem dX5_count_131 : decode cX5_count 131 = .ok (.getfield 253, 3) := by decide +kernel
theorem dX5_count_134 : decode cX5_count 134 = .ok (.ireturn, 1) := by decide +kernel
theorem dX5_count_135 : decode cX5_count 135 = .ok (.aload_n 0, 1) := by decide +kernel
theorem dX5_count_136 : decode cX5_count 136 = .ok (.getfield 10, 3) := by decide +kernel
theorem dX5_count_139 : decode cX5_count 139 = .ok (.getfield 57, 3) := by decide +kernel
theorem dX5_count_142 : decode cX5_count 142 = .ok (.ireturn, 1) := by decide +kernel
theorem dX5_count_143 : decode cX5_count 143 = .ok (.aload_n 0, 1) := by decide +kernel
theorem dX5_count_144 : decode cX5_count 144 = .ok (.getfield 10, 3) := by decide +kernel
theorem dX5_count_147 : decode cX5_count 147 = .ok (.getfield 72, 3) := by decide +kernel
theorem dX5_count_150 : decode cX5_count 150 = .ok (.ireturn, 1) := by decide +kernel
theorem dX5_count_151 : decode cX5_count 151 = .ok (.aload_n 0, 1) := by decide +kernel
theorem dX5_count_152 : decode cX5_count 152 = .ok (.getfield 10, 3) := by decide +kernel
theorem dX5_count_155 : decode cX5_count 155 = .ok (.invokevirtual 141, 3) := by decide +kernel
theorem dX5_count_158 : decode cX5_count 158 = .ok (.ireturn, 1) := by decide +kernel
theorem dX5_count_159 : decode cX5_count 159 = .ok (.aload_n 0, 1) := by decide +kernel
theorem dX5_count_160 : decode cX5_count 160 = .ok (.getfield 10, 3) := by decide +kernel
theorem dX5_count_163 : decode cX5_count 163 = .ok (.getfield 107, 3) := by decide +kernel
theorem dX5_count_166 : decode cX5_count 166 = .ok (.ireturn, 1) := by decide +kernel
theorem dX5_count_167 : decode cX5_count 167 = .ok (.aload_n 0, 1) := by decide +kernel
theorem dX5_count_168 : decode cX5_count 168 = .ok (.getfield 10, 3) := by decide +kernel
theorem dX5_count_171 : decode cX5_count 171 = .ok (.aload_n 0, 1) := by decide +kernel
theorem dX5_count_172 : decode cX5_count 172 = .ok (.getfield 40, 3) := by decide +kernel
theorem dX5_count_175 : decode cX5_count 175 = .ok (.invokevirtual 148, 3) := by decide +kernel
theorem dX5_count_178 : decode cX5_count 178 = .ok (.ireturn, 1) := by decide +kernel
theorem dX5_count_179 : decode cX5_count 179 = .ok (.aload_n 0, 1) := by decide +kernel
theorem dX5_count_180 : decode cX5_count 180 = .ok (.getfield 10, 3) := by decide +kernel
theorem dX5_count_183 : decode cX5_count 183 = .ok (.invokevirtual 168, 3) := by decide +kernel
theorem dX5_count_186 : decode cX5_count 186 = .ok (.ireturn, 1) := by decide +kernel
theorem dX5_count_187 : decode cX5_count 187 = .ok (.aload_n 0, 1) := by decide +kernel
theorem dX5_count_188 : decode cX5_count 188 = .ok (.getfield 10, 3) := by decide +kernel
theorem dX5_count_191 : decode cX5_count 191 = .ok (.invokevirtual 250, 3) := by decide +kernel
theorem dX5_count_194 : decode cX5_count 194 = .ok (.ireturn, 1) := by decide +kernel
theorem dX5_count_195 : decode cX5_count 195 = .ok (.aload_n 0, 1) := by decide +kernel
theorem dX5_count_196 : decode cX5_count 196 = .ok (.getfield 10, 3) := by decide +kernel
theorem dX5_count_199 : decode cX5_count 199 = .ok (.invokevirtual 263, 3) := by decide +kernel
theorem dX5_count_202 : decode cX5_count 202 = .ok (.ireturn, 1) := by decide +kernel
theorem dX5_count_203 : decode cX5_count 203 = .ok (.aload_n 0, 1) := by decide +kernel
theorem dX5_count_204 : decode cX5_count 204 = .ok (.getfield 10, 3) := by decide +kernel
theorem dX5_count_207 : decode cX5_count 207 = .ok (.getfield 266, 3) := by decide +kernel
theorem dX5_count_210 : decode cX5_count 210 = .ok (.ireturn, 1) := by decide +kernel
theorem dX5_count_211 : decode cX5_count 211 = .ok (.aload_n 0, 1) := by decide +kernel
theorem dX5_count_212 : decode cX5_count 212 = .ok (.getfield 29, 3) := by decide +kernel
theorem dX5_count_215 : decode cX5_count 215 = .ok (.getfield 204, 3) := by decide +kernel
theorem dX5_count_218 : decode cX5_count 218 = .ok (.ireturn, 1) := by decide +kernel
theorem dX5_count_219 : decode cX5_count 219 = .ok (.aload_n 0, 1) := by decide +kernel
theorem dX5_count_220 : decode cX5_count 220 = .ok (.getfield 36, 3) := by decide +kernel
theorem dX5_count_223 : decode cX5_count 223 = .ok (.getfield 178, 3) := by decide +kernel
theorem dX5_count_226 : decode cX5_count 226 = .ok (.ireturn, 1) := by decide +kernel
theorem dX5_count_227 : decode cX5_count 227 = .ok (.bipush (-2), 2) := by decide +kernel
theorem dX5_count_229 : decode cX5_count 229 = .ok (.ireturn, 1) := by decide +kernel
theorem dX5_isWithin_0 : decode cX5_isWithin 0 = .ok (.iload_n 0, 1) := by decide +kernel
theorem dX5_isWithin_1 : decode cX5_isWithin 1 = .ok (.iload_n 1, 1) := by decide +kernel
theorem dX5_isWithin_2 : decode cX5_isWithin 2 = .ok (.if_icmp .lt 12, 3) := by decide +kernel
theorem dX5_isWithin_5 : decode cX5_isWithin 5 = .ok (.iload_n 0, 1) := by decide +kernel
theorem dX5_isWithin_6 : decode cX5_isWithin 6 = .ok (.iload_n 2, 1) := by decide +kernel
theorem dX5_isWithin_7 : decode cX5_isWithin 7 = .ok (.if_icmp .gt 7, 3) := by decide +kernel
theorem dX5_isWithin_10 : decode cX5_isWithin 10 = .ok (.iconst 1, 1) := by decide +kernel
theorem dX5_isWithin_11 : decode cX5_isWithin 11 = .ok (.goto 4, 3) := by decide +kernel
theorem dX5_isWithin_14 : decode cX5_isWithin 14 = .ok (.iconst 0, 1) := by decide +kernel
theorem dX5_isWithin_15 : decode cX5_isWithin 15 = .ok (.ireturn, 1) := by decide +kernel
