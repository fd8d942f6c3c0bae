theorem dX6_against_45 : decode cX6_against 45 = .ok (.ifCond .le 20, 3) := by decide +kernel
theorem dX6_against_48 : decode cX6_against 48 = .ok (.iload_n 2, 1) := by decide +kernel
theorem dX6_against_49 : decode cX6_against 49 = .ok (.iconst 5, 1) := by decide +kernel
theorem dX6_against_50 : decode cX6_against 50 = .ok (.aload_n 0, 1) := by decide +kernel
theorem dX6_against_51 : decode cX6_against 51 = .ok (.iload_n 1, 1) := by decide +kernel
theorem dX6_against_52 : decode cX6_against 52 = .ok (.bipush 7, 2) := by decide +kernel
theorem dX6_against_54 : decode cX6_against 54 = .ok (.invokevirtual 48, 3) := by decide +kernel
theorem dX6_against_57 : decode cX6_against 57 = .ok (.imul, 1) := by decide +kernel
theorem dX6_against_58 : decode cX6_against 58 = .ok (.if_icmp .le 7, 3) := by decide +kernel
theorem dX6_against_61 : decode cX6_against 61 = .ok (.iconst 3, 1) := by decide +kernel
theorem dX6_against_62 : decode cX6_against 62 = .ok (.goto 4, 3) := by decide +kernel
theorem dX6_against_65 : decode cX6_against 65 = .ok (.iconst 0, 1) := by decide +kernel
theorem dX6_against_66 : decode cX6_against 66 = .ok (.ireturn, 1) := by decide +kernel
theorem dX6_isDark_0 : decode cX6_isDark 0 = .ok (.aload_n 0, 1) := by decide +kernel
theorem dX6_isDark_1 : decode cX6_isDark 1 = .ok (.iload_n 1, 1) := by decide +kernel
theorem dX6_isDark_2 : decode cX6_isDark 2 = .ok (.bipush 6, 2) := by decide +kernel
theorem dX6_isDark_4 : decode cX6_isDark 4 = .ok (.aload_n 0, 1) := by decide +kernel
theorem dX6_isDark_5 : decode cX6_isDark 5 = .ok (.iload_n 1, 1) := by decide +kernel
theorem dX6_isDark_6 : decode cX6_isDark 6 = .ok (.bipush 6, 2) := by decide +kernel
theorem dX6_isDark_8 : decode cX6_isDark 8 = .ok (.invokevirtual 78, 3) := by decide +kernel
theorem dX6_isDark_11 : decode cX6_isDark 11 = .ok (.iconst 1, 1) := by decide +kernel
theorem dX6_isDark_12 : decode cX6_isDark 12 = .ok (.iadd, 1) := by decide +kernel
theorem dX6_isDark_13 : decode cX6_isDark 13 = .ok (.invokevirtual 67, 3) := by decide +kernel
theorem dX6_isDark_16 : decode cX6_isDark 16 = .ok (.aload_n 0, 1) := by decide +kernel
theorem dX6_isDark_17 : decode cX6_isDark 17 = .ok (.iload_n 1, 1) := by decide +kernel
theorem dX6_isDark_18 : decode cX6_isDark 18 = .ok (.bipush 8, 2) := by decide +kernel
theorem dX6_isDark_20 : decode cX6_isDark 20 = .ok (.iload_n 2, 1) := by decide +kernel
theorem dX6_isDark_21 : decode cX6_isDark 21 = .ok (.invokevirtual 67, 3) := by decide +kernel
theorem dX6_isDark_24 : decode cX6_isDark 24 = .ok (.aload_n 0, 1) := by decide +kernel
theorem dX6_isDark_25 : decode cX6_isDark 25 = .ok (.getfield 7, 3) := by decide +kernel
theorem dX6_isDark_28 : decode cX6_isDark 28 = .ok (.bipush 9, 2) := by decide +kernel
theorem dX6_isDark_30 : decode cX6_isDark 30 = .ok (.dup2, 1) := by decide +kernel
theorem dX6_isDark_31 : decode cX6_isDark 31 = .ok (.iaload, 1) := by decide +kernel
theorem dX6_isDark_32 : decode cX6_isDark 32 = .ok (.iconst 1, 1) := by decide +kernel
theorem dX6_isDark_33 : decode cX6_isDark 33 = .ok (.iadd, 1) := by decide +kernel
theorem dX6_isDark_34 : decode cX6_isDark 34 = .ok (.iastore, 1) := by decide +kernel
theorem dX6_isDark_35 : decode cX6_isDark 35 = .ok (.return_, 1) := by decide +kernel
theorem dX6_isLit_0 : decode cX6_isLit 0 = .ok (.aload_n 0, 1) := by decide +kernel
theorem dX6_isLit_1 : decode cX6_isLit 1 = .ok (.iload_n 1, 1) := by decide +kernel
theorem dX6_isLit_2 : decode cX6_isLit 2 = .ok (.invokevirtual 81, 3) := by decide +kernel
theorem dX6_isLit_5 : decode cX6_isLit 5 = .ok (.istore_n 2, 1) := by decide +kernel
theorem dX6_isLit_6 : decode cX6_isLit 6 = .ok (.aload_n 0, 1) := by decide +kernel
theorem dX6_isLit_7 : decode cX6_isLit 7 = .ok (.iload_n 2, 1) := by decide +kernel
theorem dX6_isLit_8 : decode cX6_isLit 8 = .ok (.iconst 4, 1) := by decide +kernel
theorem dX6_isLit_9 : decode cX6_isLit 9 = .ok (.aload_n 0, 1) := by decide +kernel
theorem dX6_isLit_10 : decode cX6_isLit 10 = .ok (.iload_n 2, 1) := by decide +kernel
theorem dX6_isLit_11 : decode cX6_isLit 11 = .ok (.iconst 4, 1) := by decide +kernel
theorem dX6_isLit_12 : decode cX6_isLit 12 = .ok (.invokevirtual 48, 3) := by decide +kernel
theorem dX6_isLit_15 : decode cX6_isLit 15 = .ok (.aload_n 0, 1) := by decide +kernel
theorem dX6_isLit_16 : decode cX6_isLit 16 = .ok (.iload_n 2, 1) := by decide +kernel
theorem dX6_isLit_17 : decode cX6_isLit 17 = .ok (.iconst 2, 1) := by decide +kernel
theorem dX6_isLit_18 : decode cX6_isLit 18 = .ok (.invokevirtual 48, 3) := by decide +kernel
theorem dX6_isLit_21 : decode cX6_isLit 21 = .ok (.isub, 1) := by decide +kernel
theorem dX6_isLit_22 : decode cX6_isLit 22 = .ok (.invokevirtual 44, 3) := by decide +kernel
theorem dX6_isLit_25 : decode cX6_isLit 25 = .ok (.aload_n 0, 1) := by decide +kernel
theorem dX6_isLit_26 : decode cX6_isLit 26 = .ok (.iload_n 2, 1) := by decide +kernel
theorem dX6_isLit_27 : decode cX6_isLit 27 = .ok (.bipush 8, 2) := by decide +kernel
theorem dX6_isLit_29 : decode cX6_isLit 29 = .ok (.aload_n 0, 1) := by decide +kernel
theorem dX6_isLit_30 : decode cX6_isLit 30 = .ok (.iload_n 2, 1) := by decide +kernel
theorem dX6_isLit_31 : decode cX6_isLit 31 = .ok (.bipush 8, 2) := by decide +kernel
theorem dX6_isLit_33 : decode cX6_isLit 33 = .ok (.invokevirtual 48, 3) := by decide +kernel
theorem dX6_isLit_36 : decode cX6_isLit 36 = .ok (.iconst 1, 1) := by decide +kernel
theorem dX6_isLit_37 : decode cX6_isLit 37 = .ok (.iadd, 1) := by decide +kernel
theorem dX6_isLit_38 : decode cX6_isLit 38 = .ok (.invokevirtual 44, 3) := by decide +kernel
theorem dX6_isLit_41 : decode cX6_isLit 41 = .ok (.aload_n 0, 1) := by decide +kernel
theorem dX6_isLit_42 : decode cX6_isLit 42 = .ok (.iload_n 2, 1) := by decide +kernel
theorem dX6_isLit_43 : decode cX6_isLit 43 = .ok (.bipush 6, 2) := by decide +kernel
theorem dX6_isLit_45 : decode cX6_isLit 45 = .ok (.aload_n 0, 1) := by decide +kernel
theorem dX6_isLit_46 : decode cX6_isLit 46 = .ok (.iload_n 2, 1) := by decide +kernel
theorem dX6_isLit_47 : decode cX6_isLit 47 = .ok (.iconst 4, 1) := by decide +kernel
theorem dX6_isLit_48 : decode cX6_isLit 48 = .ok (.invokevirtual 48, 3) := by decide +kernel
theorem dX6_isLit_51 : decode cX6_isLit 51 = .ok (.aload_n 0, 1) := by decide +kernel
theorem dX6_isLit_52 : decode cX6_isLit 52 = .ok (.iload_n 2, 1) := by decide +kernel
theorem dX6_isLit_53 : decode cX6_isLit 53 = .ok (.iconst 2, 1) := by decide +kernel
theorem dX6_isLit_54 : decode cX6_isLit 54 = .ok (.invokevirtual 48, 3) := by decide +kernel
theorem dX6_isLit_57 : decode cX6_isLit 57 = .ok (.if_icmp .ge 7, 3) := by decide +kernel
theorem dX6_isLit_60 : decode cX6_isLit 60 = .ok (.iconst 0, 1) := by decide +kernel
theorem dX6_isLit_61 : decode cX6_isLit 61 = .ok (.goto 4, 3) := by decide +kernel
theorem dX6_isLit_64 : decode cX6_isLit 64 = .ok (.iconst 1, 1) := by decide +kernel
theorem dX6_isLit_65 : decode cX6_isLit 65 = .ok (.invokevirtual 44, 3) := by decide +kernel
theorem dX6_isLit_68 : decode cX6_isLit 68 = .ok (.aload_n 0, 1) := by decide +kernel
theorem dX6_isLit_69 : decode cX6_isLit 69 = .ok (.getfield 7, 3) := by decide +kernel
theorem dX6_isLit_72 : decode cX6_isLit 72 = .ok (.iconst 4, 1) := by decide +kernel
theorem dX6_isLit_73 : decode cX6_isLit 73 = .ok (.dup2, 1) := by decide +kernel
theorem dX6_isLit_74 : decode cX6_isLit 74 = .ok (.iaload, 1) := by decide +kernel
theorem dX6_isLit_75 : decode cX6_isLit 75 = .ok (.aload_n 0, 1) := by decide +kernel
theorem dX6_isLit_76 : decode cX6_isLit 76 = .ok (.iload_n 2, 1) := by decide +kernel
theorem dX6_isLit_77 : decode cX6_isLit 77 = .ok (.iconst 2, 1) := by decide +kernel
theorem dX6_isLit_78 : decode cX6_isLit 78 = .ok (.invokevirtual 48, 3) := by decide +kernel
theorem dX6_isLit_81 : decode cX6_isLit 81 = .ok (.iadd, 1) := by decide +kernel
theorem dX6_isLit_82 : decode cX6_isLit 82 = .ok (.iastore, 1) := by decide +kernel
theorem dX6_isLit_83 : decode cX6_isLit 83 = .ok (.aload_n 0, 1) := by decide +kernel
theorem dX6_isLit_84 : decode cX6_isLit 84 = .ok (.iload_n 2, 1) := by decide +kernel
theorem dX6_isLit_85 : decode cX6_isLit 85 = .ok (.iconst 0, 1) := by decide +kernel
theorem dX6_isLit_86 : decode cX6_isLit 86 = .ok (.invokevirtual 48, 3) := by decide +kernel
theorem dX6_isLit_89 : decode cX6_isLit 89 = .ok (.aload_n 0, 1) := by decide +kernel
theorem dX6_isLit_90 : decode cX6_isLit 90 = .ok (.getfield 7, 3) := by decide +kernel
theorem dX6_isLit_93 : decode cX6_isLit 93 = .ok (.iconst 2, 1) := by decide +kernel
theorem dX6_isLit_94 : decode cX6_isLit 94 = .ok (.iaload, 1) := by decide +kernel
theorem dX6_isLit_95 : decode cX6_isLit 95 = .ok (.imul, 1) := by decide +kernel
theorem dX6_isLit_96 : decode cX6_isLit 96 = .ok (.istore_n 3, 1) := by decide +kernel
theorem dX6_isLit_97 : decode cX6_isLit 97 = .ok (.aload_n 0, 1) := by decide +kernel
theorem dX6_isLit_98 : decode cX6_isLit 98 = .ok (.iload_n 1, 1) := by decide +kernel
theorem dX6_isLit_99 : decode cX6_isLit 99 = .ok (.iconst 5, 1) := by decide +kernel
theorem dX6_isLit_100 : decode cX6_isLit 100 = .ok (.aload_n 0, 1) := by decide +kernel
theorem dX6_isLit_101 : decode cX6_isLit 101 = .ok (.iload_n 1, 1) := by decide +kernel
theorem dX6_isLit_102 : decode cX6_isLit 102 = .ok (.iconst 5, 1) := by decide +kernel
theorem dX6_isLit_103 : decode cX6_isLit 103 = .ok (.invokevirtual 78, 3) := by decide +kernel
theorem dX6_isLit_106 : decode cX6_isLit 106 = .ok (.iconst 1, 1) := by decide +kernel
theorem dX6_isLit_107 : decode cX6_isLit 107 = .ok (.iadd, 1) := by decide +kernel
theorem dX6_isLit_108 : decode cX6_isLit 108 = .ok (.invokevirtual 67, 3) := by decide +kernel
theorem dX6_isLit_111 : decode cX6_isLit 111 = .ok (.aload_n 0, 1) := by decide +kernel
theorem dX6_isLit_112 : decode cX6_isLit 112 = .ok (.iload_n 1, 1) := by decide +kernel
theorem dX6_isLit_113 : decode cX6_isLit 113 = .ok (.bipush 7, 2) := by decide +kernel
theorem dX6_isLit_115 : decode cX6_isLit 115 = .ok (.aload_n 0, 1) := by decide +kernel
theorem dX6_isLit_116 : decode cX6_isLit 116 = .ok (.iload_n 1, 1) := by decide +kernel
theorem dX6_isLit_117 : decode cX6_isLit 117 = .ok (.bipush 7, 2) := by decide +kernel
theorem dX6_isLit_119 : decode cX6_isLit 119 = .ok (.invokevirtual 78, 3) := by decide +kernel
theorem dX6_isLit_122 : decode cX6_isLit 122 = .ok (.iload_n 3, 1) := by decide +kernel
theorem dX6_isLit_123 : decode cX6_isLit 123 = .ok (.iadd, 1) := by decide +kernel
theorem dX6_isLit_124 : decode cX6_isLit 124 = .ok (.invokevirtual 67, 3) := by decide +kernel
theorem dX6_isLit_127 : decode cX6_isLit 127 = .ok (.aload_n 0, 1) := by decide +kernel
theorem dX6_isLit_128 : decode cX6_isLit 128 = .ok (.getfield 7, 3) := by decide +kernel
theorem dX6_isLit_131 : decode cX6_isLit 131 = .ok (.bipush 10, 2) := by decide +kernel
theorem dX6_isLit_133 : decode cX6_isLit 133 = .ok (.dup2, 1) := by decide +kernel
theorem dX6_isLit_134 : decode cX6_isLit 134 = .ok (.iaload, 1) := by decide +kernel
theorem dX6_isLit_135 : decode cX6_isLit 135 = .ok (.iload_n 3, 1) := by decide +kernel
theorem dX6_isLit_136 : decode cX6_isLit 136 = .ok (.iadd, 1) := by decide +kernel
theorem dX6_isLit_137 : decode cX6_isLit 137 = .ok (.iastore, 1) := by decide +kernel
theorem dX6_isLit_138 : decode cX6_isLit 138 = .ok (.aload_n 0, 1) := by decide +kernel
theorem dX6_isLit_139 : decode cX6_isLit 139 = .ok (.getfield 7, 3) := by decide +kernel
theorem dX6_isLit_142 : decode cX6_isLit 142 = .ok (.bipush 8, 2) := by decide +kernel
theorem dX6_isLit_144 : decode cX6_isLit 144 = .ok (.dup2, 1) := by decide +kernel
theorem dX6_isLit_145 : decode cX6_isLit 145 = .ok (.iaload, 1) := by decide +kernel
theorem dX6_isLit_146 : decode cX6_isLit 146 = .ok (.iconst 1, 1) := by decide +kernel
theorem dX6_isLit_147 : decode cX6_isLit 147 = .ok (.iadd, 1) := by decide +kernel
theorem dX6_isLit_148 : decode cX6_isLit 148 = .ok (.iastore, 1) := by decide +kernel
theorem dX6_isLit_149 : decode cX6_isLit 149 = .ok (.return_, 1) := by decide +kernel
theorem dX6_goesOn_0 : decode cX6_goesOn 0 = .ok (.iconst 0, 1) := by decide +kernel
theorem dX6_goesOn_1 : decode cX6_goesOn 1 = .ok (.istore_n 1, 1) := by decide +kernel
theorem dX6_goesOn_2 : decode cX6_goesOn 2 = .ok (.iconst 0, 1) := by decide +kernel
theorem dX6_goesOn_3 : decode cX6_goesOn 3 = .ok (.istore_n 2, 1) := by decide +kernel
theorem dX6_goesOn_4 : decode cX6_goesOn 4 = .ok (.iload_n 2, 1) := by decide +kernel
theorem dX6_goesOn_5 : decode cX6_goesOn 5 = .ok (.aload_n 0, 1) := by decide +kernel
theorem dX6_goesOn_6 : decode cX6_goesOn 6 = .ok (.getfield 7, 3) := by decide +kernel
theorem dX6_goesOn_9 : decode cX6_goesOn 9 = .ok (.bipush 7, 2) := by decide +kernel
theorem dX6_goesOn_11 : decode cX6_goesOn 11 = .ok (.iaload, 1) := by decide +kernel
theorem dX6_goesOn_12 : decode cX6_goesOn 12 = .ok (.if_icmp .ge 107, 3) := by decide +kernel
theorem dX6_goesOn_15 : decode cX6_goesOn 15 = .ok (.aload_n 0, 1) := by decide +kernel
theorem dX6_goesOn_16 : decode cX6_goesOn 16 = .ok (.iload_n 2, 1) := by decide +kernel
theorem dX6_goesOn_17 : decode cX6_goesOn 17 = .ok (.invokevirtual 101, 3) := by decide +kernel
theorem dX6_goesOn_20 : decode cX6_goesOn 20 = .ok (.ifCond .ne 6, 3) := by decide +kernel
theorem dX6_goesOn_23 : decode cX6_goesOn 23 = .ok (.goto 90, 3) := by decide +kernel
theorem dX6_goesOn_26 : decode cX6_goesOn 26 = .ok (.aload_n 0, 1) := by decide +kernel
theorem dX6_goesOn_27 : decode cX6_goesOn 27 = .ok (.iload_n 2, 1) := by decide +kernel
theorem dX6_goesOn_28 : decode cX6_goesOn 28 = .ok (.invokevirtual 81, 3) := by decide +kernel
theorem dX6_goesOn_31 : decode cX6_goesOn 31 = .ok (.istore_n 3, 1) := by decide +kernel
theorem dX6_goesOn_32 : decode cX6_goesOn 32 = .ok (.iload_n 3, 1) := by decide +kernel
theorem dX6_goesOn_33 : decode cX6_goesOn 33 = .ok (.ifCond .ge 7, 3) := by decide +kernel
theorem dX6_goesOn_36 : decode cX6_goesOn 36 = .ok (.iconst 1, 1) := by decide +kernel
theorem dX6_goesOn_37 : decode cX6_goesOn 37 = .ok (.goto 8, 3) := by decide +kernel
theorem dX6_goesOn_40 : decode cX6_goesOn 40 = .ok (.aload_n 0, 1) := by decide +kernel
theorem dX6_goesOn_41 : decode cX6_goesOn 41 = .ok (.iload_n 3, 1) := by decide +kernel
theorem dX6_goesOn_42 : decode cX6_goesOn 42 = .ok (.invokevirtual 125, 3) := by decide +kernel
theorem dX6_goesOn_45 : decode cX6_goesOn 45 = .ok (.istore 4, 2) := by decide +kernel
theorem dX6_goesOn_47 : decode cX6_goesOn 47 = .ok (.iload 4, 2) := by decide +kernel
theorem dX6_goesOn_49 : decode cX6_goesOn 49 = .ok (.ifCond .ne 14, 3) := by decide +kernel
theorem dX6_goesOn_52 : decode cX6_goesOn 52 = .ok (.aload_n 0, 1) := by decide +kernel
theorem dX6_goesOn_53 : decode cX6_goesOn 53 = .ok (.iload_n 2, 1) := by decide +kernel
theorem dX6_goesOn_54 : decode cX6_goesOn 54 = .ok (.invokevirtual 128, 3) := by decide +kernel
theorem dX6_goesOn_57 : decode cX6_goesOn 57 = .ok (.iinc 1 1, 3) := by decide +kernel
theorem dX6_goesOn_60 : decode cX6_goesOn 60 = .ok (.goto 53, 3) := by decide +kernel
theorem dX6_goesOn_63 : decode cX6_goesOn 63 = .ok (.aload_n 0, 1) := by decide +kernel
theorem dX6_goesOn_64 : decode cX6_goesOn 64 = .ok (.iload_n 2, 1) := by decide +kernel
theorem dX6_goesOn_65 : decode cX6_goesOn 65 = .ok (.iload 4, 2) := by decide +kernel
theorem dX6_goesOn_67 : decode cX6_goesOn 67 = .ok (.invokevirtual 131, 3) := by decide +kernel
theorem dX6_goesOn_70 : decode cX6_goesOn 70 = .ok (.aload_n 0, 1) := by decide +kernel
theorem dX6_goesOn_71 : decode cX6_goesOn 71 = .ok (.getfield 7, 3) := by decide +kernel
theorem dX6_goesOn_74 : decode cX6_goesOn 74 = .ok (.bipush 11, 2) := by decide +kernel
theorem dX6_goesOn_76 : decode cX6_goesOn 76 = .ok (.dup2, 1) := by decide +kernel
theorem dX6_goesOn_77 : decode cX6_goesOn 77 = .ok (.iaload, 1) := by decide +kernel
theorem dX6_goesOn_78 : decode cX6_goesOn 78 = .ok (.iload 4, 2) := by decide +kernel
theorem dX6_goesOn_80 : decode cX6_goesOn 80 = .ok (.iconst 1, 1) := by decide +kernel
theorem dX6_goesOn_81 : decode cX6_goesOn 81 = .ok (.if_icmp .le 7, 3) := by decide +kernel
theorem dX6_goesOn_84 : decode cX6_goesOn 84 = .ok (.iconst 1, 1) := by decide +kernel
theorem dX6_goesOn_85 : decode cX6_goesOn 85 = .ok (.goto 4, 3) := by decide +kernel
theorem dX6_goesOn_88 : decode cX6_goesOn 88 = .ok (.iconst 0, 1) := by decide +kernel
theorem dX6_goesOn_89 : decode cX6_goesOn 89 = .ok (.iadd, 1) := by decide +kernel
theorem dX6_goesOn_90 : decode cX6_goesOn 90 = .ok (.iastore, 1) := by decide +kernel
theorem dX6_goesOn_91 : decode cX6_goesOn 91 = .ok (.iload 4, 2) := by decide +kernel
theorem dX6_goesOn_93 : decode cX6_goesOn 93 = .ok (.iconst 3, 1) := by decide +kernel
theorem dX6_goesOn_94 : decode cX6_goesOn 94 = .ok (.if_icmp .ne 19, 3) := by decide +kernel
theorem dX6_goesOn_97 : decode cX6_goesOn 97 = .ok (.aload_n 0, 1) := by decide +kernel
theorem dX6_goesOn_98 : decode cX6_goesOn 98 = .ok (.iload_n 3, 1) := by decide +kernel
theorem dX6_goesOn_99 : decode cX6_goesOn 99 = .ok (.bipush 7, 2) := by decide +kernel
theorem dX6_goesOn_101 : decode cX6_goesOn 101 = .ok (.aload_n 0, 1) := by decide +kernel
theorem dX6_goesOn_102 : decode cX6_goesOn 102 = .ok (.iload_n 3, 1) := by decide +kernel
theorem dX6_goesOn_103 : decode cX6_goesOn 103 = .ok (.bipush 7, 2) := by decide +kernel
theorem dX6_goesOn_105 : decode cX6_goesOn 105 = .ok (.invokevirtual 48, 3) := by decide +kernel
theorem dX6_goesOn_108 : decode cX6_goesOn 108 = .ok (.iconst 1, 1) := by decide +kernel
theorem dX6_goesOn_109 : decode cX6_goesOn 109 = .ok (.iadd, 1) := by decide +kernel
theorem dX6_goesOn_110 : decode cX6_goesOn 110 = .ok (.invokevirtual 44, 3) := by decide +kernel
theorem dX6_goesOn_113 : decode cX6_goesOn 113 = .ok (.iinc 2 1, 3) := by decide +kernel
theorem dX6_goesOn_116 : decode cX6_goesOn 116 = .ok (.goto (-112), 3) := by decide +kernel
theorem dX6_goesOn_119 : decode cX6_goesOn 119 = .ok (.aload_n 0, 1) := by decide +kernel
theorem dX6_goesOn_120 : decode cX6_goesOn 120 = .ok (.getfield 7, 3) := by decide +kernel
theorem dX6_goesOn_123 : decode cX6_goesOn 123 = .ok (.iconst 0, 1) := by decide +kernel
theorem dX6_goesOn_124 : decode cX6_goesOn 124 = .ok (.dup2, 1) := by decide +kernel
theorem dX6_goesOn_125 : decode cX6_goesOn 125 = .ok (.iaload, 1) := by decide +kernel
theorem dX6_goesOn_126 : decode cX6_goesOn 126 = .ok (.iconst 1, 1) := by decide +kernel
theorem dX6_goesOn_127 : decode cX6_goesOn 127 = .ok (.iadd, 1) := by decide +kernel
theorem dX6_goesOn_128 : decode cX6_goesOn 128 = .ok (.iastore, 1) := by decide +kernel
theorem dX6_goesOn_129 : decode cX6_goesOn 129 = .ok (.iconst 0, 1) := by decide +kernel
theorem dX6_goesOn_130 : decode cX6_goesOn 130 = .ok (.istore_n 2, 1) := by decide +kernel
theorem dX6_goesOn_131 : decode cX6_goesOn 131 = .ok (.iload_n 2, 1) := by decide +kernel
theorem dX6_goesOn_132 : decode cX6_goesOn 132 = .ok (.aload_n 0, 1) := by decide +kernel
theorem dX6_goesOn_133 : decode cX6_goesOn 133 = .ok (.getfield 7, 3) := by decide +kernel
theorem dX6_goesOn_136 : decode cX6_goesOn 136 = .ok (.bipush 7, 2) := by decide +kernel
theorem dX6_goesOn_138 : decode cX6_goesOn 138 = .ok (.iaload, 1) := by decide +kernel
theorem dX6_goesOn_139 : decode cX6_goesOn 139 = .ok (.if_icmp .ge 37, 3) := by decide +kernel
theorem dX6_goesOn_142 : decode cX6_goesOn 142 = .ok (.aload_n 0, 1) := by decide +kernel
theorem dX6_goesOn_143 : decode cX6_goesOn 143 = .ok (.iload_n 2, 1) := by decide +kernel
theorem dX6_goesOn_144 : decode cX6_goesOn 144 = .ok (.iconst 3, 1) := by decide +kernel
theorem dX6_goesOn_145 : decode cX6_goesOn 145 = .ok (.invokevirtual 78, 3) := by decide +kernel
theorem dX6_goesOn_148 : decode cX6_goesOn 148 = .ok (.aload_n 0, 1) := by decide +kernel
theorem dX6_goesOn_149 : decode cX6_goesOn 149 = .ok (.getfield 7, 3) := by decide +kernel
theorem dX6_goesOn_152 : decode cX6_goesOn 152 = .ok (.iconst 0, 1) := by decide +kernel
theorem dX6_goesOn_153 : decode cX6_goesOn 153 = .ok (.iaload, 1) := by decide +kernel
theorem dX6_goesOn_154 : decode cX6_goesOn 154 = .ok (.if_icmp .ne 16, 3) := by decide +kernel
theorem dX6_goesOn_157 : decode cX6_goesOn 157 = .ok (.aload_n 0, 1) := by decide +kernel
theorem dX6_goesOn_158 : decode cX6_goesOn 158 = .ok (.iload_n 2, 1) := by decide +kernel
theorem dX6_goesOn_159 : decode cX6_goesOn 159 = .ok (.invokevirtual 81, 3) := by decide +kernel
theorem dX6_goesOn_162 : decode cX6_goesOn 162 = .ok (.ifCond .lt 8, 3) := by decide +kernel
theorem dX6_goesOn_165 : decode cX6_goesOn 165 = .ok (.aload_n 0, 1) := by decide +kernel
theorem dX6_goesOn_166 : decode cX6_goesOn 166 = .ok (.iload_n 2, 1) := by decide +kernel
theorem dX6_goesOn_167 : decode cX6_goesOn 167 = .ok (.invokevirtual 97, 3) := by decide +kernel
theorem dX6_goesOn_170 : decode cX6_goesOn 170 = .ok (.iinc 2 1, 3) := by decide +kernel
theorem dX6_goesOn_173 : decode cX6_goesOn 173 = .ok (.goto (-42), 3) := by decide +kernel
theorem dX6_goesOn_176 : decode cX6_goesOn 176 = .ok (.iload_n 1, 1) := by decide +kernel
theorem dX6_goesOn_177 : decode cX6_goesOn 177 = .ok (.ireturn, 1) := by decide +kernel
theorem dX6_goesOnFor_0 : decode cX6_goesOnFor 0 = .ok (.iconst 0, 1) := by decide +kernel
theorem dX6_goesOnFor_1 : decode cX6_goesOnFor 1 = .ok (.istore_n 2, 1) := by decide +kernel
theorem dX6_goesOnFor_2 : decode cX6_goesOnFor 2 = .ok (.iconst 0, 1) := by decide +kernel
theorem dX6_goesOnFor_3 : decode cX6_goesOnFor 3 = .ok (.istore_n 3, 1) := by decide +kernel
theorem dX6_goesOnFor_4 : decode cX6_goesOnFor 4 = .ok (.iload_n 3, 1) := by decide +kernel
theorem dX6_goesOnFor_5 : decode cX6_goesOnFor 5 = .ok (.iload_n 1, 1) := by decide +kernel
theorem dX6_goesOnFor_6 : decode cX6_goesOnFor 6 = .ok (.if_icmp .ge 16, 3) := by decide +kernel
theorem dX6_goesOnFor_9 : decode cX6_goesOnFor 9 = .ok (.iload_n 2, 1) := by decide +kernel
theorem dX6_goesOnFor_10 : decode cX6_goesOnFor 10 = .ok (.aload_n 0, 1) := by decide +kernel
theorem dX6_goesOnFor_11 : decode cX6_goesOnFor 11 = .ok (.invokevirtual 134, 3) := by decide +kernel
theorem dX6_goesOnFor_14 : decode cX6_goesOnFor 14 = .ok (.iadd, 1) := by decide +kernel
theorem dX6_goesOnFor_15 : decode cX6_goesOnFor 15 = .ok (.istore_n 2, 1) := by decide +kernel
theorem dX6_goesOnFor_16 : decode cX6_goesOnFor 16 = .ok (.iinc 3 1, 3) := by decide +kernel
theorem dX6_goesOnFor_19 : decode cX6_goesOnFor 19 = .ok (.goto (-15), 3) := by decide +kernel
theorem dX6_goesOnFor_22 : decode cX6_goesOnFor 22 = .ok (.iload_n 2, 1) := by decide +kernel
theorem dX6_goesOnFor_23 : decode cX6_goesOnFor 23 = .ok (.ireturn, 1) := by decide +kernel
theorem dX6_pass_0 : decode cX6_pass 0 = .ok (.iload_n 1, 1) := by decide +kernel
theorem dX6_pass_1 : decode cX6_pass 1 = .ok (.iconst 1, 1) := by decide +kernel
theorem dX6_pass_2 : decode cX6_pass 2 = .ok (.bipush 24, 2) := by decide +kernel
theorem dX6_pass_4 : decode cX6_pass 4 = .ok (.invokestatic 36, 3) := by decide +kernel
theorem dX6_pass_7 : decode cX6_pass 7 = .ok (.ifCond .ne 6, 3) := by decide +kernel
theorem dX6_pass_10 : decode cX6_pass 10 = .ok (.bipush (-2), 2) := by decide +kernel
theorem dX6_pass_12 : decode cX6_pass 12 = .ok (.ireturn, 1) := by decide +kernel
theorem dX6_pass_13 : decode cX6_pass 13 = .ok (.aload_n 0, 1) := by decide +kernel
theorem dX6_pass_14 : decode cX6_pass 14 = .ok (.getfield 7, 3) := by decide +kernel
theorem dX6_pass_17 : decode cX6_pass 17 = .ok (.iconst 0, 1) := by decide +kernel
theorem dX6_pass_18 : decode cX6_pass 18 = .ok (.iaload, 1) := by decide +kernel
theorem dX6_pass_19 : decode cX6_pass 19 = .ok (.iload_n 1, 1) := by decide +kernel
theorem dX6_pass_20 : decode cX6_pass 20 = .ok (.iadd, 1) := by decide +kernel
theorem dX6_pass_21 : decode cX6_pass 21 = .ok (.sipush 999, 3) := by decide +kernel
theorem dX6_pass_24 : decode cX6_pass 24 = .ok (.if_icmp .le 6, 3) := by decide +kernel
theorem dX6_pass_27 : decode cX6_pass 27 = .ok (.bipush (-4), 2) := by decide +kernel
theorem dX6_pass_29 : decode cX6_pass 29 = .ok (.ireturn, 1) := by decide +kernel
theorem dX6_pass_30 : decode cX6_pass 30 = .ok (.aload_n 0, 1) := by decide +kernel
theorem dX6_pass_31 : decode cX6_pass 31 = .ok (.invokevirtual 41, 3) := by decide +kernel
theorem dX6_pass_34 : decode cX6_pass 34 = .ok (.aload_n 0, 1) := by decide +kernel
theorem dX6_pass_35 : decode cX6_pass 35 = .ok (.iload_n 1, 1) := by decide +kernel
theorem dX6_pass_36 : decode cX6_pass 36 = .ok (.invokevirtual 137, 3) := by decide +kernel
theorem dX6_pass_39 : decode cX6_pass 39 = .ok (.ireturn, 1) := by decide +kernel
theorem dX6_type_0 : decode cX6_type 0 = .ok (.aload_n 0, 1) := by decide +kernel
theorem dX6_type_1 : decode cX6_type 1 = .ok (.getfield 140, 3) := by decide +kernel
theorem dX6_type_4 : decode cX6_type 4 = .ok (.bipush 60, 2) := by decide +kernel
theorem dX6_type_6 : decode cX6_type 6 = .ok (.if_icmp .ne 6, 3) := by decide +kernel
theorem dX6_type_9 : decode cX6_type 9 = .ok (.bipush (-3), 2) := by decide +kernel
theorem dX6_type_11 : decode cX6_type 11 = .ok (.ireturn, 1) := by decide +kernel
theorem dX6_type_12 : decode cX6_type 12 = .ok (.aload_n 0, 1) := by decide +kernel
theorem dX6_type_13 : decode cX6_type 13 = .ok (.getfield 25, 3) := by decide +kernel
theorem dX6_type_16 : decode cX6_type 16 = .ok (.aload_n 0, 1) := by decide +kernel
theorem dX6_type_17 : decode cX6_type 17 = .ok (.getfield 140, 3) := by decide +kernel
theorem dX6_type_20 : decode cX6_type 20 = .ok (.iload_n 1, 1) := by decide +kernel
theorem dX6_type_21 : decode cX6_type 21 = .ok (.castore, 1) := by decide +kernel
theorem dX6_type_22 : decode cX6_type 22 = .ok (.aload_n 0, 1) := by decide +kernel
theorem dX6_type_23 : decode cX6_type 23 = .ok (.dup, 1) := by decide +kernel
theorem dX6_type_24 : decode cX6_type 24 = .ok (.getfield 140, 3) := by decide +kernel
theorem dX6_type_27 : decode cX6_type 27 = .ok (.iconst 1, 1) := by decide +kernel
theorem dX6_type_28 : decode cX6_type 28 = .ok (.iadd, 1) := by decide +kernel
theorem dX6_type_29 : decode cX6_type 29 = .ok (.putfield 140, 3) := by decide +kernel
theorem dX6_type_32 : decode cX6_type 32 = .ok (.aload_n 0, 1) := by decide +kernel
theorem dX6_type_33 : decode cX6_type 33 = .ok (.getfield 140, 3) := by decide +kernel
theorem dX6_type_36 : decode cX6_type 36 = .ok (.ireturn, 1) := by decide +kernel
theorem dX6_clearText_0 : decode cX6_clearText 0 = .ok (.aload_n 0, 1) := by decide +kernel
theorem dX6_clearText_1 : decode cX6_clearText 1 = .ok (.getfield 140, 3) := by decide +kernel
theorem dX6_clearText_4 : decode cX6_clearText 4 = .ok (.istore_n 1, 1) := by decide +kernel
theorem dX6_clearText_5 : decode cX6_clearText 5 = .ok (.aload_n 0, 1) := by decide +kernel
theorem dX6_clearText_6 : decode cX6_clearText 6 = .ok (.iconst 0, 1) := by decide +kernel
theorem dX6_clearText_7 : decode cX6_clearText 7 = .ok (.putfield 140, 3) := by decide +kernel
theorem dX6_clearText_10 : decode cX6_clearText 10 = .ok (.iload_n 1, 1) := by decide +kernel
theorem dX6_clearText_11 : decode cX6_clearText 11 = .ok (.ireturn, 1) := by decide +kernel
theorem dX6_takes_0 : decode cX6_takes 0 = .ok (.aload_n 0, 1) := by decide +kernel
theorem dX6_takes_1 : decode cX6_takes 1 = .ok (.getfield 143, 3) := by decide +kernel
theorem dX6_takes_4 : decode cX6_takes 4 = .ok (.aload_n 0, 1) := by decide +kernel
theorem dX6_takes_5 : decode cX6_takes 5 = .ok (.getfield 140, 3) := by decide +kernel
theorem dX6_takes_8 : decode cX6_takes 8 = .ok (.if_icmp .ge 16, 3) := by decide +kernel
theorem dX6_takes_11 : decode cX6_takes 11 = .ok (.aload_n 0, 1) := by decide +kernel
theorem dX6_takes_12 : decode cX6_takes 12 = .ok (.getfield 25, 3) := by decide +kernel
theorem dX6_takes_15 : decode cX6_takes 15 = .ok (.aload_n 0, 1) := by decide +kernel
theorem dX6_takes_16 : decode cX6_takes 16 = .ok (.getfield 143, 3) := by decide +kernel
theorem dX6_takes_19 : decode cX6_takes 19 = .ok (.caload, 1) := by decide +kernel
theorem dX6_takes_20 : decode cX6_takes 20 = .ok (.iload_n 1, 1) := by decide +kernel
theorem dX6_takes_21 : decode cX6_takes 21 = .ok (.if_icmp .eq 5, 3) := by decide +kernel
theorem dX6_takes_24 : decode cX6_takes 24 = .ok (.iconst 0, 1) := by decide +kernel
theorem dX6_takes_25 : decode cX6_takes 25 = .ok (.ireturn, 1) := by decide +kernel
theorem dX6_takes_26 : decode cX6_takes 26 = .ok (.aload_n 0, 1) := by decide +kernel
theorem dX6_takes_27 : decode cX6_takes 27 = .ok (.dup, 1) := by decide +kernel
theorem dX6_takes_28 : decode cX6_takes 28 = .ok (.getfield 143, 3) := by decide +kernel
theorem dX6_takes_31 : decode cX6_takes 31 = .ok (.iconst 1, 1) := by decide +kernel
theorem dX6_takes_32 : decode cX6_takes 32 = .ok (.iadd, 1) := by decide +kernel
theorem dX6_takes_33 : decode cX6_takes 33 = .ok (.putfield 143, 3) := by decide +kernel
theorem dX6_takes_36 : decode cX6_takes 36 = .ok (.iconst 1, 1) := by decide +kernel
theorem dX6_takes_37 : decode cX6_takes 37 = .ok (.ireturn, 1) := by decide +kernel
theorem dX6_number_0 : decode cX6_number 0 = .ok (.aload_n 0, 1) := by decide +kernel
theorem dX6_number_1 : decode cX6_number 1 = .ok (.getfield 143, 3) := by decide +kernel
theorem dX6_number_4 : decode cX6_number 4 = .ok (.aload_n 0, 1) := by decide +kernel
theorem dX6_number_5 : decode cX6_number 5 = .ok (.getfield 140, 3) := by decide +kernel
theorem dX6_number_8 : decode cX6_number 8 = .ok (.if_icmp .ge 24, 3) := by decide +kernel
theorem dX6_number_11 : decode cX6_number 11 = .ok (.aload_n 0, 1) := by decide +kernel
theorem dX6_number_12 : decode cX6_number 12 = .ok (.getfield 25, 3) := by decide +kernel
theorem dX6_number_15 : decode cX6_number 15 = .ok (.aload_n 0, 1) := by decide +kernel
theorem dX6_number_16 : decode cX6_number 16 = .ok (.getfield 143, 3) := by decide +kernel
theorem dX6_number_19 : decode cX6_number 19 = .ok (.caload, 1) := by decide +kernel
theorem dX6_number_20 : decode cX6_number 20 = .ok (.bipush 48, 2) := by decide +kernel
theorem dX6_number_22 : decode cX6_number 22 = .ok (.iload_n 2, 1) := by decide +kernel
theorem dX6_number_23 : decode cX6_number 23 = .ok (.iadd, 1) := by decide +kernel
theorem dX6_number_24 : decode cX6_number 24 = .ok (.bipush 57, 2) := by decide +kernel
theorem dX6_number_26 : decode cX6_number 26 = .ok (.invokestatic 36, 3) := by decide +kernel
theorem dX6_number_29 : decode cX6_number 29 = .ok (.ifCond .ne 6, 3) := by decide +kernel
theorem dX6_number_32 : decode cX6_number 32 = .ok (.bipush (-5), 2) := by decide +kernel
theorem dX6_number_34 : decode cX6_number 34 = .ok (.ireturn, 1) := by decide +kernel
theorem dX6_number_35 : decode cX6_number 35 = .ok (.aload_n 0, 1) := by decide +kernel
theorem dX6_number_36 : decode cX6_number 36 = .ok (.getfield 25, 3) := by decide +kernel
theorem dX6_number_39 : decode cX6_number 39 = .ok (.aload_n 0, 1) := by decide +kernel
theorem dX6_number_40 : decode cX6_number 40 = .ok (.getfield 143, 3) := by decide +kernel
theorem dX6_number_43 : decode cX6_number 43 = .ok (.caload, 1) := by decide +kernel
theorem dX6_number_44 : decode cX6_number 44 = .ok (.bipush 48, 2) := by decide +kernel
theorem dX6_number_46 : decode cX6_number 46 = .ok (.isub, 1) := by decide +kernel
theorem dX6_number_47 : decode cX6_number 47 = .ok (.istore_n 3, 1) := by decide +kernel
theorem dX6_number_48 : decode cX6_number 48 = .ok (.aload_n 0, 1) := by decide +kernel
theorem dX6_number_49 : decode cX6_number 49 = .ok (.dup, 1) := by decide +kernel
theorem dX6_number_50 : decode cX6_number 50 = .ok (.getfield 143, 3) := by decide +kernel
theorem dX6_number_53 : decode cX6_number 53 = .ok (.iconst 1, 1) := by decide +kernel
theorem dX6_number_54 : decode cX6_number 54 = .ok (.iadd, 1) := by decide +kernel
theorem dX6_number_55 : decode cX6_number 55 = .ok (.putfield 143, 3) := by decide +kernel
theorem dX6_number_58 : decode cX6_number 58 = .ok (.iconst 1, 1) := by decide +kernel
theorem dX6_number_59 : decode cX6_number 59 = .ok (.istore 4, 2) := by decide +kernel
theorem dX6_number_61 : decode cX6_number 61 = .ok (.iload 4, 2) := by decide +kernel
theorem dX6_number_63 : decode cX6_number 63 = .ok (.iload_n 1, 1) := by decide +kernel
theorem dX6_number_64 : decode cX6_number 64 = .ok (.if_icmp .ge 71, 3) := by decide +kernel
theorem dX6_number_67 : decode cX6_number 67 = .ok (.iload_n 3, 1) := by decide +kernel
theorem dX6_number_68 : decode cX6_number 68 = .ok (.ifCond .le 67, 3) := by decide +kernel
theorem dX6_number_71 : decode cX6_number 71 = .ok (.aload_n 0, 1) := by decide +kernel
theorem dX6_number_72 : decode cX6_number 72 = .ok (.getfield 143, 3) := by decide +kernel
theorem dX6_number_75 : decode cX6_number 75 = .ok (.aload_n 0, 1) := by decide +kernel
theorem dX6_number_76 : decode cX6_number 76 = .ok (.getfield 140, 3) := by decide +kernel
theorem dX6_number_79 : decode cX6_number 79 = .ok (.if_icmp .ge 56, 3) := by decide +kernel
theorem dX6_number_82 : decode cX6_number 82 = .ok (.aload_n 0, 1) := by decide +kernel
theorem dX6_number_83 : decode cX6_number 83 = .ok (.getfield 25, 3) := by decide +kernel
theorem dX6_number_86 : decode cX6_number 86 = .ok (.aload_n 0, 1) := by decide +kernel
theorem dX6_number_87 : decode cX6_number 87 = .ok (.getfield 143, 3) := by decide +kernel
theorem dX6_number_90 : decode cX6_number 90 = .ok (.caload, 1) := by decide +kernel
theorem dX6_number_91 : decode cX6_number 91 = .ok (.bipush 48, 2) := by decide +kernel
theorem dX6_number_93 : decode cX6_number 93 = .ok (.bipush 57, 2) := by decide +kernel
theorem dX6_number_95 : decode cX6_number 95 = .ok (.invokestatic 36, 3) := by decide +kernel
theorem dX6_number_98 : decode cX6_number 98 = .ok (.ifCond .eq 37, 3) := by decide +kernel
theorem dX6_number_101 : decode cX6_number 101 = .ok (.bipush 10, 2) := by decide +kernel
theorem dX6_number_103 : decode cX6_number 103 = .ok (.iload_n 3, 1) := by decide +kernel
theorem dX6_number_104 : decode cX6_number 104 = .ok (.imul, 1) := by decide +kernel
theorem dX6_number_105 : decode cX6_number 105 = .ok (.aload_n 0, 1) := by decide +kernel
theorem dX6_number_106 : decode cX6_number 106 = .ok (.getfield 25, 3) := by decide +kernel
theorem dX6_number_109 : decode cX6_number 109 = .ok (.aload_n 0, 1) := by decide +kernel
theorem dX6_number_110 : decode cX6_number 110 = .ok (.getfield 143, 3) := by decide +kernel
theorem dX6_number_113 : decode cX6_number 113 = .ok (.caload, 1) := by decide +kernel
theorem dX6_number_114 : decode cX6_number 114 = .ok (.iadd, 1) := by decide +kernel
theorem dX6_number_115 : decode cX6_number 115 = .ok (.bipush 48, 2) := by decide +kernel
theorem dX6_number_117 : decode cX6_number 117 = .ok (.isub, 1) := by decide +kernel
theorem dX6_number_118 : decode cX6_number 118 = .ok (.istore_n 3, 1) := by decide +kernel
theorem dX6_number_119 : decode cX6_number 119 = .ok (.aload_n 0, 1) := by decide +kernel
theorem dX6_number_120 : decode cX6_number 120 = .ok (.dup, 1) := by decide +kernel
theorem dX6_number_121 : decode cX6_number 121 = .ok (.getfield 143, 3) := by decide +kernel
theorem dX6_number_124 : decode cX6_number 124 = .ok (.iconst 1, 1) := by decide +kernel
theorem dX6_number_125 : decode cX6_number 125 = .ok (.iadd, 1) := by decide +kernel
theorem dX6_number_126 : decode cX6_number 126 = .ok (.putfield 143, 3) := by decide +kernel
theorem dX6_number_129 : decode cX6_number 129 = .ok (.iinc 4 1, 3) := by decide +kernel
theorem dX6_number_132 : decode cX6_number 132 = .ok (.goto (-71), 3) := by decide +kernel
theorem dX6_number_135 : decode cX6_number 135 = .ok (.iload_n 3, 1) := by decide +kernel
theorem dX6_number_136 : decode cX6_number 136 = .ok (.ireturn, 1) := by decide +kernel
theorem dX6_readsSite_0 : decode cX6_readsSite 0 = .ok (.iconst 4, 1) := by decide +kernel
theorem dX6_readsSite_1 : decode cX6_readsSite 1 = .ok (.aload_n 0, 1) := by decide +kernel
theorem dX6_readsSite_2 : decode cX6_readsSite 2 = .ok (.getfield 146, 3) := by decide +kernel
theorem dX6_readsSite_5 : decode cX6_readsSite 5 = .ok (.imul, 1) := by decide +kernel
theorem dX6_readsSite_6 : decode cX6_readsSite 6 = .ok (.istore_n 1, 1) := by decide +kernel
theorem dX6_readsSite_7 : decode cX6_readsSite 7 = .ok (.iconst 0, 1) := by decide +kernel
theorem dX6_readsSite_8 : decode cX6_readsSite 8 = .ok (.istore_n 2, 1) := by decide +kernel
theorem dX6_readsSite_9 : decode cX6_readsSite 9 = .ok (.iload_n 2, 1) := by decide +kernel
theorem dX6_readsSite_10 : decode cX6_readsSite 10 = .ok (.iconst 4, 1) := by decide +kernel
theorem dX6_readsSite_11 : decode cX6_readsSite 11 = .ok (.if_icmp .ge 97, 3) := by decide +kernel
theorem dX6_readsSite_14 : decode cX6_readsSite 14 = .ok (.aload_n 0, 1) := by decide +kernel
theorem dX6_readsSite_15 : decode cX6_readsSite 15 = .ok (.getfield 29, 3) := by decide +kernel
theorem dX6_readsSite_18 : decode cX6_readsSite 18 = .ok (.iload_n 1, 1) := by decide +kernel
theorem dX6_readsSite_19 : decode cX6_readsSite 19 = .ok (.iload_n 2, 1) := by decide +kernel
theorem dX6_readsSite_20 : decode cX6_readsSite 20 = .ok (.iadd, 1) := by decide +kernel
theorem dX6_readsSite_21 : decode cX6_readsSite 21 = .ok (.aload_n 0, 1) := by decide +kernel
theorem dX6_readsSite_22 : decode cX6_readsSite 22 = .ok (.iload_n 2, 1) := by decide +kernel
theorem dX6_readsSite_23 : decode cX6_readsSite 23 = .ok (.ifCond .ne 7, 3) := by decide +kernel
theorem dX6_readsSite_26 : decode cX6_readsSite 26 = .ok (.iconst 1, 1) := by decide +kernel
theorem dX6_readsSite_27 : decode cX6_readsSite 27 = .ok (.goto 13, 3) := by decide +kernel
theorem dX6_readsSite_30 : decode cX6_readsSite 30 = .ok (.iload_n 2, 1) := by decide +kernel
theorem dX6_readsSite_31 : decode cX6_readsSite 31 = .ok (.iconst 1, 1) := by decide +kernel
theorem dX6_readsSite_32 : decode cX6_readsSite 32 = .ok (.if_icmp .ne 7, 3) := by decide +kernel
theorem dX6_readsSite_35 : decode cX6_readsSite 35 = .ok (.iconst 2, 1) := by decide +kernel
theorem dX6_readsSite_36 : decode cX6_readsSite 36 = .ok (.goto 4, 3) := by decide +kernel
theorem dX6_readsSite_39 : decode cX6_readsSite 39 = .ok (.iconst 3, 1) := by decide +kernel
theorem dX6_readsSite_40 : decode cX6_readsSite 40 = .ok (.iload_n 2, 1) := by decide +kernel
theorem dX6_readsSite_41 : decode cX6_readsSite 41 = .ok (.iconst 2, 1) := by decide +kernel
theorem dX6_readsSite_42 : decode cX6_readsSite 42 = .ok (.if_icmp .ge 7, 3) := by decide +kernel
theorem dX6_readsSite_45 : decode cX6_readsSite 45 = .ok (.iconst 1, 1) := by decide +kernel
theorem dX6_readsSite_46 : decode cX6_readsSite 46 = .ok (.goto 4, 3) := by decide +kernel
theorem dX6_readsSite_49 : decode cX6_readsSite 49 = .ok (.iconst 0, 1) := by decide +kernel
theorem dX6_readsSite_50 : decode cX6_readsSite 50 = .ok (.invokevirtual 149, 3) := by decide +kernel
theorem dX6_readsSite_53 : decode cX6_readsSite 53 = .ok (.iastore, 1) := by decide +kernel
theorem dX6_readsSite_54 : decode cX6_readsSite 54 = .ok (.aload_n 0, 1) := by decide +kernel
theorem dX6_readsSite_55 : decode cX6_readsSite 55 = .ok (.getfield 29, 3) := by decide +kernel
theorem dX6_readsSite_58 : decode cX6_readsSite 58 = .ok (.iload_n 1, 1) := by decide +kernel
theorem dX6_readsSite_59 : decode cX6_readsSite 59 = .ok (.iload_n 2, 1) := by decide +kernel
theorem dX6_readsSite_60 : decode cX6_readsSite 60 = .ok (.iadd, 1) := by decide +kernel
theorem dX6_readsSite_61 : decode cX6_readsSite 61 = .ok (.iaload, 1) := by decide +kernel
theorem dX6_readsSite_62 : decode cX6_readsSite 62 = .ok (.bipush (-5), 2) := by decide +kernel
theorem dX6_readsSite_64 : decode cX6_readsSite 64 = .ok (.if_icmp .eq 36, 3) := by decide +kernel
theorem dX6_readsSite_67 : decode cX6_readsSite 67 = .ok (.iload_n 2, 1) := by decide +kernel
theorem dX6_readsSite_68 : decode cX6_readsSite 68 = .ok (.iconst 3, 1) := by decide +kernel
theorem dX6_readsSite_69 : decode cX6_readsSite 69 = .ok (.if_icmp .ge 33, 3) := by decide +kernel
theorem dX6_readsSite_72 : decode cX6_readsSite 72 = .ok (.aload_n 0, 1) := by decide +kernel
theorem dX6_readsSite_73 : decode cX6_readsSite 73 = .ok (.iload_n 2, 1) := by decide +kernel
theorem dX6_readsSite_74 : decode cX6_readsSite 74 = .ok (.ifCond .ne 8, 3) := by decide +kernel
theorem dX6_readsSite_77 : decode cX6_readsSite 77 = .ok (.bipush 42, 2) := by decide +kernel
theorem dX6_readsSite_79 : decode cX6_readsSite 79 = .ok (.goto 15, 3) := by decide +kernel
theorem dX6_readsSite_82 : decode cX6_readsSite 82 = .ok (.iload_n 2, 1) := by decide +kernel
theorem dX6_readsSite_83 : decode cX6_readsSite 83 = .ok (.iconst 1, 1) := by decide +kernel
theorem dX6_readsSite_84 : decode cX6_readsSite 84 = .ok (.if_icmp .ne 8, 3) := by decide +kernel
theorem dX6_readsSite_87 : decode cX6_readsSite 87 = .ok (.bipush 64, 2) := by decide +kernel
theorem dX6_readsSite_89 : decode cX6_readsSite 89 = .ok (.goto 5, 3) := by decide +kernel
theorem dX6_readsSite_92 : decode cX6_readsSite 92 = .ok (.bipush 45, 2) := by decide +kernel
theorem dX6_readsSite_94 : decode cX6_readsSite 94 = .ok (.invokevirtual 152, 3) := by decide +kernel
theorem dX6_readsSite_97 : decode cX6_readsSite 97 = .ok (.ifCond .ne 5, 3) := by decide +kernel
theorem dX6_readsSite_100 : decode cX6_readsSite 100 = .ok (.iconst 0, 1) := by decide +kernel
theorem dX6_readsSite_101 : decode cX6_readsSite 101 = .ok (.ireturn, 1) := by decide +kernel
theorem dX6_readsSite_102 : decode cX6_readsSite 102 = .ok (.iinc 2 1, 3) := by decide +kernel
theorem dX6_readsSite_105 : decode cX6_readsSite 105 = .ok (.goto (-96), 3) := by decide +kernel
theorem dX6_readsSite_108 : decode cX6_readsSite 108 = .ok (.aload_n 0, 1) := by decide +kernel
theorem dX6_readsSite_109 : decode cX6_readsSite 109 = .ok (.dup, 1) := by decide +kernel
theorem dX6_readsSite_110 : decode cX6_readsSite 110 = .ok (.getfield 146, 3) := by decide +kernel
theorem dX6_readsSite_113 : decode cX6_readsSite 113 = .ok (.iconst 1, 1) := by decide +kernel
theorem dX6_readsSite_114 : decode cX6_readsSite 114 = .ok (.iadd, 1) := by decide +kernel
theorem dX6_readsSite_115 : decode cX6_readsSite 115 = .ok (.putfield 146, 3) := by decide +kernel
theorem dX6_readsSite_118 : decode cX6_readsSite 118 = .ok (.aload_n 0, 1) := by decide +kernel
theorem dX6_readsSite_119 : decode cX6_readsSite 119 = .ok (.getfield 143, 3) := by decide +kernel
theorem dX6_readsSite_122 : decode cX6_readsSite 122 = .ok (.aload_n 0, 1) := by decide +kernel
theorem dX6_readsSite_123 : decode cX6_readsSite 123 = .ok (.getfield 140, 3) := by decide +kernel
theorem dX6_readsSite_126 : decode cX6_readsSite 126 = .ok (.if_icmp .eq 17, 3) := by decide +kernel
theorem dX6_readsSite_129 : decode cX6_readsSite 129 = .ok (.aload_n 0, 1) := by decide +kernel
theorem dX6_readsSite_130 : decode cX6_readsSite 130 = .ok (.getfield 25, 3) := by decide +kernel
theorem dX6_readsSite_133 : decode cX6_readsSite 133 = .ok (.aload_n 0, 1) := by decide +kernel
theorem dX6_readsSite_134 : decode cX6_readsSite 134 = .ok (.getfield 143, 3) := by decide +kernel
theorem dX6_readsSite_137 : decode cX6_readsSite 137 = .ok (.caload, 1) := by decide +kernel
theorem dX6_readsSite_138 : decode cX6_readsSite 138 = .ok (.bipush 59, 2) := by decide +kernel
theorem dX6_readsSite_140 : decode cX6_readsSite 140 = .ok (.if_icmp .ne 7, 3) := by decide +kernel
theorem dX6_readsSite_143 : decode cX6_readsSite 143 = .ok (.iconst 1, 1) := by decide +kernel
theorem dX6_readsSite_144 : decode cX6_readsSite 144 = .ok (.goto 4, 3) := by decide +kernel
theorem dX6_readsSite_147 : decode cX6_readsSite 147 = .ok (.iconst 0, 1) := by decide +kernel
theorem dX6_readsSite_148 : decode cX6_readsSite 148 = .ok (.ireturn, 1) := by decide +kernel
theorem dX6_readSites_0 : decode cX6_readSites 0 = .ok (.aload_n 0, 1) := by decide +kernel
theorem dX6_readSites_1 : decode cX6_readSites 1 = .ok (.iconst 0, 1) := by decide +kernel
theorem dX6_readSites_2 : decode cX6_readSites 2 = .ok (.putfield 143, 3) := by decide +kernel
theorem dX6_readSites_5 : decode cX6_readSites 5 = .ok (.aload_n 0, 1) := by decide +kernel
theorem dX6_readSites_6 : decode cX6_readSites 6 = .ok (.iconst 0, 1) := by decide +kernel
theorem dX6_readSites_7 : decode cX6_readSites 7 = .ok (.putfield 146, 3) := by decide +kernel
theorem dX6_readSites_10 : decode cX6_readSites 10 = .ok (.iconst 1, 1) := by decide +kernel
theorem dX6_readSites_11 : decode cX6_readSites 11 = .ok (.istore_n 1, 1) := by decide +kernel
theorem dX6_readSites_12 : decode cX6_readSites 12 = .ok (.iload_n 1, 1) := by decide +kernel
theorem dX6_readSites_13 : decode cX6_readSites 13 = .ok (.ifCond .eq 56, 3) := by decide +kernel
theorem dX6_readSites_16 : decode cX6_readSites 16 = .ok (.aload_n 0, 1) := by decide +kernel
theorem dX6_readSites_17 : decode cX6_readSites 17 = .ok (.invokevirtual 156, 3) := by decide +kernel
theorem dX6_readSites_20 : decode cX6_readSites 20 = .ok (.ifCond .ne 11, 3) := by decide +kernel
theorem dX6_readSites_23 : decode cX6_readSites 23 = .ok (.bipush (-100), 2) := by decide +kernel
theorem dX6_readSites_25 : decode cX6_readSites 25 = .ok (.aload_n 0, 1) := by decide +kernel
theorem dX6_readSites_26 : decode cX6_readSites 26 = .ok (.getfield 143, 3) := by decide +kernel
theorem dX6_readSites_29 : decode cX6_readSites 29 = .ok (.isub, 1) := by decide +kernel
theorem dX6_readSites_30 : decode cX6_readSites 30 = .ok (.ireturn, 1) := by decide +kernel
theorem dX6_readSites_31 : decode cX6_readSites 31 = .ok (.aload_n 0, 1) := by decide +kernel
theorem dX6_readSites_32 : decode cX6_readSites 32 = .ok (.getfield 143, 3) := by decide +kernel
theorem dX6_readSites_35 : decode cX6_readSites 35 = .ok (.aload_n 0, 1) := by decide +kernel
theorem dX6_readSites_36 : decode cX6_readSites 36 = .ok (.getfield 140, 3) := by decide +kernel
theorem dX6_readSites_39 : decode cX6_readSites 39 = .ok (.if_icmp .ge 7, 3) := by decide +kernel
theorem dX6_readSites_42 : decode cX6_readSites 42 = .ok (.iconst 1, 1) := by decide +kernel
theorem dX6_readSites_43 : decode cX6_readSites 43 = .ok (.goto 4, 3) := by decide +kernel
theorem dX6_readSites_46 : decode cX6_readSites 46 = .ok (.iconst 0, 1) := by decide +kernel
theorem dX6_readSites_47 : decode cX6_readSites 47 = .ok (.istore_n 1, 1) := by decide +kernel
theorem dX6_readSites_48 : decode cX6_readSites 48 = .ok (.aload_n 0, 1) := by decide +kernel
theorem dX6_readSites_49 : decode cX6_readSites 49 = .ok (.dup, 1) := by decide +kernel
theorem dX6_readSites_50 : decode cX6_readSites 50 = .ok (.getfield 143, 3) := by decide +kernel
theorem dX6_readSites_53 : decode cX6_readSites 53 = .ok (.iload_n 1, 1) := by decide +kernel
theorem dX6_readSites_54 : decode cX6_readSites 54 = .ok (.ifCond .eq 7, 3) := by decide +kernel
theorem dX6_readSites_57 : decode cX6_readSites 57 = .ok (.iconst 1, 1) := by decide +kernel
theorem dX6_readSites_58 : decode cX6_readSites 58 = .ok (.goto 4, 3) := by decide +kernel
theorem dX6_readSites_61 : decode cX6_readSites 61 = .ok (.iconst 0, 1) := by decide +kernel
theorem dX6_readSites_62 : decode cX6_readSites 62 = .ok (.iadd, 1) := by decide +kernel
theorem dX6_readSites_63 : decode cX6_readSites 63 = .ok (.putfield 143, 3) := by decide +kernel
theorem dX6_readSites_66 : decode cX6_readSites 66 = .ok (.goto (-54), 3) := by decide +kernel
theorem dX6_readSites_69 : decode cX6_readSites 69 = .ok (.iconst 0, 1) := by decide +kernel
theorem dX6_readSites_70 : decode cX6_readSites 70 = .ok (.istore_n 2, 1) := by decide +kernel
theorem dX6_readSites_71 : decode cX6_readSites 71 = .ok (.iload_n 2, 1) := by decide +kernel
theorem dX6_readSites_72 : decode cX6_readSites 72 = .ok (.aload_n 0, 1) := by decide +kernel
theorem dX6_readSites_73 : decode cX6_readSites 73 = .ok (.getfield 146, 3) := by decide +kernel
theorem dX6_readSites_76 : decode cX6_readSites 76 = .ok (.if_icmp .ge 39, 3) := by decide +kernel
theorem dX6_readSites_79 : decode cX6_readSites 79 = .ok (.aload_n 0, 1) := by decide +kernel
theorem dX6_readSites_80 : decode cX6_readSites 80 = .ok (.aload_n 0, 1) := by decide +kernel
theorem dX6_readSites_81 : decode cX6_readSites 81 = .ok (.getfield 29, 3) := by decide +kernel
theorem dX6_readSites_84 : decode cX6_readSites 84 = .ok (.iconst 4, 1) := by decide +kernel
theorem dX6_readSites_85 : decode cX6_readSites 85 = .ok (.iload_n 2, 1) := by decide +kernel
theorem dX6_readSites_86 : decode cX6_readSites 86 = .ok (.imul, 1) := by decide +kernel
theorem dX6_readSites_87 : decode cX6_readSites 87 = .ok (.iconst 2, 1) := by decide +kernel
theorem dX6_readSites_88 : decode cX6_readSites 88 = .ok (.iadd, 1) := by decide +kernel
theorem dX6_readSites_89 : decode cX6_readSites 89 = .ok (.iaload, 1) := by decide +kernel
theorem dX6_readSites_90 : decode cX6_readSites 90 = .ok (.aload_n 0, 1) := by decide +kernel
theorem dX6_readSites_91 : decode cX6_readSites 91 = .ok (.getfield 29, 3) := by decide +kernel
theorem dX6_readSites_94 : decode cX6_readSites 94 = .ok (.iconst 4, 1) := by decide +kernel
theorem dX6_readSites_95 : decode cX6_readSites 95 = .ok (.iload_n 2, 1) := by decide +kernel
theorem dX6_readSites_96 : decode cX6_readSites 96 = .ok (.imul, 1) := by decide +kernel
theorem dX6_readSites_97 : decode cX6_readSites 97 = .ok (.iconst 3, 1) := by decide +kernel
theorem dX6_readSites_98 : decode cX6_readSites 98 = .ok (.iadd, 1) := by decide +kernel
theorem dX6_readSites_99 : decode cX6_readSites 99 = .ok (.iaload, 1) := by decide +kernel
theorem dX6_readSites_100 : decode cX6_readSites 100 = .ok (.invokevirtual 70, 3) := by decide +kernel
theorem dX6_readSites_103 : decode cX6_readSites 103 = .ok (.ifCond .ne 6, 3) := by decide +kernel
theorem dX6_readSites_106 : decode cX6_readSites 106 = .ok (.bipush (-2), 2) := by decide +kernel
theorem dX6_readSites_108 : decode cX6_readSites 108 = .ok (.ireturn, 1) := by decide +kernel
theorem dX6_readSites_109 : decode cX6_readSites 109 = .ok (.iinc 2 1, 3) := by decide +kernel
theorem dX6_readSites_112 : decode cX6_readSites 112 = .ok (.goto (-41), 3) := by decide +kernel
theorem dX6_readSites_115 : decode cX6_readSites 115 = .ok (.aload_n 0, 1) := by decide +kernel
theorem dX6_readSites_116 : decode cX6_readSites 116 = .ok (.getfield 7, 3) := by decide +kernel
theorem dX6_readSites_119 : decode cX6_readSites 119 = .ok (.bipush 7, 2) := by decide +kernel
theorem dX6_readSites_121 : decode cX6_readSites 121 = .ok (.iaload, 1) := by decide +kernel
theorem dX6_readSites_122 : decode cX6_readSites 122 = .ok (.aload_n 0, 1) := by decide +kernel
theorem dX6_readSites_123 : decode cX6_readSites 123 = .ok (.getfield 146, 3) := by decide +kernel
theorem dX6_readSites_126 : decode cX6_readSites 126 = .ok (.iadd, 1) := by decide +kernel
theorem dX6_readSites_127 : decode cX6_readSites 127 = .ok (.bipush 12, 2) := by decide +kernel
theorem dX6_readSites_129 : decode cX6_readSites 129 = .ok (.if_icmp .le 6, 3) := by decide +kernel
theorem dX6_readSites_132 : decode cX6_readSites 132 = .ok (.bipush (-3), 2) := by decide +kernel
theorem dX6_readSites_134 : decode cX6_readSites 134 = .ok (.ireturn, 1) := by decide +kernel
theorem dX6_readSites_135 : decode cX6_readSites 135 = .ok (.aload_n 0, 1) := by decide +kernel
theorem dX6_readSites_136 : decode cX6_readSites 136 = .ok (.invokevirtual 41, 3) := by decide +kernel
theorem dX6_readSites_139 : decode cX6_readSites 139 = .ok (.iconst 0, 1) := by decide +kernel
theorem dX6_readSites_140 : decode cX6_readSites 140 = .ok (.istore_n 2, 1) := by decide +kernel
theorem dX6_readSites_141 : decode cX6_readSites 141 = .ok (.iload_n 2, 1) := by decide +kernel
theorem dX6_readSites_142 : decode cX6_readSites 142 = .ok (.aload_n 0, 1) := by decide +kernel
theorem dX6_readSites_143 : decode cX6_readSites 143 = .ok (.getfield 146, 3) := by decide +kernel
theorem dX6_readSites_146 : decode cX6_readSites 146 = .ok (.if_icmp .ge 52, 3) := by decide +kernel
theorem dX6_readSites_149 : decode cX6_readSites 149 = .ok (.aload_n 0, 1) := by decide +kernel
theorem dX6_readSites_150 : decode cX6_readSites 150 = .ok (.aload_n 0, 1) := by decide +kernel
theorem dX6_readSites_151 : decode cX6_readSites 151 = .ok (.getfield 29, 3) := by decide +kernel
theorem dX6_readSites_154 : decode cX6_readSites 154 = .ok (.iconst 4, 1) := by decide +kernel
theorem dX6_readSites_155 : decode cX6_readSites 155 = .ok (.iload_n 2, 1) := by decide +kernel
theorem dX6_readSites_156 : decode cX6_readSites 156 = .ok (.imul, 1) := by decide +kernel
theorem dX6_readSites_157 : decode cX6_readSites 157 = .ok (.iaload, 1) := by decide +kernel
theorem dX6_readSites_158 : decode cX6_readSites 158 = .ok (.aload_n 0, 1) := by decide +kernel
theorem dX6_readSites_159 : decode cX6_readSites 159 = .ok (.getfield 29, 3) := by decide +kernel
theorem dX6_readSites_162 : decode cX6_readSites 162 = .ok (.iconst 4, 1) := by decide +kernel
theorem dX6_readSites_163 : decode cX6_readSites 163 = .ok (.iload_n 2, 1) := by decide +kernel
theorem dX6_readSites_164 : decode cX6_readSites 164 = .ok (.imul, 1) := by decide +kernel
theorem dX6_readSites_165 : decode cX6_readSites 165 = .ok (.iconst 1, 1) := by decide +kernel
theorem dX6_readSites_166 : decode cX6_readSites 166 = .ok (.iadd, 1) := by decide +kernel
theorem dX6_readSites_167 : decode cX6_readSites 167 = .ok (.iaload, 1) := by decide +kernel
theorem dX6_readSites_168 : decode cX6_readSites 168 = .ok (.aload_n 0, 1) := by decide +kernel
theorem dX6_readSites_169 : decode cX6_readSites 169 = .ok (.getfield 29, 3) := by decide +kernel
theorem dX6_readSites_172 : decode cX6_readSites 172 = .ok (.iconst 4, 1) := by decide +kernel
theorem dX6_readSites_173 : decode cX6_readSites 173 = .ok (.iload_n 2, 1) := by decide +kernel
theorem dX6_readSites_174 : decode cX6_readSites 174 = .ok (.imul, 1) := by decide +kernel
theorem dX6_readSites_175 : decode cX6_readSites 175 = .ok (.iconst 2, 1) := by decide +kernel
theorem dX6_readSites_176 : decode cX6_readSites 176 = .ok (.iadd, 1) := by decide +kernel
theorem dX6_readSites_177 : decode cX6_readSites 177 = .ok (.iaload, 1) := by decide +kernel
theorem dX6_readSites_178 : decode cX6_readSites 178 = .ok (.aload_n 0, 1) := by decide +kernel
theorem dX6_readSites_179 : decode cX6_readSites 179 = .ok (.getfield 29, 3) := by decide +kernel
theorem dX6_readSites_182 : decode cX6_readSites 182 = .ok (.iconst 4, 1) := by decide +kernel
theorem dX6_readSites_183 : decode cX6_readSites 183 = .ok (.iload_n 2, 1) := by decide +kernel
theorem dX6_readSites_184 : decode cX6_readSites 184 = .ok (.imul, 1) := by decide +kernel
theorem dX6_readSites_185 : decode cX6_readSites 185 = .ok (.iconst 3, 1) := by decide +kernel
theorem dX6_readSites_186 : decode cX6_readSites 186 = .ok (.iadd, 1) := by decide +kernel
theorem dX6_readSites_187 : decode cX6_readSites 187 = .ok (.iaload, 1) := by decide +kernel
theorem dX6_readSites_188 : decode cX6_readSites 188 = .ok (.invokevirtual 74, 3) := by decide +kernel
theorem dX6_readSites_191 : decode cX6_readSites 191 = .ok (.istore_n 3, 1) := by decide +kernel
theorem dX6_readSites_192 : decode cX6_readSites 192 = .ok (.iinc 2 1, 3) := by decide +kernel
theorem dX6_readSites_195 : decode cX6_readSites 195 = .ok (.goto (-54), 3) := by decide +kernel
theorem dX6_readSites_198 : decode cX6_readSites 198 = .ok (.aload_n 0, 1) := by decide +kernel
theorem dX6_readSites_199 : decode cX6_readSites 199 = .ok (.getfield 146, 3) := by decide +kernel
theorem dX6_readSites_202 : decode cX6_readSites 202 = .ok (.ireturn, 1) := by decide +kernel
theorem dX6_undo_0 : decode cX6_undo 0 = .ok (.aload_n 0, 1) := by decide +kernel
theorem dX6_undo_1 : decode cX6_undo 1 = .ok (.getfield 32, 3) := by decide +kernel
theorem dX6_undo_4 : decode cX6_undo 4 = .ok (.ifCond .ne 6, 3) := by decide +kernel
theorem dX6_undo_7 : decode cX6_undo 7 = .ok (.bipush (-5), 2) := by decide +kernel
theorem dX6_undo_9 : decode cX6_undo 9 = .ok (.ireturn, 1) := by decide +kernel
theorem dX6_undo_10 : decode cX6_undo 10 = .ok (.aload_n 0, 1) := by decide +kernel
theorem dX6_undo_11 : decode cX6_undo 11 = .ok (.dup, 1) := by decide +kernel
theorem dX6_undo_12 : decode cX6_undo 12 = .ok (.getfield 32, 3) := by decide +kernel
theorem dX6_undo_15 : decode cX6_undo 15 = .ok (.iconst 1, 1) := by decide +kernel
theorem dX6_undo_16 : decode cX6_undo 16 = .ok (.isub, 1) := by decide +kernel
theorem dX6_undo_17 : decode cX6_undo 17 = .ok (.putfield 32, 3) := by decide +kernel
theorem dX6_undo_20 : decode cX6_undo 20 = .ok (.iconst 0, 1) := by decide +kernel
theorem dX6_undo_21 : decode cX6_undo 21 = .ok (.istore_n 1, 1) := by decide +kernel
theorem dX6_undo_22 : decode cX6_undo 22 = .ok (.iload_n 1, 1) := by decide +kernel
theorem dX6_undo_23 : decode cX6_undo 23 = .ok (.sipush 236, 3) := by decide +kernel
theorem dX6_undo_26 : decode cX6_undo 26 = .ok (.if_icmp .ge 30, 3) := by decide +kernel
theorem dX6_undo_29 : decode cX6_undo 29 = .ok (.aload_n 0, 1) := by decide +kernel
theorem dX6_undo_30 : decode cX6_undo 30 = .ok (.getfield 7, 3) := by decide +kernel
theorem dX6_undo_33 : decode cX6_undo 33 = .ok (.iload_n 1, 1) := by decide +kernel
theorem dX6_undo_34 : decode cX6_undo 34 = .ok (.aload_n 0, 1) := by decide +kernel
theorem dX6_undo_35 : decode cX6_undo 35 = .ok (.getfield 13, 3) := by decide +kernel
theorem dX6_undo_38 : decode cX6_undo 38 = .ok (.sipush 236, 3) := by decide +kernel
theorem dX6_undo_41 : decode cX6_undo 41 = .ok (.aload_n 0, 1) := by decide +kernel
theorem dX6_undo_42 : decode cX6_undo 42 = .ok (.getfield 32, 3) := by decide +kernel
theorem dX6_undo_45 : decode cX6_undo 45 = .ok (.imul, 1) := by decide +kernel
theorem dX6_undo_46 : decode cX6_undo 46 = .ok (.iload_n 1, 1) := by decide +kernel
theorem dX6_undo_47 : decode cX6_undo 47 = .ok (.iadd, 1) := by decide +kernel
theorem dX6_undo_48 : decode cX6_undo 48 = .ok (.iaload, 1) := by decide +kernel
theorem dX6_undo_49 : decode cX6_undo 49 = .ok (.iastore, 1) := by decide +kernel
theorem dX6_undo_50 : decode cX6_undo 50 = .ok (.iinc 1 1, 3) := by decide +kernel
theorem dX6_undo_53 : decode cX6_undo 53 = .ok (.goto (-31), 3) := by decide +kernel
theorem dX6_undo_56 : decode cX6_undo 56 = .ok (.aload_n 0, 1) := by decide +kernel
theorem dX6_undo_57 : decode cX6_undo 57 = .ok (.getfield 32, 3) := by decide +kernel
theorem dX6_undo_60 : decode cX6_undo 60 = .ok (.ireturn, 1) := by decide +kernel
theorem dX6_keep_0 : decode cX6_keep 0 = .ok (.iconst 0, 1) := by decide +kernel
theorem dX6_keep_1 : decode cX6_keep 1 = .ok (.istore_n 1, 1) := by decide +kernel
theorem dX6_keep_2 : decode cX6_keep 2 = .ok (.iload_n 1, 1) := by decide +kernel
theorem dX6_keep_3 : decode cX6_keep 3 = .ok (.sipush 236, 3) := by decide +kernel
theorem dX6_keep_6 : decode cX6_keep 6 = .ok (.if_icmp .ge 21, 3) := by decide +kernel
theorem dX6_keep_9 : decode cX6_keep 9 = .ok (.aload_n 0, 1) := by decide +kernel
theorem dX6_keep_10 : decode cX6_keep 10 = .ok (.getfield 16, 3) := by decide +kernel
theorem dX6_keep_13 : decode cX6_keep 13 = .ok (.iload_n 1, 1) := by decide +kernel
theorem dX6_keep_14 : decode cX6_keep 14 = .ok (.aload_n 0, 1) := by decide +kernel
theorem dX6_keep_15 : decode cX6_keep 15 = .ok (.getfield 7, 3) := by decide +kernel
theorem dX6_keep_18 : decode cX6_keep 18 = .ok (.iload_n 1, 1) := by decide +kernel
theorem dX6_keep_19 : decode cX6_keep 19 = .ok (.iaload, 1) := by decide +kernel
theorem dX6_keep_20 : decode cX6_keep 20 = .ok (.iastore, 1) := by decide +kernel
theorem dX6_keep_21 : decode cX6_keep 21 = .ok (.iinc 1 1, 3) := by decide +kernel
theorem dX6_keep_24 : decode cX6_keep 24 = .ok (.goto (-22), 3) := by decide +kernel
theorem dX6_keep_27 : decode cX6_keep 27 = .ok (.aload_n 0, 1) := by decide +kernel
theorem dX6_keep_28 : decode cX6_keep 28 = .ok (.iconst 1, 1) := by decide +kernel
theorem dX6_keep_29 : decode cX6_keep 29 = .ok (.putfield 160, 3) := by decide +kernel
theorem dX6_keep_32 : decode cX6_keep 32 = .ok (.aload_n 0, 1) := by decide +kernel
theorem dX6_keep_33 : decode cX6_keep 33 = .ok (.getfield 7, 3) := by decide +kernel
theorem dX6_keep_36 : decode cX6_keep 36 = .ok (.iconst 0, 1) := by decide +kernel
theorem dX6_keep_37 : decode cX6_keep 37 = .ok (.iaload, 1) := by decide +kernel
theorem dX6_keep_38 : decode cX6_keep 38 = .ok (.ireturn, 1) := by decide +kernel
theorem dX6_restore_0 : decode cX6_restore 0 = .ok (.aload_n 0, 1) := by decide +kernel
theorem dX6_restore_1 : decode cX6_restore 1 = .ok (.getfield 160, 3) := by decide +kernel
theorem dX6_restore_4 : decode cX6_restore 4 = .ok (.ifCond .ne 6, 3) := by decide +kernel
theorem dX6_restore_7 : decode cX6_restore 7 = .ok (.bipush (-5), 2) := by decide +kernel
theorem dX6_restore_9 : decode cX6_restore 9 = .ok (.ireturn, 1) := by decide +kernel
theorem dX6_restore_10 : decode cX6_restore 10 = .ok (.aload_n 0, 1) := by decide +kernel
theorem dX6_restore_11 : decode cX6_restore 11 = .ok (.invokevirtual 41, 3) := by decide +kernel
theorem dX6_restore_14 : decode cX6_restore 14 = .ok (.iconst 0, 1) := by decide +kernel
theorem dX6_restore_15 : decode cX6_restore 15 = .ok (.istore_n 1, 1) := by decide +kernel
theorem dX6_restore_16 : decode cX6_restore 16 = .ok (.iload_n 1, 1) := by decide +kernel
theorem dX6_restore_17 : decode cX6_restore 17 = .ok (.sipush 236, 3) := by decide +kernel
theorem dX6_restore_20 : decode cX6_restore 20 = .ok (.if_icmp .ge 21, 3) := by decide +kernel
theorem dX6_restore_23 : decode cX6_restore 23 = .ok (.aload_n 0, 1) := by decide +kernel
theorem dX6_restore_24 : decode cX6_restore 24 = .ok (.getfield 7, 3) := by decide +kernel
theorem dX6_restore_27 : decode cX6_restore 27 = .ok (.iload_n 1, 1) := by decide +kernel
theorem dX6_restore_28 : decode cX6_restore 28 = .ok (.aload_n 0, 1) := by decide +kernel
theorem dX6_restore_29 : decode cX6_restore 29 = .ok (.getfield 16, 3) := by decide +kernel
theorem dX6_restore_32 : decode cX6_restore 32 = .ok (.iload_n 1, 1) := by decide +kernel
theorem dX6_restore_33 : decode cX6_restore 33 = .ok (.iaload, 1) := by decide +kernel
theorem dX6_restore_34 : decode cX6_restore 34 = .ok (.iastore, 1) := by decide +kernel
theorem dX6_restore_35 : decode cX6_restore 35 = .ok (.iinc 1 1, 3) := by decide +kernel
theorem dX6_restore_38 : decode cX6_restore 38 = .ok (.goto (-22), 3) := by decide +kernel
theorem dX6_restore_41 : decode cX6_restore 41 = .ok (.aload_n 0, 1) := by decide +kernel
theorem dX6_restore_42 : decode cX6_restore 42 = .ok (.getfield 7, 3) := by decide +kernel
theorem dX6_restore_45 : decode cX6_restore 45 = .ok (.iconst 0, 1) := by decide +kernel
theorem dX6_restore_46 : decode cX6_restore 46 = .ok (.iaload, 1) := by decide +kernel
theorem dX6_restore_47 : decode cX6_restore 47 = .ok (.ireturn, 1) := by decide +kernel
theorem dX6_set_0 : decode cX6_set 0 = .ok (.aload_n 0, 1) := by decide +kernel
theorem dX6_set_1 : decode cX6_set 1 = .ok (.iload_n 1, 1) := by decide +kernel
theorem dX6_set_2 : decode cX6_set 2 = .ok (.invokevirtual 52, 3) := by decide +kernel
theorem dX6_set_5 : decode cX6_set 5 = .ok (.ifCond .eq 5, 3) := by decide +kernel
theorem dX6_set_8 : decode cX6_set 8 = .ok (.iconst (-1), 1) := by decide +kernel
theorem dX6_set_9 : decode cX6_set 9 = .ok (.ireturn, 1) := by decide +kernel
theorem dX6_set_10 : decode cX6_set 10 = .ok (.iload_n 2, 1) := by decide +kernel
theorem dX6_set_11 : decode cX6_set 11 = .ok (.iconst 5, 1) := by decide +kernel
theorem dX6_set_12 : decode cX6_set 12 = .ok (.if_icmp .ne 26, 3) := by decide +kernel
theorem dX6_set_15 : decode cX6_set 15 = .ok (.aload_n 0, 1) := by decide +kernel
theorem dX6_set_16 : decode cX6_set 16 = .ok (.iload_n 1, 1) := by decide +kernel
theorem dX6_set_17 : decode cX6_set 17 = .ok (.iconst 5, 1) := by decide +kernel
theorem dX6_set_18 : decode cX6_set 18 = .ok (.invokevirtual 48, 3) := by decide +kernel
theorem dX6_set_21 : decode cX6_set 21 = .ok (.ifCond .ne 8, 3) := by decide +kernel
theorem dX6_set_24 : decode cX6_set 24 = .ok (.bipush (-5), 2) := by decide +kernel
theorem dX6_set_26 : decode cX6_set 26 = .ok (.goto 11, 3) := by decide +kernel
theorem dX6_set_29 : decode cX6_set 29 = .ok (.aload_n 0, 1) := by decide +kernel
theorem dX6_set_30 : decode cX6_set 30 = .ok (.iload_n 1, 1) := by decide +kernel
theorem dX6_set_31 : decode cX6_set 31 = .ok (.iconst 5, 1) := by decide +kernel
theorem dX6_set_32 : decode cX6_set 32 = .ok (.invokevirtual 48, 3) := by decide +kernel
theorem dX6_set_35 : decode cX6_set 35 = .ok (.iconst 1, 1) := by decide +kernel
theorem dX6_set_36 : decode cX6_set 36 = .ok (.isub, 1) := by decide +kernel
theorem dX6_set_37 : decode cX6_set 37 = .ok (.ireturn, 1) := by decide +kernel
theorem dX6_set_38 : decode cX6_set 38 = .ok (.iload_n 2, 1) := by decide +kernel
theorem dX6_set_39 : decode cX6_set 39 = .ok (.iconst 0, 1) := by decide +kernel
theorem dX6_set_40 : decode cX6_set 40 = .ok (.bipush 8, 2) := by decide +kernel
theorem dX6_set_42 : decode cX6_set 42 = .ok (.invokestatic 36, 3) := by decide +kernel
theorem dX6_set_45 : decode cX6_set 45 = .ok (.ifCond .eq 12, 3) := by decide +kernel
theorem dX6_set_48 : decode cX6_set 48 = .ok (.aload_n 0, 1) := by decide +kernel
theorem dX6_set_49 : decode cX6_set 49 = .ok (.iload_n 1, 1) := by decide +kernel
theorem dX6_set_50 : decode cX6_set 50 = .ok (.iload_n 2, 1) := by decide +kernel
theorem dX6_set_51 : decode cX6_set 51 = .ok (.invokevirtual 48, 3) := by decide +kernel
theorem dX6_set_54 : decode cX6_set 54 = .ok (.goto 19, 3) := by decide +kernel
theorem dX6_set_57 : decode cX6_set 57 = .ok (.iload_n 2, 1) := by decide +kernel
theorem dX6_set_58 : decode cX6_set 58 = .ok (.bipush 9, 2) := by decide +kernel
theorem dX6_set_60 : decode cX6_set 60 = .ok (.if_icmp .ne 11, 3) := by decide +kernel
theorem dX6_set_63 : decode cX6_set 63 = .ok (.aload_n 0, 1) := by decide +kernel
theorem dX6_set_64 : decode cX6_set 64 = .ok (.iload_n 1, 1) := by decide +kernel
theorem dX6_set_65 : decode cX6_set 65 = .ok (.invokevirtual 119, 3) := by decide +kernel
theorem dX6_set_68 : decode cX6_set 68 = .ok (.goto 5, 3) := by decide +kernel
theorem dX6_set_71 : decode cX6_set 71 = .ok (.bipush (-2), 2) := by decide +kernel
theorem dX6_set_73 : decode cX6_set 73 = .ok (.ireturn, 1) := by decide +kernel
theorem dX6_site_0 : decode cX6_site 0 = .ok (.aload_n 0, 1) := by decide +kernel
theorem dX6_site_1 : decode cX6_site 1 = .ok (.iload_n 1, 1) := by decide +kernel
theorem dX6_site_2 : decode cX6_site 2 = .ok (.invokevirtual 84, 3) := by decide +kernel
theorem dX6_site_5 : decode cX6_site 5 = .ok (.ifCond .eq 5, 3) := by decide +kernel
theorem dX6_site_8 : decode cX6_site 8 = .ok (.iconst (-1), 1) := by decide +kernel
theorem dX6_site_9 : decode cX6_site 9 = .ok (.ireturn, 1) := by decide +kernel
theorem dX6_site_10 : decode cX6_site 10 = .ok (.iload_n 2, 1) := by decide +kernel
theorem dX6_site_11 : decode cX6_site 11 = .ok (.lookupswitch 89 #[(4, 33), (8, 52), (9, 75)], 33) := by decide +kernel
theorem dX6_site_44 : decode cX6_site 44 = .ok (.aload_n 0, 1) := by decide +kernel
theorem dX6_site_45 : decode cX6_site 45 = .ok (.iload_n 1, 1) := by decide +kernel
theorem dX6_site_46 : decode cX6_site 46 = .ok (.invokevirtual 81, 3) := by decide +kernel
theorem dX6_site_49 : decode cX6_site 49 = .ok (.ifCond .ge 8, 3) := by decide +kernel
theorem dX6_site_52 : decode cX6_site 52 = .ok (.bipush (-5), 2) := by decide +kernel
theorem dX6_site_54 : decode cX6_site 54 = .ok (.goto 8, 3) := by decide +kernel
theorem dX6_site_57 : decode cX6_site 57 = .ok (.aload_n 0, 1) := by decide +kernel
theorem dX6_site_58 : decode cX6_site 58 = .ok (.iload_n 1, 1) := by decide +kernel
theorem dX6_site_59 : decode cX6_site 59 = .ok (.invokevirtual 81, 3) := by decide +kernel
theorem dX6_site_62 : decode cX6_site 62 = .ok (.ireturn, 1) := by decide +kernel
theorem dX6_site_63 : decode cX6_site 63 = .ok (.aload_n 0, 1) := by decide +kernel
theorem dX6_site_64 : decode cX6_site 64 = .ok (.iload_n 1, 1) := by decide +kernel
theorem dX6_site_65 : decode cX6_site 65 = .ok (.bipush 8, 2) := by decide +kernel
theorem dX6_site_67 : decode cX6_site 67 = .ok (.invokevirtual 78, 3) := by decide +kernel
theorem dX6_site_70 : decode cX6_site 70 = .ok (.ifCond .ne 8, 3) := by decide +kernel
theorem dX6_site_73 : decode cX6_site 73 = .ok (.bipush (-5), 2) := by decide +kernel
theorem dX6_site_75 : decode cX6_site 75 = .ok (.goto 10, 3) := by decide +kernel
theorem dX6_site_78 : decode cX6_site 78 = .ok (.aload_n 0, 1) := by decide +kernel
theorem dX6_site_79 : decode cX6_site 79 = .ok (.iload_n 1, 1) := by decide +kernel
theorem dX6_site_80 : decode cX6_site 80 = .ok (.bipush 8, 2) := by decide +kernel
theorem dX6_site_82 : decode cX6_site 82 = .ok (.invokevirtual 78, 3) := by decide +kernel
theorem dX6_site_85 : decode cX6_site 85 = .ok (.ireturn, 1) := by decide +kernel
theorem dX6_site_86 : decode cX6_site 86 = .ok (.aload_n 0, 1) := by decide +kernel
theorem dX6_site_87 : decode cX6_site 87 = .ok (.iload_n 1, 1) := by decide +kernel
theorem dX6_site_88 : decode cX6_site 88 = .ok (.invokevirtual 101, 3) := by decide +kernel
theorem dX6_site_91 : decode cX6_site 91 = .ok (.ifCond .eq 7, 3) := by decide +kernel
theorem dX6_site_94 : decode cX6_site 94 = .ok (.iconst 1, 1) := by decide +kernel
theorem dX6_site_95 : decode cX6_site 95 = .ok (.goto 4, 3) := by decide +kernel
theorem dX6_site_98 : decode cX6_site 98 = .ok (.iconst 0, 1) := by decide +kernel
theorem dX6_site_99 : decode cX6_site 99 = .ok (.ireturn, 1) := by decide +kernel
theorem dX6_site_100 : decode cX6_site 100 = .ok (.iload_n 2, 1) := by decide +kernel
theorem dX6_site_101 : decode cX6_site 101 = .ok (.iconst 0, 1) := by decide +kernel
theorem dX6_site_102 : decode cX6_site 102 = .ok (.bipush 7, 2) := by decide +kernel
theorem dX6_site_104 : decode cX6_site 104 = .ok (.invokestatic 36, 3) := by decide +kernel
theorem dX6_site_107 : decode cX6_site 107 = .ok (.ifCond .eq 12, 3) := by decide +kernel
theorem dX6_site_110 : decode cX6_site 110 = .ok (.aload_n 0, 1) := by decide +kernel
theorem dX6_site_111 : decode cX6_site 111 = .ok (.iload_n 1, 1) := by decide +kernel
theorem dX6_site_112 : decode cX6_site 112 = .ok (.iload_n 2, 1) := by decide +kernel
theorem dX6_site_113 : decode cX6_site 113 = .ok (.invokevirtual 78, 3) := by decide +kernel
theorem dX6_site_116 : decode cX6_site 116 = .ok (.goto 5, 3) := by decide +kernel
theorem dX6_site_119 : decode cX6_site 119 = .ok (.bipush (-2), 2) := by decide +kernel
theorem dX6_site_121 : decode cX6_site 121 = .ok (.ireturn, 1) := by decide +kernel
theorem dX6_why_0 : decode cX6_why 0 = .ok (.aload_n 0, 1) := by decide +kernel
theorem dX6_why_1 : decode cX6_why 1 = .ok (.iload_n 1, 1) := by decide +kernel
theorem dX6_why_2 : decode cX6_why 2 = .ok (.invokevirtual 84, 3) := by decide +kernel
theorem dX6_why_5 : decode cX6_why 5 = .ok (.ifCond .eq 5, 3) := by decide +kernel
theorem dX6_why_8 : decode cX6_why 8 = .ok (.iconst (-1), 1) := by decide +kernel
theorem dX6_why_9 : decode cX6_why 9 = .ok (.ireturn, 1) := by decide +kernel
theorem dX6_why_10 : decode cX6_why 10 = .ok (.aload_n 0, 1) := by decide +kernel
theorem dX6_why_11 : decode cX6_why 11 = .ok (.iload_n 1, 1) := by decide +kernel
theorem dX6_why_12 : decode cX6_why 12 = .ok (.invokevirtual 101, 3) := by decide +kernel
theorem dX6_why_15 : decode cX6_why 15 = .ok (.ifCond .ne 6, 3) := by decide +kernel
theorem dX6_why_18 : decode cX6_why 18 = .ok (.bipush (-5), 2) := by decide +kernel
theorem dX6_why_20 : decode cX6_why 20 = .ok (.ireturn, 1) := by decide +kernel
theorem dX6_why_21 : decode cX6_why 21 = .ok (.aload_n 0, 1) := by decide +kernel
theorem dX6_why_22 : decode cX6_why 22 = .ok (.iload_n 1, 1) := by decide +kernel
theorem dX6_why_23 : decode cX6_why 23 = .ok (.invokevirtual 81, 3) := by decide +kernel
theorem dX6_why_26 : decode cX6_why 26 = .ok (.ifCond .ge 7, 3) := by decide +kernel
theorem dX6_why_29 : decode cX6_why 29 = .ok (.iconst 1, 1) := by decide +kernel
theorem dX6_why_30 : decode cX6_why 30 = .ok (.goto 12, 3) := by decide +kernel
theorem dX6_why_33 : decode cX6_why 33 = .ok (.aload_n 0, 1) := by decide +kernel
theorem dX6_why_34 : decode cX6_why 34 = .ok (.aload_n 0, 1) := by decide +kernel
theorem dX6_why_35 : decode cX6_why 35 = .ok (.iload_n 1, 1) := by decide +kernel
theorem dX6_why_36 : decode cX6_why 36 = .ok (.invokevirtual 81, 3) := by decide +kernel
theorem dX6_why_39 : decode cX6_why 39 = .ok (.invokevirtual 125, 3) := by decide +kernel
theorem dX6_why_42 : decode cX6_why 42 = .ok (.ireturn, 1) := by decide +kernel
theorem dX6_needy_0 : decode cX6_needy 0 = .ok (.iload_n 1, 1) := by decide +kernel
theorem dX6_needy_1 : decode cX6_needy 1 = .ok (.ifCond .ge 8, 3) := by decide +kernel
theorem dX6_needy_4 : decode cX6_needy 4 = .ok (.bipush (-2), 2) := by decide +kernel
theorem dX6_needy_6 : decode cX6_needy 6 = .ok (.goto 8, 3) := by decide +kernel
theorem dX6_needy_9 : decode cX6_needy 9 = .ok (.aload_n 0, 1) := by decide +kernel
theorem dX6_needy_10 : decode cX6_needy 10 = .ok (.iload_n 1, 1) := by decide +kernel
theorem dX6_needy_11 : decode cX6_needy 11 = .ok (.invokevirtual 113, 3) := by decide +kernel
theorem dX6_needy_14 : decode cX6_needy 14 = .ok (.ireturn, 1) := by decide +kernel
theorem dX6_thirsty_0 : decode cX6_thirsty 0 = .ok (.iload_n 1, 1) := by decide +kernel
theorem dX6_thirsty_1 : decode cX6_thirsty 1 = .ok (.ifCond .ge 8, 3) := by decide +kernel
theorem dX6_thirsty_4 : decode cX6_thirsty 4 = .ok (.bipush (-2), 2) := by decide +kernel
theorem dX6_thirsty_6 : decode cX6_thirsty 6 = .ok (.goto 8, 3) := by decide +kernel
theorem dX6_thirsty_9 : decode cX6_thirsty 9 = .ok (.aload_n 0, 1) := by decide +kernel
theorem dX6_thirsty_10 : decode cX6_thirsty 10 = .ok (.iload_n 1, 1) := by decide +kernel
theorem dX6_thirsty_11 : decode cX6_thirsty 11 = .ok (.invokevirtual 122, 3) := by decide +kernel
theorem dX6_thirsty_14 : decode cX6_thirsty 14 = .ok (.ireturn, 1) := by decide +kernel
theorem dX6_darkest_0 : decode cX6_darkest 0 = .ok (.bipush (-5), 2) := by decide +kernel
theorem dX6_darkest_2 : decode cX6_darkest 2 = .ok (.istore_n 1, 1) := by decide +kernel
theorem dX6_darkest_3 : decode cX6_darkest 3 = .ok (.iconst 0, 1) := by decide +kernel
theorem dX6_darkest_4 : decode cX6_darkest 4 = .ok (.istore_n 2, 1) := by decide +kernel
theorem dX6_darkest_5 : decode cX6_darkest 5 = .ok (.iconst 0, 1) := by decide +kernel
theorem dX6_darkest_6 : decode cX6_darkest 6 = .ok (.istore_n 3, 1) := by decide +kernel
theorem dX6_darkest_7 : decode cX6_darkest 7 = .ok (.iload_n 3, 1) := by decide +kernel
theorem dX6_darkest_8 : decode cX6_darkest 8 = .ok (.aload_n 0, 1) := by decide +kernel
theorem dX6_darkest_9 : decode cX6_darkest 9 = .ok (.getfield 7, 3) := by decide +kernel
theorem dX6_darkest_12 : decode cX6_darkest 12 = .ok (.bipush 7, 2) := by decide +kernel
theorem dX6_darkest_14 : decode cX6_darkest 14 = .ok (.iaload, 1) := by decide +kernel
theorem dX6_darkest_15 : decode cX6_darkest 15 = .ok (.if_icmp .ge 59, 3) := by decide +kernel
theorem dX6_darkest_18 : decode cX6_darkest 18 = .ok (.aload_n 0, 1) := by decide +kernel
theorem dX6_darkest_19 : decode cX6_darkest 19 = .ok (.iload_n 3, 1) := by decide +kernel
theorem dX6_darkest_20 : decode cX6_darkest 20 = .ok (.bipush 6, 2) := by decide +kernel
theorem dX6_darkest_22 : decode cX6_darkest 22 = .ok (.invokevirtual 78, 3) := by decide +kernel
theorem dX6_darkest_25 : decode cX6_darkest 25 = .ok (.aload_n 0, 1) := by decide +kernel
theorem dX6_darkest_26 : decode cX6_darkest 26 = .ok (.getfield 19, 3) := by decide +kernel
theorem dX6_darkest_29 : decode cX6_darkest 29 = .ok (.bipush 116, 2) := by decide +kernel
theorem dX6_darkest_31 : decode cX6_darkest 31 = .ok (.bipush 10, 2) := by decide +kernel
theorem dX6_darkest_33 : decode cX6_darkest 33 = .ok (.iload_n 3, 1) := by decide +kernel
theorem dX6_darkest_34 : decode cX6_darkest 34 = .ok (.imul, 1) := by decide +kernel
theorem dX6_darkest_35 : decode cX6_darkest 35 = .ok (.iadd, 1) := by decide +kernel
theorem dX6_darkest_36 : decode cX6_darkest 36 = .ok (.bipush 6, 2) := by decide +kernel
theorem dX6_darkest_38 : decode cX6_darkest 38 = .ok (.iadd, 1) := by decide +kernel
theorem dX6_darkest_39 : decode cX6_darkest 39 = .ok (.iaload, 1) := by decide +kernel
theorem dX6_darkest_40 : decode cX6_darkest 40 = .ok (.isub, 1) := by decide +kernel
theorem dX6_darkest_41 : decode cX6_darkest 41 = .ok (.istore 4, 2) := by decide +kernel
theorem dX6_darkest_43 : decode cX6_darkest 43 = .ok (.iload 4, 2) := by decide +kernel
theorem dX6_darkest_45 : decode cX6_darkest 45 = .ok (.iload_n 2, 1) := by decide +kernel
theorem dX6_darkest_46 : decode cX6_darkest 46 = .ok (.if_icmp .le 7, 3) := by decide +kernel
theorem dX6_darkest_49 : decode cX6_darkest 49 = .ok (.iload_n 3, 1) := by decide +kernel
theorem dX6_darkest_50 : decode cX6_darkest 50 = .ok (.goto 4, 3) := by decide +kernel
theorem dX6_darkest_53 : decode cX6_darkest 53 = .ok (.iload_n 1, 1) := by decide +kernel
theorem dX6_darkest_54 : decode cX6_darkest 54 = .ok (.istore_n 1, 1) := by decide +kernel
theorem dX6_darkest_55 : decode cX6_darkest 55 = .ok (.iload 4, 2) := by decide +kernel
theorem dX6_darkest_57 : decode cX6_darkest 57 = .ok (.iload_n 2, 1) := by decide +kernel
theorem dX6_darkest_58 : decode cX6_darkest 58 = .ok (.if_icmp .le 8, 3) := by decide +kernel
theorem dX6_darkest_61 : decode cX6_darkest 61 = .ok (.iload 4, 2) := by decide +kernel
theorem dX6_darkest_63 : decode cX6_darkest 63 = .ok (.goto 4, 3) := by decide +kernel
theorem dX6_darkest_66 : decode cX6_darkest 66 = .ok (.iload_n 2, 1) := by decide +kernel
theorem dX6_darkest_67 : decode cX6_darkest 67 = .ok (.istore_n 2, 1) := by decide +kernel
theorem dX6_darkest_68 : decode cX6_darkest 68 = .ok (.iinc 3 1, 3) := by decide +kernel
theorem dX6_darkest_71 : decode cX6_darkest 71 = .ok (.goto (-64), 3) := by decide +kernel
theorem dX6_darkest_74 : decode cX6_darkest 74 = .ok (.iload_n 1, 1) := by decide +kernel
theorem dX6_darkest_75 : decode cX6_darkest 75 = .ok (.ireturn, 1) := by decide +kernel
theorem dX6_forecast_0 : decode cX6_forecast 0 = .ok (.iload_n 1, 1) := by decide +kernel
theorem dX6_forecast_1 : decode cX6_forecast 1 = .ok (.iconst 1, 1) := by decide +kernel
theorem dX6_forecast_2 : decode cX6_forecast 2 = .ok (.bipush 24, 2) := by decide +kernel
theorem dX6_forecast_4 : decode cX6_forecast 4 = .ok (.invokestatic 36, 3) := by decide +kernel
theorem dX6_forecast_7 : decode cX6_forecast 7 = .ok (.ifCond .eq 12, 3) := by decide +kernel
theorem dX6_forecast_10 : decode cX6_forecast 10 = .ok (.iload_n 2, 1) := by decide +kernel
theorem dX6_forecast_11 : decode cX6_forecast 11 = .ok (.iconst 0, 1) := by decide +kernel
theorem dX6_forecast_12 : decode cX6_forecast 12 = .ok (.iconst 3, 1) := by decide +kernel
theorem dX6_forecast_13 : decode cX6_forecast 13 = .ok (.invokestatic 36, 3) := by decide +kernel
theorem dX6_forecast_16 : decode cX6_forecast 16 = .ok (.ifCond .ne 6, 3) := by decide +kernel
theorem dX6_forecast_19 : decode cX6_forecast 19 = .ok (.bipush (-2), 2) := by decide +kernel
theorem dX6_forecast_21 : decode cX6_forecast 21 = .ok (.ireturn, 1) := by decide +kernel
theorem dX6_forecast_22 : decode cX6_forecast 22 = .ok (.aload_n 0, 1) := by decide +kernel
theorem dX6_forecast_23 : decode cX6_forecast 23 = .ok (.getfield 7, 3) := by decide +kernel
theorem dX6_forecast_26 : decode cX6_forecast 26 = .ok (.iconst 0, 1) := by decide +kernel
theorem dX6_forecast_27 : decode cX6_forecast 27 = .ok (.iaload, 1) := by decide +kernel
theorem dX6_forecast_28 : decode cX6_forecast 28 = .ok (.iload_n 1, 1) := by decide +kernel
theorem dX6_forecast_29 : decode cX6_forecast 29 = .ok (.iadd, 1) := by decide +kernel
theorem dX6_forecast_30 : decode cX6_forecast 30 = .ok (.sipush 999, 3) := by decide +kernel
theorem dX6_forecast_33 : decode cX6_forecast 33 = .ok (.if_icmp .le 6, 3) := by decide +kernel
theorem dX6_forecast_36 : decode cX6_forecast 36 = .ok (.bipush (-4), 2) := by decide +kernel
theorem dX6_forecast_38 : decode cX6_forecast 38 = .ok (.ireturn, 1) := by decide +kernel
theorem dX6_forecast_39 : decode cX6_forecast 39 = .ok (.iconst 0, 1) := by decide +kernel
theorem dX6_forecast_40 : decode cX6_forecast 40 = .ok (.istore_n 3, 1) := by decide +kernel
theorem dX6_forecast_41 : decode cX6_forecast 41 = .ok (.iload_n 3, 1) := by decide +kernel
theorem dX6_forecast_42 : decode cX6_forecast 42 = .ok (.sipush 236, 3) := by decide +kernel
theorem dX6_forecast_45 : decode cX6_forecast 45 = .ok (.if_icmp .ge 21, 3) := by decide +kernel
theorem dX6_forecast_48 : decode cX6_forecast 48 = .ok (.aload_n 0, 1) := by decide +kernel
theorem dX6_forecast_49 : decode cX6_forecast 49 = .ok (.getfield 19, 3) := by decide +kernel
theorem dX6_forecast_52 : decode cX6_forecast 52 = .ok (.iload_n 3, 1) := by decide +kernel
theorem dX6_forecast_53 : decode cX6_forecast 53 = .ok (.aload_n 0, 1) := by decide +kernel
theorem dX6_forecast_54 : decode cX6_forecast 54 = .ok (.getfield 7, 3) := by decide +kernel
theorem dX6_forecast_57 : decode cX6_forecast 57 = .ok (.iload_n 3, 1) := by decide +kernel
theorem dX6_forecast_58 : decode cX6_forecast 58 = .ok (.iaload, 1) := by decide +kernel
theorem dX6_forecast_59 : decode cX6_forecast 59 = .ok (.iastore, 1) := by decide +kernel
theorem dX6_forecast_60 : decode cX6_forecast 60 = .ok (.iinc 3 1, 3) := by decide +kernel
theorem dX6_forecast_63 : decode cX6_forecast 63 = .ok (.goto (-22), 3) := by decide +kernel
theorem dX6_forecast_66 : decode cX6_forecast 66 = .ok (.aload_n 0, 1) := by decide +kernel
theorem dX6_forecast_67 : decode cX6_forecast 67 = .ok (.iload_n 1, 1) := by decide +kernel
theorem dX6_forecast_68 : decode cX6_forecast 68 = .ok (.invokevirtual 137, 3) := by decide +kernel
theorem dX6_forecast_71 : decode cX6_forecast 71 = .ok (.istore_n 3, 1) := by decide +kernel
theorem dX6_forecast_72 : decode cX6_forecast 72 = .ok (.iload_n 2, 1) := by decide +kernel
theorem dX6_forecast_73 : decode cX6_forecast 73 = .ok (.ifCond .ne 7, 3) := by decide +kernel
theorem dX6_forecast_76 : decode cX6_forecast 76 = .ok (.iload_n 3, 1) := by decide +kernel
theorem dX6_forecast_77 : decode cX6_forecast 77 = .ok (.goto 51, 3) := by decide +kernel
theorem dX6_forecast_80 : decode cX6_forecast 80 = .ok (.iload_n 2, 1) := by decide +kernel
theorem dX6_forecast_81 : decode cX6_forecast 81 = .ok (.iconst 1, 1) := by decide +kernel
theorem dX6_forecast_82 : decode cX6_forecast 82 = .ok (.if_icmp .ne 21, 3) := by decide +kernel
theorem dX6_forecast_85 : decode cX6_forecast 85 = .ok (.aload_n 0, 1) := by decide +kernel
theorem dX6_forecast_86 : decode cX6_forecast 86 = .ok (.getfield 7, 3) := by decide +kernel
theorem dX6_forecast_89 : decode cX6_forecast 89 = .ok (.bipush 9, 2) := by decide +kernel
theorem dX6_forecast_91 : decode cX6_forecast 91 = .ok (.iaload, 1) := by decide +kernel
theorem dX6_forecast_92 : decode cX6_forecast 92 = .ok (.aload_n 0, 1) := by decide +kernel
theorem dX6_forecast_93 : decode cX6_forecast 93 = .ok (.getfield 19, 3) := by decide +kernel
theorem dX6_forecast_96 : decode cX6_forecast 96 = .ok (.bipush 9, 2) := by decide +kernel
theorem dX6_forecast_98 : decode cX6_forecast 98 = .ok (.iaload, 1) := by decide +kernel
theorem dX6_forecast_99 : decode cX6_forecast 99 = .ok (.isub, 1) := by decide +kernel
theorem dX6_forecast_100 : decode cX6_forecast 100 = .ok (.goto 28, 3) := by decide +kernel
theorem dX6_forecast_103 : decode cX6_forecast 103 = .ok (.iload_n 2, 1) := by decide +kernel
theorem dX6_forecast_104 : decode cX6_forecast 104 = .ok (.iconst 2, 1) := by decide +kernel
theorem dX6_forecast_105 : decode cX6_forecast 105 = .ok (.if_icmp .ne 19, 3) := by decide +kernel
theorem dX6_forecast_108 : decode cX6_forecast 108 = .ok (.aload_n 0, 1) := by decide +kernel
theorem dX6_forecast_109 : decode cX6_forecast 109 = .ok (.getfield 7, 3) := by decide +kernel
theorem dX6_forecast_112 : decode cX6_forecast 112 = .ok (.iconst 4, 1) := by decide +kernel
theorem dX6_forecast_113 : decode cX6_forecast 113 = .ok (.iaload, 1) := by decide +kernel
theorem dX6_forecast_114 : decode cX6_forecast 114 = .ok (.aload_n 0, 1) := by decide +kernel
theorem dX6_forecast_115 : decode cX6_forecast 115 = .ok (.getfield 19, 3) := by decide +kernel
theorem dX6_forecast_118 : decode cX6_forecast 118 = .ok (.iconst 4, 1) := by decide +kernel
theorem dX6_forecast_119 : decode cX6_forecast 119 = .ok (.iaload, 1) := by decide +kernel
theorem dX6_forecast_120 : decode cX6_forecast 120 = .ok (.isub, 1) := by decide +kernel
theorem dX6_forecast_121 : decode cX6_forecast 121 = .ok (.goto 7, 3) := by decide +kernel
theorem dX6_forecast_124 : decode cX6_forecast 124 = .ok (.aload_n 0, 1) := by decide +kernel
theorem dX6_forecast_125 : decode cX6_forecast 125 = .ok (.invokevirtual 164, 3) := by decide +kernel
theorem dX6_forecast_128 : decode cX6_forecast 128 = .ok (.istore 4, 2) := by decide +kernel
theorem dX6_forecast_130 : decode cX6_forecast 130 = .ok (.iconst 0, 1) := by decide +kernel
theorem dX6_forecast_131 : decode cX6_forecast 131 = .ok (.istore 5, 2) := by decide +kernel
theorem dX6_forecast_133 : decode cX6_forecast 133 = .ok (.iload 5, 2) := by decide +kernel
theorem dX6_forecast_135 : decode cX6_forecast 135 = .ok (.sipush 236, 3) := by decide +kernel
theorem dX6_forecast_138 : decode cX6_forecast 138 = .ok (.if_icmp .ge 23, 3) := by decide +kernel
theorem dX6_forecast_141 : decode cX6_forecast 141 = .ok (.aload_n 0, 1) := by decide +kernel
theorem dX6_forecast_142 : decode cX6_forecast 142 = .ok (.getfield 7, 3) := by decide +kernel
theorem dX6_forecast_145 : decode cX6_forecast 145 = .ok (.iload 5, 2) := by decide +kernel
theorem dX6_forecast_147 : decode cX6_forecast 147 = .ok (.aload_n 0, 1) := by decide +kernel
theorem dX6_forecast_148 : decode cX6_forecast 148 = .ok (.getfield 19, 3) := by decide +kernel
theorem dX6_forecast_151 : decode cX6_forecast 151 = .ok (.iload 5, 2) := by decide +kernel
theorem dX6_forecast_153 : decode cX6_forecast 153 = .ok (.iaload, 1) := by decide +kernel
theorem dX6_forecast_154 : decode cX6_forecast 154 = .ok (.iastore, 1) := by decide +kernel
theorem dX6_forecast_155 : decode cX6_forecast 155 = .ok (.iinc 5 1, 3) := by decide +kernel
theorem dX6_forecast_158 : decode cX6_forecast 158 = .ok (.goto (-25), 3) := by decide +kernel
theorem dX6_forecast_161 : decode cX6_forecast 161 = .ok (.iload 4, 2) := by decide +kernel
theorem dX6_forecast_163 : decode cX6_forecast 163 = .ok (.ireturn, 1) := by decide +kernel
theorem dX6_inTanks_0 : decode cX6_inTanks 0 = .ok (.iconst 0, 1) := by decide +kernel
theorem dX6_inTanks_1 : decode cX6_inTanks 1 = .ok (.istore_n 1, 1) := by decide +kernel
theorem dX6_inTanks_2 : decode cX6_inTanks 2 = .ok (.iconst 0, 1) := by decide +kernel
theorem dX6_inTanks_3 : decode cX6_inTanks 3 = .ok (.istore_n 2, 1) := by decide +kernel
theorem dX6_inTanks_4 : decode cX6_inTanks 4 = .ok (.iload_n 2, 1) := by decide +kernel
theorem dX6_inTanks_5 : decode cX6_inTanks 5 = .ok (.aload_n 0, 1) := by decide +kernel
theorem dX6_inTanks_6 : decode cX6_inTanks 6 = .ok (.getfield 7, 3) := by decide +kernel
theorem dX6_inTanks_9 : decode cX6_inTanks 9 = .ok (.bipush 6, 2) := by decide +kernel
theorem dX6_inTanks_11 : decode cX6_inTanks 11 = .ok (.iaload, 1) := by decide +kernel
theorem dX6_inTanks_12 : decode cX6_inTanks 12 = .ok (.if_icmp .ge 18, 3) := by decide +kernel
theorem dX6_inTanks_15 : decode cX6_inTanks 15 = .ok (.iload_n 1, 1) := by decide +kernel
theorem dX6_inTanks_16 : decode cX6_inTanks 16 = .ok (.aload_n 0, 1) := by decide +kernel
theorem dX6_inTanks_17 : decode cX6_inTanks 17 = .ok (.iload_n 2, 1) := by decide +kernel
theorem dX6_inTanks_18 : decode cX6_inTanks 18 = .ok (.iconst 4, 1) := by decide +kernel
theorem dX6_inTanks_19 : decode cX6_inTanks 19 = .ok (.invokevirtual 48, 3) := by decide +kernel
theorem dX6_inTanks_22 : decode cX6_inTanks 22 = .ok (.iadd, 1) := by decide +kernel
theorem dX6_inTanks_23 : decode cX6_inTanks 23 = .ok (.istore_n 1, 1) := by decide +kernel
theorem dX6_inTanks_24 : decode cX6_inTanks 24 = .ok (.iinc 2 1, 3) := by decide +kernel
theorem dX6_inTanks_27 : decode cX6_inTanks 27 = .ok (.goto (-23), 3) := by decide +kernel
theorem dX6_inTanks_30 : decode cX6_inTanks 30 = .ok (.iload_n 1, 1) := by decide +kernel
theorem dX6_inTanks_31 : decode cX6_inTanks 31 = .ok (.ireturn, 1) := by decide +kernel
theorem dX6_openSites_0 : decode cX6_openSites 0 = .ok (.iconst 0, 1) := by decide +kernel
theorem dX6_openSites_1 : decode cX6_openSites 1 = .ok (.istore_n 1, 1) := by decide +kernel
theorem dX6_openSites_2 : decode cX6_openSites 2 = .ok (.iconst 0, 1) := by decide +kernel
theorem dX6_openSites_3 : decode cX6_openSites 3 = .ok (.istore_n 2, 1) := by decide +kernel
theorem dX6_openSites_4 : decode cX6_openSites 4 = .ok (.iload_n 2, 1) := by decide +kernel
theorem dX6_openSites_5 : decode cX6_openSites 5 = .ok (.aload_n 0, 1) := by decide +kernel
theorem dX6_openSites_6 : decode cX6_openSites 6 = .ok (.getfield 7, 3) := by decide +kernel
theorem dX6_openSites_9 : decode cX6_openSites 9 = .ok (.bipush 7, 2) := by decide +kernel
theorem dX6_openSites_11 : decode cX6_openSites 11 = .ok (.iaload, 1) := by decide +kernel
theorem dX6_openSites_12 : decode cX6_openSites 12 = .ok (.if_icmp .ge 25, 3) := by decide +kernel
theorem dX6_openSites_15 : decode cX6_openSites 15 = .ok (.iload_n 1, 1) := by decide +kernel
theorem dX6_openSites_16 : decode cX6_openSites 16 = .ok (.aload_n 0, 1) := by decide +kernel
theorem dX6_openSites_17 : decode cX6_openSites 17 = .ok (.iload_n 2, 1) := by decide +kernel
theorem dX6_openSites_18 : decode cX6_openSites 18 = .ok (.invokevirtual 101, 3) := by decide +kernel
theorem dX6_openSites_21 : decode cX6_openSites 21 = .ok (.ifCond .eq 7, 3) := by decide +kernel
theorem dX6_openSites_24 : decode cX6_openSites 24 = .ok (.iconst 1, 1) := by decide +kernel
theorem dX6_openSites_25 : decode cX6_openSites 25 = .ok (.goto 4, 3) := by decide +kernel
theorem dX6_openSites_28 : decode cX6_openSites 28 = .ok (.iconst 0, 1) := by decide +kernel
theorem dX6_openSites_29 : decode cX6_openSites 29 = .ok (.iadd, 1) := by decide +kernel
theorem dX6_openSites_30 : decode cX6_openSites 30 = .ok (.istore_n 1, 1) := by decide +kernel
theorem dX6_openSites_31 : decode cX6_openSites 31 = .ok (.iinc 2 1, 3) := by decide +kernel
theorem dX6_openSites_34 : decode cX6_openSites 34 = .ok (.goto (-30), 3) := by decide +kernel
theorem dX6_openSites_37 : decode cX6_openSites 37 = .ok (.iload_n 1, 1) := by decide +kernel
theorem dX6_openSites_38 : decode cX6_openSites 38 = .ok (.ireturn, 1) := by decide +kernel
theorem dX6_count_0 : decode cX6_count 0 = .ok (.iload_n 1, 1) := by decide +kernel
theorem dX6_count_1 : decode cX6_count 1 = .ok (.tableswitch 201 0 16 #[83, 90, 100, 107, 114, 119, 126, 133, 141, 146, 154, 159, 167, 175, 183, 191, 196], 83) := by decide +kernel
theorem dX6_count_84 : decode cX6_count 84 = .ok (.aload_n 0, 1) := by decide +kernel
theorem dX6_count_85 : decode cX6_count 85 = .ok (.getfield 7, 3) := by decide +kernel
theorem dX6_count_88 : decode cX6_count 88 = .ok (.iconst 0, 1) := by decide +kernel
theorem dX6_count_89 : decode cX6_count 89 = .ok (.iaload, 1) := by decide +kernel
theorem dX6_count_90 : decode cX6_count 90 = .ok (.ireturn, 1) := by decide +kernel
theorem dX6_count_91 : decode cX6_count 91 = .ok (.aload_n 0, 1) := by decide +kernel
theorem dX6_count_92 : decode cX6_count 92 = .ok (.getfield 7, 3) := by decide +kernel
theorem dX6_count_95 : decode cX6_count 95 = .ok (.iconst 1, 1) := by decide +kernel
theorem dX6_count_96 : decode cX6_count 96 = .ok (.iaload, 1) := by decide +kernel
theorem dX6_count_97 : decode cX6_count 97 = .ok (.bipush 100, 2) := by decide +kernel
theorem dX6_count_99 : decode cX6_count 99 = .ok (.iadd, 1) := by decide +kernel
theorem dX6_count_100 : decode cX6_count 100 = .ok (.ireturn, 1) := by decide +kernel
theorem dX6_count_101 : decode cX6_count 101 = .ok (.aload_n 0, 1) := by decide +kernel
theorem dX6_count_102 : decode cX6_count 102 = .ok (.getfield 7, 3) := by decide +kernel
theorem dX6_count_105 : decode cX6_count 105 = .ok (.iconst 2, 1) := by decide +kernel
theorem dX6_count_106 : decode cX6_count 106 = .ok (.iaload, 1) := by decide +kernel
theorem dX6_count_107 : decode cX6_count 107 = .ok (.ireturn, 1) := by decide +kernel
theorem dX6_count_108 : decode cX6_count 108 = .ok (.aload_n 0, 1) := by decide +kernel
theorem dX6_count_109 : decode cX6_count 109 = .ok (.getfield 7, 3) := by decide +kernel
theorem dX6_count_112 : decode cX6_count 112 = .ok (.iconst 3, 1) := by decide +kernel
theorem dX6_count_113 : decode cX6_count 113 = .ok (.iaload, 1) := by decide +kernel
theorem dX6_count_114 : decode cX6_count 114 = .ok (.ireturn, 1) := by decide +kernel
theorem dX6_count_115 : decode cX6_count 115 = .ok (.aload_n 0, 1) := by decide +kernel
theorem dX6_count_116 : decode cX6_count 116 = .ok (.invokevirtual 167, 3) := by decide +kernel
theorem dX6_count_119 : decode cX6_count 119 = .ok (.ireturn, 1) := by decide +kernel
theorem dX6_count_120 : decode cX6_count 120 = .ok (.aload_n 0, 1) := by decide +kernel
theorem dX6_count_121 : decode cX6_count 121 = .ok (.getfield 7, 3) := by decide +kernel
theorem dX6_count_124 : decode cX6_count 124 = .ok (.iconst 4, 1) := by decide +kernel
theorem dX6_count_125 : decode cX6_count 125 = .ok (.iaload, 1) := by decide +kernel
theorem dX6_count_126 : decode cX6_count 126 = .ok (.ireturn, 1) := by decide +kernel
theorem dX6_count_127 : decode cX6_count 127 = .ok (.aload_n 0, 1) := by decide +kernel
theorem dX6_count_128 : decode cX6_count 128 = .ok (.getfield 7, 3) := by decide +kernel
theorem dX6_count_131 : decode cX6_count 131 = .ok (.iconst 5, 1) := by decide +kernel
theorem dX6_count_132 : decode cX6_count 132 = .ok (.iaload, 1) := by decide +kernel
theorem dX6_count_133 : decode cX6_count 133 = .ok (.ireturn, 1) := by decide +kernel
theorem dX6_count_134 : decode cX6_count 134 = .ok (.aload_n 0, 1) := by decide +kernel
theorem dX6_count_135 : decode cX6_count 135 = .ok (.getfield 7, 3) := by decide +kernel
theorem dX6_count_138 : decode cX6_count 138 = .ok (.bipush 6, 2) := by decide +kernel
theorem dX6_count_140 : decode cX6_count 140 = .ok (.iaload, 1) := by decide +kernel
theorem dX6_count_141 : decode cX6_count 141 = .ok (.ireturn, 1) := by decide +kernel
theorem dX6_count_142 : decode cX6_count 142 = .ok (.aload_n 0, 1) := by decide +kernel
theorem dX6_count_143 : decode cX6_count 143 = .ok (.invokevirtual 93, 3) := by decide +kernel
theorem dX6_count_146 : decode cX6_count 146 = .ok (.ireturn, 1) := by decide +kernel
theorem dX6_count_147 : decode cX6_count 147 = .ok (.aload_n 0, 1) := by decide +kernel
theorem dX6_count_148 : decode cX6_count 148 = .ok (.getfield 7, 3) := by decide +kernel
theorem dX6_count_151 : decode cX6_count 151 = .ok (.bipush 7, 2) := by decide +kernel
theorem dX6_count_153 : decode cX6_count 153 = .ok (.iaload, 1) := by decide +kernel
theorem dX6_count_154 : decode cX6_count 154 = .ok (.ireturn, 1) := by decide +kernel
theorem dX6_count_155 : decode cX6_count 155 = .ok (.aload_n 0, 1) := by decide +kernel
theorem dX6_count_156 : decode cX6_count 156 = .ok (.invokevirtual 170, 3) := by decide +kernel
theorem dX6_count_159 : decode cX6_count 159 = .ok (.ireturn, 1) := by decide +kernel
theorem dX6_count_160 : decode cX6_count 160 = .ok (.aload_n 0, 1) := by decide +kernel
theorem dX6_count_161 : decode cX6_count 161 = .ok (.getfield 7, 3) := by decide +kernel
theorem dX6_count_164 : decode cX6_count 164 = .ok (.bipush 8, 2) := by decide +kernel
theorem dX6_count_166 : decode cX6_count 166 = .ok (.iaload, 1) := by decide +kernel
theorem dX6_count_167 : decode cX6_count 167 = .ok (.ireturn, 1) := by decide +kernel
theorem dX6_count_168 : decode cX6_count 168 = .ok (.aload_n 0, 1) := by decide +kernel
theorem dX6_count_169 : decode cX6_count 169 = .ok (.getfield 7, 3) := by decide +kernel
theorem dX6_count_172 : decode cX6_count 172 = .ok (.bipush 9, 2) := by decide +kernel
theorem dX6_count_174 : decode cX6_count 174 = .ok (.iaload, 1) := by decide +kernel
theorem dX6_count_175 : decode cX6_count 175 = .ok (.ireturn, 1) := by decide +kernel
theorem dX6_count_176 : decode cX6_count 176 = .ok (.aload_n 0, 1) := by decide +kernel
theorem dX6_count_177 : decode cX6_count 177 = .ok (.getfield 7, 3) := by decide +kernel
theorem dX6_count_180 : decode cX6_count 180 = .ok (.bipush 10, 2) := by decide +kernel
theorem dX6_count_182 : decode cX6_count 182 = .ok (.iaload, 1) := by decide +kernel
theorem dX6_count_183 : decode cX6_count 183 = .ok (.ireturn, 1) := by decide +kernel
theorem dX6_count_184 : decode cX6_count 184 = .ok (.aload_n 0, 1) := by decide +kernel
theorem dX6_count_185 : decode cX6_count 185 = .ok (.getfield 7, 3) := by decide +kernel
theorem dX6_count_188 : decode cX6_count 188 = .ok (.bipush 11, 2) := by decide +kernel
theorem dX6_count_190 : decode cX6_count 190 = .ok (.iaload, 1) := by decide +kernel
theorem dX6_count_191 : decode cX6_count 191 = .ok (.ireturn, 1) := by decide +kernel
theorem dX6_count_192 : decode cX6_count 192 = .ok (.aload_n 0, 1) := by decide +kernel
theorem dX6_count_193 : decode cX6_count 193 = .ok (.getfield 32, 3) := by decide +kernel
theorem dX6_count_196 : decode cX6_count 196 = .ok (.ireturn, 1) := by decide +kernel
theorem dX6_count_197 : decode cX6_count 197 = .ok (.aload_n 0, 1) := by decide +kernel
theorem dX6_count_198 : decode cX6_count 198 = .ok (.getfield 140, 3) := by decide +kernel
theorem dX6_count_201 : decode cX6_count 201 = .ok (.ireturn, 1) := by decide +kernel
theorem dX6_count_202 : decode cX6_count 202 = .ok (.bipush (-2), 2) := by decide +kernel
theorem dX6_count_204 : decode cX6_count 204 = .ok (.ireturn, 1) := by decide +kernel
theorem dL_law_0 : decode cL_law 0 = .ok (.new 7, 3) := by decide +kernel
theorem dL_law_3 : decode cL_law 3 = .ok (.dup, 1) := by decide +kernel
theorem dL_law_4 : decode cL_law 4 = .ok (.invokespecial 9, 3) := by decide +kernel
theorem dL_law_7 : decode cL_law 7 = .ok (.astore_n 1, 1) := by decide +kernel
theorem dL_law_8 : decode cL_law 8 = .ok (.new 10, 3) := by decide +kernel
theorem dL_law_11 : decode cL_law 11 = .ok (.dup, 1) := by decide +kernel
theorem dL_law_12 : decode cL_law 12 = .ok (.invokespecial 12, 3) := by decide +kernel
theorem dL_law_15 : decode cL_law 15 = .ok (.astore_n 2, 1) := by decide +kernel
theorem dL_law_16 : decode cL_law 16 = .ok (.iconst 0, 1) := by decide +kernel
theorem dL_law_17 : decode cL_law 17 = .ok (.istore_n 3, 1) := by decide +kernel
theorem dL_law_18 : decode cL_law 18 = .ok (.iload_n 3, 1) := by decide +kernel
theorem dL_law_19 : decode cL_law 19 = .ok (.aload_n 0, 1) := by decide +kernel
theorem dL_law_20 : decode cL_law 20 = .ok (.arraylength, 1) := by decide +kernel
theorem dL_law_21 : decode cL_law 21 = .ok (.iconst 5, 1) := by decide +kernel
theorem dL_law_22 : decode cL_law 22 = .ok (.isub, 1) := by decide +kernel
theorem dL_law_23 : decode cL_law 23 = .ok (.if_icmp .gt 728, 3) := by decide +kernel
theorem dL_law_26 : decode cL_law 26 = .ok (.aload_n 0, 1) := by decide +kernel
theorem dL_law_27 : decode cL_law 27 = .ok (.iload_n 3, 1) := by decide +kernel
theorem dL_law_28 : decode cL_law 28 = .ok (.iaload, 1) := by decide +kernel
theorem dL_law_29 : decode cL_law 29 = .ok (.bipush 31, 2) := by decide +kernel
theorem dL_law_31 : decode cL_law 31 = .ok (.iand, 1) := by decide +kernel
theorem dL_law_32 : decode cL_law 32 = .ok (.tableswitch 713 0 24 #[116, 139, 162, 185, 238, 261, 314, 347, 370, 383, 396, 409, 432, 457, 470, 483, 496, 509, 522, 555, 588, 611, 634, 657, 690], 116) := by decide +kernel
theorem dL_law_148 : decode cL_law 148 = .ok (.aload_n 1, 1) := by decide +kernel
theorem dL_law_149 : decode cL_law 149 = .ok (.aload_n 0, 1) := by decide +kernel
theorem dL_law_150 : decode cL_law 150 = .ok (.iload_n 3, 1) := by decide +kernel
theorem dL_law_151 : decode cL_law 151 = .ok (.iconst 1, 1) := by decide +kernel
theorem dL_law_152 : decode cL_law 152 = .ok (.iadd, 1) := by decide +kernel
theorem dL_law_153 : decode cL_law 153 = .ok (.iaload, 1) := by decide +kernel
theorem dL_law_154 : decode cL_law 154 = .ok (.invokevirtual 13, 3) := by decide +kernel
theorem dL_law_157 : decode cL_law 157 = .ok (.aload_n 2, 1) := by decide +kernel
theorem dL_law_158 : decode cL_law 158 = .ok (.aload_n 0, 1) := by decide +kernel
theorem dL_law_159 : decode cL_law 159 = .ok (.iload_n 3, 1) := by decide +kernel
theorem dL_law_160 : decode cL_law 160 = .ok (.iconst 1, 1) := by decide +kernel
theorem dL_law_161 : decode cL_law 161 = .ok (.iadd, 1) := by decide +kernel
theorem dL_law_162 : decode cL_law 162 = .ok (.iaload, 1) := by decide +kernel
theorem dL_law_163 : decode cL_law 163 = .ok (.invokevirtual 17, 3) := by decide +kernel
theorem dL_law_166 : decode cL_law 166 = .ok (.if_icmp .eq 579, 3) := by decide +kernel
theorem dL_law_169 : decode cL_law 169 = .ok (.iconst 0, 1) := by decide +kernel
theorem dL_law_170 : decode cL_law 170 = .ok (.ireturn, 1) := by decide +kernel
theorem dL_law_171 : decode cL_law 171 = .ok (.aload_n 1, 1) := by decide +kernel
theorem dL_law_172 : decode cL_law 172 = .ok (.aload_n 0, 1) := by decide +kernel
theorem dL_law_173 : decode cL_law 173 = .ok (.iload_n 3, 1) := by decide +kernel
theorem dL_law_174 : decode cL_law 174 = .ok (.iconst 1, 1) := by decide +kernel
theorem dL_law_175 : decode cL_law 175 = .ok (.iadd, 1) := by decide +kernel
theorem dL_law_176 : decode cL_law 176 = .ok (.iaload, 1) := by decide +kernel
theorem dL_law_177 : decode cL_law 177 = .ok (.invokevirtual 18, 3) := by decide +kernel
theorem dL_law_180 : decode cL_law 180 = .ok (.aload_n 2, 1) := by decide +kernel
theorem dL_law_181 : decode cL_law 181 = .ok (.aload_n 0, 1) := by decide +kernel
theorem dL_law_182 : decode cL_law 182 = .ok (.iload_n 3, 1) := by decide +kernel
theorem dL_law_183 : decode cL_law 183 = .ok (.iconst 1, 1) := by decide +kernel
theorem dL_law_184 : decode cL_law 184 = .ok (.iadd, 1) := by decide +kernel
theorem dL_law_185 : decode cL_law 185 = .ok (.iaload, 1) := by decide +kernel
theorem dL_law_186 : decode cL_law 186 = .ok (.invokevirtual 21, 3) := by decide +kernel
theorem dL_law_189 : decode cL_law 189 = .ok (.if_icmp .eq 556, 3) := by decide +kernel
theorem dL_law_192 : decode cL_law 192 = .ok (.iconst 0, 1) := by decide +kernel
theorem dL_law_193 : decode cL_law 193 = .ok (.ireturn, 1) := by decide +kernel
theorem dL_law_194 : decode cL_law 194 = .ok (.aload_n 1, 1) := by decide +kernel
theorem dL_law_195 : decode cL_law 195 = .ok (.aload_n 0, 1) := by decide +kernel
theorem dL_law_196 : decode cL_law 196 = .ok (.iload_n 3, 1) := by decide +kernel
theorem dL_law_197 : decode cL_law 197 = .ok (.iconst 1, 1) := by decide +kernel
theorem dL_law_198 : decode cL_law 198 = .ok (.iadd, 1) := by decide +kernel
theorem dL_law_199 : decode cL_law 199 = .ok (.iaload, 1) := by decide +kernel
theorem dL_law_200 : decode cL_law 200 = .ok (.invokevirtual 22, 3) := by decide +kernel
theorem dL_law_203 : decode cL_law 203 = .ok (.aload_n 2, 1) := by decide +kernel
theorem dL_law_204 : decode cL_law 204 = .ok (.aload_n 0, 1) := by decide +kernel
theorem dL_law_205 : decode cL_law 205 = .ok (.iload_n 3, 1) := by decide +kernel
theorem dL_law_206 : decode cL_law 206 = .ok (.iconst 1, 1) := by decide +kernel
theorem dL_law_207 : decode cL_law 207 = .ok (.iadd, 1) := by decide +kernel
theorem dL_law_208 : decode cL_law 208 = .ok (.iaload, 1) := by decide +kernel
theorem dL_law_209 : decode cL_law 209 = .ok (.invokevirtual 25, 3) := by decide +kernel
theorem dL_law_212 : decode cL_law 212 = .ok (.if_icmp .eq 533, 3) := by decide +kernel
theorem dL_law_215 : decode cL_law 215 = .ok (.iconst 0, 1) := by decide +kernel
theorem dL_law_216 : decode cL_law 216 = .ok (.ireturn, 1) := by decide +kernel
theorem dL_law_217 : decode cL_law 217 = .ok (.aload_n 1, 1) := by decide +kernel
theorem dL_law_218 : decode cL_law 218 = .ok (.aload_n 0, 1) := by decide +kernel
theorem dL_law_219 : decode cL_law 219 = .ok (.iload_n 3, 1) := by decide +kernel
theorem dL_law_220 : decode cL_law 220 = .ok (.iconst 1, 1) := by decide +kernel
theorem dL_law_221 : decode cL_law 221 = .ok (.iadd, 1) := by decide +kernel
theorem dL_law_222 : decode cL_law 222 = .ok (.iaload, 1) := by decide +kernel
theorem dL_law_223 : decode cL_law 223 = .ok (.aload_n 0, 1) := by decide +kernel
theorem dL_law_224 : decode cL_law 224 = .ok (.iload_n 3, 1) := by decide +kernel
theorem dL_law_225 : decode cL_law 225 = .ok (.iconst 2, 1) := by decide +kernel
theorem dL_law_226 : decode cL_law 226 = .ok (.iadd, 1) := by decide +kernel
theorem dL_law_227 : decode cL_law 227 = .ok (.iaload, 1) := by decide +kernel
theorem dL_law_228 : decode cL_law 228 = .ok (.aload_n 0, 1) := by decide +kernel
theorem dL_law_229 : decode cL_law 229 = .ok (.iload_n 3, 1) := by decide +kernel
theorem dL_law_230 : decode cL_law 230 = .ok (.iconst 3, 1) := by decide +kernel
theorem dL_law_231 : decode cL_law 231 = .ok (.iadd, 1) := by decide +kernel
theorem dL_law_232 : decode cL_law 232 = .ok (.iaload, 1) := by decide +kernel
theorem dL_law_233 : decode cL_law 233 = .ok (.aload_n 0, 1) := by decide +kernel
theorem dL_law_234 : decode cL_law 234 = .ok (.iload_n 3, 1) := by decide +kernel
theorem dL_law_235 : decode cL_law 235 = .ok (.iconst 4, 1) := by decide +kernel
theorem dL_law_236 : decode cL_law 236 = .ok (.iadd, 1) := by decide +kernel
theorem dL_law_237 : decode cL_law 237 = .ok (.iaload, 1) := by decide +kernel
theorem dL_law_238 : decode cL_law 238 = .ok (.invokevirtual 26, 3) := by decide +kernel
theorem dL_law_241 : decode cL_law 241 = .ok (.aload_n 2, 1) := by decide +kernel
theorem dL_law_242 : decode cL_law 242 = .ok (.aload_n 0, 1) := by decide +kernel
theorem dL_law_243 : decode cL_law 243 = .ok (.iload_n 3, 1) := by decide +kernel
theorem dL_law_244 : decode cL_law 244 = .ok (.iconst 1, 1) := by decide +kernel
theorem dL_law_245 : decode cL_law 245 = .ok (.iadd, 1) := by decide +kernel
theorem dL_law_246 : decode cL_law 246 = .ok (.iaload, 1) := by decide +kernel
theorem dL_law_247 : decode cL_law 247 = .ok (.aload_n 0, 1) := by decide +kernel
theorem dL_law_248 : decode cL_law 248 = .ok (.iload_n 3, 1) := by decide +kernel
theorem dL_law_249 : decode cL_law 249 = .ok (.iconst 2, 1) := by decide +kernel
theorem dL_law_250 : decode cL_law 250 = .ok (.iadd, 1) := by decide +kernel
theorem dL_law_251 : decode cL_law 251 = .ok (.iaload, 1) := by decide +kernel
theorem dL_law_252 : decode cL_law 252 = .ok (.aload_n 0, 1) := by decide +kernel
theorem dL_law_253 : decode cL_law 253 = .ok (.iload_n 3, 1) := by decide +kernel
theorem dL_law_254 : decode cL_law 254 = .ok (.iconst 3, 1) := by decide +kernel
theorem dL_law_255 : decode cL_law 255 = .ok (.iadd, 1) := by decide +kernel
theorem dL_law_256 : decode cL_law 256 = .ok (.iaload, 1) := by decide +kernel
theorem dL_law_257 : decode cL_law 257 = .ok (.aload_n 0, 1) := by decide +kernel
theorem dL_law_258 : decode cL_law 258 = .ok (.iload_n 3, 1) := by decide +kernel
theorem dL_law_259 : decode cL_law 259 = .ok (.iconst 4, 1) := by decide +kernel
theorem dL_law_260 : decode cL_law 260 = .ok (.iadd, 1) := by decide +kernel
theorem dL_law_261 : decode cL_law 261 = .ok (.iaload, 1) := by decide +kernel
theorem dL_law_262 : decode cL_law 262 = .ok (.invokevirtual 30, 3) := by decide +kernel
theorem dL_law_265 : decode cL_law 265 = .ok (.if_icmp .eq 480, 3) := by decide +kernel
theorem dL_law_268 : decode cL_law 268 = .ok (.iconst 0, 1) := by decide +kernel
theorem dL_law_269 : decode cL_law 269 = .ok (.ireturn, 1) := by decide +kernel
theorem dL_law_270 : decode cL_law 270 = .ok (.aload_n 1, 1) := by decide +kernel
theorem dL_law_271 : decode cL_law 271 = .ok (.aload_n 0, 1) := by decide +kernel
theorem dL_law_272 : decode cL_law 272 = .ok (.iload_n 3, 1) := by decide +kernel
theorem dL_law_273 : decode cL_law 273 = .ok (.iconst 1, 1) := by decide +kernel
theorem dL_law_274 : decode cL_law 274 = .ok (.iadd, 1) := by decide +kernel
theorem dL_law_275 : decode cL_law 275 = .ok (.iaload, 1) := by decide +kernel
theorem dL_law_276 : decode cL_law 276 = .ok (.invokevirtual 31, 3) := by decide +kernel
theorem dL_law_279 : decode cL_law 279 = .ok (.aload_n 2, 1) := by decide +kernel
theorem dL_law_280 : decode cL_law 280 = .ok (.aload_n 0, 1) := by decide +kernel
theorem dL_law_281 : decode cL_law 281 = .ok (.iload_n 3, 1) := by decide +kernel
theorem dL_law_282 : decode cL_law 282 = .ok (.iconst 1, 1) := by decide +kernel
theorem dL_law_283 : decode cL_law 283 = .ok (.iadd, 1) := by decide +kernel
theorem dL_law_284 : decode cL_law 284 = .ok (.iaload, 1) := by decide +kernel
theorem dL_law_285 : decode cL_law 285 = .ok (.invokevirtual 34, 3) := by decide +kernel
theorem dL_law_288 : decode cL_law 288 = .ok (.if_icmp .eq 457, 3) := by decide +kernel
theorem dL_law_291 : decode cL_law 291 = .ok (.iconst 0, 1) := by decide +kernel
theorem dL_law_292 : decode cL_law 292 = .ok (.ireturn, 1) := by decide +kernel
theorem dL_law_293 : decode cL_law 293 = .ok (.aload_n 1, 1) := by decide +kernel
theorem dL_law_294 : decode cL_law 294 = .ok (.aload_n 0, 1) := by decide +kernel
theorem dL_law_295 : decode cL_law 295 = .ok (.iload_n 3, 1) := by decide +kernel
theorem dL_law_296 : decode cL_law 296 = .ok (.iconst 1, 1) := by decide +kernel
theorem dL_law_297 : decode cL_law 297 = .ok (.iadd, 1) := by decide +kernel
theorem dL_law_298 : decode cL_law 298 = .ok (.iaload, 1) := by decide +kernel
theorem dL_law_299 : decode cL_law 299 = .ok (.aload_n 0, 1) := by decide +kernel
theorem dL_law_300 : decode cL_law 300 = .ok (.iload_n 3, 1) := by decide +kernel
theorem dL_law_301 : decode cL_law 301 = .ok (.iconst 2, 1) := by decide +kernel
theorem dL_law_302 : decode cL_law 302 = .ok (.iadd, 1) := by decide +kernel
theorem dL_law_303 : decode cL_law 303 = .ok (.iaload, 1) := by decide +kernel
theorem dL_law_304 : decode cL_law 304 = .ok (.aload_n 0, 1) := by decide +kernel
theorem dL_law_305 : decode cL_law 305 = .ok (.iload_n 3, 1) := by decide +kernel
theorem dL_law_306 : decode cL_law 306 = .ok (.iconst 3, 1) := by decide +kernel
theorem dL_law_307 : decode cL_law 307 = .ok (.iadd, 1) := by decide +kernel
theorem dL_law_308 : decode cL_law 308 = .ok (.iaload, 1) := by decide +kernel
theorem dL_law_309 : decode cL_law 309 = .ok (.aload_n 0, 1) := by decide +kernel
theorem dL_law_310 : decode cL_law 310 = .ok (.iload_n 3, 1) := by decide +kernel
theorem dL_law_311 : decode cL_law 311 = .ok (.iconst 4, 1) := by decide +kernel
theorem dL_law_312 : decode cL_law 312 = .ok (.iadd, 1) := by decide +kernel
theorem dL_law_313 : decode cL_law 313 = .ok (.iaload, 1) := by decide +kernel
theorem dL_law_314 : decode cL_law 314 = .ok (.invokevirtual 35, 3) := by decide +kernel
theorem dL_law_317 : decode cL_law 317 = .ok (.aload_n 2, 1) := by decide +kernel
theorem dL_law_318 : decode cL_law 318 = .ok (.aload_n 0, 1) := by decide +kernel
theorem dL_law_319 : decode cL_law 319 = .ok (.iload_n 3, 1) := by decide +kernel
theorem dL_law_320 : decode cL_law 320 = .ok (.iconst 1, 1) := by decide +kernel
theorem dL_law_321 : decode cL_law 321 = .ok (.iadd, 1) := by decide +kernel
theorem dL_law_322 : decode cL_law 322 = .ok (.iaload, 1) := by decide +kernel
theorem dL_law_323 : decode cL_law 323 = .ok (.aload_n 0, 1) := by decide +kernel
theorem dL_law_324 : decode cL_law 324 = .ok (.iload_n 3, 1) := by decide +kernel
theorem dL_law_325 : decode cL_law 325 = .ok (.iconst 2, 1) := by decide +kernel
theorem dL_law_326 : decode cL_law 326 = .ok (.iadd, 1) := by decide +kernel
theorem dL_law_327 : decode cL_law 327 = .ok (.iaload, 1) := by decide +kernel
theorem dL_law_328 : decode cL_law 328 = .ok (.aload_n 0, 1) := by decide +kernel
theorem dL_law_329 : decode cL_law 329 = .ok (.iload_n 3, 1) := by decide +kernel
theorem dL_law_330 : decode cL_law 330 = .ok (.iconst 3, 1) := by decide +kernel
theorem dL_law_331 : decode cL_law 331 = .ok (.iadd, 1) := by decide +kernel
theorem dL_law_332 : decode cL_law 332 = .ok (.iaload, 1) := by decide +kernel
theorem dL_law_333 : decode cL_law 333 = .ok (.aload_n 0, 1) := by decide +kernel
theorem dL_law_334 : decode cL_law 334 = .ok (.iload_n 3, 1) := by decide +kernel
theorem dL_law_335 : decode cL_law 335 = .ok (.iconst 4, 1) := by decide +kernel
theorem dL_law_336 : decode cL_law 336 = .ok (.iadd, 1) := by decide +kernel
theorem dL_law_337 : decode cL_law 337 = .ok (.iaload, 1) := by decide +kernel
theorem dL_law_338 : decode cL_law 338 = .ok (.invokevirtual 38, 3) := by decide +kernel
theorem dL_law_341 : decode cL_law 341 = .ok (.if_icmp .eq 404, 3) := by decide +kernel
theorem dL_law_344 : decode cL_law 344 = .ok (.iconst 0, 1) := by decide +kernel
theorem dL_law_345 : decode cL_law 345 = .ok (.ireturn, 1) := by decide +kernel
theorem dL_law_346 : decode cL_law 346 = .ok (.aload_n 1, 1) := by decide +kernel
theorem dL_law_347 : decode cL_law 347 = .ok (.aload_n 0, 1) := by decide +kernel
theorem dL_law_348 : decode cL_law 348 = .ok (.iload_n 3, 1) := by decide +kernel
theorem dL_law_349 : decode cL_law 349 = .ok (.iconst 1, 1) := by decide +kernel
theorem dL_law_350 : decode cL_law 350 = .ok (.iadd, 1) := by decide +kernel
theorem dL_law_351 : decode cL_law 351 = .ok (.iaload, 1) := by decide +kernel
theorem dL_law_352 : decode cL_law 352 = .ok (.aload_n 0, 1) := by decide +kernel
theorem dL_law_353 : decode cL_law 353 = .ok (.iload_n 3, 1) := by decide +kernel
theorem dL_law_354 : decode cL_law 354 = .ok (.iconst 2, 1) := by decide +kernel
theorem dL_law_355 : decode cL_law 355 = .ok (.iadd, 1) := by decide +kernel
theorem dL_law_356 : decode cL_law 356 = .ok (.iaload, 1) := by decide +kernel
theorem dL_law_357 : decode cL_law 357 = .ok (.invokevirtual 39, 3) := by decide +kernel
theorem dL_law_360 : decode cL_law 360 = .ok (.aload_n 2, 1) := by decide +kernel
theorem dL_law_361 : decode cL_law 361 = .ok (.aload_n 0, 1) := by decide +kernel
theorem dL_law_362 : decode cL_law 362 = .ok (.iload_n 3, 1) := by decide +kernel
theorem dL_law_363 : decode cL_law 363 = .ok (.iconst 1, 1) := by decide +kernel
theorem dL_law_364 : decode cL_law 364 = .ok (.iadd, 1) := by decide +kernel
theorem dL_law_365 : decode cL_law 365 = .ok (.iaload, 1) := by decide +kernel
theorem dL_law_366 : decode cL_law 366 = .ok (.aload_n 0, 1) := by decide +kernel
theorem dL_law_367 : decode cL_law 367 = .ok (.iload_n 3, 1) := by decide +kernel
theorem dL_law_368 : decode cL_law 368 = .ok (.iconst 2, 1) := by decide +kernel
theorem dL_law_369 : decode cL_law 369 = .ok (.iadd, 1) := by decide +kernel
theorem dL_law_370 : decode cL_law 370 = .ok (.iaload, 1) := by decide +kernel
theorem dL_law_371 : decode cL_law 371 = .ok (.invokevirtual 43, 3) := by decide +kernel
theorem dL_law_374 : decode cL_law 374 = .ok (.if_icmp .eq 371, 3) := by decide +kernel
theorem dL_law_377 : decode cL_law 377 = .ok (.iconst 0, 1) := by decide +kernel
theorem dL_law_378 : decode cL_law 378 = .ok (.ireturn, 1) := by decide +kernel
theorem dL_law_379 : decode cL_law 379 = .ok (.aload_n 1, 1) := by decide +kernel
theorem dL_law_380 : decode cL_law 380 = .ok (.aload_n 0, 1) := by decide +kernel
theorem dL_law_381 : decode cL_law 381 = .ok (.iload_n 3, 1) := by decide +kernel
theorem dL_law_382 : decode cL_law 382 = .ok (.iconst 1, 1) := by decide +kernel
theorem dL_law_383 : decode cL_law 383 = .ok (.iadd, 1) := by decide +kernel
theorem dL_law_384 : decode cL_law 384 = .ok (.iaload, 1) := by decide +kernel
theorem dL_law_385 : decode cL_law 385 = .ok (.invokevirtual 44, 3) := by decide +kernel
theorem dL_law_388 : decode cL_law 388 = .ok (.aload_n 2, 1) := by decide +kernel
theorem dL_law_389 : decode cL_law 389 = .ok (.aload_n 0, 1) := by decide +kernel
theorem dL_law_390 : decode cL_law 390 = .ok (.iload_n 3, 1) := by decide +kernel
theorem dL_law_391 : decode cL_law 391 = .ok (.iconst 1, 1) := by decide +kernel
theorem dL_law_392 : decode cL_law 392 = .ok (.iadd, 1) := by decide +kernel
theorem dL_law_393 : decode cL_law 393 = .ok (.iaload, 1) := by decide +kernel
theorem dL_law_394 : decode cL_law 394 = .ok (.invokevirtual 47, 3) := by decide +kernel
theorem dL_law_397 : decode cL_law 397 = .ok (.if_icmp .eq 348, 3) := by decide +kernel
theorem dL_law_400 : decode cL_law 400 = .ok (.iconst 0, 1) := by decide +kernel
theorem dL_law_401 : decode cL_law 401 = .ok (.ireturn, 1) := by decide +kernel
theorem dL_law_402 : decode cL_law 402 = .ok (.aload_n 1, 1) := by decide +kernel
theorem dL_law_403 : decode cL_law 403 = .ok (.invokevirtual 48, 3) := by decide +kernel
theorem dL_law_406 : decode cL_law 406 = .ok (.aload_n 2, 1) := by decide +kernel
theorem dL_law_407 : decode cL_law 407 = .ok (.invokevirtual 52, 3) := by decide +kernel
theorem dL_law_410 : decode cL_law 410 = .ok (.if_icmp .eq 335, 3) := by decide +kernel
theorem dL_law_413 : decode cL_law 413 = .ok (.iconst 0, 1) := by decide +kernel
theorem dL_law_414 : decode cL_law 414 = .ok (.ireturn, 1) := by decide +kernel
theorem dL_law_415 : decode cL_law 415 = .ok (.aload_n 1, 1) := by decide +kernel
theorem dL_law_416 : decode cL_law 416 = .ok (.invokevirtual 53, 3) := by decide +kernel
theorem dL_law_419 : decode cL_law 419 = .ok (.aload_n 2, 1) := by decide +kernel
theorem dL_law_420 : decode cL_law 420 = .ok (.invokevirtual 56, 3) := by decide +kernel
theorem dL_law_423 : decode cL_law 423 = .ok (.if_icmp .eq 322, 3) := by decide +kernel
theorem dL_law_426 : decode cL_law 426 = .ok (.iconst 0, 1) := by decide +kernel
theorem dL_law_427 : decode cL_law 427 = .ok (.ireturn, 1) := by decide +kernel
theorem dL_law_428 : decode cL_law 428 = .ok (.aload_n 1, 1) := by decide +kernel
theorem dL_law_429 : decode cL_law 429 = .ok (.invokevirtual 57, 3) := by decide +kernel
theorem dL_law_432 : decode cL_law 432 = .ok (.aload_n 2, 1) := by decide +kernel
theorem dL_law_433 : decode cL_law 433 = .ok (.invokevirtual 60, 3) := by decide +kernel
theorem dL_law_436 : decode cL_law 436 = .ok (.if_icmp .eq 309, 3) := by decide +kernel
theorem dL_law_439 : decode cL_law 439 = .ok (.iconst 0, 1) := by decide +kernel
theorem dL_law_440 : decode cL_law 440 = .ok (.ireturn, 1) := by decide +kernel
theorem dL_law_441 : decode cL_law 441 = .ok (.aload_n 1, 1) := by decide +kernel
theorem dL_law_442 : decode cL_law 442 = .ok (.aload_n 0, 1) := by decide +kernel
theorem dL_law_443 : decode cL_law 443 = .ok (.iload_n 3, 1) := by decide +kernel
theorem dL_law_444 : decode cL_law 444 = .ok (.iconst 1, 1) := by decide +kernel
theorem dL_law_445 : decode cL_law 445 = .ok (.iadd, 1) := by decide +kernel
theorem dL_law_446 : decode cL_law 446 = .ok (.iaload, 1) := by decide +kernel
theorem dL_law_447 : decode cL_law 447 = .ok (.invokevirtual 61, 3) := by decide +kernel
theorem dL_law_450 : decode cL_law 450 = .ok (.aload_n 2, 1) := by decide +kernel
theorem dL_law_451 : decode cL_law 451 = .ok (.aload_n 0, 1) := by decide +kernel
theorem dL_law_452 : decode cL_law 452 = .ok (.iload_n 3, 1) := by decide +kernel
theorem dL_law_453 : decode cL_law 453 = .ok (.iconst 1, 1) := by decide +kernel
theorem dL_law_454 : decode cL_law 454 = .ok (.iadd, 1) := by decide +kernel
theorem dL_law_455 : decode cL_law 455 = .ok (.iaload, 1) := by decide +kernel
theorem dL_law_456 : decode cL_law 456 = .ok (.invokevirtual 64, 3) := by decide +kernel
theorem dL_law_459 : decode cL_law 459 = .ok (.if_icmp .eq 286, 3) := by decide +kernel
theorem dL_law_462 : decode cL_law 462 = .ok (.iconst 0, 1) := by decide +kernel
theorem dL_law_463 : decode cL_law 463 = .ok (.ireturn, 1) := by decide +kernel
theorem dL_law_464 : decode cL_law 464 = .ok (.aload_n 1, 1) := by decide +kernel
theorem dL_law_465 : decode cL_law 465 = .ok (.aload_n 0, 1) := by decide +kernel
theorem dL_law_466 : decode cL_law 466 = .ok (.iload_n 3, 1) := by decide +kernel
theorem dL_law_467 : decode cL_law 467 = .ok (.iconst 1, 1) := by decide +kernel
theorem dL_law_468 : decode cL_law 468 = .ok (.iadd, 1) := by decide +kernel
theorem dL_law_469 : decode cL_law 469 = .ok (.iaload, 1) := by decide +kernel
theorem dL_law_470 : decode cL_law 470 = .ok (.i2c, 1) := by decide +kernel
theorem dL_law_471 : decode cL_law 471 = .ok (.invokevirtual 65, 3) := by decide +kernel
theorem dL_law_474 : decode cL_law 474 = .ok (.aload_n 2, 1) := by decide +kernel
theorem dL_law_475 : decode cL_law 475 = .ok (.aload_n 0, 1) := by decide +kernel
theorem dL_law_476 : decode cL_law 476 = .ok (.iload_n 3, 1) := by decide +kernel
theorem dL_law_477 : decode cL_law 477 = .ok (.iconst 1, 1) := by decide +kernel
theorem dL_law_478 : decode cL_law 478 = .ok (.iadd, 1) := by decide +kernel
theorem dL_law_479 : decode cL_law 479 = .ok (.iaload, 1) := by decide +kernel
theorem dL_law_480 : decode cL_law 480 = .ok (.i2c, 1) := by decide +kernel
theorem dL_law_481 : decode cL_law 481 = .ok (.invokevirtual 69, 3) := by decide +kernel
theorem dL_law_484 : decode cL_law 484 = .ok (.if_icmp .eq 261, 3) := by decide +kernel
theorem dL_law_487 : decode cL_law 487 = .ok (.iconst 0, 1) := by decide +kernel
theorem dL_law_488 : decode cL_law 488 = .ok (.ireturn, 1) := by decide +kernel
theorem dL_law_489 : decode cL_law 489 = .ok (.aload_n 1, 1) := by decide +kernel
theorem dL_law_490 : decode cL_law 490 = .ok (.invokevirtual 70, 3) := by decide +kernel
theorem dL_law_493 : decode cL_law 493 = .ok (.aload_n 2, 1) := by decide +kernel
theorem dL_law_494 : decode cL_law 494 = .ok (.invokevirtual 73, 3) := by decide +kernel
theorem dL_law_497 : decode cL_law 497 = .ok (.if_icmp .eq 248, 3) := by decide +kernel
theorem dL_law_500 : decode cL_law 500 = .ok (.iconst 0, 1) := by decide +kernel
theorem dL_law_501 : decode cL_law 501 = .ok (.ireturn, 1) := by decide +kernel
theorem dL_law_502 : decode cL_law 502 = .ok (.aload_n 1, 1) := by decide +kernel
theorem dL_law_503 : decode cL_law 503 = .ok (.invokevirtual 74, 3) := by decide +kernel
theorem dL_law_506 : decode cL_law 506 = .ok (.aload_n 2, 1) := by decide +kernel
theorem dL_law_507 : decode cL_law 507 = .ok (.invokevirtual 77, 3) := by decide +kernel
theorem dL_law_510 : decode cL_law 510 = .ok (.if_icmp .eq 235, 3) := by decide +kernel
theorem dL_law_513 : decode cL_law 513 = .ok (.iconst 0, 1) := by decide +kernel
theorem dL_law_514 : decode cL_law 514 = .ok (.ireturn, 1) := by decide +kernel
theorem dL_law_515 : decode cL_law 515 = .ok (.aload_n 1, 1) := by decide +kernel
theorem dL_law_516 : decode cL_law 516 = .ok (.invokevirtual 78, 3) := by decide +kernel
theorem dL_law_519 : decode cL_law 519 = .ok (.aload_n 2, 1) := by decide +kernel
theorem dL_law_520 : decode cL_law 520 = .ok (.invokevirtual 81, 3) := by decide +kernel
theorem dL_law_523 : decode cL_law 523 = .ok (.if_icmp .eq 222, 3) := by decide +kernel
theorem dL_law_526 : decode cL_law 526 = .ok (.iconst 0, 1) := by decide +kernel
theorem dL_law_527 : decode cL_law 527 = .ok (.ireturn, 1) := by decide +kernel
theorem dL_law_528 : decode cL_law 528 = .ok (.aload_n 1, 1) := by decide +kernel
theorem dL_law_529 : decode cL_law 529 = .ok (.invokevirtual 82, 3) := by decide +kernel
theorem dL_law_532 : decode cL_law 532 = .ok (.aload_n 2, 1) := by decide +kernel
theorem dL_law_533 : decode cL_law 533 = .ok (.invokevirtual 85, 3) := by decide +kernel
theorem dL_law_536 : decode cL_law 536 = .ok (.if_icmp .eq 209, 3) := by decide +kernel
theorem dL_law_539 : decode cL_law 539 = .ok (.iconst 0, 1) := by decide +kernel
theorem dL_law_540 : decode cL_law 540 = .ok (.ireturn, 1) := by decide +kernel
theorem dL_law_541 : decode cL_law 541 = .ok (.aload_n 1, 1) := by decide +kernel
theorem dL_law_542 : decode cL_law 542 = .ok (.invokevirtual 86, 3) := by decide +kernel
theorem dL_law_545 : decode cL_law 545 = .ok (.aload_n 2, 1) := by decide +kernel
theorem dL_law_546 : decode cL_law 546 = .ok (.invokevirtual 89, 3) := by decide +kernel
theorem dL_law_549 : decode cL_law 549 = .ok (.if_icmp .eq 196, 3) := by decide +kernel
theorem dL_law_552 : decode cL_law 552 = .ok (.iconst 0, 1) := by decide +kernel
theorem dL_law_553 : decode cL_law 553 = .ok (.ireturn, 1) := by decide +kernel
theorem dL_law_554 : decode cL_law 554 = .ok (.aload_n 1, 1) := by decide +kernel
theorem dL_law_555 : decode cL_law 555 = .ok (.aload_n 0, 1) := by decide +kernel
theorem dL_law_556 : decode cL_law 556 = .ok (.iload_n 3, 1) := by decide +kernel
theorem dL_law_557 : decode cL_law 557 = .ok (.iconst 1, 1) := by decide +kernel
theorem dL_law_558 : decode cL_law 558 = .ok (.iadd, 1) := by decide +kernel
theorem dL_law_559 : decode cL_law 559 = .ok (.iaload, 1) := by decide +kernel
theorem dL_law_560 : decode cL_law 560 = .ok (.aload_n 0, 1) := by decide +kernel
theorem dL_law_561 : decode cL_law 561 = .ok (.iload_n 3, 1) := by decide +kernel
theorem dL_law_562 : decode cL_law 562 = .ok (.iconst 2, 1) := by decide +kernel
theorem dL_law_563 : decode cL_law 563 = .ok (.iadd, 1) := by decide +kernel
theorem dL_law_564 : decode cL_law 564 = .ok (.iaload, 1) := by decide +kernel
theorem dL_law_565 : decode cL_law 565 = .ok (.invokevirtual 90, 3) := by decide +kernel
theorem dL_law_568 : decode cL_law 568 = .ok (.aload_n 2, 1) := by decide +kernel
theorem dL_law_569 : decode cL_law 569 = .ok (.aload_n 0, 1) := by decide +kernel
theorem dL_law_570 : decode cL_law 570 = .ok (.iload_n 3, 1) := by decide +kernel
theorem dL_law_571 : decode cL_law 571 = .ok (.iconst 1, 1) := by decide +kernel
theorem dL_law_572 : decode cL_law 572 = .ok (.iadd, 1) := by decide +kernel
theorem dL_law_573 : decode cL_law 573 = .ok (.iaload, 1) := by decide +kernel
theorem dL_law_574 : decode cL_law 574 = .ok (.aload_n 0, 1) := by decide +kernel
theorem dL_law_575 : decode cL_law 575 = .ok (.iload_n 3, 1) := by decide +kernel
theorem dL_law_576 : decode cL_law 576 = .ok (.iconst 2, 1) := by decide +kernel
theorem dL_law_577 : decode cL_law 577 = .ok (.iadd, 1) := by decide +kernel
theorem dL_law_578 : decode cL_law 578 = .ok (.iaload, 1) := by decide +kernel
theorem dL_law_579 : decode cL_law 579 = .ok (.invokevirtual 93, 3) := by decide +kernel
theorem dL_law_582 : decode cL_law 582 = .ok (.if_icmp .eq 163, 3) := by decide +kernel
theorem dL_law_585 : decode cL_law 585 = .ok (.iconst 0, 1) := by decide +kernel
theorem dL_law_586 : decode cL_law 586 = .ok (.ireturn, 1) := by decide +kernel
theorem dL_law_587 : decode cL_law 587 = .ok (.aload_n 1, 1) := by decide +kernel
theorem dL_law_588 : decode cL_law 588 = .ok (.aload_n 0, 1) := by decide +kernel
theorem dL_law_589 : decode cL_law 589 = .ok (.iload_n 3, 1) := by decide +kernel
theorem dL_law_590 : decode cL_law 590 = .ok (.iconst 1, 1) := by decide +kernel
theorem dL_law_591 : decode cL_law 591 = .ok (.iadd, 1) := by decide +kernel
theorem dL_law_592 : decode cL_law 592 = .ok (.iaload, 1) := by decide +kernel
theorem dL_law_593 : decode cL_law 593 = .ok (.aload_n 0, 1) := by decide +kernel
theorem dL_law_594 : decode cL_law 594 = .ok (.iload_n 3, 1) := by decide +kernel
theorem dL_law_595 : decode cL_law 595 = .ok (.iconst 2, 1) := by decide +kernel
theorem dL_law_596 : decode cL_law 596 = .ok (.iadd, 1) := by decide +kernel
theorem dL_law_597 : decode cL_law 597 = .ok (.iaload, 1) := by decide +kernel
theorem dL_law_598 : decode cL_law 598 = .ok (.invokevirtual 94, 3) := by decide +kernel
theorem dL_law_601 : decode cL_law 601 = .ok (.aload_n 2, 1) := by decide +kernel
theorem dL_law_602 : decode cL_law 602 = .ok (.aload_n 0, 1) := by decide +kernel
theorem dL_law_603 : decode cL_law 603 = .ok (.iload_n 3, 1) := by decide +kernel
theorem dL_law_604 : decode cL_law 604 = .ok (.iconst 1, 1) := by decide +kernel
theorem dL_law_605 : decode cL_law 605 = .ok (.iadd, 1) := by decide +kernel
theorem dL_law_606 : decode cL_law 606 = .ok (.iaload, 1) := by decide +kernel
theorem dL_law_607 : decode cL_law 607 = .ok (.aload_n 0, 1) := by decide +kernel
theorem dL_law_608 : decode cL_law 608 = .ok (.iload_n 3, 1) := by decide +kernel
theorem dL_law_609 : decode cL_law 609 = .ok (.iconst 2, 1) := by decide +kernel
theorem dL_law_610 : decode cL_law 610 = .ok (.iadd, 1) := by decide +kernel
theorem dL_law_611 : decode cL_law 611 = .ok (.iaload, 1) := by decide +kernel
theorem dL_law_612 : decode cL_law 612 = .ok (.invokevirtual 97, 3) := by decide +kernel
theorem dL_law_615 : decode cL_law 615 = .ok (.if_icmp .eq 130, 3) := by decide +kernel
theorem dL_law_618 : decode cL_law 618 = .ok (.iconst 0, 1) := by decide +kernel
theorem dL_law_619 : decode cL_law 619 = .ok (.ireturn, 1) := by decide +kernel
theorem dL_law_620 : decode cL_law 620 = .ok (.aload_n 1, 1) := by decide +kernel
theorem dL_law_621 : decode cL_law 621 = .ok (.aload_n 0, 1) := by decide +kernel
theorem dL_law_622 : decode cL_law 622 = .ok (.iload_n 3, 1) := by decide +kernel
theorem dL_law_623 : decode cL_law 623 = .ok (.iconst 1, 1) := by decide +kernel
theorem dL_law_624 : decode cL_law 624 = .ok (.iadd, 1) := by decide +kernel
theorem dL_law_625 : decode cL_law 625 = .ok (.iaload, 1) := by decide +kernel
theorem dL_law_626 : decode cL_law 626 = .ok (.invokevirtual 98, 3) := by decide +kernel
theorem dL_law_629 : decode cL_law 629 = .ok (.aload_n 2, 1) := by decide +kernel
theorem dL_law_630 : decode cL_law 630 = .ok (.aload_n 0, 1) := by decide +kernel
theorem dL_law_631 : decode cL_law 631 = .ok (.iload_n 3, 1) := by decide +kernel
theorem dL_law_632 : decode cL_law 632 = .ok (.iconst 1, 1) := by decide +kernel
theorem dL_law_633 : decode cL_law 633 = .ok (.iadd, 1) := by decide +kernel
theorem dL_law_634 : decode cL_law 634 = .ok (.iaload, 1) := by decide +kernel
theorem dL_law_635 : decode cL_law 635 = .ok (.invokevirtual 101, 3) := by decide +kernel
theorem dL_law_638 : decode cL_law 638 = .ok (.if_icmp .eq 107, 3) := by decide +kernel
theorem dL_law_641 : decode cL_law 641 = .ok (.iconst 0, 1) := by decide +kernel
theorem dL_law_642 : decode cL_law 642 = .ok (.ireturn, 1) := by decide +kernel
theorem dL_law_643 : decode cL_law 643 = .ok (.aload_n 1, 1) := by decide +kernel
theorem dL_law_644 : decode cL_law 644 = .ok (.aload_n 0, 1) := by decide +kernel
theorem dL_law_645 : decode cL_law 645 = .ok (.iload_n 3, 1) := by decide +kernel
theorem dL_law_646 : decode cL_law 646 = .ok (.iconst 1, 1) := by decide +kernel
theorem dL_law_647 : decode cL_law 647 = .ok (.iadd, 1) := by decide +kernel
theorem dL_law_648 : decode cL_law 648 = .ok (.iaload, 1) := by decide +kernel
theorem dL_law_649 : decode cL_law 649 = .ok (.invokevirtual 102, 3) := by decide +kernel
theorem dL_law_652 : decode cL_law 652 = .ok (.aload_n 2, 1) := by decide +kernel
theorem dL_law_653 : decode cL_law 653 = .ok (.aload_n 0, 1) := by decide +kernel
theorem dL_law_654 : decode cL_law 654 = .ok (.iload_n 3, 1) := by decide +kernel
theorem dL_law_655 : decode cL_law 655 = .ok (.iconst 1, 1) := by decide +kernel
theorem dL_law_656 : decode cL_law 656 = .ok (.iadd, 1) := by decide +kernel
theorem dL_law_657 : decode cL_law 657 = .ok (.iaload, 1) := by decide +kernel
theorem dL_law_658 : decode cL_law 658 = .ok (.invokevirtual 105, 3) := by decide +kernel
theorem dL_law_661 : decode cL_law 661 = .ok (.if_icmp .eq 84, 3) := by decide +kernel
theorem dL_law_664 : decode cL_law 664 = .ok (.iconst 0, 1) := by decide +kernel
theorem dL_law_665 : decode cL_law 665 = .ok (.ireturn, 1) := by decide +kernel
theorem dL_law_666 : decode cL_law 666 = .ok (.aload_n 1, 1) := by decide +kernel
theorem dL_law_667 : decode cL_law 667 = .ok (.aload_n 0, 1) := by decide +kernel
theorem dL_law_668 : decode cL_law 668 = .ok (.iload_n 3, 1) := by decide +kernel
theorem dL_law_669 : decode cL_law 669 = .ok (.iconst 1, 1) := by decide +kernel
theorem dL_law_670 : decode cL_law 670 = .ok (.iadd, 1) := by decide +kernel
theorem dL_law_671 : decode cL_law 671 = .ok (.iaload, 1) := by decide +kernel
theorem dL_law_672 : decode cL_law 672 = .ok (.invokevirtual 106, 3) := by decide +kernel
theorem dL_law_675 : decode cL_law 675 = .ok (.aload_n 2, 1) := by decide +kernel
theorem dL_law_676 : decode cL_law 676 = .ok (.aload_n 0, 1) := by decide +kernel
theorem dL_law_677 : decode cL_law 677 = .ok (.iload_n 3, 1) := by decide +kernel
theorem dL_law_678 : decode cL_law 678 = .ok (.iconst 1, 1) := by decide +kernel
theorem dL_law_679 : decode cL_law 679 = .ok (.iadd, 1) := by decide +kernel
theorem dL_law_680 : decode cL_law 680 = .ok (.iaload, 1) := by decide +kernel
theorem dL_law_681 : decode cL_law 681 = .ok (.invokevirtual 109, 3) := by decide +kernel
theorem dL_law_684 : decode cL_law 684 = .ok (.if_icmp .eq 61, 3) := by decide +kernel
theorem dL_law_687 : decode cL_law 687 = .ok (.iconst 0, 1) := by decide +kernel
theorem dL_law_688 : decode cL_law 688 = .ok (.ireturn, 1) := by decide +kernel
theorem dL_law_689 : decode cL_law 689 = .ok (.aload_n 1, 1) := by decide +kernel
theorem dL_law_690 : decode cL_law 690 = .ok (.aload_n 0, 1) := by decide +kernel
theorem dL_law_691 : decode cL_law 691 = .ok (.iload_n 3, 1) := by decide +kernel
theorem dL_law_692 : decode cL_law 692 = .ok (.iconst 1, 1) := by decide +kernel
theorem dL_law_693 : decode cL_law 693 = .ok (.iadd, 1) := by decide +kernel
theorem dL_law_694 : decode cL_law 694 = .ok (.iaload, 1) := by decide +kernel
theorem dL_law_695 : decode cL_law 695 = .ok (.aload_n 0, 1) := by decide +kernel
theorem dL_law_696 : decode cL_law 696 = .ok (.iload_n 3, 1) := by decide +kernel
theorem dL_law_697 : decode cL_law 697 = .ok (.iconst 2, 1) := by decide +kernel
theorem dL_law_698 : decode cL_law 698 = .ok (.iadd, 1) := by decide +kernel
theorem dL_law_699 : decode cL_law 699 = .ok (.iaload, 1) := by decide +kernel
theorem dL_law_700 : decode cL_law 700 = .ok (.invokevirtual 110, 3) := by decide +kernel
theorem dL_law_703 : decode cL_law 703 = .ok (.aload_n 2, 1) := by decide +kernel
theorem dL_law_704 : decode cL_law 704 = .ok (.aload_n 0, 1) := by decide +kernel
theorem dL_law_705 : decode cL_law 705 = .ok (.iload_n 3, 1) := by decide +kernel
theorem dL_law_706 : decode cL_law 706 = .ok (.iconst 1, 1) := by decide +kernel
theorem dL_law_707 : decode cL_law 707 = .ok (.iadd, 1) := by decide +kernel
theorem dL_law_708 : decode cL_law 708 = .ok (.iaload, 1) := by decide +kernel
theorem dL_law_709 : decode cL_law 709 = .ok (.aload_n 0, 1) := by decide +kernel
theorem dL_law_710 : decode cL_law 710 = .ok (.iload_n 3, 1) := by decide +kernel
theorem dL_law_711 : decode cL_law 711 = .ok (.iconst 2, 1) := by decide +kernel
theorem dL_law_712 : decode cL_law 712 = .ok (.iadd, 1) := by decide +kernel
theorem dL_law_713 : decode cL_law 713 = .ok (.iaload, 1) := by decide +kernel
theorem dL_law_714 : decode cL_law 714 = .ok (.invokevirtual 113, 3) := by decide +kernel
theorem dL_law_717 : decode cL_law 717 = .ok (.if_icmp .eq 28, 3) := by decide +kernel
theorem dL_law_720 : decode cL_law 720 = .ok (.iconst 0, 1) := by decide +kernel
theorem dL_law_721 : decode cL_law 721 = .ok (.ireturn, 1) := by decide +kernel
theorem dL_law_722 : decode cL_law 722 = .ok (.aload_n 1, 1) := by decide +kernel
theorem dL_law_723 : decode cL_law 723 = .ok (.aload_n 0, 1) := by decide +kernel
theorem dL_law_724 : decode cL_law 724 = .ok (.iload_n 3, 1) := by decide +kernel
theorem dL_law_725 : decode cL_law 725 = .ok (.iconst 1, 1) := by decide +kernel
theorem dL_law_726 : decode cL_law 726 = .ok (.iadd, 1) := by decide +kernel
theorem dL_law_727 : decode cL_law 727 = .ok (.iaload, 1) := by decide +kernel
theorem dL_law_728 : decode cL_law 728 = .ok (.invokevirtual 114, 3) := by decide +kernel
theorem dL_law_731 : decode cL_law 731 = .ok (.aload_n 2, 1) := by decide +kernel
theorem dL_law_732 : decode cL_law 732 = .ok (.aload_n 0, 1) := by decide +kernel
theorem dL_law_733 : decode cL_law 733 = .ok (.iload_n 3, 1) := by decide +kernel
theorem dL_law_734 : decode cL_law 734 = .ok (.iconst 1, 1) := by decide +kernel
theorem dL_law_735 : decode cL_law 735 = .ok (.iadd, 1) := by decide +kernel
theorem dL_law_736 : decode cL_law 736 = .ok (.iaload, 1) := by decide +kernel
theorem dL_law_737 : decode cL_law 737 = .ok (.invokevirtual 117, 3) := by decide +kernel
theorem dL_law_740 : decode cL_law 740 = .ok (.if_icmp .eq 5, 3) := by decide +kernel
theorem dL_law_743 : decode cL_law 743 = .ok (.iconst 0, 1) := by decide +kernel
theorem dL_law_744 : decode cL_law 744 = .ok (.ireturn, 1) := by decide +kernel
theorem dL_law_745 : decode cL_law 745 = .ok (.iinc 3 5, 3) := by decide +kernel
theorem dL_law_748 : decode cL_law 748 = .ok (.goto (-730), 3) := by decide +kernel
theorem dL_law_751 : decode cL_law 751 = .ok (.iconst 1, 1) := by decide +kernel
theorem dL_law_752 : decode cL_law 752 = .ok (.ireturn, 1) := by decide +kernel
