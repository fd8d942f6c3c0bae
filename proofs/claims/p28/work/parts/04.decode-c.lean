theorem dL_cell_0 : decode cL_cell 0 = .ok (.iload_n 1, 1) := by decide +kernel
theorem dL_cell_1 : decode cL_cell 1 = .ok (.aload_n 0, 1) := by decide +kernel
theorem dL_cell_2 : decode cL_cell 2 = .ok (.arraylength, 1) := by decide +kernel
theorem dL_cell_3 : decode cL_cell 3 = .ok (.if_icmp .ge 9, 3) := by decide +kernel
theorem dL_cell_6 : decode cL_cell 6 = .ok (.aload_n 0, 1) := by decide +kernel
theorem dL_cell_7 : decode cL_cell 7 = .ok (.iload_n 1, 1) := by decide +kernel
theorem dL_cell_8 : decode cL_cell 8 = .ok (.iaload, 1) := by decide +kernel
theorem dL_cell_9 : decode cL_cell 9 = .ok (.goto 11, 3) := by decide +kernel
theorem dL_cell_12 : decode cL_cell 12 = .ok (.ldc 7, 2) := by decide +kernel
theorem dL_cell_14 : decode cL_cell 14 = .ok (.iload_n 1, 1) := by decide +kernel
theorem dL_cell_15 : decode cL_cell 15 = .ok (.imul, 1) := by decide +kernel
theorem dL_cell_16 : decode cL_cell 16 = .ok (.sipush 1259, 3) := by decide +kernel
theorem dL_cell_19 : decode cL_cell 19 = .ok (.iadd, 1) := by decide +kernel
theorem dL_cell_20 : decode cL_cell 20 = .ok (.ireturn, 1) := by decide +kernel
theorem dL_low_0 : decode cL_low 0 = .ok (.iload_n 0, 1) := by decide +kernel
theorem dL_low_1 : decode cL_low 1 = .ok (.ldc 8, 2) := by decide +kernel
theorem dL_low_3 : decode cL_low 3 = .ok (.iand, 1) := by decide +kernel
theorem dL_low_4 : decode cL_low 4 = .ok (.iload_n 1, 1) := by decide +kernel
theorem dL_low_5 : decode cL_low 5 = .ok (.irem, 1) := by decide +kernel
theorem dL_low_6 : decode cL_low 6 = .ok (.ireturn, 1) := by decide +kernel
theorem dL_digest_0 : decode cL_digest 0 = .ok (.ldc2_w 9, 3) := by decide +kernel
theorem dL_digest_3 : decode cL_digest 3 = .ok (.lstore_n 1, 1) := by decide +kernel
theorem dL_digest_4 : decode cL_digest 4 = .ok (.iconst 0, 1) := by decide +kernel
theorem dL_digest_5 : decode cL_digest 5 = .ok (.istore_n 3, 1) := by decide +kernel
theorem dL_digest_6 : decode cL_digest 6 = .ok (.iload_n 3, 1) := by decide +kernel
theorem dL_digest_7 : decode cL_digest 7 = .ok (.bipush 15, 2) := by decide +kernel
theorem dL_digest_9 : decode cL_digest 9 = .ok (.if_icmp .ge 22, 3) := by decide +kernel
theorem dL_digest_12 : decode cL_digest 12 = .ok (.ldc2_w 11, 3) := by decide +kernel
theorem dL_digest_15 : decode cL_digest 15 = .ok (.lload_n 1, 1) := by decide +kernel
theorem dL_digest_16 : decode cL_digest 16 = .ok (.lmul, 1) := by decide +kernel
theorem dL_digest_17 : decode cL_digest 17 = .ok (.aload_n 0, 1) := by decide +kernel
theorem dL_digest_18 : decode cL_digest 18 = .ok (.iload_n 3, 1) := by decide +kernel
theorem dL_digest_19 : decode cL_digest 19 = .ok (.invokevirtual 13, 3) := by decide +kernel
theorem dL_digest_22 : decode cL_digest 22 = .ok (.i2l, 1) := by decide +kernel
theorem dL_digest_23 : decode cL_digest 23 = .ok (.ladd, 1) := by decide +kernel
theorem dL_digest_24 : decode cL_digest 24 = .ok (.lstore_n 1, 1) := by decide +kernel
theorem dL_digest_25 : decode cL_digest 25 = .ok (.iinc 3 1, 3) := by decide +kernel
theorem dL_digest_28 : decode cL_digest 28 = .ok (.goto (-22), 3) := by decide +kernel
theorem dL_digest_31 : decode cL_digest 31 = .ok (.iconst 0, 1) := by decide +kernel
theorem dL_digest_32 : decode cL_digest 32 = .ok (.istore_n 3, 1) := by decide +kernel
theorem dL_digest_33 : decode cL_digest 33 = .ok (.iload_n 3, 1) := by decide +kernel
theorem dL_digest_34 : decode cL_digest 34 = .ok (.aload_n 0, 1) := by decide +kernel
theorem dL_digest_35 : decode cL_digest 35 = .ok (.bipush 7, 2) := by decide +kernel
theorem dL_digest_37 : decode cL_digest 37 = .ok (.invokevirtual 13, 3) := by decide +kernel
theorem dL_digest_40 : decode cL_digest 40 = .ok (.if_icmp .ge 40, 3) := by decide +kernel
theorem dL_digest_43 : decode cL_digest 43 = .ok (.iconst 0, 1) := by decide +kernel
theorem dL_digest_44 : decode cL_digest 44 = .ok (.istore 4, 2) := by decide +kernel
theorem dL_digest_46 : decode cL_digest 46 = .ok (.iload 4, 2) := by decide +kernel
theorem dL_digest_48 : decode cL_digest 48 = .ok (.bipush 10, 2) := by decide +kernel
theorem dL_digest_50 : decode cL_digest 50 = .ok (.if_icmp .ge 24, 3) := by decide +kernel
theorem dL_digest_53 : decode cL_digest 53 = .ok (.ldc2_w 11, 3) := by decide +kernel
theorem dL_digest_56 : decode cL_digest 56 = .ok (.lload_n 1, 1) := by decide +kernel
theorem dL_digest_57 : decode cL_digest 57 = .ok (.lmul, 1) := by decide +kernel
theorem dL_digest_58 : decode cL_digest 58 = .ok (.aload_n 0, 1) := by decide +kernel
theorem dL_digest_59 : decode cL_digest 59 = .ok (.iload_n 3, 1) := by decide +kernel
theorem dL_digest_60 : decode cL_digest 60 = .ok (.iload 4, 2) := by decide +kernel
theorem dL_digest_62 : decode cL_digest 62 = .ok (.invokevirtual 19, 3) := by decide +kernel
theorem dL_digest_65 : decode cL_digest 65 = .ok (.i2l, 1) := by decide +kernel
theorem dL_digest_66 : decode cL_digest 66 = .ok (.ladd, 1) := by decide +kernel
theorem dL_digest_67 : decode cL_digest 67 = .ok (.lstore_n 1, 1) := by decide +kernel
theorem dL_digest_68 : decode cL_digest 68 = .ok (.iinc 4 1, 3) := by decide +kernel
theorem dL_digest_71 : decode cL_digest 71 = .ok (.goto (-25), 3) := by decide +kernel
theorem dL_digest_74 : decode cL_digest 74 = .ok (.iinc 3 1, 3) := by decide +kernel
theorem dL_digest_77 : decode cL_digest 77 = .ok (.goto (-44), 3) := by decide +kernel
theorem dL_digest_80 : decode cL_digest 80 = .ok (.iconst 0, 1) := by decide +kernel
theorem dL_digest_81 : decode cL_digest 81 = .ok (.istore_n 3, 1) := by decide +kernel
theorem dL_digest_82 : decode cL_digest 82 = .ok (.iload_n 3, 1) := by decide +kernel
theorem dL_digest_83 : decode cL_digest 83 = .ok (.aload_n 0, 1) := by decide +kernel
theorem dL_digest_84 : decode cL_digest 84 = .ok (.bipush 9, 2) := by decide +kernel
theorem dL_digest_86 : decode cL_digest 86 = .ok (.invokevirtual 13, 3) := by decide +kernel
theorem dL_digest_89 : decode cL_digest 89 = .ok (.if_icmp .ge 40, 3) := by decide +kernel
theorem dL_digest_92 : decode cL_digest 92 = .ok (.iconst 0, 1) := by decide +kernel
theorem dL_digest_93 : decode cL_digest 93 = .ok (.istore 4, 2) := by decide +kernel
theorem dL_digest_95 : decode cL_digest 95 = .ok (.iload 4, 2) := by decide +kernel
theorem dL_digest_97 : decode cL_digest 97 = .ok (.bipush 10, 2) := by decide +kernel
theorem dL_digest_99 : decode cL_digest 99 = .ok (.if_icmp .ge 24, 3) := by decide +kernel
theorem dL_digest_102 : decode cL_digest 102 = .ok (.ldc2_w 11, 3) := by decide +kernel
theorem dL_digest_105 : decode cL_digest 105 = .ok (.lload_n 1, 1) := by decide +kernel
theorem dL_digest_106 : decode cL_digest 106 = .ok (.lmul, 1) := by decide +kernel
theorem dL_digest_107 : decode cL_digest 107 = .ok (.aload_n 0, 1) := by decide +kernel
theorem dL_digest_108 : decode cL_digest 108 = .ok (.iload_n 3, 1) := by decide +kernel
theorem dL_digest_109 : decode cL_digest 109 = .ok (.iload 4, 2) := by decide +kernel
theorem dL_digest_111 : decode cL_digest 111 = .ok (.invokevirtual 23, 3) := by decide +kernel
theorem dL_digest_114 : decode cL_digest 114 = .ok (.i2l, 1) := by decide +kernel
theorem dL_digest_115 : decode cL_digest 115 = .ok (.ladd, 1) := by decide +kernel
theorem dL_digest_116 : decode cL_digest 116 = .ok (.lstore_n 1, 1) := by decide +kernel
theorem dL_digest_117 : decode cL_digest 117 = .ok (.iinc 4 1, 3) := by decide +kernel
theorem dL_digest_120 : decode cL_digest 120 = .ok (.goto (-25), 3) := by decide +kernel
theorem dL_digest_123 : decode cL_digest 123 = .ok (.iinc 3 1, 3) := by decide +kernel
theorem dL_digest_126 : decode cL_digest 126 = .ok (.goto (-44), 3) := by decide +kernel
theorem dL_digest_129 : decode cL_digest 129 = .ok (.lload_n 1, 1) := by decide +kernel
theorem dL_digest_130 : decode cL_digest 130 = .ok (.lreturn, 1) := by decide +kernel
theorem dL_sets_0 : decode cL_sets 0 = .ok (.iconst 0, 1) := by decide +kernel
theorem dL_sets_1 : decode cL_sets 1 = .ok (.istore_n 1, 1) := by decide +kernel
theorem dL_sets_2 : decode cL_sets 2 = .ok (.iconst 0, 1) := by decide +kernel
theorem dL_sets_3 : decode cL_sets 3 = .ok (.istore_n 2, 1) := by decide +kernel
theorem dL_sets_4 : decode cL_sets 4 = .ok (.iconst 0, 1) := by decide +kernel
theorem dL_sets_5 : decode cL_sets 5 = .ok (.istore_n 3, 1) := by decide +kernel
theorem dL_sets_6 : decode cL_sets 6 = .ok (.iload_n 3, 1) := by decide +kernel
theorem dL_sets_7 : decode cL_sets 7 = .ok (.aload_n 0, 1) := by decide +kernel
theorem dL_sets_8 : decode cL_sets 8 = .ok (.bipush 7, 2) := by decide +kernel
theorem dL_sets_10 : decode cL_sets 10 = .ok (.invokevirtual 13, 3) := by decide +kernel
theorem dL_sets_13 : decode cL_sets 13 = .ok (.if_icmp .ge 140, 3) := by decide +kernel
theorem dL_sets_16 : decode cL_sets 16 = .ok (.aload_n 0, 1) := by decide +kernel
theorem dL_sets_17 : decode cL_sets 17 = .ok (.iload_n 3, 1) := by decide +kernel
theorem dL_sets_18 : decode cL_sets 18 = .ok (.iconst 5, 1) := by decide +kernel
theorem dL_sets_19 : decode cL_sets 19 = .ok (.invokevirtual 19, 3) := by decide +kernel
theorem dL_sets_22 : decode cL_sets 22 = .ok (.istore 4, 2) := by decide +kernel
theorem dL_sets_24 : decode cL_sets 24 = .ok (.aload_n 0, 1) := by decide +kernel
theorem dL_sets_25 : decode cL_sets 25 = .ok (.iload_n 3, 1) := by decide +kernel
theorem dL_sets_26 : decode cL_sets 26 = .ok (.iconst 4, 1) := by decide +kernel
theorem dL_sets_27 : decode cL_sets 27 = .ok (.invokevirtual 19, 3) := by decide +kernel
theorem dL_sets_30 : decode cL_sets 30 = .ok (.istore 5, 2) := by decide +kernel
theorem dL_sets_32 : decode cL_sets 32 = .ok (.iload_n 1, 1) := by decide +kernel
theorem dL_sets_33 : decode cL_sets 33 = .ok (.iload 5, 2) := by decide +kernel
theorem dL_sets_35 : decode cL_sets 35 = .ok (.iadd, 1) := by decide +kernel
theorem dL_sets_36 : decode cL_sets 36 = .ok (.istore_n 1, 1) := by decide +kernel
theorem dL_sets_37 : decode cL_sets 37 = .ok (.iload_n 2, 1) := by decide +kernel
theorem dL_sets_38 : decode cL_sets 38 = .ok (.iload 4, 2) := by decide +kernel
theorem dL_sets_40 : decode cL_sets 40 = .ok (.bipush (-5), 2) := by decide +kernel
theorem dL_sets_42 : decode cL_sets 42 = .ok (.if_icmp .ne 7, 3) := by decide +kernel
theorem dL_sets_45 : decode cL_sets 45 = .ok (.iconst 1, 1) := by decide +kernel
theorem dL_sets_46 : decode cL_sets 46 = .ok (.goto 4, 3) := by decide +kernel
theorem dL_sets_49 : decode cL_sets 49 = .ok (.iconst 0, 1) := by decide +kernel
theorem dL_sets_50 : decode cL_sets 50 = .ok (.iadd, 1) := by decide +kernel
theorem dL_sets_51 : decode cL_sets 51 = .ok (.istore_n 2, 1) := by decide +kernel
theorem dL_sets_52 : decode cL_sets 52 = .ok (.iload 5, 2) := by decide +kernel
theorem dL_sets_54 : decode cL_sets 54 = .ok (.ifCond .lt 91, 3) := by decide +kernel
theorem dL_sets_57 : decode cL_sets 57 = .ok (.iload 5, 2) := by decide +kernel
theorem dL_sets_59 : decode cL_sets 59 = .ok (.aload_n 0, 1) := by decide +kernel
theorem dL_sets_60 : decode cL_sets 60 = .ok (.iload_n 3, 1) := by decide +kernel
theorem dL_sets_61 : decode cL_sets 61 = .ok (.iconst 1, 1) := by decide +kernel
theorem dL_sets_62 : decode cL_sets 62 = .ok (.invokevirtual 19, 3) := by decide +kernel
theorem dL_sets_65 : decode cL_sets 65 = .ok (.if_icmp .gt 80, 3) := by decide +kernel
theorem dL_sets_68 : decode cL_sets 68 = .ok (.aload_n 0, 1) := by decide +kernel
theorem dL_sets_69 : decode cL_sets 69 = .ok (.iload_n 3, 1) := by decide +kernel
theorem dL_sets_70 : decode cL_sets 70 = .ok (.bipush 6, 2) := by decide +kernel
theorem dL_sets_72 : decode cL_sets 72 = .ok (.invokevirtual 19, 3) := by decide +kernel
theorem dL_sets_75 : decode cL_sets 75 = .ok (.iconst 1, 1) := by decide +kernel
theorem dL_sets_76 : decode cL_sets 76 = .ok (.if_icmp .ne 19, 3) := by decide +kernel
theorem dL_sets_79 : decode cL_sets 79 = .ok (.iload 4, 2) := by decide +kernel
theorem dL_sets_81 : decode cL_sets 81 = .ok (.ifCond .lt 64, 3) := by decide +kernel
theorem dL_sets_84 : decode cL_sets 84 = .ok (.iload 5, 2) := by decide +kernel
theorem dL_sets_86 : decode cL_sets 86 = .ok (.aload_n 0, 1) := by decide +kernel
theorem dL_sets_87 : decode cL_sets 87 = .ok (.iload_n 3, 1) := by decide +kernel
theorem dL_sets_88 : decode cL_sets 88 = .ok (.iconst 2, 1) := by decide +kernel
theorem dL_sets_89 : decode cL_sets 89 = .ok (.invokevirtual 19, 3) := by decide +kernel
theorem dL_sets_92 : decode cL_sets 92 = .ok (.if_icmp .lt 53, 3) := by decide +kernel
theorem dL_sets_95 : decode cL_sets 95 = .ok (.iload 4, 2) := by decide +kernel
theorem dL_sets_97 : decode cL_sets 97 = .ok (.ifCond .lt 14, 3) := by decide +kernel
theorem dL_sets_100 : decode cL_sets 100 = .ok (.aload_n 0, 1) := by decide +kernel
theorem dL_sets_101 : decode cL_sets 101 = .ok (.iload 4, 2) := by decide +kernel
theorem dL_sets_103 : decode cL_sets 103 = .ok (.iconst 4, 1) := by decide +kernel
theorem dL_sets_104 : decode cL_sets 104 = .ok (.invokevirtual 23, 3) := by decide +kernel
theorem dL_sets_107 : decode cL_sets 107 = .ok (.iload_n 3, 1) := by decide +kernel
theorem dL_sets_108 : decode cL_sets 108 = .ok (.if_icmp .ne 37, 3) := by decide +kernel
theorem dL_sets_111 : decode cL_sets 111 = .ok (.iload 4, 2) := by decide +kernel
theorem dL_sets_113 : decode cL_sets 113 = .ok (.ifCond .ge 13, 3) := by decide +kernel
theorem dL_sets_116 : decode cL_sets 116 = .ok (.aload_n 0, 1) := by decide +kernel
theorem dL_sets_117 : decode cL_sets 117 = .ok (.iload_n 3, 1) := by decide +kernel
theorem dL_sets_118 : decode cL_sets 118 = .ok (.bipush 7, 2) := by decide +kernel
theorem dL_sets_120 : decode cL_sets 120 = .ok (.invokevirtual 19, 3) := by decide +kernel
theorem dL_sets_123 : decode cL_sets 123 = .ok (.ifCond .ne 22, 3) := by decide +kernel
theorem dL_sets_126 : decode cL_sets 126 = .ok (.aload_n 0, 1) := by decide +kernel
theorem dL_sets_127 : decode cL_sets 127 = .ok (.iload_n 3, 1) := by decide +kernel
theorem dL_sets_128 : decode cL_sets 128 = .ok (.bipush 9, 2) := by decide +kernel
theorem dL_sets_130 : decode cL_sets 130 = .ok (.invokevirtual 19, 3) := by decide +kernel
theorem dL_sets_133 : decode cL_sets 133 = .ok (.iload 5, 2) := by decide +kernel
theorem dL_sets_135 : decode cL_sets 135 = .ok (.aload_n 0, 1) := by decide +kernel
theorem dL_sets_136 : decode cL_sets 136 = .ok (.iload_n 3, 1) := by decide +kernel
theorem dL_sets_137 : decode cL_sets 137 = .ok (.iconst 2, 1) := by decide +kernel
theorem dL_sets_138 : decode cL_sets 138 = .ok (.invokevirtual 19, 3) := by decide +kernel
theorem dL_sets_141 : decode cL_sets 141 = .ok (.idiv, 1) := by decide +kernel
theorem dL_sets_142 : decode cL_sets 142 = .ok (.if_icmp .eq 5, 3) := by decide +kernel
theorem dL_sets_145 : decode cL_sets 145 = .ok (.iconst 0, 1) := by decide +kernel
theorem dL_sets_146 : decode cL_sets 146 = .ok (.ireturn, 1) := by decide +kernel
theorem dL_sets_147 : decode cL_sets 147 = .ok (.iinc 3 1, 3) := by decide +kernel
theorem dL_sets_150 : decode cL_sets 150 = .ok (.goto (-144), 3) := by decide +kernel
theorem dL_sets_153 : decode cL_sets 153 = .ok (.aload_n 0, 1) := by decide +kernel
theorem dL_sets_154 : decode cL_sets 154 = .ok (.iconst 4, 1) := by decide +kernel
theorem dL_sets_155 : decode cL_sets 155 = .ok (.invokevirtual 13, 3) := by decide +kernel
theorem dL_sets_158 : decode cL_sets 158 = .ok (.iload_n 1, 1) := by decide +kernel
theorem dL_sets_159 : decode cL_sets 159 = .ok (.if_icmp .ne 54, 3) := by decide +kernel
theorem dL_sets_162 : decode cL_sets 162 = .ok (.aload_n 0, 1) := by decide +kernel
theorem dL_sets_163 : decode cL_sets 163 = .ok (.bipush 8, 2) := by decide +kernel
theorem dL_sets_165 : decode cL_sets 165 = .ok (.invokevirtual 13, 3) := by decide +kernel
theorem dL_sets_168 : decode cL_sets 168 = .ok (.iload_n 2, 1) := by decide +kernel
theorem dL_sets_169 : decode cL_sets 169 = .ok (.if_icmp .ne 44, 3) := by decide +kernel
theorem dL_sets_172 : decode cL_sets 172 = .ok (.aload_n 0, 1) := by decide +kernel
theorem dL_sets_173 : decode cL_sets 173 = .ok (.bipush 6, 2) := by decide +kernel
theorem dL_sets_175 : decode cL_sets 175 = .ok (.invokevirtual 13, 3) := by decide +kernel
theorem dL_sets_178 : decode cL_sets 178 = .ok (.aload_n 0, 1) := by decide +kernel
theorem dL_sets_179 : decode cL_sets 179 = .ok (.iconst 3, 1) := by decide +kernel
theorem dL_sets_180 : decode cL_sets 180 = .ok (.invokevirtual 13, 3) := by decide +kernel
theorem dL_sets_183 : decode cL_sets 183 = .ok (.iload_n 1, 1) := by decide +kernel
theorem dL_sets_184 : decode cL_sets 184 = .ok (.iadd, 1) := by decide +kernel
theorem dL_sets_185 : decode cL_sets 185 = .ok (.aload_n 0, 1) := by decide +kernel
theorem dL_sets_186 : decode cL_sets 186 = .ok (.iconst 5, 1) := by decide +kernel
theorem dL_sets_187 : decode cL_sets 187 = .ok (.invokevirtual 13, 3) := by decide +kernel
theorem dL_sets_190 : decode cL_sets 190 = .ok (.iadd, 1) := by decide +kernel
theorem dL_sets_191 : decode cL_sets 191 = .ok (.if_icmp .ne 22, 3) := by decide +kernel
theorem dL_sets_194 : decode cL_sets 194 = .ok (.aload_n 0, 1) := by decide +kernel
theorem dL_sets_195 : decode cL_sets 195 = .ok (.aload_n 0, 1) := by decide +kernel
theorem dL_sets_196 : decode cL_sets 196 = .ok (.bipush 7, 2) := by decide +kernel
theorem dL_sets_198 : decode cL_sets 198 = .ok (.invokevirtual 13, 3) := by decide +kernel
theorem dL_sets_201 : decode cL_sets 201 = .ok (.iconst 0, 1) := by decide +kernel
theorem dL_sets_202 : decode cL_sets 202 = .ok (.invokevirtual 19, 3) := by decide +kernel
theorem dL_sets_205 : decode cL_sets 205 = .ok (.iconst (-1), 1) := by decide +kernel
theorem dL_sets_206 : decode cL_sets 206 = .ok (.if_icmp .ne 7, 3) := by decide +kernel
theorem dL_sets_209 : decode cL_sets 209 = .ok (.iconst 1, 1) := by decide +kernel
theorem dL_sets_210 : decode cL_sets 210 = .ok (.goto 4, 3) := by decide +kernel
theorem dL_sets_213 : decode cL_sets 213 = .ok (.iconst 0, 1) := by decide +kernel
theorem dL_sets_214 : decode cL_sets 214 = .ok (.ireturn, 1) := by decide +kernel
theorem dL_needier_0 : decode cL_needier 0 = .ok (.aload_n 0, 1) := by decide +kernel
theorem dL_needier_1 : decode cL_needier 1 = .ok (.iload_n 1, 1) := by decide +kernel
theorem dL_needier_2 : decode cL_needier 2 = .ok (.iconst 0, 1) := by decide +kernel
theorem dL_needier_3 : decode cL_needier 3 = .ok (.invokevirtual 23, 3) := by decide +kernel
theorem dL_needier_6 : decode cL_needier 6 = .ok (.aload_n 0, 1) := by decide +kernel
theorem dL_needier_7 : decode cL_needier 7 = .ok (.iload_n 2, 1) := by decide +kernel
theorem dL_needier_8 : decode cL_needier 8 = .ok (.iconst 0, 1) := by decide +kernel
theorem dL_needier_9 : decode cL_needier 9 = .ok (.invokevirtual 23, 3) := by decide +kernel
theorem dL_needier_12 : decode cL_needier 12 = .ok (.isub, 1) := by decide +kernel
theorem dL_needier_13 : decode cL_needier 13 = .ok (.istore_n 3, 1) := by decide +kernel
theorem dL_needier_14 : decode cL_needier 14 = .ok (.aload_n 0, 1) := by decide +kernel
theorem dL_needier_15 : decode cL_needier 15 = .ok (.iload_n 1, 1) := by decide +kernel
theorem dL_needier_16 : decode cL_needier 16 = .ok (.iconst 1, 1) := by decide +kernel
theorem dL_needier_17 : decode cL_needier 17 = .ok (.invokevirtual 23, 3) := by decide +kernel
theorem dL_needier_20 : decode cL_needier 20 = .ok (.aload_n 0, 1) := by decide +kernel
theorem dL_needier_21 : decode cL_needier 21 = .ok (.iload_n 2, 1) := by decide +kernel
theorem dL_needier_22 : decode cL_needier 22 = .ok (.iconst 1, 1) := by decide +kernel
theorem dL_needier_23 : decode cL_needier 23 = .ok (.invokevirtual 23, 3) := by decide +kernel
theorem dL_needier_26 : decode cL_needier 26 = .ok (.isub, 1) := by decide +kernel
theorem dL_needier_27 : decode cL_needier 27 = .ok (.istore 4, 2) := by decide +kernel
theorem dL_needier_29 : decode cL_needier 29 = .ok (.iload_n 3, 1) := by decide +kernel
theorem dL_needier_30 : decode cL_needier 30 = .ok (.ifCond .gt 22, 3) := by decide +kernel
theorem dL_needier_33 : decode cL_needier 33 = .ok (.iload_n 3, 1) := by decide +kernel
theorem dL_needier_34 : decode cL_needier 34 = .ok (.ifCond .ne 22, 3) := by decide +kernel
theorem dL_needier_37 : decode cL_needier 37 = .ok (.iload 4, 2) := by decide +kernel
theorem dL_needier_39 : decode cL_needier 39 = .ok (.ifCond .gt 13, 3) := by decide +kernel
theorem dL_needier_42 : decode cL_needier 42 = .ok (.iload 4, 2) := by decide +kernel
theorem dL_needier_44 : decode cL_needier 44 = .ok (.ifCond .ne 12, 3) := by decide +kernel
theorem dL_needier_47 : decode cL_needier 47 = .ok (.iload_n 1, 1) := by decide +kernel
theorem dL_needier_48 : decode cL_needier 48 = .ok (.iload_n 2, 1) := by decide +kernel
theorem dL_needier_49 : decode cL_needier 49 = .ok (.if_icmp .ge 7, 3) := by decide +kernel
theorem dL_needier_52 : decode cL_needier 52 = .ok (.iconst 1, 1) := by decide +kernel
theorem dL_needier_53 : decode cL_needier 53 = .ok (.goto 4, 3) := by decide +kernel
theorem dL_needier_56 : decode cL_needier 56 = .ok (.iconst 0, 1) := by decide +kernel
theorem dL_needier_57 : decode cL_needier 57 = .ok (.ireturn, 1) := by decide +kernel
theorem dL_could_0 : decode cL_could 0 = .ok (.iconst 0, 1) := by decide +kernel
theorem dL_could_1 : decode cL_could 1 = .ok (.istore_n 2, 1) := by decide +kernel
theorem dL_could_2 : decode cL_could 2 = .ok (.iload_n 2, 1) := by decide +kernel
theorem dL_could_3 : decode cL_could 3 = .ok (.aload_n 0, 1) := by decide +kernel
theorem dL_could_4 : decode cL_could 4 = .ok (.bipush 7, 2) := by decide +kernel
theorem dL_could_6 : decode cL_could 6 = .ok (.invokevirtual 13, 3) := by decide +kernel
theorem dL_could_9 : decode cL_could 9 = .ok (.if_icmp .ge 37, 3) := by decide +kernel
theorem dL_could_12 : decode cL_could 12 = .ok (.aload_n 0, 1) := by decide +kernel
theorem dL_could_13 : decode cL_could 13 = .ok (.iload_n 2, 1) := by decide +kernel
theorem dL_could_14 : decode cL_could 14 = .ok (.iconst 5, 1) := by decide +kernel
theorem dL_could_15 : decode cL_could 15 = .ok (.invokevirtual 19, 3) := by decide +kernel
theorem dL_could_18 : decode cL_could 18 = .ok (.bipush (-5), 2) := by decide +kernel
theorem dL_could_20 : decode cL_could 20 = .ok (.if_icmp .ne 20, 3) := by decide +kernel
theorem dL_could_23 : decode cL_could 23 = .ok (.aload_n 0, 1) := by decide +kernel
theorem dL_could_24 : decode cL_could 24 = .ok (.iload_n 2, 1) := by decide +kernel
theorem dL_could_25 : decode cL_could 25 = .ok (.iconst 0, 1) := by decide +kernel
theorem dL_could_26 : decode cL_could 26 = .ok (.invokevirtual 19, 3) := by decide +kernel
theorem dL_could_29 : decode cL_could 29 = .ok (.aload_n 0, 1) := by decide +kernel
theorem dL_could_30 : decode cL_could 30 = .ok (.iload_n 1, 1) := by decide +kernel
theorem dL_could_31 : decode cL_could 31 = .ok (.iconst 1, 1) := by decide +kernel
theorem dL_could_32 : decode cL_could 32 = .ok (.invokevirtual 23, 3) := by decide +kernel
theorem dL_could_35 : decode cL_could 35 = .ok (.if_icmp .lt 5, 3) := by decide +kernel
theorem dL_could_38 : decode cL_could 38 = .ok (.iconst 1, 1) := by decide +kernel
theorem dL_could_39 : decode cL_could 39 = .ok (.ireturn, 1) := by decide +kernel
theorem dL_could_40 : decode cL_could 40 = .ok (.iinc 2 1, 3) := by decide +kernel
theorem dL_could_43 : decode cL_could 43 = .ok (.goto (-41), 3) := by decide +kernel
theorem dL_could_46 : decode cL_could 46 = .ok (.iconst 0, 1) := by decide +kernel
theorem dL_could_47 : decode cL_could 47 = .ok (.ireturn, 1) := by decide +kernel
theorem dL_fuels_0 : decode cL_fuels 0 = .ok (.aload_n 0, 1) := by decide +kernel
theorem dL_fuels_1 : decode cL_fuels 1 = .ok (.iconst 3, 1) := by decide +kernel
theorem dL_fuels_2 : decode cL_fuels 2 = .ok (.invokevirtual 13, 3) := by decide +kernel
theorem dL_fuels_5 : decode cL_fuels 5 = .ok (.istore 4, 2) := by decide +kernel
theorem dL_fuels_7 : decode cL_fuels 7 = .ok (.aload_n 0, 1) := by decide +kernel
theorem dL_fuels_8 : decode cL_fuels 8 = .ok (.iconst 4, 1) := by decide +kernel
theorem dL_fuels_9 : decode cL_fuels 9 = .ok (.invokevirtual 13, 3) := by decide +kernel
theorem dL_fuels_12 : decode cL_fuels 12 = .ok (.istore 5, 2) := by decide +kernel
theorem dL_fuels_14 : decode cL_fuels 14 = .ok (.iload_n 1, 1) := by decide +kernel
theorem dL_fuels_15 : decode cL_fuels 15 = .ok (.iconst 4, 1) := by decide +kernel
theorem dL_fuels_16 : decode cL_fuels 16 = .ok (.if_icmp .ne 73, 3) := by decide +kernel
theorem dL_fuels_19 : decode cL_fuels 19 = .ok (.iconst 1, 1) := by decide +kernel
theorem dL_fuels_20 : decode cL_fuels 20 = .ok (.iload_n 3, 1) := by decide +kernel
theorem dL_fuels_21 : decode cL_fuels 21 = .ok (.iload_n 3, 1) := by decide +kernel
theorem dL_fuels_22 : decode cL_fuels 22 = .ok (.iconst 1, 1) := by decide +kernel
theorem dL_fuels_23 : decode cL_fuels 23 = .ok (.iand, 1) := by decide +kernel
theorem dL_fuels_24 : decode cL_fuels 24 = .ok (.ifCond .ne 9, 3) := by decide +kernel
theorem dL_fuels_27 : decode cL_fuels 27 = .ok (.sipush 300, 3) := by decide +kernel
theorem dL_fuels_30 : decode cL_fuels 30 = .ok (.goto 6, 3) := by decide +kernel
theorem dL_fuels_33 : decode cL_fuels 33 = .ok (.sipush 5000, 3) := by decide +kernel
theorem dL_fuels_36 : decode cL_fuels 36 = .ok (.invokestatic 52, 3) := by decide +kernel
theorem dL_fuels_39 : decode cL_fuels 39 = .ok (.iadd, 1) := by decide +kernel
theorem dL_fuels_40 : decode cL_fuels 40 = .ok (.istore 6, 2) := by decide +kernel
theorem dL_fuels_42 : decode cL_fuels 42 = .ok (.aload_n 0, 1) := by decide +kernel
theorem dL_fuels_43 : decode cL_fuels 43 = .ok (.iload 6, 2) := by decide +kernel
theorem dL_fuels_45 : decode cL_fuels 45 = .ok (.invokevirtual 64, 3) := by decide +kernel
theorem dL_fuels_48 : decode cL_fuels 48 = .ok (.iload 4, 2) := by decide +kernel
theorem dL_fuels_50 : decode cL_fuels 50 = .ok (.iload 6, 2) := by decide +kernel
theorem dL_fuels_52 : decode cL_fuels 52 = .ok (.iadd, 1) := by decide +kernel
theorem dL_fuels_53 : decode cL_fuels 53 = .ok (.ldc 67, 2) := by decide +kernel
theorem dL_fuels_55 : decode cL_fuels 55 = .ok (.if_icmp .le 8, 3) := by decide +kernel
theorem dL_fuels_58 : decode cL_fuels 58 = .ok (.bipush (-3), 2) := by decide +kernel
theorem dL_fuels_60 : decode cL_fuels 60 = .ok (.goto 8, 3) := by decide +kernel
theorem dL_fuels_63 : decode cL_fuels 63 = .ok (.iload 4, 2) := by decide +kernel
theorem dL_fuels_65 : decode cL_fuels 65 = .ok (.iload 6, 2) := by decide +kernel
theorem dL_fuels_67 : decode cL_fuels 67 = .ok (.iadd, 1) := by decide +kernel
theorem dL_fuels_68 : decode cL_fuels 68 = .ok (.if_icmp .ne 19, 3) := by decide +kernel
theorem dL_fuels_71 : decode cL_fuels 71 = .ok (.aload_n 0, 1) := by decide +kernel
theorem dL_fuels_72 : decode cL_fuels 72 = .ok (.sipush 5001, 3) := by decide +kernel
theorem dL_fuels_75 : decode cL_fuels 75 = .ok (.invokevirtual 64, 3) := by decide +kernel
theorem dL_fuels_78 : decode cL_fuels 78 = .ok (.bipush (-2), 2) := by decide +kernel
theorem dL_fuels_80 : decode cL_fuels 80 = .ok (.if_icmp .ne 7, 3) := by decide +kernel
theorem dL_fuels_83 : decode cL_fuels 83 = .ok (.iconst 1, 1) := by decide +kernel
theorem dL_fuels_84 : decode cL_fuels 84 = .ok (.goto 4, 3) := by decide +kernel
theorem dL_fuels_87 : decode cL_fuels 87 = .ok (.iconst 0, 1) := by decide +kernel
theorem dL_fuels_88 : decode cL_fuels 88 = .ok (.ireturn, 1) := by decide +kernel
theorem dL_fuels_89 : decode cL_fuels 89 = .ok (.iload_n 1, 1) := by decide +kernel
theorem dL_fuels_90 : decode cL_fuels 90 = .ok (.iconst 5, 1) := by decide +kernel
theorem dL_fuels_91 : decode cL_fuels 91 = .ok (.if_icmp .ne 125, 3) := by decide +kernel
theorem dL_fuels_94 : decode cL_fuels 94 = .ok (.aload_n 0, 1) := by decide +kernel
theorem dL_fuels_95 : decode cL_fuels 95 = .ok (.bipush 7, 2) := by decide +kernel
theorem dL_fuels_97 : decode cL_fuels 97 = .ok (.invokevirtual 13, 3) := by decide +kernel
theorem dL_fuels_100 : decode cL_fuels 100 = .ok (.ifCond .le 116, 3) := by decide +kernel
theorem dL_fuels_103 : decode cL_fuels 103 = .ok (.iload_n 2, 1) := by decide +kernel
theorem dL_fuels_104 : decode cL_fuels 104 = .ok (.aload_n 0, 1) := by decide +kernel
theorem dL_fuels_105 : decode cL_fuels 105 = .ok (.bipush 7, 2) := by decide +kernel
theorem dL_fuels_107 : decode cL_fuels 107 = .ok (.invokevirtual 13, 3) := by decide +kernel
theorem dL_fuels_110 : decode cL_fuels 110 = .ok (.invokestatic 52, 3) := by decide +kernel
theorem dL_fuels_113 : decode cL_fuels 113 = .ok (.istore 6, 2) := by decide +kernel
theorem dL_fuels_115 : decode cL_fuels 115 = .ok (.aload_n 0, 1) := by decide +kernel
theorem dL_fuels_116 : decode cL_fuels 116 = .ok (.iload 6, 2) := by decide +kernel
theorem dL_fuels_118 : decode cL_fuels 118 = .ok (.iconst 1, 1) := by decide +kernel
theorem dL_fuels_119 : decode cL_fuels 119 = .ok (.invokevirtual 19, 3) := by decide +kernel
theorem dL_fuels_122 : decode cL_fuels 122 = .ok (.aload_n 0, 1) := by decide +kernel
theorem dL_fuels_123 : decode cL_fuels 123 = .ok (.iload 6, 2) := by decide +kernel
theorem dL_fuels_125 : decode cL_fuels 125 = .ok (.iconst 4, 1) := by decide +kernel
theorem dL_fuels_126 : decode cL_fuels 126 = .ok (.invokevirtual 19, 3) := by decide +kernel
theorem dL_fuels_129 : decode cL_fuels 129 = .ok (.isub, 1) := by decide +kernel
theorem dL_fuels_130 : decode cL_fuels 130 = .ok (.istore 7, 2) := by decide +kernel
theorem dL_fuels_132 : decode cL_fuels 132 = .ok (.iload 7, 2) := by decide +kernel
theorem dL_fuels_134 : decode cL_fuels 134 = .ok (.iload 4, 2) := by decide +kernel
theorem dL_fuels_136 : decode cL_fuels 136 = .ok (.if_icmp .ge 8, 3) := by decide +kernel
theorem dL_fuels_139 : decode cL_fuels 139 = .ok (.iload 7, 2) := by decide +kernel
theorem dL_fuels_141 : decode cL_fuels 141 = .ok (.goto 5, 3) := by decide +kernel
theorem dL_fuels_144 : decode cL_fuels 144 = .ok (.iload 4, 2) := by decide +kernel
theorem dL_fuels_146 : decode cL_fuels 146 = .ok (.istore 8, 2) := by decide +kernel
theorem dL_fuels_148 : decode cL_fuels 148 = .ok (.aload_n 0, 1) := by decide +kernel
theorem dL_fuels_149 : decode cL_fuels 149 = .ok (.iload 6, 2) := by decide +kernel
theorem dL_fuels_151 : decode cL_fuels 151 = .ok (.iconst 5, 1) := by decide +kernel
theorem dL_fuels_152 : decode cL_fuels 152 = .ok (.invokevirtual 19, 3) := by decide +kernel
theorem dL_fuels_155 : decode cL_fuels 155 = .ok (.ifCond .lt 7, 3) := by decide +kernel
theorem dL_fuels_158 : decode cL_fuels 158 = .ok (.iconst 1, 1) := by decide +kernel
theorem dL_fuels_159 : decode cL_fuels 159 = .ok (.goto 4, 3) := by decide +kernel
theorem dL_fuels_162 : decode cL_fuels 162 = .ok (.iconst 0, 1) := by decide +kernel
theorem dL_fuels_163 : decode cL_fuels 163 = .ok (.istore 9, 2) := by decide +kernel
theorem dL_fuels_165 : decode cL_fuels 165 = .ok (.aload_n 0, 1) := by decide +kernel
theorem dL_fuels_166 : decode cL_fuels 166 = .ok (.iload 6, 2) := by decide +kernel
theorem dL_fuels_168 : decode cL_fuels 168 = .ok (.invokevirtual 68, 3) := by decide +kernel
theorem dL_fuels_171 : decode cL_fuels 171 = .ok (.iload 9, 2) := by decide +kernel
theorem dL_fuels_173 : decode cL_fuels 173 = .ok (.ifCond .eq 8, 3) := by decide +kernel
theorem dL_fuels_176 : decode cL_fuels 176 = .ok (.bipush (-4), 2) := by decide +kernel
theorem dL_fuels_178 : decode cL_fuels 178 = .ok (.goto 15, 3) := by decide +kernel
theorem dL_fuels_181 : decode cL_fuels 181 = .ok (.iload 8, 2) := by decide +kernel
theorem dL_fuels_183 : decode cL_fuels 183 = .ok (.ifCond .ne 8, 3) := by decide +kernel
theorem dL_fuels_186 : decode cL_fuels 186 = .ok (.bipush (-5), 2) := by decide +kernel
theorem dL_fuels_188 : decode cL_fuels 188 = .ok (.goto 5, 3) := by decide +kernel
theorem dL_fuels_191 : decode cL_fuels 191 = .ok (.iload 8, 2) := by decide +kernel
theorem dL_fuels_193 : decode cL_fuels 193 = .ok (.if_icmp .ne 21, 3) := by decide +kernel
theorem dL_fuels_196 : decode cL_fuels 196 = .ok (.aload_n 0, 1) := by decide +kernel
theorem dL_fuels_197 : decode cL_fuels 197 = .ok (.aload_n 0, 1) := by decide +kernel
theorem dL_fuels_198 : decode cL_fuels 198 = .ok (.bipush 7, 2) := by decide +kernel
theorem dL_fuels_200 : decode cL_fuels 200 = .ok (.invokevirtual 13, 3) := by decide +kernel
theorem dL_fuels_203 : decode cL_fuels 203 = .ok (.invokevirtual 68, 3) := by decide +kernel
theorem dL_fuels_206 : decode cL_fuels 206 = .ok (.iconst (-1), 1) := by decide +kernel
theorem dL_fuels_207 : decode cL_fuels 207 = .ok (.if_icmp .ne 7, 3) := by decide +kernel
theorem dL_fuels_210 : decode cL_fuels 210 = .ok (.iconst 1, 1) := by decide +kernel
theorem dL_fuels_211 : decode cL_fuels 211 = .ok (.goto 4, 3) := by decide +kernel
theorem dL_fuels_214 : decode cL_fuels 214 = .ok (.iconst 0, 1) := by decide +kernel
theorem dL_fuels_215 : decode cL_fuels 215 = .ok (.ireturn, 1) := by decide +kernel
theorem dL_fuels_216 : decode cL_fuels 216 = .ok (.aload_n 0, 1) := by decide +kernel
theorem dL_fuels_217 : decode cL_fuels 217 = .ok (.invokevirtual 71, 3) := by decide +kernel
theorem dL_fuels_220 : decode cL_fuels 220 = .ok (.istore 6, 2) := by decide +kernel
theorem dL_fuels_222 : decode cL_fuels 222 = .ok (.iload 4, 2) := by decide +kernel
theorem dL_fuels_224 : decode cL_fuels 224 = .ok (.sipush 300, 3) := by decide +kernel
theorem dL_fuels_227 : decode cL_fuels 227 = .ok (.if_icmp .ge 8, 3) := by decide +kernel
theorem dL_fuels_230 : decode cL_fuels 230 = .ok (.iload 4, 2) := by decide +kernel
theorem dL_fuels_232 : decode cL_fuels 232 = .ok (.goto 6, 3) := by decide +kernel
theorem dL_fuels_235 : decode cL_fuels 235 = .ok (.sipush 300, 3) := by decide +kernel
theorem dL_fuels_238 : decode cL_fuels 238 = .ok (.istore 7, 2) := by decide +kernel
theorem dL_fuels_240 : decode cL_fuels 240 = .ok (.iload 6, 2) := by decide +kernel
theorem dL_fuels_242 : decode cL_fuels 242 = .ok (.ifCond .ge 26, 3) := by decide +kernel
theorem dL_fuels_245 : decode cL_fuels 245 = .ok (.iload 6, 2) := by decide +kernel
theorem dL_fuels_247 : decode cL_fuels 247 = .ok (.bipush (-5), 2) := by decide +kernel
theorem dL_fuels_249 : decode cL_fuels 249 = .ok (.if_icmp .ne 17, 3) := by decide +kernel
theorem dL_fuels_252 : decode cL_fuels 252 = .ok (.aload_n 0, 1) := by decide +kernel
theorem dL_fuels_253 : decode cL_fuels 253 = .ok (.iconst 4, 1) := by decide +kernel
theorem dL_fuels_254 : decode cL_fuels 254 = .ok (.invokevirtual 13, 3) := by decide +kernel
theorem dL_fuels_257 : decode cL_fuels 257 = .ok (.iload 5, 2) := by decide +kernel
theorem dL_fuels_259 : decode cL_fuels 259 = .ok (.if_icmp .ne 7, 3) := by decide +kernel
theorem dL_fuels_262 : decode cL_fuels 262 = .ok (.iconst 1, 1) := by decide +kernel
theorem dL_fuels_263 : decode cL_fuels 263 = .ok (.goto 4, 3) := by decide +kernel
theorem dL_fuels_266 : decode cL_fuels 266 = .ok (.iconst 0, 1) := by decide +kernel
theorem dL_fuels_267 : decode cL_fuels 267 = .ok (.ireturn, 1) := by decide +kernel
theorem dL_fuels_268 : decode cL_fuels 268 = .ok (.iload 6, 2) := by decide +kernel
theorem dL_fuels_270 : decode cL_fuels 270 = .ok (.iload 7, 2) := by decide +kernel
theorem dL_fuels_272 : decode cL_fuels 272 = .ok (.if_icmp .ne 7, 3) := by decide +kernel
theorem dL_fuels_275 : decode cL_fuels 275 = .ok (.iconst 1, 1) := by decide +kernel
theorem dL_fuels_276 : decode cL_fuels 276 = .ok (.goto 4, 3) := by decide +kernel
theorem dL_fuels_279 : decode cL_fuels 279 = .ok (.iconst 0, 1) := by decide +kernel
theorem dL_fuels_280 : decode cL_fuels 280 = .ok (.istore 8, 2) := by decide +kernel
theorem dL_fuels_282 : decode cL_fuels 282 = .ok (.iconst 0, 1) := by decide +kernel
theorem dL_fuels_283 : decode cL_fuels 283 = .ok (.istore 9, 2) := by decide +kernel
theorem dL_fuels_285 : decode cL_fuels 285 = .ok (.iload 9, 2) := by decide +kernel
theorem dL_fuels_287 : decode cL_fuels 287 = .ok (.aload_n 0, 1) := by decide +kernel
theorem dL_fuels_288 : decode cL_fuels 288 = .ok (.bipush 9, 2) := by decide +kernel
theorem dL_fuels_290 : decode cL_fuels 290 = .ok (.invokevirtual 13, 3) := by decide +kernel
theorem dL_fuels_293 : decode cL_fuels 293 = .ok (.if_icmp .ge 47, 3) := by decide +kernel
theorem dL_fuels_296 : decode cL_fuels 296 = .ok (.aload_n 0, 1) := by decide +kernel
theorem dL_fuels_297 : decode cL_fuels 297 = .ok (.iload 9, 2) := by decide +kernel
theorem dL_fuels_299 : decode cL_fuels 299 = .ok (.iconst 4, 1) := by decide +kernel
theorem dL_fuels_300 : decode cL_fuels 300 = .ok (.invokevirtual 23, 3) := by decide +kernel
theorem dL_fuels_303 : decode cL_fuels 303 = .ok (.istore 10, 2) := by decide +kernel
theorem dL_fuels_305 : decode cL_fuels 305 = .ok (.iload 10, 2) := by decide +kernel
theorem dL_fuels_307 : decode cL_fuels 307 = .ok (.ifCond .lt 27, 3) := by decide +kernel
theorem dL_fuels_310 : decode cL_fuels 310 = .ok (.iload 8, 2) := by decide +kernel
theorem dL_fuels_312 : decode cL_fuels 312 = .ok (.ifCond .ne 22, 3) := by decide +kernel
theorem dL_fuels_315 : decode cL_fuels 315 = .ok (.aload_n 0, 1) := by decide +kernel
theorem dL_fuels_316 : decode cL_fuels 316 = .ok (.iload 10, 2) := by decide +kernel
theorem dL_fuels_318 : decode cL_fuels 318 = .ok (.iconst 4, 1) := by decide +kernel
theorem dL_fuels_319 : decode cL_fuels 319 = .ok (.invokevirtual 19, 3) := by decide +kernel
theorem dL_fuels_322 : decode cL_fuels 322 = .ok (.aload_n 0, 1) := by decide +kernel
theorem dL_fuels_323 : decode cL_fuels 323 = .ok (.iload 10, 2) := by decide +kernel
theorem dL_fuels_325 : decode cL_fuels 325 = .ok (.iconst 1, 1) := by decide +kernel
theorem dL_fuels_326 : decode cL_fuels 326 = .ok (.invokevirtual 19, 3) := by decide +kernel
theorem dL_fuels_329 : decode cL_fuels 329 = .ok (.if_icmp .eq 5, 3) := by decide +kernel
theorem dL_fuels_332 : decode cL_fuels 332 = .ok (.iconst 0, 1) := by decide +kernel
theorem dL_fuels_333 : decode cL_fuels 333 = .ok (.ireturn, 1) := by decide +kernel
theorem dL_fuels_334 : decode cL_fuels 334 = .ok (.iinc 9 1, 3) := by decide +kernel
theorem dL_fuels_337 : decode cL_fuels 337 = .ok (.goto (-52), 3) := by decide +kernel
theorem dL_fuels_340 : decode cL_fuels 340 = .ok (.iload 6, 2) := by decide +kernel
theorem dL_fuels_342 : decode cL_fuels 342 = .ok (.ifCond .le 40, 3) := by decide +kernel
theorem dL_fuels_345 : decode cL_fuels 345 = .ok (.iload 6, 2) := by decide +kernel
theorem dL_fuels_347 : decode cL_fuels 347 = .ok (.iload 7, 2) := by decide +kernel
theorem dL_fuels_349 : decode cL_fuels 349 = .ok (.if_icmp .gt 33, 3) := by decide +kernel
theorem dL_fuels_352 : decode cL_fuels 352 = .ok (.aload_n 0, 1) := by decide +kernel
theorem dL_fuels_353 : decode cL_fuels 353 = .ok (.iconst 4, 1) := by decide +kernel
theorem dL_fuels_354 : decode cL_fuels 354 = .ok (.invokevirtual 13, 3) := by decide +kernel
theorem dL_fuels_357 : decode cL_fuels 357 = .ok (.iload 5, 2) := by decide +kernel
theorem dL_fuels_359 : decode cL_fuels 359 = .ok (.iload 6, 2) := by decide +kernel
theorem dL_fuels_361 : decode cL_fuels 361 = .ok (.iadd, 1) := by decide +kernel
theorem dL_fuels_362 : decode cL_fuels 362 = .ok (.if_icmp .ne 20, 3) := by decide +kernel
theorem dL_fuels_365 : decode cL_fuels 365 = .ok (.aload_n 0, 1) := by decide +kernel
theorem dL_fuels_366 : decode cL_fuels 366 = .ok (.iconst 3, 1) := by decide +kernel
theorem dL_fuels_367 : decode cL_fuels 367 = .ok (.invokevirtual 13, 3) := by decide +kernel
theorem dL_fuels_370 : decode cL_fuels 370 = .ok (.iload 4, 2) := by decide +kernel
theorem dL_fuels_372 : decode cL_fuels 372 = .ok (.iload 6, 2) := by decide +kernel
theorem dL_fuels_374 : decode cL_fuels 374 = .ok (.isub, 1) := by decide +kernel
theorem dL_fuels_375 : decode cL_fuels 375 = .ok (.if_icmp .ne 7, 3) := by decide +kernel
theorem dL_fuels_378 : decode cL_fuels 378 = .ok (.iconst 1, 1) := by decide +kernel
theorem dL_fuels_379 : decode cL_fuels 379 = .ok (.goto 4, 3) := by decide +kernel
theorem dL_fuels_382 : decode cL_fuels 382 = .ok (.iconst 0, 1) := by decide +kernel
theorem dL_fuels_383 : decode cL_fuels 383 = .ok (.ireturn, 1) := by decide +kernel
theorem dL_others_0 : decode cL_others 0 = .ok (.iload_n 1, 1) := by decide +kernel
theorem dL_others_1 : decode cL_others 1 = .ok (.bipush 7, 2) := by decide +kernel
theorem dL_others_3 : decode cL_others 3 = .ok (.if_icmp .ne 97, 3) := by decide +kernel
theorem dL_others_6 : decode cL_others 6 = .ok (.aload_n 0, 1) := by decide +kernel
theorem dL_others_7 : decode cL_others 7 = .ok (.iconst 1, 1) := by decide +kernel
theorem dL_others_8 : decode cL_others 8 = .ok (.invokevirtual 13, 3) := by decide +kernel
theorem dL_others_11 : decode cL_others 11 = .ok (.bipush 100, 2) := by decide +kernel
theorem dL_others_13 : decode cL_others 13 = .ok (.isub, 1) := by decide +kernel
theorem dL_others_14 : decode cL_others 14 = .ok (.istore 4, 2) := by decide +kernel
theorem dL_others_16 : decode cL_others 16 = .ok (.iload_n 3, 1) := by decide +kernel
theorem dL_others_17 : decode cL_others 17 = .ok (.bipush 51, 2) := by decide +kernel
theorem dL_others_19 : decode cL_others 19 = .ok (.invokestatic 52, 3) := by decide +kernel
theorem dL_others_22 : decode cL_others 22 = .ok (.bipush 30, 2) := by decide +kernel
theorem dL_others_24 : decode cL_others 24 = .ok (.isub, 1) := by decide +kernel
theorem dL_others_25 : decode cL_others 25 = .ok (.istore 5, 2) := by decide +kernel
theorem dL_others_27 : decode cL_others 27 = .ok (.iload 5, 2) := by decide +kernel
theorem dL_others_29 : decode cL_others 29 = .ok (.iload 4, 2) := by decide +kernel
theorem dL_others_31 : decode cL_others 31 = .ok (.if_icmp .ge 11, 3) := by decide +kernel
theorem dL_others_34 : decode cL_others 34 = .ok (.iload 4, 2) := by decide +kernel
theorem dL_others_36 : decode cL_others 36 = .ok (.iload 5, 2) := by decide +kernel
theorem dL_others_38 : decode cL_others 38 = .ok (.isub, 1) := by decide +kernel
theorem dL_others_39 : decode cL_others 39 = .ok (.goto 8, 3) := by decide +kernel
theorem dL_others_42 : decode cL_others 42 = .ok (.iload 5, 2) := by decide +kernel
theorem dL_others_44 : decode cL_others 44 = .ok (.iload 4, 2) := by decide +kernel
theorem dL_others_46 : decode cL_others 46 = .ok (.isub, 1) := by decide +kernel
theorem dL_others_47 : decode cL_others 47 = .ok (.istore 6, 2) := by decide +kernel
theorem dL_others_49 : decode cL_others 49 = .ok (.aload_n 0, 1) := by decide +kernel
theorem dL_others_50 : decode cL_others 50 = .ok (.iload 5, 2) := by decide +kernel
theorem dL_others_52 : decode cL_others 52 = .ok (.invokevirtual 74, 3) := by decide +kernel
theorem dL_others_55 : decode cL_others 55 = .ok (.iload 6, 2) := by decide +kernel
theorem dL_others_57 : decode cL_others 57 = .ok (.ifCond .ne 8, 3) := by decide +kernel
theorem dL_others_60 : decode cL_others 60 = .ok (.bipush (-5), 2) := by decide +kernel
theorem dL_others_62 : decode cL_others 62 = .ok (.goto 5, 3) := by decide +kernel
theorem dL_others_65 : decode cL_others 65 = .ok (.iload 6, 2) := by decide +kernel
theorem dL_others_67 : decode cL_others 67 = .ok (.if_icmp .ne 31, 3) := by decide +kernel
theorem dL_others_70 : decode cL_others 70 = .ok (.aload_n 0, 1) := by decide +kernel
theorem dL_others_71 : decode cL_others 71 = .ok (.iconst 1, 1) := by decide +kernel
theorem dL_others_72 : decode cL_others 72 = .ok (.invokevirtual 13, 3) := by decide +kernel
theorem dL_others_75 : decode cL_others 75 = .ok (.iload 5, 2) := by decide +kernel
theorem dL_others_77 : decode cL_others 77 = .ok (.bipush 100, 2) := by decide +kernel
theorem dL_others_79 : decode cL_others 79 = .ok (.iadd, 1) := by decide +kernel
theorem dL_others_80 : decode cL_others 80 = .ok (.if_icmp .ne 18, 3) := by decide +kernel
theorem dL_others_83 : decode cL_others 83 = .ok (.aload_n 0, 1) := by decide +kernel
theorem dL_others_84 : decode cL_others 84 = .ok (.bipush 21, 2) := by decide +kernel
theorem dL_others_86 : decode cL_others 86 = .ok (.invokevirtual 74, 3) := by decide +kernel
theorem dL_others_89 : decode cL_others 89 = .ok (.bipush (-2), 2) := by decide +kernel
theorem dL_others_91 : decode cL_others 91 = .ok (.if_icmp .ne 7, 3) := by decide +kernel
theorem dL_others_94 : decode cL_others 94 = .ok (.iconst 1, 1) := by decide +kernel
theorem dL_others_95 : decode cL_others 95 = .ok (.goto 4, 3) := by decide +kernel
theorem dL_others_98 : decode cL_others 98 = .ok (.iconst 0, 1) := by decide +kernel
theorem dL_others_99 : decode cL_others 99 = .ok (.ireturn, 1) := by decide +kernel
theorem dL_others_100 : decode cL_others 100 = .ok (.iload_n 1, 1) := by decide +kernel
theorem dL_others_101 : decode cL_others 101 = .ok (.bipush 8, 2) := by decide +kernel
theorem dL_others_103 : decode cL_others 103 = .ok (.if_icmp .ne 59, 3) := by decide +kernel
theorem dL_others_106 : decode cL_others 106 = .ok (.aload_n 0, 1) := by decide +kernel
theorem dL_others_107 : decode cL_others 107 = .ok (.iconst 2, 1) := by decide +kernel
theorem dL_others_108 : decode cL_others 108 = .ok (.invokevirtual 13, 3) := by decide +kernel
theorem dL_others_111 : decode cL_others 111 = .ok (.istore 4, 2) := by decide +kernel
theorem dL_others_113 : decode cL_others 113 = .ok (.iconst 1, 1) := by decide +kernel
theorem dL_others_114 : decode cL_others 114 = .ok (.iload_n 3, 1) := by decide +kernel
theorem dL_others_115 : decode cL_others 115 = .ok (.bipush 99, 2) := by decide +kernel
theorem dL_others_117 : decode cL_others 117 = .ok (.invokestatic 52, 3) := by decide +kernel
theorem dL_others_120 : decode cL_others 120 = .ok (.iadd, 1) := by decide +kernel
theorem dL_others_121 : decode cL_others 121 = .ok (.istore 5, 2) := by decide +kernel
theorem dL_others_123 : decode cL_others 123 = .ok (.aload_n 0, 1) := by decide +kernel
theorem dL_others_124 : decode cL_others 124 = .ok (.iload 5, 2) := by decide +kernel
theorem dL_others_126 : decode cL_others 126 = .ok (.invokevirtual 77, 3) := by decide +kernel
theorem dL_others_129 : decode cL_others 129 = .ok (.iload 4, 2) := by decide +kernel
theorem dL_others_131 : decode cL_others 131 = .ok (.iload 5, 2) := by decide +kernel
theorem dL_others_133 : decode cL_others 133 = .ok (.if_icmp .ne 8, 3) := by decide +kernel
theorem dL_others_136 : decode cL_others 136 = .ok (.bipush (-5), 2) := by decide +kernel
theorem dL_others_138 : decode cL_others 138 = .ok (.goto 5, 3) := by decide +kernel
theorem dL_others_141 : decode cL_others 141 = .ok (.iload 4, 2) := by decide +kernel
theorem dL_others_143 : decode cL_others 143 = .ok (.if_icmp .ne 17, 3) := by decide +kernel
theorem dL_others_146 : decode cL_others 146 = .ok (.aload_n 0, 1) := by decide +kernel
theorem dL_others_147 : decode cL_others 147 = .ok (.iconst 0, 1) := by decide +kernel
theorem dL_others_148 : decode cL_others 148 = .ok (.invokevirtual 77, 3) := by decide +kernel
theorem dL_others_151 : decode cL_others 151 = .ok (.bipush (-2), 2) := by decide +kernel
theorem dL_others_153 : decode cL_others 153 = .ok (.if_icmp .ne 7, 3) := by decide +kernel
theorem dL_others_156 : decode cL_others 156 = .ok (.iconst 1, 1) := by decide +kernel
theorem dL_others_157 : decode cL_others 157 = .ok (.goto 4, 3) := by decide +kernel
theorem dL_others_160 : decode cL_others 160 = .ok (.iconst 0, 1) := by decide +kernel
theorem dL_others_161 : decode cL_others 161 = .ok (.ireturn, 1) := by decide +kernel
theorem dL_others_162 : decode cL_others 162 = .ok (.iload_n 1, 1) := by decide +kernel
theorem dL_others_163 : decode cL_others 163 = .ok (.bipush 11, 2) := by decide +kernel
theorem dL_others_165 : decode cL_others 165 = .ok (.if_icmp .ge 104, 3) := by decide +kernel
theorem dL_others_168 : decode cL_others 168 = .ok (.aload_n 0, 1) := by decide +kernel
theorem dL_others_169 : decode cL_others 169 = .ok (.bipush 7, 2) := by decide +kernel
theorem dL_others_171 : decode cL_others 171 = .ok (.invokevirtual 13, 3) := by decide +kernel
theorem dL_others_174 : decode cL_others 174 = .ok (.istore 4, 2) := by decide +kernel
theorem dL_others_176 : decode cL_others 176 = .ok (.iconst 1, 1) := by decide +kernel
theorem dL_others_177 : decode cL_others 177 = .ok (.iload_n 3, 1) := by decide +kernel
theorem dL_others_178 : decode cL_others 178 = .ok (.iconst 3, 1) := by decide +kernel
theorem dL_others_179 : decode cL_others 179 = .ok (.ishr, 1) := by decide +kernel
theorem dL_others_180 : decode cL_others 180 = .ok (.bipush 50, 2) := by decide +kernel
theorem dL_others_182 : decode cL_others 182 = .ok (.invokestatic 52, 3) := by decide +kernel
theorem dL_others_185 : decode cL_others 185 = .ok (.iadd, 1) := by decide +kernel
theorem dL_others_186 : decode cL_others 186 = .ok (.istore 5, 2) := by decide +kernel
theorem dL_others_188 : decode cL_others 188 = .ok (.iload 5, 2) := by decide +kernel
theorem dL_others_190 : decode cL_others 190 = .ok (.iload_n 3, 1) := by decide +kernel
theorem dL_others_191 : decode cL_others 191 = .ok (.bipush 8, 2) := by decide +kernel
theorem dL_others_193 : decode cL_others 193 = .ok (.ishr, 1) := by decide +kernel
theorem dL_others_194 : decode cL_others 194 = .ok (.bipush 60, 2) := by decide +kernel
theorem dL_others_196 : decode cL_others 196 = .ok (.invokestatic 52, 3) := by decide +kernel
theorem dL_others_199 : decode cL_others 199 = .ok (.iadd, 1) := by decide +kernel
theorem dL_others_200 : decode cL_others 200 = .ok (.bipush 10, 2) := by decide +kernel
theorem dL_others_202 : decode cL_others 202 = .ok (.iadd, 1) := by decide +kernel
theorem dL_others_203 : decode cL_others 203 = .ok (.istore 6, 2) := by decide +kernel
theorem dL_others_205 : decode cL_others 205 = .ok (.aload_n 0, 1) := by decide +kernel
theorem dL_others_206 : decode cL_others 206 = .ok (.bipush 10, 2) := by decide +kernel
theorem dL_others_208 : decode cL_others 208 = .ok (.iload_n 2, 1) := by decide +kernel
theorem dL_others_209 : decode cL_others 209 = .ok (.bipush 80, 2) := by decide +kernel
theorem dL_others_211 : decode cL_others 211 = .ok (.invokestatic 52, 3) := by decide +kernel
theorem dL_others_214 : decode cL_others 214 = .ok (.iadd, 1) := by decide +kernel
theorem dL_others_215 : decode cL_others 215 = .ok (.iload 6, 2) := by decide +kernel
theorem dL_others_217 : decode cL_others 217 = .ok (.iload 5, 2) := by decide +kernel
theorem dL_others_219 : decode cL_others 219 = .ok (.iload_n 3, 1) := by decide +kernel
theorem dL_others_220 : decode cL_others 220 = .ok (.bipush 41, 2) := by decide +kernel
theorem dL_others_222 : decode cL_others 222 = .ok (.invokestatic 52, 3) := by decide +kernel
theorem dL_others_225 : decode cL_others 225 = .ok (.bipush 30, 2) := by decide +kernel
theorem dL_others_227 : decode cL_others 227 = .ok (.isub, 1) := by decide +kernel
theorem dL_others_228 : decode cL_others 228 = .ok (.invokevirtual 80, 3) := by decide +kernel
theorem dL_others_231 : decode cL_others 231 = .ok (.iload 4, 2) := by decide +kernel
theorem dL_others_233 : decode cL_others 233 = .ok (.bipush 10, 2) := by decide +kernel
theorem dL_others_235 : decode cL_others 235 = .ok (.if_icmp .ne 8, 3) := by decide +kernel
theorem dL_others_238 : decode cL_others 238 = .ok (.bipush (-3), 2) := by decide +kernel
theorem dL_others_240 : decode cL_others 240 = .ok (.goto 5, 3) := by decide +kernel
theorem dL_others_243 : decode cL_others 243 = .ok (.iload 4, 2) := by decide +kernel
theorem dL_others_245 : decode cL_others 245 = .ok (.if_icmp .ne 22, 3) := by decide +kernel
theorem dL_others_248 : decode cL_others 248 = .ok (.aload_n 0, 1) := by decide +kernel
theorem dL_others_249 : decode cL_others 249 = .ok (.iconst 1, 1) := by decide +kernel
theorem dL_others_250 : decode cL_others 250 = .ok (.bipush 10, 2) := by decide +kernel
theorem dL_others_252 : decode cL_others 252 = .ok (.bipush 11, 2) := by decide +kernel
theorem dL_others_254 : decode cL_others 254 = .ok (.iconst 0, 1) := by decide +kernel
theorem dL_others_255 : decode cL_others 255 = .ok (.invokevirtual 80, 3) := by decide +kernel
theorem dL_others_258 : decode cL_others 258 = .ok (.bipush (-2), 2) := by decide +kernel
theorem dL_others_260 : decode cL_others 260 = .ok (.if_icmp .ne 7, 3) := by decide +kernel
theorem dL_others_263 : decode cL_others 263 = .ok (.iconst 1, 1) := by decide +kernel
theorem dL_others_264 : decode cL_others 264 = .ok (.goto 4, 3) := by decide +kernel
theorem dL_others_267 : decode cL_others 267 = .ok (.iconst 0, 1) := by decide +kernel
theorem dL_others_268 : decode cL_others 268 = .ok (.ireturn, 1) := by decide +kernel
theorem dL_others_269 : decode cL_others 269 = .ok (.aload_n 0, 1) := by decide +kernel
theorem dL_others_270 : decode cL_others 270 = .ok (.bipush 9, 2) := by decide +kernel
theorem dL_others_272 : decode cL_others 272 = .ok (.invokevirtual 13, 3) := by decide +kernel
theorem dL_others_275 : decode cL_others 275 = .ok (.istore 4, 2) := by decide +kernel
theorem dL_others_277 : decode cL_others 277 = .ok (.aload_n 0, 1) := by decide +kernel
theorem dL_others_278 : decode cL_others 278 = .ok (.iconst 0, 1) := by decide +kernel
theorem dL_others_279 : decode cL_others 279 = .ok (.invokevirtual 13, 3) := by decide +kernel
theorem dL_others_282 : decode cL_others 282 = .ok (.iload_n 3, 1) := by decide +kernel
theorem dL_others_283 : decode cL_others 283 = .ok (.iconst 5, 1) := by decide +kernel
theorem dL_others_284 : decode cL_others 284 = .ok (.invokestatic 52, 3) := by decide +kernel
theorem dL_others_287 : decode cL_others 287 = .ok (.iadd, 1) := by decide +kernel
theorem dL_others_288 : decode cL_others 288 = .ok (.iconst 2, 1) := by decide +kernel
theorem dL_others_289 : decode cL_others 289 = .ok (.isub, 1) := by decide +kernel
theorem dL_others_290 : decode cL_others 290 = .ok (.istore 5, 2) := by decide +kernel
theorem dL_others_292 : decode cL_others 292 = .ok (.aload_n 0, 1) := by decide +kernel
theorem dL_others_293 : decode cL_others 293 = .ok (.iconst 0, 1) := by decide +kernel
theorem dL_others_294 : decode cL_others 294 = .ok (.invokevirtual 13, 3) := by decide +kernel
theorem dL_others_297 : decode cL_others 297 = .ok (.iconst 1, 1) := by decide +kernel
theorem dL_others_298 : decode cL_others 298 = .ok (.iadd, 1) := by decide +kernel
theorem dL_others_299 : decode cL_others 299 = .ok (.iload_n 3, 1) := by decide +kernel
theorem dL_others_300 : decode cL_others 300 = .ok (.iconst 3, 1) := by decide +kernel
theorem dL_others_301 : decode cL_others 301 = .ok (.ishr, 1) := by decide +kernel
theorem dL_others_302 : decode cL_others 302 = .ok (.bipush 9, 2) := by decide +kernel
theorem dL_others_304 : decode cL_others 304 = .ok (.invokestatic 52, 3) := by decide +kernel
theorem dL_others_307 : decode cL_others 307 = .ok (.iadd, 1) := by decide +kernel
theorem dL_others_308 : decode cL_others 308 = .ok (.istore 6, 2) := by decide +kernel
theorem dL_others_310 : decode cL_others 310 = .ok (.iload 5, 2) := by decide +kernel
theorem dL_others_312 : decode cL_others 312 = .ok (.ifCond .lt 30, 3) := by decide +kernel
theorem dL_others_315 : decode cL_others 315 = .ok (.iload 5, 2) := by decide +kernel
theorem dL_others_317 : decode cL_others 317 = .ok (.sipush 999, 3) := by decide +kernel
theorem dL_others_320 : decode cL_others 320 = .ok (.if_icmp .ge 22, 3) := by decide +kernel
theorem dL_others_323 : decode cL_others 323 = .ok (.iload 6, 2) := by decide +kernel
theorem dL_others_325 : decode cL_others 325 = .ok (.iload 5, 2) := by decide +kernel
theorem dL_others_327 : decode cL_others 327 = .ok (.if_icmp .le 15, 3) := by decide +kernel
theorem dL_others_330 : decode cL_others 330 = .ok (.iload 6, 2) := by decide +kernel
theorem dL_others_332 : decode cL_others 332 = .ok (.sipush 1000, 3) := by decide +kernel
theorem dL_others_335 : decode cL_others 335 = .ok (.if_icmp .ge 7, 3) := by decide +kernel
theorem dL_others_338 : decode cL_others 338 = .ok (.iconst 1, 1) := by decide +kernel
theorem dL_others_339 : decode cL_others 339 = .ok (.goto 4, 3) := by decide +kernel
theorem dL_others_342 : decode cL_others 342 = .ok (.iconst 0, 1) := by decide +kernel
theorem dL_others_343 : decode cL_others 343 = .ok (.istore 7, 2) := by decide +kernel
theorem dL_others_345 : decode cL_others 345 = .ok (.aload_n 0, 1) := by decide +kernel
theorem dL_others_346 : decode cL_others 346 = .ok (.iconst 1, 1) := by decide +kernel
theorem dL_others_347 : decode cL_others 347 = .ok (.iload_n 2, 1) := by decide +kernel
theorem dL_others_348 : decode cL_others 348 = .ok (.bipush 9, 2) := by decide +kernel
theorem dL_others_350 : decode cL_others 350 = .ok (.invokestatic 52, 3) := by decide +kernel
theorem dL_others_353 : decode cL_others 353 = .ok (.iadd, 1) := by decide +kernel
theorem dL_others_354 : decode cL_others 354 = .ok (.iconst 1, 1) := by decide +kernel
theorem dL_others_355 : decode cL_others 355 = .ok (.iload_n 2, 1) := by decide +kernel
theorem dL_others_356 : decode cL_others 356 = .ok (.iconst 3, 1) := by decide +kernel
theorem dL_others_357 : decode cL_others 357 = .ok (.ishr, 1) := by decide +kernel
theorem dL_others_358 : decode cL_others 358 = .ok (.bipush 80, 2) := by decide +kernel
theorem dL_others_360 : decode cL_others 360 = .ok (.invokestatic 52, 3) := by decide +kernel
theorem dL_others_363 : decode cL_others 363 = .ok (.iadd, 1) := by decide +kernel
theorem dL_others_364 : decode cL_others 364 = .ok (.iload 5, 2) := by decide +kernel
theorem dL_others_366 : decode cL_others 366 = .ok (.iload 6, 2) := by decide +kernel
theorem dL_others_368 : decode cL_others 368 = .ok (.invokevirtual 84, 3) := by decide +kernel
theorem dL_others_371 : decode cL_others 371 = .ok (.iload 7, 2) := by decide +kernel
theorem dL_others_373 : decode cL_others 373 = .ok (.ifCond .ne 8, 3) := by decide +kernel
theorem dL_others_376 : decode cL_others 376 = .ok (.bipush (-2), 2) := by decide +kernel
theorem dL_others_378 : decode cL_others 378 = .ok (.goto 17, 3) := by decide +kernel
theorem dL_others_381 : decode cL_others 381 = .ok (.iload 4, 2) := by decide +kernel
theorem dL_others_383 : decode cL_others 383 = .ok (.bipush 12, 2) := by decide +kernel
theorem dL_others_385 : decode cL_others 385 = .ok (.if_icmp .ne 8, 3) := by decide +kernel
theorem dL_others_388 : decode cL_others 388 = .ok (.bipush (-3), 2) := by decide +kernel
theorem dL_others_390 : decode cL_others 390 = .ok (.goto 5, 3) := by decide +kernel
theorem dL_others_393 : decode cL_others 393 = .ok (.iload 4, 2) := by decide +kernel
theorem dL_others_395 : decode cL_others 395 = .ok (.if_icmp .ne 23, 3) := by decide +kernel
theorem dL_others_398 : decode cL_others 398 = .ok (.aload_n 0, 1) := by decide +kernel
theorem dL_others_399 : decode cL_others 399 = .ok (.bipush 10, 2) := by decide +kernel
theorem dL_others_401 : decode cL_others 401 = .ok (.iconst 1, 1) := by decide +kernel
theorem dL_others_402 : decode cL_others 402 = .ok (.iconst 0, 1) := by decide +kernel
theorem dL_others_403 : decode cL_others 403 = .ok (.sipush 999, 3) := by decide +kernel
theorem dL_others_406 : decode cL_others 406 = .ok (.invokevirtual 84, 3) := by decide +kernel
theorem dL_others_409 : decode cL_others 409 = .ok (.bipush (-2), 2) := by decide +kernel
theorem dL_others_411 : decode cL_others 411 = .ok (.if_icmp .ne 7, 3) := by decide +kernel
theorem dL_others_414 : decode cL_others 414 = .ok (.iconst 1, 1) := by decide +kernel
theorem dL_others_415 : decode cL_others 415 = .ok (.goto 4, 3) := by decide +kernel
theorem dL_others_418 : decode cL_others 418 = .ok (.iconst 0, 1) := by decide +kernel
theorem dL_others_419 : decode cL_others 419 = .ok (.ireturn, 1) := by decide +kernel
theorem dL_passes_0 : decode cL_passes 0 = .ok (.aload_n 0, 1) := by decide +kernel
theorem dL_passes_1 : decode cL_passes 1 = .ok (.iconst 0, 1) := by decide +kernel
theorem dL_passes_2 : decode cL_passes 2 = .ok (.invokevirtual 13, 3) := by decide +kernel
theorem dL_passes_5 : decode cL_passes 5 = .ok (.iload_n 1, 1) := by decide +kernel
theorem dL_passes_6 : decode cL_passes 6 = .ok (.iadd, 1) := by decide +kernel
theorem dL_passes_7 : decode cL_passes 7 = .ok (.iload_n 2, 1) := by decide +kernel
theorem dL_passes_8 : decode cL_passes 8 = .ok (.iadd, 1) := by decide +kernel
theorem dL_passes_9 : decode cL_passes 9 = .ok (.sipush 999, 3) := by decide +kernel
theorem dL_passes_12 : decode cL_passes 12 = .ok (.if_icmp .le 34, 3) := by decide +kernel
theorem dL_passes_15 : decode cL_passes 15 = .ok (.aload_n 0, 1) := by decide +kernel
theorem dL_passes_16 : decode cL_passes 16 = .ok (.iload_n 1, 1) := by decide +kernel
theorem dL_passes_17 : decode cL_passes 17 = .ok (.iload_n 2, 1) := by decide +kernel
theorem dL_passes_18 : decode cL_passes 18 = .ok (.iadd, 1) := by decide +kernel
theorem dL_passes_19 : decode cL_passes 19 = .ok (.invokevirtual 87, 3) := by decide +kernel
theorem dL_passes_22 : decode cL_passes 22 = .ok (.bipush (-4), 2) := by decide +kernel
theorem dL_passes_24 : decode cL_passes 24 = .ok (.if_icmp .ne 20, 3) := by decide +kernel
theorem dL_passes_27 : decode cL_passes 27 = .ok (.aload_n 0, 1) := by decide +kernel
theorem dL_passes_28 : decode cL_passes 28 = .ok (.iload_n 1, 1) := by decide +kernel
theorem dL_passes_29 : decode cL_passes 29 = .ok (.iload_n 2, 1) := by decide +kernel
theorem dL_passes_30 : decode cL_passes 30 = .ok (.iadd, 1) := by decide +kernel
theorem dL_passes_31 : decode cL_passes 31 = .ok (.iconst 0, 1) := by decide +kernel
theorem dL_passes_32 : decode cL_passes 32 = .ok (.invokevirtual 29, 3) := by decide +kernel
theorem dL_passes_35 : decode cL_passes 35 = .ok (.bipush (-4), 2) := by decide +kernel
theorem dL_passes_37 : decode cL_passes 37 = .ok (.if_icmp .ne 7, 3) := by decide +kernel
theorem dL_passes_40 : decode cL_passes 40 = .ok (.iconst 1, 1) := by decide +kernel
theorem dL_passes_41 : decode cL_passes 41 = .ok (.goto 4, 3) := by decide +kernel
theorem dL_passes_44 : decode cL_passes 44 = .ok (.iconst 0, 1) := by decide +kernel
theorem dL_passes_45 : decode cL_passes 45 = .ok (.ireturn, 1) := by decide +kernel
theorem dL_passes_46 : decode cL_passes 46 = .ok (.aload_n 0, 1) := by decide +kernel
theorem dL_passes_47 : decode cL_passes 47 = .ok (.invokevirtual 90, 3) := by decide +kernel
theorem dL_passes_50 : decode cL_passes 50 = .ok (.istore_n 3, 1) := by decide +kernel
theorem dL_passes_51 : decode cL_passes 51 = .ok (.aload_n 0, 1) := by decide +kernel
theorem dL_passes_52 : decode cL_passes 52 = .ok (.iload_n 1, 1) := by decide +kernel
theorem dL_passes_53 : decode cL_passes 53 = .ok (.iload_n 2, 1) := by decide +kernel
theorem dL_passes_54 : decode cL_passes 54 = .ok (.iadd, 1) := by decide +kernel
theorem dL_passes_55 : decode cL_passes 55 = .ok (.iconst 0, 1) := by decide +kernel
theorem dL_passes_56 : decode cL_passes 56 = .ok (.invokevirtual 29, 3) := by decide +kernel
theorem dL_passes_59 : decode cL_passes 59 = .ok (.istore 4, 2) := by decide +kernel
theorem dL_passes_61 : decode cL_passes 61 = .ok (.aload_n 0, 1) := by decide +kernel
theorem dL_passes_62 : decode cL_passes 62 = .ok (.iload_n 1, 1) := by decide +kernel
theorem dL_passes_63 : decode cL_passes 63 = .ok (.iload_n 2, 1) := by decide +kernel
theorem dL_passes_64 : decode cL_passes 64 = .ok (.iadd, 1) := by decide +kernel
theorem dL_passes_65 : decode cL_passes 65 = .ok (.iconst 1, 1) := by decide +kernel
theorem dL_passes_66 : decode cL_passes 66 = .ok (.invokevirtual 29, 3) := by decide +kernel
theorem dL_passes_69 : decode cL_passes 69 = .ok (.aload_n 0, 1) := by decide +kernel
theorem dL_passes_70 : decode cL_passes 70 = .ok (.bipush 12, 2) := by decide +kernel
theorem dL_passes_72 : decode cL_passes 72 = .ok (.invokevirtual 13, 3) := by decide +kernel
theorem dL_passes_75 : decode cL_passes 75 = .ok (.iadd, 1) := by decide +kernel
theorem dL_passes_76 : decode cL_passes 76 = .ok (.istore 5, 2) := by decide +kernel
theorem dL_passes_78 : decode cL_passes 78 = .ok (.aload_n 0, 1) := by decide +kernel
theorem dL_passes_79 : decode cL_passes 79 = .ok (.iload_n 1, 1) := by decide +kernel
theorem dL_passes_80 : decode cL_passes 80 = .ok (.iload_n 2, 1) := by decide +kernel
theorem dL_passes_81 : decode cL_passes 81 = .ok (.iadd, 1) := by decide +kernel
theorem dL_passes_82 : decode cL_passes 82 = .ok (.iconst 2, 1) := by decide +kernel
theorem dL_passes_83 : decode cL_passes 83 = .ok (.invokevirtual 29, 3) := by decide +kernel
theorem dL_passes_86 : decode cL_passes 86 = .ok (.aload_n 0, 1) := by decide +kernel
theorem dL_passes_87 : decode cL_passes 87 = .ok (.iconst 5, 1) := by decide +kernel
theorem dL_passes_88 : decode cL_passes 88 = .ok (.invokevirtual 13, 3) := by decide +kernel
theorem dL_passes_91 : decode cL_passes 91 = .ok (.iadd, 1) := by decide +kernel
theorem dL_passes_92 : decode cL_passes 92 = .ok (.istore 6, 2) := by decide +kernel
theorem dL_passes_94 : decode cL_passes 94 = .ok (.aload_n 0, 1) := by decide +kernel
theorem dL_passes_95 : decode cL_passes 95 = .ok (.iload_n 1, 1) := by decide +kernel
theorem dL_passes_96 : decode cL_passes 96 = .ok (.iload_n 2, 1) := by decide +kernel
theorem dL_passes_97 : decode cL_passes 97 = .ok (.iadd, 1) := by decide +kernel
theorem dL_passes_98 : decode cL_passes 98 = .ok (.invokevirtual 87, 3) := by decide +kernel
theorem dL_passes_101 : decode cL_passes 101 = .ok (.istore 7, 2) := by decide +kernel
theorem dL_passes_103 : decode cL_passes 103 = .ok (.aload_n 0, 1) := by decide +kernel
theorem dL_passes_104 : decode cL_passes 104 = .ok (.invokestatic 93, 3) := by decide +kernel
theorem dL_passes_107 : decode cL_passes 107 = .ok (.lstore 8, 2) := by decide +kernel
theorem dL_passes_109 : decode cL_passes 109 = .ok (.iload 7, 2) := by decide +kernel
theorem dL_passes_111 : decode cL_passes 111 = .ok (.iload 4, 2) := by decide +kernel
theorem dL_passes_113 : decode cL_passes 113 = .ok (.if_icmp .ne 56, 3) := by decide +kernel
theorem dL_passes_116 : decode cL_passes 116 = .ok (.aload_n 0, 1) := by decide +kernel
theorem dL_passes_117 : decode cL_passes 117 = .ok (.bipush 12, 2) := by decide +kernel
theorem dL_passes_119 : decode cL_passes 119 = .ok (.invokevirtual 13, 3) := by decide +kernel
theorem dL_passes_122 : decode cL_passes 122 = .ok (.iload 5, 2) := by decide +kernel
theorem dL_passes_124 : decode cL_passes 124 = .ok (.if_icmp .ne 45, 3) := by decide +kernel
theorem dL_passes_127 : decode cL_passes 127 = .ok (.aload_n 0, 1) := by decide +kernel
theorem dL_passes_128 : decode cL_passes 128 = .ok (.iconst 5, 1) := by decide +kernel
theorem dL_passes_129 : decode cL_passes 129 = .ok (.invokevirtual 13, 3) := by decide +kernel
theorem dL_passes_132 : decode cL_passes 132 = .ok (.iload 6, 2) := by decide +kernel
theorem dL_passes_134 : decode cL_passes 134 = .ok (.if_icmp .ne 35, 3) := by decide +kernel
theorem dL_passes_137 : decode cL_passes 137 = .ok (.aload_n 0, 1) := by decide +kernel
theorem dL_passes_138 : decode cL_passes 138 = .ok (.iconst 0, 1) := by decide +kernel
theorem dL_passes_139 : decode cL_passes 139 = .ok (.invokevirtual 13, 3) := by decide +kernel
theorem dL_passes_142 : decode cL_passes 142 = .ok (.iload_n 3, 1) := by decide +kernel
theorem dL_passes_143 : decode cL_passes 143 = .ok (.iload_n 1, 1) := by decide +kernel
theorem dL_passes_144 : decode cL_passes 144 = .ok (.iadd, 1) := by decide +kernel
theorem dL_passes_145 : decode cL_passes 145 = .ok (.iload_n 2, 1) := by decide +kernel
theorem dL_passes_146 : decode cL_passes 146 = .ok (.iadd, 1) := by decide +kernel
theorem dL_passes_147 : decode cL_passes 147 = .ok (.if_icmp .ne 22, 3) := by decide +kernel
theorem dL_passes_150 : decode cL_passes 150 = .ok (.aload_n 0, 1) := by decide +kernel
theorem dL_passes_151 : decode cL_passes 151 = .ok (.invokevirtual 97, 3) := by decide +kernel
theorem dL_passes_154 : decode cL_passes 154 = .ok (.iload_n 3, 1) := by decide +kernel
theorem dL_passes_155 : decode cL_passes 155 = .ok (.if_icmp .ne 14, 3) := by decide +kernel
theorem dL_passes_158 : decode cL_passes 158 = .ok (.aload_n 0, 1) := by decide +kernel
theorem dL_passes_159 : decode cL_passes 159 = .ok (.bipush 25, 2) := by decide +kernel
theorem dL_passes_161 : decode cL_passes 161 = .ok (.invokevirtual 87, 3) := by decide +kernel
theorem dL_passes_164 : decode cL_passes 164 = .ok (.bipush (-2), 2) := by decide +kernel
theorem dL_passes_166 : decode cL_passes 166 = .ok (.if_icmp .eq 5, 3) := by decide +kernel
theorem dL_passes_169 : decode cL_passes 169 = .ok (.iconst 0, 1) := by decide +kernel
theorem dL_passes_170 : decode cL_passes 170 = .ok (.ireturn, 1) := by decide +kernel
theorem dL_passes_171 : decode cL_passes 171 = .ok (.aload_n 0, 1) := by decide +kernel
theorem dL_passes_172 : decode cL_passes 172 = .ok (.iload_n 1, 1) := by decide +kernel
theorem dL_passes_173 : decode cL_passes 173 = .ok (.invokevirtual 87, 3) := by decide +kernel
theorem dL_passes_176 : decode cL_passes 176 = .ok (.istore 10, 2) := by decide +kernel
theorem dL_passes_178 : decode cL_passes 178 = .ok (.iload 10, 2) := by decide +kernel
theorem dL_passes_180 : decode cL_passes 180 = .ok (.aload_n 0, 1) := by decide +kernel
theorem dL_passes_181 : decode cL_passes 181 = .ok (.iload_n 2, 1) := by decide +kernel
theorem dL_passes_182 : decode cL_passes 182 = .ok (.invokevirtual 87, 3) := by decide +kernel
theorem dL_passes_185 : decode cL_passes 185 = .ok (.iadd, 1) := by decide +kernel
theorem dL_passes_186 : decode cL_passes 186 = .ok (.iload 7, 2) := by decide +kernel
theorem dL_passes_188 : decode cL_passes 188 = .ok (.if_icmp .ne 17, 3) := by decide +kernel
theorem dL_passes_191 : decode cL_passes 191 = .ok (.aload_n 0, 1) := by decide +kernel
theorem dL_passes_192 : decode cL_passes 192 = .ok (.invokestatic 93, 3) := by decide +kernel
theorem dL_passes_195 : decode cL_passes 195 = .ok (.lload 8, 2) := by decide +kernel
theorem dL_passes_197 : decode cL_passes 197 = .ok (.lcmp, 1) := by decide +kernel
theorem dL_passes_198 : decode cL_passes 198 = .ok (.ifCond .ne 7, 3) := by decide +kernel
theorem dL_passes_201 : decode cL_passes 201 = .ok (.iconst 1, 1) := by decide +kernel
theorem dL_passes_202 : decode cL_passes 202 = .ok (.goto 4, 3) := by decide +kernel
theorem dL_passes_205 : decode cL_passes 205 = .ok (.iconst 0, 1) := by decide +kernel
theorem dL_passes_206 : decode cL_passes 206 = .ok (.ireturn, 1) := by decide +kernel
