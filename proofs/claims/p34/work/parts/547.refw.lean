theorem dX12_mean_0 : decode cX12_mean 0 = .ok (.aload_n 0, 1) := by decide +kernel
theorem dX12_mean_1 : decode cX12_mean 1 = .ok (.iload_n 1, 1) := by decide +kernel
theorem dX12_mean_2 : decode cX12_mean 2 = .ok (.iload_n 2, 1) := by decide +kernel
theorem dX12_mean_3 : decode cX12_mean 3 = .ok (.iconst (-1), 1) := by decide +kernel
theorem dX12_mean_4 : decode cX12_mean 4 = .ok (.invokevirtual 451, 3) := by decide +kernel
theorem dX12_mean_7 : decode cX12_mean 7 = .ok (.ldc_w 350, 3) := by decide +kernel
theorem dX12_mean_10 : decode cX12_mean 10 = .ok (.if_icmp .ne 7, 3) := by decide +kernel
theorem dX12_mean_13 : decode cX12_mean 13 = .ok (.ldc2_w 207, 3) := by decide +kernel
theorem dX12_mean_16 : decode cX12_mean 16 = .ok (.lreturn, 1) := by decide +kernel
theorem dX12_mean_17 : decode cX12_mean 17 = .ok (.lconst 0, 1) := by decide +kernel
theorem dX12_mean_18 : decode cX12_mean 18 = .ok (.lstore_n 3, 1) := by decide +kernel
theorem dX12_mean_19 : decode cX12_mean 19 = .ok (.iconst 0, 1) := by decide +kernel
theorem dX12_mean_20 : decode cX12_mean 20 = .ok (.istore 5, 2) := by decide +kernel
theorem dX12_mean_22 : decode cX12_mean 22 = .ok (.iload 5, 2) := by decide +kernel
theorem dX12_mean_24 : decode cX12_mean 24 = .ok (.sipush 168, 3) := by decide +kernel
theorem dX12_mean_27 : decode cX12_mean 27 = .ok (.if_icmp .ge 26, 3) := by decide +kernel
theorem dX12_mean_30 : decode cX12_mean 30 = .ok (.lload_n 3, 1) := by decide +kernel
theorem dX12_mean_31 : decode cX12_mean 31 = .ok (.aload_n 0, 1) := by decide +kernel
theorem dX12_mean_32 : decode cX12_mean 32 = .ok (.getfield 101, 3) := by decide +kernel
theorem dX12_mean_35 : decode cX12_mean 35 = .ok (.iload 5, 2) := by decide +kernel
theorem dX12_mean_37 : decode cX12_mean 37 = .ok (.laload, 1) := by decide +kernel
theorem dX12_mean_38 : decode cX12_mean 38 = .ok (.iload 5, 2) := by decide +kernel
theorem dX12_mean_40 : decode cX12_mean 40 = .ok (.bipush 21, 2) := by decide +kernel
theorem dX12_mean_42 : decode cX12_mean 42 = .ok (.irem, 1) := by decide +kernel
theorem dX12_mean_43 : decode cX12_mean 43 = .ok (.i2l, 1) := by decide +kernel
theorem dX12_mean_44 : decode cX12_mean 44 = .ok (.lmul, 1) := by decide +kernel
theorem dX12_mean_45 : decode cX12_mean 45 = .ok (.ladd, 1) := by decide +kernel
theorem dX12_mean_46 : decode cX12_mean 46 = .ok (.lstore_n 3, 1) := by decide +kernel
theorem dX12_mean_47 : decode cX12_mean 47 = .ok (.iinc 5 1, 3) := by decide +kernel
theorem dX12_mean_50 : decode cX12_mean 50 = .ok (.goto (-28), 3) := by decide +kernel
theorem dX12_mean_53 : decode cX12_mean 53 = .ok (.lload_n 3, 1) := by decide +kernel
theorem dX12_mean_54 : decode cX12_mean 54 = .ok (.ldc2_w 209, 3) := by decide +kernel
theorem dX12_mean_57 : decode cX12_mean 57 = .ok (.ldiv, 1) := by decide +kernel
theorem dX12_mean_58 : decode cX12_mean 58 = .ok (.lreturn, 1) := by decide +kernel
theorem dX12_odds_0 : decode cX12_odds 0 = .ok (.aload_n 0, 1) := by decide +kernel
theorem dX12_odds_1 : decode cX12_odds 1 = .ok (.iload_n 1, 1) := by decide +kernel
theorem dX12_odds_2 : decode cX12_odds 2 = .ok (.invokevirtual 347, 3) := by decide +kernel
theorem dX12_odds_5 : decode cX12_odds 5 = .ok (.ifCond .eq 34, 3) := by decide +kernel
theorem dX12_odds_8 : decode cX12_odds 8 = .ok (.aload_n 0, 1) := by decide +kernel
theorem dX12_odds_9 : decode cX12_odds 9 = .ok (.iload_n 1, 1) := by decide +kernel
theorem dX12_odds_10 : decode cX12_odds 10 = .ok (.invokevirtual 341, 3) := by decide +kernel
theorem dX12_odds_13 : decode cX12_odds 13 = .ok (.ifCond .ne 26, 3) := by decide +kernel
theorem dX12_odds_16 : decode cX12_odds 16 = .ok (.iload_n 2, 1) := by decide +kernel
theorem dX12_odds_17 : decode cX12_odds 17 = .ok (.iconst 1, 1) := by decide +kernel
theorem dX12_odds_18 : decode cX12_odds 18 = .ok (.bipush 9, 2) := by decide +kernel
theorem dX12_odds_20 : decode cX12_odds 20 = .ok (.invokestatic 232, 3) := by decide +kernel
theorem dX12_odds_23 : decode cX12_odds 23 = .ok (.ifCond .eq 16, 3) := by decide +kernel
theorem dX12_odds_26 : decode cX12_odds 26 = .ok (.iload_n 3, 1) := by decide +kernel
theorem dX12_odds_27 : decode cX12_odds 27 = .ok (.iconst (-1), 1) := by decide +kernel
theorem dX12_odds_28 : decode cX12_odds 28 = .ok (.if_icmp .eq 15, 3) := by decide +kernel
theorem dX12_odds_31 : decode cX12_odds 31 = .ok (.aload_n 0, 1) := by decide +kernel
theorem dX12_odds_32 : decode cX12_odds 32 = .ok (.iload_n 3, 1) := by decide +kernel
theorem dX12_odds_33 : decode cX12_odds 33 = .ok (.invokevirtual 330, 3) := by decide +kernel
theorem dX12_odds_36 : decode cX12_odds 36 = .ok (.ifCond .ne 7, 3) := by decide +kernel
theorem dX12_odds_39 : decode cX12_odds 39 = .ok (.ldc_w 350, 3) := by decide +kernel
theorem dX12_odds_42 : decode cX12_odds 42 = .ok (.ireturn, 1) := by decide +kernel
theorem dX12_odds_43 : decode cX12_odds 43 = .ok (.iconst 0, 1) := by decide +kernel
theorem dX12_odds_44 : decode cX12_odds 44 = .ok (.istore 4, 2) := by decide +kernel
theorem dX12_odds_46 : decode cX12_odds 46 = .ok (.iload 4, 2) := by decide +kernel
theorem dX12_odds_48 : decode cX12_odds 48 = .ok (.sipush 168, 3) := by decide +kernel
theorem dX12_odds_51 : decode cX12_odds 51 = .ok (.if_icmp .ge 17, 3) := by decide +kernel
theorem dX12_odds_54 : decode cX12_odds 54 = .ok (.aload_n 0, 1) := by decide +kernel
theorem dX12_odds_55 : decode cX12_odds 55 = .ok (.getfield 101, 3) := by decide +kernel
theorem dX12_odds_58 : decode cX12_odds 58 = .ok (.iload 4, 2) := by decide +kernel
theorem dX12_odds_60 : decode cX12_odds 60 = .ok (.lconst 0, 1) := by decide +kernel
theorem dX12_odds_61 : decode cX12_odds 61 = .ok (.lastore, 1) := by decide +kernel
theorem dX12_odds_62 : decode cX12_odds 62 = .ok (.iinc 4 1, 3) := by decide +kernel
theorem dX12_odds_65 : decode cX12_odds 65 = .ok (.goto (-19), 3) := by decide +kernel
theorem dX12_odds_68 : decode cX12_odds 68 = .ok (.aload_n 0, 1) := by decide +kernel
theorem dX12_odds_69 : decode cX12_odds 69 = .ok (.getfield 101, 3) := by decide +kernel
theorem dX12_odds_72 : decode cX12_odds 72 = .ok (.aload_n 0, 1) := by decide +kernel
theorem dX12_odds_73 : decode cX12_odds 73 = .ok (.iload_n 1, 1) := by decide +kernel
theorem dX12_odds_74 : decode cX12_odds 74 = .ok (.iconst 1, 1) := by decide +kernel
theorem dX12_odds_75 : decode cX12_odds 75 = .ok (.invokevirtual 287, 3) := by decide +kernel
theorem dX12_odds_78 : decode cX12_odds 78 = .ok (.aload_n 0, 1) := by decide +kernel
theorem dX12_odds_79 : decode cX12_odds 79 = .ok (.iload_n 1, 1) := by decide +kernel
theorem dX12_odds_80 : decode cX12_odds 80 = .ok (.iconst 0, 1) := by decide +kernel
theorem dX12_odds_81 : decode cX12_odds 81 = .ok (.invokevirtual 287, 3) := by decide +kernel
theorem dX12_odds_84 : decode cX12_odds 84 = .ok (.invokestatic 425, 3) := by decide +kernel
theorem dX12_odds_87 : decode cX12_odds 87 = .ok (.ldc2_w 432, 3) := by decide +kernel
theorem dX12_odds_90 : decode cX12_odds 90 = .ok (.lastore, 1) := by decide +kernel
theorem dX12_odds_91 : decode cX12_odds 91 = .ok (.aload_n 0, 1) := by decide +kernel
theorem dX12_odds_92 : decode cX12_odds 92 = .ok (.lconst 0, 1) := by decide +kernel
theorem dX12_odds_93 : decode cX12_odds 93 = .ok (.putfield 422, 3) := by decide +kernel
theorem dX12_odds_96 : decode cX12_odds 96 = .ok (.iconst 1, 1) := by decide +kernel
theorem dX12_odds_97 : decode cX12_odds 97 = .ok (.istore 4, 2) := by decide +kernel
theorem dX12_odds_99 : decode cX12_odds 99 = .ok (.iload 4, 2) := by decide +kernel
theorem dX12_odds_101 : decode cX12_odds 101 = .ok (.iload_n 2, 1) := by decide +kernel
theorem dX12_odds_102 : decode cX12_odds 102 = .ok (.if_icmp .gt 21, 3) := by decide +kernel
theorem dX12_odds_105 : decode cX12_odds 105 = .ok (.aload_n 0, 1) := by decide +kernel
theorem dX12_odds_106 : decode cX12_odds 106 = .ok (.iload_n 1, 1) := by decide +kernel
theorem dX12_odds_107 : decode cX12_odds 107 = .ok (.aload_n 0, 1) := by decide +kernel
theorem dX12_odds_108 : decode cX12_odds 108 = .ok (.getfield 309, 3) := by decide +kernel
theorem dX12_odds_111 : decode cX12_odds 111 = .ok (.iload 4, 2) := by decide +kernel
theorem dX12_odds_113 : decode cX12_odds 113 = .ok (.iadd, 1) := by decide +kernel
theorem dX12_odds_114 : decode cX12_odds 114 = .ok (.invokevirtual 434, 3) := by decide +kernel
theorem dX12_odds_117 : decode cX12_odds 117 = .ok (.iinc 4 1, 3) := by decide +kernel
theorem dX12_odds_120 : decode cX12_odds 120 = .ok (.goto (-21), 3) := by decide +kernel
theorem dX12_odds_123 : decode cX12_odds 123 = .ok (.iload_n 3, 1) := by decide +kernel
theorem dX12_odds_124 : decode cX12_odds 124 = .ok (.iconst (-1), 1) := by decide +kernel
theorem dX12_odds_125 : decode cX12_odds 125 = .ok (.if_icmp .ne 10, 3) := by decide +kernel
theorem dX12_odds_128 : decode cX12_odds 128 = .ok (.aload_n 0, 1) := by decide +kernel
theorem dX12_odds_129 : decode cX12_odds 129 = .ok (.getfield 422, 3) := by decide +kernel
theorem dX12_odds_132 : decode cX12_odds 132 = .ok (.goto 4, 3) := by decide +kernel
theorem dX12_odds_135 : decode cX12_odds 135 = .ok (.lconst 0, 1) := by decide +kernel
theorem dX12_odds_136 : decode cX12_odds 136 = .ok (.lstore 4, 2) := by decide +kernel
theorem dX12_odds_138 : decode cX12_odds 138 = .ok (.iconst 1, 1) := by decide +kernel
theorem dX12_odds_139 : decode cX12_odds 139 = .ok (.istore 6, 2) := by decide +kernel
theorem dX12_odds_141 : decode cX12_odds 141 = .ok (.iload 6, 2) := by decide +kernel
theorem dX12_odds_143 : decode cX12_odds 143 = .ok (.bipush 20, 2) := by decide +kernel
theorem dX12_odds_145 : decode cX12_odds 145 = .ok (.if_icmp .gt 30, 3) := by decide +kernel
theorem dX12_odds_148 : decode cX12_odds 148 = .ok (.iload_n 3, 1) := by decide +kernel
theorem dX12_odds_149 : decode cX12_odds 149 = .ok (.iconst (-1), 1) := by decide +kernel
theorem dX12_odds_150 : decode cX12_odds 150 = .ok (.if_icmp .eq 25, 3) := by decide +kernel
theorem dX12_odds_153 : decode cX12_odds 153 = .ok (.lload 4, 2) := by decide +kernel
theorem dX12_odds_155 : decode cX12_odds 155 = .ok (.aload_n 0, 1) := by decide +kernel
theorem dX12_odds_156 : decode cX12_odds 156 = .ok (.getfield 101, 3) := by decide +kernel
theorem dX12_odds_159 : decode cX12_odds 159 = .ok (.iload_n 3, 1) := by decide +kernel
theorem dX12_odds_160 : decode cX12_odds 160 = .ok (.iload 6, 2) := by decide +kernel
theorem dX12_odds_162 : decode cX12_odds 162 = .ok (.invokestatic 425, 3) := by decide +kernel
theorem dX12_odds_165 : decode cX12_odds 165 = .ok (.laload, 1) := by decide +kernel
theorem dX12_odds_166 : decode cX12_odds 166 = .ok (.ladd, 1) := by decide +kernel
theorem dX12_odds_167 : decode cX12_odds 167 = .ok (.lstore 4, 2) := by decide +kernel
theorem dX12_odds_169 : decode cX12_odds 169 = .ok (.iinc 6 1, 3) := by decide +kernel
theorem dX12_odds_172 : decode cX12_odds 172 = .ok (.goto (-31), 3) := by decide +kernel
theorem dX12_odds_175 : decode cX12_odds 175 = .ok (.lload 4, 2) := by decide +kernel
theorem dX12_odds_177 : decode cX12_odds 177 = .ok (.l2i, 1) := by decide +kernel
theorem dX12_odds_178 : decode cX12_odds 178 = .ok (.ireturn, 1) := by decide +kernel
theorem dX12_oneWinter_0 : decode cX12_oneWinter 0 = .ok (.iconst 0, 1) := by decide +kernel
theorem dX12_oneWinter_1 : decode cX12_oneWinter 1 = .ok (.istore_n 3, 1) := by decide +kernel
theorem dX12_oneWinter_2 : decode cX12_oneWinter 2 = .ok (.iload_n 3, 1) := by decide +kernel
theorem dX12_oneWinter_3 : decode cX12_oneWinter 3 = .ok (.sipush 168, 3) := by decide +kernel
theorem dX12_oneWinter_6 : decode cX12_oneWinter 6 = .ok (.if_icmp .ge 16, 3) := by decide +kernel
theorem dX12_oneWinter_9 : decode cX12_oneWinter 9 = .ok (.aload_n 0, 1) := by decide +kernel
theorem dX12_oneWinter_10 : decode cX12_oneWinter 10 = .ok (.getfield 105, 3) := by decide +kernel
theorem dX12_oneWinter_13 : decode cX12_oneWinter 13 = .ok (.iload_n 3, 1) := by decide +kernel
theorem dX12_oneWinter_14 : decode cX12_oneWinter 14 = .ok (.lconst 0, 1) := by decide +kernel
theorem dX12_oneWinter_15 : decode cX12_oneWinter 15 = .ok (.lastore, 1) := by decide +kernel
theorem dX12_oneWinter_16 : decode cX12_oneWinter 16 = .ok (.iinc 3 1, 3) := by decide +kernel
theorem dX12_oneWinter_19 : decode cX12_oneWinter 19 = .ok (.goto (-17), 3) := by decide +kernel
theorem dX12_oneWinter_22 : decode cX12_oneWinter 22 = .ok (.iconst 0, 1) := by decide +kernel
theorem dX12_oneWinter_23 : decode cX12_oneWinter 23 = .ok (.istore_n 3, 1) := by decide +kernel
theorem dX12_oneWinter_24 : decode cX12_oneWinter 24 = .ok (.iload_n 3, 1) := by decide +kernel
theorem dX12_oneWinter_25 : decode cX12_oneWinter 25 = .ok (.aload_n 0, 1) := by decide +kernel
theorem dX12_oneWinter_26 : decode cX12_oneWinter 26 = .ok (.getfield 302, 3) := by decide +kernel
theorem dX12_oneWinter_29 : decode cX12_oneWinter 29 = .ok (.if_icmp .ge 116, 3) := by decide +kernel
theorem dX12_oneWinter_32 : decode cX12_oneWinter 32 = .ok (.iconst 1, 1) := by decide +kernel
theorem dX12_oneWinter_33 : decode cX12_oneWinter 33 = .ok (.istore 4, 2) := by decide +kernel
theorem dX12_oneWinter_35 : decode cX12_oneWinter 35 = .ok (.iload 4, 2) := by decide +kernel
theorem dX12_oneWinter_37 : decode cX12_oneWinter 37 = .ok (.bipush 20, 2) := by decide +kernel
theorem dX12_oneWinter_39 : decode cX12_oneWinter 39 = .ok (.if_icmp .gt 100, 3) := by decide +kernel
theorem dX12_oneWinter_42 : decode cX12_oneWinter 42 = .ok (.aload_n 0, 1) := by decide +kernel
theorem dX12_oneWinter_43 : decode cX12_oneWinter 43 = .ok (.getfield 101, 3) := by decide +kernel
theorem dX12_oneWinter_46 : decode cX12_oneWinter 46 = .ok (.iload_n 3, 1) := by decide +kernel
theorem dX12_oneWinter_47 : decode cX12_oneWinter 47 = .ok (.iload 4, 2) := by decide +kernel
theorem dX12_oneWinter_49 : decode cX12_oneWinter 49 = .ok (.invokestatic 425, 3) := by decide +kernel
theorem dX12_oneWinter_52 : decode cX12_oneWinter 52 = .ok (.laload, 1) := by decide +kernel
theorem dX12_oneWinter_53 : decode cX12_oneWinter 53 = .ok (.lstore 5, 2) := by decide +kernel
theorem dX12_oneWinter_55 : decode cX12_oneWinter 55 = .ok (.lload 5, 2) := by decide +kernel
theorem dX12_oneWinter_57 : decode cX12_oneWinter 57 = .ok (.lconst 0, 1) := by decide +kernel
theorem dX12_oneWinter_58 : decode cX12_oneWinter 58 = .ok (.lcmp, 1) := by decide +kernel
theorem dX12_oneWinter_59 : decode cX12_oneWinter 59 = .ok (.ifCond .le 74, 3) := by decide +kernel
theorem dX12_oneWinter_62 : decode cX12_oneWinter 62 = .ok (.lload 5, 2) := by decide +kernel
theorem dX12_oneWinter_64 : decode cX12_oneWinter 64 = .ok (.aload_n 0, 1) := by decide +kernel
theorem dX12_oneWinter_65 : decode cX12_oneWinter 65 = .ok (.getfield 49, 3) := by decide +kernel
theorem dX12_oneWinter_68 : decode cX12_oneWinter 68 = .ok (.iload_n 1, 1) := by decide +kernel
theorem dX12_oneWinter_69 : decode cX12_oneWinter 69 = .ok (.iaload, 1) := by decide +kernel
theorem dX12_oneWinter_70 : decode cX12_oneWinter 70 = .ok (.i2l, 1) := by decide +kernel
theorem dX12_oneWinter_71 : decode cX12_oneWinter 71 = .ok (.lmul, 1) := by decide +kernel
theorem dX12_oneWinter_72 : decode cX12_oneWinter 72 = .ok (.ldc2_w 420, 3) := by decide +kernel
theorem dX12_oneWinter_75 : decode cX12_oneWinter 75 = .ok (.ldiv, 1) := by decide +kernel
theorem dX12_oneWinter_76 : decode cX12_oneWinter 76 = .ok (.lstore 7, 2) := by decide +kernel
theorem dX12_oneWinter_78 : decode cX12_oneWinter 78 = .ok (.lload 7, 2) := by decide +kernel
theorem dX12_oneWinter_80 : decode cX12_oneWinter 80 = .ok (.aload_n 0, 1) := by decide +kernel
theorem dX12_oneWinter_81 : decode cX12_oneWinter 81 = .ok (.getfield 52, 3) := by decide +kernel
theorem dX12_oneWinter_84 : decode cX12_oneWinter 84 = .ok (.iload_n 1, 1) := by decide +kernel
theorem dX12_oneWinter_85 : decode cX12_oneWinter 85 = .ok (.iaload, 1) := by decide +kernel
theorem dX12_oneWinter_86 : decode cX12_oneWinter 86 = .ok (.i2l, 1) := by decide +kernel
theorem dX12_oneWinter_87 : decode cX12_oneWinter 87 = .ok (.lmul, 1) := by decide +kernel
theorem dX12_oneWinter_88 : decode cX12_oneWinter 88 = .ok (.ldc2_w 420, 3) := by decide +kernel
theorem dX12_oneWinter_91 : decode cX12_oneWinter 91 = .ok (.ldiv, 1) := by decide +kernel
theorem dX12_oneWinter_92 : decode cX12_oneWinter 92 = .ok (.lstore 9, 2) := by decide +kernel
theorem dX12_oneWinter_94 : decode cX12_oneWinter 94 = .ok (.aload_n 0, 1) := by decide +kernel
theorem dX12_oneWinter_95 : decode cX12_oneWinter 95 = .ok (.iload_n 3, 1) := by decide +kernel
theorem dX12_oneWinter_96 : decode cX12_oneWinter 96 = .ok (.iload 4, 2) := by decide +kernel
theorem dX12_oneWinter_98 : decode cX12_oneWinter 98 = .ok (.iconst 0, 1) := by decide +kernel
theorem dX12_oneWinter_99 : decode cX12_oneWinter 99 = .ok (.lload 5, 2) := by decide +kernel
theorem dX12_oneWinter_101 : decode cX12_oneWinter 101 = .ok (.lload 7, 2) := by decide +kernel
theorem dX12_oneWinter_103 : decode cX12_oneWinter 103 = .ok (.lsub, 1) := by decide +kernel
theorem dX12_oneWinter_104 : decode cX12_oneWinter 104 = .ok (.iload_n 2, 1) := by decide +kernel
theorem dX12_oneWinter_105 : decode cX12_oneWinter 105 = .ok (.invokevirtual 428, 3) := by decide +kernel
theorem dX12_oneWinter_108 : decode cX12_oneWinter 108 = .ok (.aload_n 0, 1) := by decide +kernel
theorem dX12_oneWinter_109 : decode cX12_oneWinter 109 = .ok (.iload_n 3, 1) := by decide +kernel
theorem dX12_oneWinter_110 : decode cX12_oneWinter 110 = .ok (.iload 4, 2) := by decide +kernel
theorem dX12_oneWinter_112 : decode cX12_oneWinter 112 = .ok (.iconst 1, 1) := by decide +kernel
theorem dX12_oneWinter_113 : decode cX12_oneWinter 113 = .ok (.lload 7, 2) := by decide +kernel
theorem dX12_oneWinter_115 : decode cX12_oneWinter 115 = .ok (.lload 9, 2) := by decide +kernel
theorem dX12_oneWinter_117 : decode cX12_oneWinter 117 = .ok (.lsub, 1) := by decide +kernel
theorem dX12_oneWinter_118 : decode cX12_oneWinter 118 = .ok (.iload_n 2, 1) := by decide +kernel
theorem dX12_oneWinter_119 : decode cX12_oneWinter 119 = .ok (.invokevirtual 428, 3) := by decide +kernel
theorem dX12_oneWinter_122 : decode cX12_oneWinter 122 = .ok (.aload_n 0, 1) := by decide +kernel
theorem dX12_oneWinter_123 : decode cX12_oneWinter 123 = .ok (.iload_n 3, 1) := by decide +kernel
theorem dX12_oneWinter_124 : decode cX12_oneWinter 124 = .ok (.iload 4, 2) := by decide +kernel
theorem dX12_oneWinter_126 : decode cX12_oneWinter 126 = .ok (.iconst 2, 1) := by decide +kernel
theorem dX12_oneWinter_127 : decode cX12_oneWinter 127 = .ok (.lload 9, 2) := by decide +kernel
theorem dX12_oneWinter_129 : decode cX12_oneWinter 129 = .ok (.iload_n 2, 1) := by decide +kernel
theorem dX12_oneWinter_130 : decode cX12_oneWinter 130 = .ok (.invokevirtual 428, 3) := by decide +kernel
theorem dX12_oneWinter_133 : decode cX12_oneWinter 133 = .ok (.iinc 4 1, 3) := by decide +kernel
theorem dX12_oneWinter_136 : decode cX12_oneWinter 136 = .ok (.goto (-101), 3) := by decide +kernel
theorem dX12_oneWinter_139 : decode cX12_oneWinter 139 = .ok (.iinc 3 1, 3) := by decide +kernel
theorem dX12_oneWinter_142 : decode cX12_oneWinter 142 = .ok (.goto (-118), 3) := by decide +kernel
theorem dX12_oneWinter_145 : decode cX12_oneWinter 145 = .ok (.iconst 0, 1) := by decide +kernel
theorem dX12_oneWinter_146 : decode cX12_oneWinter 146 = .ok (.istore_n 3, 1) := by decide +kernel
theorem dX12_oneWinter_147 : decode cX12_oneWinter 147 = .ok (.iload_n 3, 1) := by decide +kernel
theorem dX12_oneWinter_148 : decode cX12_oneWinter 148 = .ok (.sipush 168, 3) := by decide +kernel
theorem dX12_oneWinter_151 : decode cX12_oneWinter 151 = .ok (.if_icmp .ge 21, 3) := by decide +kernel
theorem dX12_oneWinter_154 : decode cX12_oneWinter 154 = .ok (.aload_n 0, 1) := by decide +kernel
theorem dX12_oneWinter_155 : decode cX12_oneWinter 155 = .ok (.getfield 101, 3) := by decide +kernel
theorem dX12_oneWinter_158 : decode cX12_oneWinter 158 = .ok (.iload_n 3, 1) := by decide +kernel
theorem dX12_oneWinter_159 : decode cX12_oneWinter 159 = .ok (.aload_n 0, 1) := by decide +kernel
theorem dX12_oneWinter_160 : decode cX12_oneWinter 160 = .ok (.getfield 105, 3) := by decide +kernel
theorem dX12_oneWinter_163 : decode cX12_oneWinter 163 = .ok (.iload_n 3, 1) := by decide +kernel
theorem dX12_oneWinter_164 : decode cX12_oneWinter 164 = .ok (.laload, 1) := by decide +kernel
theorem dX12_oneWinter_165 : decode cX12_oneWinter 165 = .ok (.lastore, 1) := by decide +kernel
theorem dX12_oneWinter_166 : decode cX12_oneWinter 166 = .ok (.iinc 3 1, 3) := by decide +kernel
theorem dX12_oneWinter_169 : decode cX12_oneWinter 169 = .ok (.goto (-22), 3) := by decide +kernel
theorem dX12_oneWinter_172 : decode cX12_oneWinter 172 = .ok (.return_, 1) := by decide +kernel
theorem dX12_triedBy_0 : decode cX12_triedBy 0 = .ok (.aload_n 0, 1) := by decide +kernel
theorem dX12_triedBy_1 : decode cX12_triedBy 1 = .ok (.getfield 55, 3) := by decide +kernel
theorem dX12_triedBy_4 : decode cX12_triedBy 4 = .ok (.aload_n 0, 1) := by decide +kernel
theorem dX12_triedBy_5 : decode cX12_triedBy 5 = .ok (.getfield 58, 3) := by decide +kernel
theorem dX12_triedBy_8 : decode cX12_triedBy 8 = .ok (.invokestatic 437, 3) := by decide +kernel
theorem dX12_triedBy_11 : decode cX12_triedBy 11 = .ok (.aload_n 0, 1) := by decide +kernel
theorem dX12_triedBy_12 : decode cX12_triedBy 12 = .ok (.getfield 357, 3) := by decide +kernel
theorem dX12_triedBy_15 : decode cX12_triedBy 15 = .ok (.lstore 5, 2) := by decide +kernel
theorem dX12_triedBy_17 : decode cX12_triedBy 17 = .ok (.iconst 0, 1) := by decide +kernel
theorem dX12_triedBy_18 : decode cX12_triedBy 18 = .ok (.istore 7, 2) := by decide +kernel
theorem dX12_triedBy_20 : decode cX12_triedBy 20 = .ok (.iconst 0, 1) := by decide +kernel
theorem dX12_triedBy_21 : decode cX12_triedBy 21 = .ok (.istore 8, 2) := by decide +kernel
theorem dX12_triedBy_23 : decode cX12_triedBy 23 = .ok (.iload 8, 2) := by decide +kernel
theorem dX12_triedBy_25 : decode cX12_triedBy 25 = .ok (.iload_n 3, 1) := by decide +kernel
theorem dX12_triedBy_26 : decode cX12_triedBy 26 = .ok (.if_icmp .ge 129, 3) := by decide +kernel
theorem dX12_triedBy_29 : decode cX12_triedBy 29 = .ok (.aload_n 0, 1) := by decide +kernel
theorem dX12_triedBy_30 : decode cX12_triedBy 30 = .ok (.iload 8, 2) := by decide +kernel
theorem dX12_triedBy_32 : decode cX12_triedBy 32 = .ok (.i2l, 1) := by decide +kernel
theorem dX12_triedBy_33 : decode cX12_triedBy 33 = .ok (.putfield 357, 3) := by decide +kernel
theorem dX12_triedBy_36 : decode cX12_triedBy 36 = .ok (.iconst 1, 1) := by decide +kernel
theorem dX12_triedBy_37 : decode cX12_triedBy 37 = .ok (.istore 9, 2) := by decide +kernel
theorem dX12_triedBy_39 : decode cX12_triedBy 39 = .ok (.iload 9, 2) := by decide +kernel
theorem dX12_triedBy_41 : decode cX12_triedBy 41 = .ok (.iload_n 2, 1) := by decide +kernel
theorem dX12_triedBy_42 : decode cX12_triedBy 42 = .ok (.if_icmp .gt 21, 3) := by decide +kernel
theorem dX12_triedBy_45 : decode cX12_triedBy 45 = .ok (.aload_n 0, 1) := by decide +kernel
theorem dX12_triedBy_46 : decode cX12_triedBy 46 = .ok (.iload_n 1, 1) := by decide +kernel
theorem dX12_triedBy_47 : decode cX12_triedBy 47 = .ok (.aload_n 0, 1) := by decide +kernel
theorem dX12_triedBy_48 : decode cX12_triedBy 48 = .ok (.getfield 309, 3) := by decide +kernel
theorem dX12_triedBy_51 : decode cX12_triedBy 51 = .ok (.iload 9, 2) := by decide +kernel
theorem dX12_triedBy_53 : decode cX12_triedBy 53 = .ok (.iadd, 1) := by decide +kernel
theorem dX12_triedBy_54 : decode cX12_triedBy 54 = .ok (.invokevirtual 405, 3) := by decide +kernel
theorem dX12_triedBy_57 : decode cX12_triedBy 57 = .ok (.iinc 9 1, 3) := by decide +kernel
theorem dX12_triedBy_60 : decode cX12_triedBy 60 = .ok (.goto (-21), 3) := by decide +kernel
theorem dX12_triedBy_63 : decode cX12_triedBy 63 = .ok (.iload 4, 2) := by decide +kernel
theorem dX12_triedBy_65 : decode cX12_triedBy 65 = .ok (.ifCond .ne 15, 3) := by decide +kernel
theorem dX12_triedBy_68 : decode cX12_triedBy 68 = .ok (.iload 7, 2) := by decide +kernel
theorem dX12_triedBy_70 : decode cX12_triedBy 70 = .ok (.aload_n 0, 1) := by decide +kernel
theorem dX12_triedBy_71 : decode cX12_triedBy 71 = .ok (.invokevirtual 408, 3) := by decide +kernel
theorem dX12_triedBy_74 : decode cX12_triedBy 74 = .ok (.iadd, 1) := by decide +kernel
theorem dX12_triedBy_75 : decode cX12_triedBy 75 = .ok (.istore 7, 2) := by decide +kernel
theorem dX12_triedBy_77 : decode cX12_triedBy 77 = .ok (.goto 61, 3) := by decide +kernel
theorem dX12_triedBy_80 : decode cX12_triedBy 80 = .ok (.iload 4, 2) := by decide +kernel
theorem dX12_triedBy_82 : decode cX12_triedBy 82 = .ok (.iconst 1, 1) := by decide +kernel
theorem dX12_triedBy_83 : decode cX12_triedBy 83 = .ok (.if_icmp .ne 43, 3) := by decide +kernel
theorem dX12_triedBy_86 : decode cX12_triedBy 86 = .ok (.iconst 0, 1) := by decide +kernel
theorem dX12_triedBy_87 : decode cX12_triedBy 87 = .ok (.istore 9, 2) := by decide +kernel
theorem dX12_triedBy_89 : decode cX12_triedBy 89 = .ok (.iload 9, 2) := by decide +kernel
theorem dX12_triedBy_91 : decode cX12_triedBy 91 = .ok (.aload_n 0, 1) := by decide +kernel
theorem dX12_triedBy_92 : decode cX12_triedBy 92 = .ok (.getfield 290, 3) := by decide +kernel
theorem dX12_triedBy_95 : decode cX12_triedBy 95 = .ok (.if_icmp .ge 28, 3) := by decide +kernel
theorem dX12_triedBy_98 : decode cX12_triedBy 98 = .ok (.iload 7, 2) := by decide +kernel
theorem dX12_triedBy_100 : decode cX12_triedBy 100 = .ok (.aload_n 0, 1) := by decide +kernel
theorem dX12_triedBy_101 : decode cX12_triedBy 101 = .ok (.iload 9, 2) := by decide +kernel
theorem dX12_triedBy_103 : decode cX12_triedBy 103 = .ok (.invokevirtual 341, 3) := by decide +kernel
theorem dX12_triedBy_106 : decode cX12_triedBy 106 = .ok (.ifCond .eq 7, 3) := by decide +kernel
theorem dX12_triedBy_109 : decode cX12_triedBy 109 = .ok (.iconst 1, 1) := by decide +kernel
theorem dX12_triedBy_110 : decode cX12_triedBy 110 = .ok (.goto 4, 3) := by decide +kernel
theorem dX12_triedBy_113 : decode cX12_triedBy 113 = .ok (.iconst 0, 1) := by decide +kernel
theorem dX12_triedBy_114 : decode cX12_triedBy 114 = .ok (.iadd, 1) := by decide +kernel
theorem dX12_triedBy_115 : decode cX12_triedBy 115 = .ok (.istore 7, 2) := by decide +kernel
theorem dX12_triedBy_117 : decode cX12_triedBy 117 = .ok (.iinc 9 1, 3) := by decide +kernel
theorem dX12_triedBy_120 : decode cX12_triedBy 120 = .ok (.goto (-31), 3) := by decide +kernel
theorem dX12_triedBy_123 : decode cX12_triedBy 123 = .ok (.goto 15, 3) := by decide +kernel
theorem dX12_triedBy_126 : decode cX12_triedBy 126 = .ok (.iload 7, 2) := by decide +kernel
theorem dX12_triedBy_128 : decode cX12_triedBy 128 = .ok (.aload_n 0, 1) := by decide +kernel
theorem dX12_triedBy_129 : decode cX12_triedBy 129 = .ok (.invokevirtual 414, 3) := by decide +kernel
theorem dX12_triedBy_132 : decode cX12_triedBy 132 = .ok (.invokestatic 391, 3) := by decide +kernel
theorem dX12_triedBy_135 : decode cX12_triedBy 135 = .ok (.iadd, 1) := by decide +kernel
theorem dX12_triedBy_136 : decode cX12_triedBy 136 = .ok (.istore 7, 2) := by decide +kernel
theorem dX12_triedBy_138 : decode cX12_triedBy 138 = .ok (.aload_n 0, 1) := by decide +kernel
theorem dX12_triedBy_139 : decode cX12_triedBy 139 = .ok (.getfield 58, 3) := by decide +kernel
theorem dX12_triedBy_142 : decode cX12_triedBy 142 = .ok (.aload_n 0, 1) := by decide +kernel
theorem dX12_triedBy_143 : decode cX12_triedBy 143 = .ok (.getfield 55, 3) := by decide +kernel
theorem dX12_triedBy_146 : decode cX12_triedBy 146 = .ok (.invokestatic 437, 3) := by decide +kernel
theorem dX12_triedBy_149 : decode cX12_triedBy 149 = .ok (.iinc 8 1, 3) := by decide +kernel
theorem dX12_triedBy_152 : decode cX12_triedBy 152 = .ok (.goto (-129), 3) := by decide +kernel
theorem dX12_triedBy_155 : decode cX12_triedBy 155 = .ok (.aload_n 0, 1) := by decide +kernel
theorem dX12_triedBy_156 : decode cX12_triedBy 156 = .ok (.lload 5, 2) := by decide +kernel
theorem dX12_triedBy_158 : decode cX12_triedBy 158 = .ok (.putfield 357, 3) := by decide +kernel
theorem dX12_triedBy_161 : decode cX12_triedBy 161 = .ok (.iload 7, 2) := by decide +kernel
theorem dX12_triedBy_163 : decode cX12_triedBy 163 = .ok (.ireturn, 1) := by decide +kernel
def w_X12_oneWinter : List Cond := .code yX12_oneWinter cX12_oneWinter 11 none :: ([Cond.fieldLink RX12 302 "HeadYearModel" "levels" "I", Cond.fieldLink RX12 101 "HeadYearModel" "parts" "[J", Cond.fieldLink RX12 105 "HeadYearModel" "then" "[J", Cond.methodLink RX12 425 yX12_state, Cond.static yX12_state, Cond.initialized RX12, Cond.fieldLink RX12 49 "HeadYearModel" "birth" "[I", Cond.constantLong RX12 420 (100), Cond.fieldLink RX12 52 "HeadYearModel" "twin" "[I", Cond.methodLink RX12 428 yX12_goOn, Cond.instanceMethod yX12_goOn, Cond.selects RX12 yX12_goOn yX12_goOn] ++ (u_ws RX12 TX12 54 ++ (w_X12_state ++ (w_X12_goOn ++ ([])))))
theorem in_X12_oneWinter_X12 : ∀ w ∈ u_ws RX12 TX12 54, w ∈ w_X12_oneWinter := fun _ h => List.mem_cons_of_mem _ (List.mem_append_right _ (List.mem_append_left _ h))
theorem gg_X12_oneWinter_X12_state : GoodIn w_X12_oneWinter w_X12_state := goodIn_sub (fun _ h => List.mem_cons_of_mem _ (List.mem_append_right _ (List.mem_append_right _ (List.mem_append_left _ h)))) (by decide +kernel)
theorem gg_X12_oneWinter_X12_goOn : GoodIn w_X12_oneWinter w_X12_goOn := goodIn_sub (fun _ h => List.mem_cons_of_mem _ (List.mem_append_right _ (List.mem_append_right _ (List.mem_append_right _ (List.mem_append_left _ h))))) (by decide +kernel)
theorem g_X12_oneWinter_X12_goOn_428 : GoodIn w_X12_oneWinter (wsV RX12 428 RX12 yX12_goOn w_X12_goOn) := goodIn_app (goodIn_of _ (by decide +kernel)) gg_X12_oneWinter_X12_goOn
theorem g_X12_oneWinter_X12_state_425 : GoodIn w_X12_oneWinter (va_wsS RX12 425 yX12_state w_X12_state) := goodIn_app (goodIn_of _ (by decide +kernel)) gg_X12_oneWinter_X12_state
theorem fk_48 {E : py_E} {G : wf_G} {L L1 : List Nat} {f f1 : py_F} {m : Nat} (hWF : WF E G L1 f1) (Tm : G.1 m = 13) (h : FK [48] f f1 m) {v0 : Int32} {v2 : Int32} {v3 : Int32} {v4 : Int32} {v5 : Int32} {v13 : Int32} {v14 : Int32} {v19 : Int32} {v20 : Int32} {v24 : Int32} {v25 : Int32} {v29 : Int32} {v30 : Int64} {v31 : Int32} {v32 : Int32} {v33 : Int32} {v34 : Int32} {v43 : Int32} {v48 : Int64} {v51 : Int32} {v52 : Int64} {v53 : Int32} (hr : py_at L f m (.inr (12, [.int v0, .ref (G.2 m 1), .int v2, .int v3, .int v4, .int v5, .ref (G.2 m 6), .ref (G.2 m 7), .ref (G.2 m 8), .ref (G.2 m 9), .ref (G.2 m 10), .ref (G.2 m 11), .ref (G.2 m 12), .int v13, .int v14, .ref (G.2 m 15), .ref (G.2 m 16), .ref (G.2 m 17), .ref (G.2 m 18), .int v19, .int v20, .ref (G.2 m 21), .ref (G.2 m 22), .ref (G.2 m 23), .int v24, .int v25, .ref (G.2 m 26), .ref (G.2 m 27), .ref (G.2 m 28), .int v29, .long v30, .int v31, .int v32, .int v33, .int v34, .ref (G.2 m 35), .ref (G.2 m 36), .ref (G.2 m 37), .ref (G.2 m 38), .ref (G.2 m 39), .ref (G.2 m 40), .ref (G.2 m 41), .ref (G.2 m 42), .int v43, .ref (G.2 m 44), .ref (G.2 m 45), .ref (G.2 m 46), .ref (G.2 m 47), .long v48, .ref (G.2 m 49), .ref (G.2 m 50), .int v51, .long v52, .int v53]))) : ∃ (w48 : Int64), py_at L1 f1 m (.inr (12, [.int v0, .ref (G.2 m 1), .int v2, .int v3, .int v4, .int v5, .ref (G.2 m 6), .ref (G.2 m 7), .ref (G.2 m 8), .ref (G.2 m 9), .ref (G.2 m 10), .ref (G.2 m 11), .ref (G.2 m 12), .int v13, .int v14, .ref (G.2 m 15), .ref (G.2 m 16), .ref (G.2 m 17), .ref (G.2 m 18), .int v19, .int v20, .ref (G.2 m 21), .ref (G.2 m 22), .ref (G.2 m 23), .int v24, .int v25, .ref (G.2 m 26), .ref (G.2 m 27), .ref (G.2 m 28), .int v29, .long v30, .int v31, .int v32, .int v33, .int v34, .ref (G.2 m 35), .ref (G.2 m 36), .ref (G.2 m 37), .ref (G.2 m 38), .ref (G.2 m 39), .ref (G.2 m 40), .ref (G.2 m 41), .ref (G.2 m 42), .int v43, .ref (G.2 m 44), .ref (G.2 m 45), .ref (G.2 m 46), .ref (G.2 m 47), .long w48, .ref (G.2 m 49), .ref (G.2 m 50), .int v51, .long v52, .int v53])) := by
  obtain ⟨w0, w2, w3, w4, w5, w13, w14, w19, w20, w24, w25, w29, w30, w31, w32, w33, w34, w43, w48, w51, w52, w53, hr1, b2, b13, b14, b19, b20, b24, b25, b29, b31, b43, b51, b53⟩ := wg_12 hWF Tm
  have e0 : w0 = v0 := Value.int.inj (Option.some.inj (show some (Value.int w0) = some (Value.int v0) from fk_i h hr hr1 0 (by decide) (by decide)))
  subst e0
  have e2 : w2 = v2 := Value.int.inj (Option.some.inj (show some (Value.int w2) = some (Value.int v2) from fk_i h hr hr1 2 (by decide) (by decide)))
  subst e2
  have e3 : w3 = v3 := Value.int.inj (Option.some.inj (show some (Value.int w3) = some (Value.int v3) from fk_i h hr hr1 3 (by decide) (by decide)))
  subst e3
  have e4 : w4 = v4 := Value.int.inj (Option.some.inj (show some (Value.int w4) = some (Value.int v4) from fk_i h hr hr1 4 (by decide) (by decide)))
  subst e4
  have e5 : w5 = v5 := Value.int.inj (Option.some.inj (show some (Value.int w5) = some (Value.int v5) from fk_i h hr hr1 5 (by decide) (by decide)))
  subst e5
  have e13 : w13 = v13 := Value.int.inj (Option.some.inj (show some (Value.int w13) = some (Value.int v13) from fk_i h hr hr1 13 (by decide) (by decide)))
  subst e13
  have e14 : w14 = v14 := Value.int.inj (Option.some.inj (show some (Value.int w14) = some (Value.int v14) from fk_i h hr hr1 14 (by decide) (by decide)))
  subst e14
  have e19 : w19 = v19 := Value.int.inj (Option.some.inj (show some (Value.int w19) = some (Value.int v19) from fk_i h hr hr1 19 (by decide) (by decide)))
  subst e19
  have e20 : w20 = v20 := Value.int.inj (Option.some.inj (show some (Value.int w20) = some (Value.int v20) from fk_i h hr hr1 20 (by decide) (by decide)))
  subst e20
  have e24 : w24 = v24 := Value.int.inj (Option.some.inj (show some (Value.int w24) = some (Value.int v24) from fk_i h hr hr1 24 (by decide) (by decide)))
  subst e24
  have e25 : w25 = v25 := Value.int.inj (Option.some.inj (show some (Value.int w25) = some (Value.int v25) from fk_i h hr hr1 25 (by decide) (by decide)))
  subst e25
  have e29 : w29 = v29 := Value.int.inj (Option.some.inj (show some (Value.int w29) = some (Value.int v29) from fk_i h hr hr1 29 (by decide) (by decide)))
  subst e29
  have e30 : w30 = v30 := Value.long.inj (Option.some.inj (show some (Value.long w30) = some (Value.long v30) from fk_i h hr hr1 30 (by decide) (by decide)))
  subst e30
  have e31 : w31 = v31 := Value.int.inj (Option.some.inj (show some (Value.int w31) = some (Value.int v31) from fk_i h hr hr1 31 (by decide) (by decide)))
  subst e31
  have e32 : w32 = v32 := Value.int.inj (Option.some.inj (show some (Value.int w32) = some (Value.int v32) from fk_i h hr hr1 32 (by decide) (by decide)))
  subst e32
  have e33 : w33 = v33 := Value.int.inj (Option.some.inj (show some (Value.int w33) = some (Value.int v33) from fk_i h hr hr1 33 (by decide) (by decide)))
  subst e33
  have e34 : w34 = v34 := Value.int.inj (Option.some.inj (show some (Value.int w34) = some (Value.int v34) from fk_i h hr hr1 34 (by decide) (by decide)))
  subst e34
  have e43 : w43 = v43 := Value.int.inj (Option.some.inj (show some (Value.int w43) = some (Value.int v43) from fk_i h hr hr1 43 (by decide) (by decide)))
  subst e43
  have e51 : w51 = v51 := Value.int.inj (Option.some.inj (show some (Value.int w51) = some (Value.int v51) from fk_i h hr hr1 51 (by decide) (by decide)))
  subst e51
  have e52 : w52 = v52 := Value.long.inj (Option.some.inj (show some (Value.long w52) = some (Value.long v52) from fk_i h hr hr1 52 (by decide) (by decide)))
  subst e52
  have e53 : w53 = v53 := Value.int.inj (Option.some.inj (show some (Value.int w53) = some (Value.int v53) from fk_i h hr hr1 53 (by decide) (by decide)))
  subst e53
  exact ⟨w48, hr1⟩
set_option maxHeartbeats 4000000 in
set_option maxRecDepth 100000 in
theorem c_X12_oneWinter (l : Launch) (E : py_E) (G : wf_G) (L : List Nat) (f : py_F) (sz : Nat) (u : Nat) (a : Int32) (b : Int32) (hG : GT G) (hWF : WF E G L f) (Tu : G.1 u = 13) (Ba : (0 ≤ a.toInt ∧ a.toInt ≤ 9)) (hq0 : GM f G u) : Met l yX12_oneWinter w_X12_oneWinter ({ frames := 7, cells := 0, slots := 0, locals := 177 }) (py_Pc E [.ref u, .int a, .int b] L f sz) (py_Qv E L f sz (fun L1 f1 => WF E G L1 f1 ∧ KP G [67, 68, 69, 48, 49, 13] false f f1 ∧ FK [48] f f1 u)) 0 0 (va_A (va_pl L f) sz) := by
  refine Met.ofW (cc := cX12_oneWinter) (maxL := 11) (ret := none) (by decide) rfl ?_
  intro p e s m args below meth c s₁ B hml hv
  obtain ⟨rfl, rfl, hw⟩ := py_start hv
  have G0 : CallFix p m c cX12_oneWinter 11 s _ w_X12_oneWinter RX12 := ⟨B.exec, B.bytes, hml, findClass_of_methodNamed B.named, atoms_spec (ws := w_X12_oneWinter) B.pre⟩
  have hr := B.returns
  have hlk := B.notSynchronized
  have kcm1 : (-1 : Int32).toInt = -1 := rfl
  have kc0 : (0 : Int32).toInt = 0 := rfl
  have kc1 : (1 : Int32).toInt = 1 := rfl
  have kc2 : (2 : Int32).toInt = 2 := rfl
  have kc20 : (20 : Int32).toInt = 20 := rfl
  have kc168 : (168 : Int32).toInt = 168 := rfl
  have hl := lv_entry ([.ref u, .int a, .int b]) (n := 11) (Nat.le_of_ble_eq_true rfl)
  rw [lg_entry_eq]
  generalize (lg_sl ([.ref u, .int a, .int b]) ++ List.replicate (11 - (lg_sl ([.ref u, .int a, .int b])).length) Slot.unset).toArray = ls at hl ⊢
  have hl : lv_has ls 11 [(0, .ref u), (1, .int a), (2, .int b)] := hl
  have hFK : FK [48] f f u := FK.refl
  have hKP : KP G [67, 68, 69, 48, 49, 13] false f f := KP.refl
  have hGM := hq0
  refine lv_iconst (v := 0) G0.1 G0.2.1 dX12_oneWinter_0 (by decide) ?_
  refine lv_istore_n (lv' := [(3, .int 0), (0, .ref u), (1, .int a), (2, .int b)]) G0.1 G0.2.1 dX12_oneWinter_1 rfl hl (by decide) rfl (fun ls hl => ?_)
  have lo_2 : ∀ n_2 : Nat, ∀ (v_1 : Int32) (L_j2 : List Nat) (f_j2 : py_F) (H_j2 : Heap) (locs : List Loc) (ls : Array Slot), (2147483647 - v_1.toInt).toNat = n_2 → (0 ≤ v_1.toInt ∧ v_1.toInt ≤ 2147483647) → WF E G L_j2 f_j2 → KP G [67, 68, 69, 48, 49, 13] false f f_j2 → GM f_j2 G u → FK [48] f f_j2 u → py_W E (va_A (va_pl L f) s.heap.size) s L_j2 f_j2 H_j2 locs → lv_has ls 11 [(3, .int v_1), (0, .ref u), (1, .int a), (2, .int b)] → W p l e (headSpec w_X12_oneWinter ({ frames := 7, cells := 0, slots := 0, locals := 177 })).room s m ([.ref u, .int a, .int b] : List Value).toArray below meth c H_j2 locs 0 0 (MQ below (py_Qv E L f s.heap.size (fun L1 f1 => WF E G L1 f1 ∧ KP G [67, 68, 69, 48, 49, 13] false f f1 ∧ FK [48] f f1 u)) ([.ref u, .int a, .int b] : List Value).toArray s 0 0 (va_A (va_pl L f) s.heap.size)) (F0 m 2 ls []) := by
    intro n_2
    induction n_2 using Nat.strongRecOn with
    | _ n_2 ih_2 =>
      intro v_1 L_j2 f_j2 H_j2 locs ls hn_2 bv_1 hWF hKP hGM hFK hw hl
      refine lv_iload_n G0.1 G0.2.1 dX12_oneWinter_2 rfl (lv_at hl 0 rfl) ?_
      refine lv_sipush (v := 168) G0.1 G0.2.1 dX12_oneWinter_3 (by decide) ?_
      refine lv_icmp_ge (tgt := 22) G0.1 G0.2.1 dX12_oneWinter_6 (by decide) (fun c_2 => ?_) (fun c_2 => ?_)
      · skip
        have tc_2 := ti_le c_2
        refine lv_iconst (v := 0) G0.1 G0.2.1 dX12_oneWinter_22 (by decide) ?_
        refine lv_istore_n (lv' := [(3, .int 0), (0, .ref u), (1, .int a), (2, .int b)]) G0.1 G0.2.1 dX12_oneWinter_23 rfl hl (by decide) rfl (fun ls hl => ?_)
        have lo_24 : ∀ n_24 : Nat, ∀ (v_3 : Int32) (L_j24 : List Nat) (f_j24 : py_F) (H_j24 : Heap) (locs : List Loc) (ls : Array Slot), (2147483647 - v_3.toInt).toNat = n_24 → (0 ≤ v_3.toInt ∧ v_3.toInt ≤ 2147483647) → WF E G L_j24 f_j24 → KP G [67, 68, 69, 48, 49, 13] false f f_j24 → GM f_j24 G u → FK [48] f f_j24 u → py_W E (va_A (va_pl L f) s.heap.size) s L_j24 f_j24 H_j24 locs → lv_has ls 11 [(3, .int v_3), (0, .ref u), (1, .int a), (2, .int b)] → W p l e (headSpec w_X12_oneWinter ({ frames := 7, cells := 0, slots := 0, locals := 177 })).room s m ([.ref u, .int a, .int b] : List Value).toArray below meth c H_j24 locs 0 0 (MQ below (py_Qv E L f s.heap.size (fun L1 f1 => WF E G L1 f1 ∧ KP G [67, 68, 69, 48, 49, 13] false f f1 ∧ FK [48] f f1 u)) ([.ref u, .int a, .int b] : List Value).toArray s 0 0 (va_A (va_pl L f) s.heap.size)) (F0 m 24 ls []) := by
          intro n_24
          induction n_24 using Nat.strongRecOn with
          | _ n_24 ih_24 =>
            intro v_3 L_j24 f_j24 H_j24 locs ls hn_24 bv_3 hWF hKP hGM hFK hw hl
            refine lv_iload_n G0.1 G0.2.1 dX12_oneWinter_24 rfl (lv_at hl 0 rfl) ?_
            refine lv_aload_n G0.1 G0.2.1 dX12_oneWinter_25 rfl (lv_at hl 1 rfl) ?_
            obtain ⟨v_4, v_5, v_6, v_7, v_8, v_9, v_10, v_11, v_12, v_13, v_14, v_15, y_16, v_17, v_18, v_19, v_20, v_21, y_22, v_23, y_24, v_25, hr_38, b_26, b_27, b_28, b_29, b_30, b_31, b_32, b_33, b_34, b_35, b_36, b_37⟩ := wg_12 hWF Tu
            refine py_get (C := RX12) (T := TX12) (N := 54) (k := 24) (v := .int v_13) G0 hw in_X12_oneWinter_X12 rfl hr_38 (by decide) (by decide +kernel) rfl dX12_oneWinter_26 ?_
            refine lv_icmp_ge (tgt := 145) G0.1 G0.2.1 dX12_oneWinter_29 (by decide) (fun c_39 => ?_) (fun c_39 => ?_)
            · skip
              have tc_39 := ti_le c_39
              refine lv_iconst (v := 0) G0.1 G0.2.1 dX12_oneWinter_145 (by decide) ?_
              refine lv_istore_n (lv' := [(3, .int 0), (0, .ref u), (1, .int a), (2, .int b)]) G0.1 G0.2.1 dX12_oneWinter_146 rfl hl (by decide) rfl (fun ls hl => ?_)
              have lo_147 : ∀ n_147 : Nat, ∀ (v_40 : Int32) (L_j147 : List Nat) (f_j147 : py_F) (H_j147 : Heap) (locs : List Loc) (ls : Array Slot), (2147483647 - v_40.toInt).toNat = n_147 → (0 ≤ v_40.toInt ∧ v_40.toInt ≤ 2147483647) → WF E G L_j147 f_j147 → KP G [67, 68, 69, 48, 49, 13] false f f_j147 → GM f_j147 G u → FK [48] f f_j147 u → py_W E (va_A (va_pl L f) s.heap.size) s L_j147 f_j147 H_j147 locs → lv_has ls 11 [(3, .int v_40), (0, .ref u), (1, .int a), (2, .int b)] → W p l e (headSpec w_X12_oneWinter ({ frames := 7, cells := 0, slots := 0, locals := 177 })).room s m ([.ref u, .int a, .int b] : List Value).toArray below meth c H_j147 locs 0 0 (MQ below (py_Qv E L f s.heap.size (fun L1 f1 => WF E G L1 f1 ∧ KP G [67, 68, 69, 48, 49, 13] false f f1 ∧ FK [48] f f1 u)) ([.ref u, .int a, .int b] : List Value).toArray s 0 0 (va_A (va_pl L f) s.heap.size)) (F0 m 147 ls []) := by
                intro n_147
                induction n_147 using Nat.strongRecOn with
                | _ n_147 ih_147 =>
                  intro v_40 L_j147 f_j147 H_j147 locs ls hn_147 bv_40 hWF hKP hGM hFK hw hl
                  refine lv_iload_n G0.1 G0.2.1 dX12_oneWinter_147 rfl (lv_at hl 0 rfl) ?_
                  refine lv_sipush (v := 168) G0.1 G0.2.1 dX12_oneWinter_148 (by decide) ?_
                  refine lv_icmp_ge (tgt := 172) G0.1 G0.2.1 dX12_oneWinter_151 (by decide) (fun c_41 => ?_) (fun c_41 => ?_)
                  · skip
                    have tc_41 := ti_le c_41
                    exact py_vret G0 hr hlk hw ⟨hWF, hKP, hFK⟩ dX12_oneWinter_172
                  · skip
                    have tc_41 := ti_nle c_41
                    refine lv_aload_n G0.1 G0.2.1 dX12_oneWinter_154 rfl (lv_at hl 1 rfl) ?_
                    obtain ⟨v_42, v_43, v_44, v_45, v_46, v_47, v_48, v_49, v_50, v_51, v_52, v_53, y_54, v_55, v_56, v_57, v_58, v_59, y_60, v_61, y_62, v_63, hr_76, b_64, b_65, b_66, b_67, b_68, b_69, b_70, b_71, b_72, b_73, b_74, b_75⟩ := wg_12 hWF Tu
                    refine py_get (C := RX12) (T := TX12) (N := 54) (k := 45) (v := .ref (G.2 u 45)) G0 hw in_X12_oneWinter_X12 rfl hr_76 (by decide) (by decide +kernel) rfl dX12_oneWinter_155 ?_
                    refine lv_iload_n G0.1 G0.2.1 dX12_oneWinter_158 rfl (lv_at hl 0 rfl) ?_
                    refine lv_aload_n G0.1 G0.2.1 dX12_oneWinter_159 rfl (lv_at hl 1 rfl) ?_
                    refine py_get (C := RX12) (T := TX12) (N := 54) (k := 46) (v := .ref (G.2 u 46)) G0 hw in_X12_oneWinter_X12 rfl hr_76 (by decide) (by decide +kernel) rfl dX12_oneWinter_160 ?_
                    refine lv_iload_n G0.1 G0.2.1 dX12_oneWinter_163 rfl (lv_at hl 0 rfl) ?_
                    obtain ⟨g_77, ha_78⟩ := wf_j68 hWF (wt12_46 hG Tu)
                    have rg_79 : vp_in v_40 168 := ti_in (by omega) (by omega)
                    refine py_lald G0 hw ha_78 rg_79 dX12_oneWinter_164 ?_
                    refine lv_topl (fun y_80 ey_80 => ?_)
                    obtain ⟨g_81, ha_82⟩ := wf_j67 hWF (wt12_45 hG Tu)
                    have rg_83 : vp_in v_40 168 := ti_in (by omega) (by omega)
                    refine py_last G0 hw ha_82 rg_83 dX12_oneWinter_165 (fun f_84 H_85 locs h_86 x_87 hw => ?_)
                    have hGM := hGM.kps hG Tu (KP.refl.upd hWF x_87 (wt12_45 hG Tu) (Or.inl (by decide)) : KP G [67] false f_j147 f_84) (LK.of (by decide)) (by decide)
                    have hFK := hFK.same ((x_87 _ (hWF _ (by rw [Tu]; decide)).1 (wf_ne Tu (wt12_45 hG Tu) (by decide))).2)
                    have hKP := hKP.upd hWF x_87 (wt12_45 hG Tu) (Or.inl (by decide))
                    have hWF := wf_upd hWF h_86 x_87 (by rw [(wt12_45 hG Tu)]; exact ⟨_, rfl⟩)
                    have hr_76 := hr_76.ext x_87 (py_ne_arr hr_76 ha_82)
                    obtain ⟨x_88, ex_88⟩ : ∃ y : Int32, y = v_40 + 1 := ⟨_, rfl⟩
                    first | have tx_88 := ti_add ex_88 (by omega -splitDisjunctions) (by omega -splitDisjunctions) | skip
                    refine lv_iinc (v := x_88) (lv' := [(3, .int x_88), (0, .ref u), (1, .int a), (2, .int b)]) G0.1 G0.2.1 dX12_oneWinter_166 hl (k := 0) rfl (show _ + (1 : Int32) = _ from ex_88.symm) (by decide) rfl (fun ls hl => ?_)
                    refine lv_goto (tgt := 147) G0.1 G0.2.1 dX12_oneWinter_169 (by decide) ?_
                    exact ih_147 ((2147483647 - x_88.toInt).toNat) (by omega) x_88 L_j147 f_84 _ _ ls rfl ⟨by omega, by omega⟩ hWF hKP hGM hFK hw (lv_sub hl [0, 1, 2, 3] rfl)
              exact lo_147 _ 0 L_j24 f_j24 _ _ ls rfl ⟨by omega, by omega⟩ hWF hKP hGM hFK hw (lv_sub hl [0, 1, 2, 3] rfl)
            · skip
              have tc_39 := ti_nle c_39
              refine lv_iconst (v := 1) G0.1 G0.2.1 dX12_oneWinter_32 (by decide) ?_
              refine lv_istore (lv' := [(4, .int 1), (3, .int v_3), (0, .ref u), (1, .int a), (2, .int b)]) G0.1 G0.2.1 dX12_oneWinter_33 hl (by decide) rfl (fun ls hl => ?_)
              have lo_35 : ∀ n_35 : Nat, ∀ (v_89 : Int32) (L_j35 : List Nat) (f_j35 : py_F) (H_j35 : Heap) (locs : List Loc) (ls : Array Slot), (2147483647 - v_89.toInt).toNat = n_35 → (1 ≤ v_89.toInt ∧ v_89.toInt ≤ 2147483647) → WF E G L_j35 f_j35 → KP G [67, 68, 69, 48, 49, 13] false f f_j35 → GM f_j35 G u → FK [48] f f_j35 u → py_W E (va_A (va_pl L f) s.heap.size) s L_j35 f_j35 H_j35 locs → lv_has ls 11 [(4, .int v_89), (3, .int v_3), (0, .ref u), (1, .int a), (2, .int b)] → W p l e (headSpec w_X12_oneWinter ({ frames := 7, cells := 0, slots := 0, locals := 177 })).room s m ([.ref u, .int a, .int b] : List Value).toArray below meth c H_j35 locs 0 0 (MQ below (py_Qv E L f s.heap.size (fun L1 f1 => WF E G L1 f1 ∧ KP G [67, 68, 69, 48, 49, 13] false f f1 ∧ FK [48] f f1 u)) ([.ref u, .int a, .int b] : List Value).toArray s 0 0 (va_A (va_pl L f) s.heap.size)) (F0 m 35 ls []) := by
                intro n_35
                induction n_35 using Nat.strongRecOn with
                | _ n_35 ih_35 =>
                  intro v_89 L_j35 f_j35 H_j35 locs ls hn_35 bv_89 hWF hKP hGM hFK hw hl
                  refine lv_iload G0.1 G0.2.1 dX12_oneWinter_35 (lv_at hl 0 rfl) ?_
                  refine lv_bipush (v := 20) G0.1 G0.2.1 dX12_oneWinter_37 (by decide) ?_
                  refine lv_icmp_gt (tgt := 139) G0.1 G0.2.1 dX12_oneWinter_39 (by decide) (fun c_90 => ?_) (fun c_90 => ?_)
                  · skip
                    have tc_90 := ti_lt c_90
                    obtain ⟨x_91, ex_91⟩ : ∃ y : Int32, y = v_3 + 1 := ⟨_, rfl⟩
                    first | have tx_91 := ti_add ex_91 (by omega -splitDisjunctions) (by omega -splitDisjunctions) | skip
                    refine lv_iinc (v := x_91) (lv' := [(3, .int x_91), (4, .int v_89), (0, .ref u), (1, .int a), (2, .int b)]) G0.1 G0.2.1 dX12_oneWinter_139 hl (k := 1) rfl (show _ + (1 : Int32) = _ from ex_91.symm) (by decide) rfl (fun ls hl => ?_)
                    refine lv_goto (tgt := 24) G0.1 G0.2.1 dX12_oneWinter_142 (by decide) ?_
                    exact ih_24 ((2147483647 - x_91.toInt).toNat) (by omega) x_91 L_j35 f_j35 _ _ ls rfl ⟨by omega, by omega⟩ hWF hKP hGM hFK hw (lv_sub hl [0, 2, 3, 4] rfl)
                  · skip
                    have tc_90 := ti_nlt c_90
                    refine lv_aload_n G0.1 G0.2.1 dX12_oneWinter_42 rfl (lv_at hl 2 rfl) ?_
                    obtain ⟨v_92, v_93, v_94, v_95, v_96, v_97, v_98, v_99, v_100, v_101, v_102, v_103, y_104, v_105, v_106, v_107, v_108, v_109, y_110, v_111, y_112, v_113, hr_126, b_114, b_115, b_116, b_117, b_118, b_119, b_120, b_121, b_122, b_123, b_124, b_125⟩ := wg_12 hWF Tu
                    refine py_get (C := RX12) (T := TX12) (N := 54) (k := 45) (v := .ref (G.2 u 45)) G0 hw in_X12_oneWinter_X12 rfl hr_126 (by decide) (by decide +kernel) rfl dX12_oneWinter_43 ?_
                    refine lv_iload_n G0.1 G0.2.1 dX12_oneWinter_46 rfl (lv_at hl 1 rfl) ?_
                    refine lv_iload G0.1 G0.2.1 dX12_oneWinter_47 (lv_at hl 0 rfl) ?_
                    refine py_calli hw (va_runS (As := [.int v_3, .int v_89]) (rest := [.ref (G.2 u 45)]) G0 (c_X12_state l E G L_j35 f_j35 H_j35.size v_3 v_89 hG hWF ⟨by omega, by omega⟩ ⟨by omega, by omega⟩) (va_cwS 2 G0.2.2.2.2 g_X12_oneWinter_X12_state_425 rfl rfl rfl (by decide +kernel) ⟨(Nat.le_of_ble_eq_true rfl), (Nat.le_of_ble_eq_true rfl)⟩) (py_preS hw) rfl rfl hl.1 rfl (lv_room (Nat.le_of_ble_eq_true rfl)) dX12_oneWinter_49 ⟨(Nat.le_of_ble_eq_true rfl), (Nat.le_of_ble_eq_true rfl)⟩) (fun r_131 L_127 f_128 H_129 locs hp_130 hw => ?_)
                    obtain ⟨b_133, en_132, rfl, rfl⟩ := hp_130
                    obtain ⟨g_134, ha_135⟩ := wf_j67 hWF (wt12_45 hG Tu)
                    have rg_136 : vp_in r_131 168 := ti_in (by omega) (by omega)
                    refine py_lald G0 hw ha_135 rg_136 dX12_oneWinter_52 ?_
                    refine lv_topl (fun y_137 ey_137 => ?_)
                    refine lv_lstore (lv' := [(5, .long y_137), (4, .int v_89), (3, .int v_3), (0, .ref u), (1, .int a), (2, .int b)]) G0.1 G0.2.1 dX12_oneWinter_53 hl (by decide) rfl (fun ls hl => ?_)
                    refine lv_lload G0.1 G0.2.1 dX12_oneWinter_55 (lv_at hl 0 rfl) ?_
                    refine lv_lconst (v := 0) G0.1 G0.2.1 dX12_oneWinter_57 (by decide) ?_
                    refine W.lcmp G0.1 G0.2.1 dX12_oneWinter_58 ?_
                    refine lv_topi (fun x_138 ex_138 => ?_)
                    refine lv_if_le (tgt := 133) G0.1 G0.2.1 dX12_oneWinter_59 (by decide) (fun c_139 => ?_) (fun c_139 => ?_)
                    · skip
                      have tc_139 := ti_le c_139
                      obtain ⟨x_140, ex_140⟩ : ∃ y : Int32, y = v_89 + 1 := ⟨_, rfl⟩
                      first | have tx_140 := ti_add ex_140 (by omega -splitDisjunctions) (by omega -splitDisjunctions) | skip
                      refine lv_iinc (v := x_140) (lv' := [(4, .int x_140), (5, .long y_137), (3, .int v_3), (0, .ref u), (1, .int a), (2, .int b)]) G0.1 G0.2.1 dX12_oneWinter_133 hl (k := 1) rfl (show _ + (1 : Int32) = _ from ex_140.symm) (by decide) rfl (fun ls hl => ?_)
                      refine lv_goto (tgt := 35) G0.1 G0.2.1 dX12_oneWinter_136 (by decide) ?_
                      exact ih_35 ((2147483647 - x_140.toInt).toNat) (by omega) x_140 L_j35 f_j35 _ _ ls rfl ⟨by omega, by omega⟩ hWF hKP hGM hFK hw (lv_sub hl [0, 2, 3, 4, 5] rfl)
                    · skip
                      have tc_139 := ti_nle c_139
                      refine lv_lload G0.1 G0.2.1 dX12_oneWinter_62 (lv_at hl 0 rfl) ?_
                      refine lv_aload_n G0.1 G0.2.1 dX12_oneWinter_64 rfl (lv_at hl 3 rfl) ?_
                      refine py_get (C := RX12) (T := TX12) (N := 54) (k := 22) (v := .ref (G.2 u 22)) G0 hw in_X12_oneWinter_X12 rfl hr_126 (by decide) (by decide +kernel) rfl dX12_oneWinter_65 ?_
                      refine lv_iload_n G0.1 G0.2.1 dX12_oneWinter_68 rfl (lv_at hl 4 rfl) ?_
                      obtain ⟨g_141, ha_142, hi_143⟩ := wf_arr (n := 10) (lo := (-2147483648)) (hi := 2147483647) hWF (wt12_22 hG Tu) (by decide) (fun _ => rfl)
                      have rg_144 : vp_in a 10 := ti_in (by omega) (by omega)
                      refine py_iald G0 hw ha_142 rg_144 dX12_oneWinter_69 ?_
                      refine lv_topi (fun x_145 ex_145 => ?_)
                      have bx_145 := wf_free x_145
                      refine lv_i2l (v := x_145.toInt64) G0.1 G0.2.1 dX12_oneWinter_70 rfl ?_
                      refine lv_lmul G0.1 G0.2.1 dX12_oneWinter_71 ?_
                      refine lv_topl (fun y_146 ey_146 => ?_)
                      refine lv_ldc2 (v := 100) G0.1 G0.2.1 G0.2.2.2.1 (G0.2.2.2.2 (Cond.constantLong RX12 420 (100)) (by decide +kernel)) dX12_oneWinter_72 ?_
                      refine lv_ldiv G0.1 G0.2.1 dX12_oneWinter_75 (by decide) ?_
                      refine lv_topl (fun y_147 ey_147 => ?_)
                      refine lv_lstore (lv' := [(7, .long y_147), (5, .long y_137), (4, .int v_89), (3, .int v_3), (0, .ref u), (1, .int a), (2, .int b)]) G0.1 G0.2.1 dX12_oneWinter_76 hl (by decide) rfl (fun ls hl => ?_)
                      refine lv_lload G0.1 G0.2.1 dX12_oneWinter_78 (lv_at hl 0 rfl) ?_
                      refine lv_aload_n G0.1 G0.2.1 dX12_oneWinter_80 rfl (lv_at hl 4 rfl) ?_
                      refine py_get (C := RX12) (T := TX12) (N := 54) (k := 23) (v := .ref (G.2 u 23)) G0 hw in_X12_oneWinter_X12 rfl hr_126 (by decide) (by decide +kernel) rfl dX12_oneWinter_81 ?_
                      refine lv_iload_n G0.1 G0.2.1 dX12_oneWinter_84 rfl (lv_at hl 5 rfl) ?_
                      obtain ⟨g_148, ha_149, hi_150⟩ := wf_arr (n := 10) (lo := (-2147483648)) (hi := 2147483647) hWF (wt12_23 hG Tu) (by decide) (fun _ => rfl)
                      have rg_151 : vp_in a 10 := ti_in (by omega) (by omega)
                      refine py_iald G0 hw ha_149 rg_151 dX12_oneWinter_85 ?_
                      refine lv_topi (fun x_152 ex_152 => ?_)
                      have bx_152 := wf_free x_152
                      refine lv_i2l (v := x_152.toInt64) G0.1 G0.2.1 dX12_oneWinter_86 rfl ?_
                      refine lv_lmul G0.1 G0.2.1 dX12_oneWinter_87 ?_
                      refine lv_topl (fun y_153 ey_153 => ?_)
                      refine lv_ldc2 (v := 100) G0.1 G0.2.1 G0.2.2.2.1 (G0.2.2.2.2 (Cond.constantLong RX12 420 (100)) (by decide +kernel)) dX12_oneWinter_88 ?_
                      refine lv_ldiv G0.1 G0.2.1 dX12_oneWinter_91 (by decide) ?_
                      refine lv_topl (fun y_154 ey_154 => ?_)
                      refine lv_lstore (lv' := [(9, .long y_154), (7, .long y_147), (5, .long y_137), (4, .int v_89), (3, .int v_3), (0, .ref u), (1, .int a), (2, .int b)]) G0.1 G0.2.1 dX12_oneWinter_92 hl (by decide) rfl (fun ls hl => ?_)
                      refine lv_aload_n G0.1 G0.2.1 dX12_oneWinter_94 rfl (lv_at hl 5 rfl) ?_
                      refine lv_iload_n G0.1 G0.2.1 dX12_oneWinter_95 rfl (lv_at hl 4 rfl) ?_
                      refine lv_iload G0.1 G0.2.1 dX12_oneWinter_96 (lv_at hl 3 rfl) ?_
                      refine lv_iconst (v := 0) G0.1 G0.2.1 dX12_oneWinter_98 (by decide) ?_
                      refine lv_lload G0.1 G0.2.1 dX12_oneWinter_99 (lv_at hl 2 rfl) ?_
                      refine lv_lload G0.1 G0.2.1 dX12_oneWinter_101 (lv_at hl 1 rfl) ?_
                      refine lv_lsub G0.1 G0.2.1 dX12_oneWinter_103 ?_
                      refine lv_topl (fun y_155 ey_155 => ?_)
                      refine lv_iload_n G0.1 G0.2.1 dX12_oneWinter_104 rfl (lv_at hl 7 rfl) ?_
                      refine py_callv hw (va_runV (As := [.int v_3, .int v_89, .int 0, .long y_155, .int b]) (rest := []) G0 (c_X12_goOn l E G L_j35 f_j35 H_129.size u v_3 v_89 0 y_155 b hG hWF Tu ⟨by omega, by omega⟩ ⟨by omega, by omega⟩ ⟨by omega, by omega⟩ hGM) (cwV 5 G0.2.2.2.2 g_X12_oneWinter_X12_goOn_428 rfl rfl rfl (by decide +kernel) ⟨(Nat.le_of_ble_eq_true rfl), (Nat.le_of_ble_eq_true rfl)⟩) (py_preV hw (C := RX12) (T := TX12) (N := 54) rfl hr_126) rfl rfl hl.1 rfl (lv_room (Nat.le_of_ble_eq_true rfl)) dX12_oneWinter_105 ⟨(Nat.le_of_ble_eq_true rfl), (Nat.le_of_ble_eq_true rfl)⟩) (fun L_156 f_157 H_158 locs hp_159 hw => ?_)
                      obtain ⟨hWF, kp_161, fk_162⟩ := hp_159
                      have hGM := hGM.kp hG Tu kp_161 fk_162 (LK.of (by decide)) (by decide)
                      have hFK := hFK.trans fk_162 (by decide)
                      have hKP := hKP.trans kp_161 (by decide) (by decide)
                      obtain ⟨v_163, hr_164⟩ := fk_48 hWF Tu fk_162 hr_126
                      have ha_142 := kp_at kp_161 hWF (wt12_22 hG Tu) (by decide) (by decide) (by decide) ha_142
                      have ha_149 := kp_at kp_161 hWF (wt12_23 hG Tu) (by decide) (by decide) (by decide) ha_149
                      refine lv_aload_n G0.1 G0.2.1 dX12_oneWinter_108 rfl (lv_at hl 5 rfl) ?_
                      refine lv_iload_n G0.1 G0.2.1 dX12_oneWinter_109 rfl (lv_at hl 4 rfl) ?_
                      refine lv_iload G0.1 G0.2.1 dX12_oneWinter_110 (lv_at hl 3 rfl) ?_
                      refine lv_iconst (v := 1) G0.1 G0.2.1 dX12_oneWinter_112 (by decide) ?_
                      refine lv_lload G0.1 G0.2.1 dX12_oneWinter_113 (lv_at hl 1 rfl) ?_
                      refine lv_lload G0.1 G0.2.1 dX12_oneWinter_115 (lv_at hl 0 rfl) ?_
                      refine lv_lsub G0.1 G0.2.1 dX12_oneWinter_117 ?_
                      refine lv_topl (fun y_165 ey_165 => ?_)
                      refine lv_iload_n G0.1 G0.2.1 dX12_oneWinter_118 rfl (lv_at hl 7 rfl) ?_
                      refine py_callv hw (va_runV (As := [.int v_3, .int v_89, .int 1, .long y_165, .int b]) (rest := []) G0 (c_X12_goOn l E G L_156 f_157 H_158.size u v_3 v_89 1 y_165 b hG hWF Tu ⟨by omega, by omega⟩ ⟨by omega, by omega⟩ ⟨by omega, by omega⟩ hGM) (cwV 5 G0.2.2.2.2 g_X12_oneWinter_X12_goOn_428 rfl rfl rfl (by decide +kernel) ⟨(Nat.le_of_ble_eq_true rfl), (Nat.le_of_ble_eq_true rfl)⟩) (py_preV hw (C := RX12) (T := TX12) (N := 54) rfl hr_164) rfl rfl hl.1 rfl (lv_room (Nat.le_of_ble_eq_true rfl)) dX12_oneWinter_119 ⟨(Nat.le_of_ble_eq_true rfl), (Nat.le_of_ble_eq_true rfl)⟩) (fun L_166 f_167 H_168 locs hp_169 hw => ?_)
                      obtain ⟨hWF, kp_171, fk_172⟩ := hp_169
                      have hGM := hGM.kp hG Tu kp_171 fk_172 (LK.of (by decide)) (by decide)
                      have hFK := hFK.trans fk_172 (by decide)
                      have hKP := hKP.trans kp_171 (by decide) (by decide)
                      obtain ⟨v_173, hr_174⟩ := fk_48 hWF Tu fk_172 hr_164
                      have ha_142 := kp_at kp_171 hWF (wt12_22 hG Tu) (by decide) (by decide) (by decide) ha_142
                      have ha_149 := kp_at kp_171 hWF (wt12_23 hG Tu) (by decide) (by decide) (by decide) ha_149
                      refine lv_aload_n G0.1 G0.2.1 dX12_oneWinter_122 rfl (lv_at hl 5 rfl) ?_
                      refine lv_iload_n G0.1 G0.2.1 dX12_oneWinter_123 rfl (lv_at hl 4 rfl) ?_
                      refine lv_iload G0.1 G0.2.1 dX12_oneWinter_124 (lv_at hl 3 rfl) ?_
                      refine lv_iconst (v := 2) G0.1 G0.2.1 dX12_oneWinter_126 (by decide) ?_
                      refine lv_lload G0.1 G0.2.1 dX12_oneWinter_127 (lv_at hl 0 rfl) ?_
                      refine lv_iload_n G0.1 G0.2.1 dX12_oneWinter_129 rfl (lv_at hl 7 rfl) ?_
                      refine py_callv hw (va_runV (As := [.int v_3, .int v_89, .int 2, .long y_154, .int b]) (rest := []) G0 (c_X12_goOn l E G L_166 f_167 H_168.size u v_3 v_89 2 y_154 b hG hWF Tu ⟨by omega, by omega⟩ ⟨by omega, by omega⟩ ⟨by omega, by omega⟩ hGM) (cwV 5 G0.2.2.2.2 g_X12_oneWinter_X12_goOn_428 rfl rfl rfl (by decide +kernel) ⟨(Nat.le_of_ble_eq_true rfl), (Nat.le_of_ble_eq_true rfl)⟩) (py_preV hw (C := RX12) (T := TX12) (N := 54) rfl hr_174) rfl rfl hl.1 rfl (lv_room (Nat.le_of_ble_eq_true rfl)) dX12_oneWinter_130 ⟨(Nat.le_of_ble_eq_true rfl), (Nat.le_of_ble_eq_true rfl)⟩) (fun L_175 f_176 H_177 locs hp_178 hw => ?_)
                      obtain ⟨hWF, kp_180, fk_181⟩ := hp_178
                      have hGM := hGM.kp hG Tu kp_180 fk_181 (LK.of (by decide)) (by decide)
                      have hFK := hFK.trans fk_181 (by decide)
                      have hKP := hKP.trans kp_180 (by decide) (by decide)
                      obtain ⟨v_182, hr_183⟩ := fk_48 hWF Tu fk_181 hr_174
                      have ha_142 := kp_at kp_180 hWF (wt12_22 hG Tu) (by decide) (by decide) (by decide) ha_142
                      have ha_149 := kp_at kp_180 hWF (wt12_23 hG Tu) (by decide) (by decide) (by decide) ha_149
                      obtain ⟨x_184, ex_184⟩ : ∃ y : Int32, y = v_89 + 1 := ⟨_, rfl⟩
                      first | have tx_184 := ti_add ex_184 (by omega -splitDisjunctions) (by omega -splitDisjunctions) | skip
                      refine lv_iinc (v := x_184) (lv' := [(4, .int x_184), (9, .long y_154), (7, .long y_147), (5, .long y_137), (3, .int v_3), (0, .ref u), (1, .int a), (2, .int b)]) G0.1 G0.2.1 dX12_oneWinter_133 hl (k := 3) rfl (show _ + (1 : Int32) = _ from ex_184.symm) (by decide) rfl (fun ls hl => ?_)
                      refine lv_goto (tgt := 35) G0.1 G0.2.1 dX12_oneWinter_136 (by decide) ?_
                      exact ih_35 ((2147483647 - x_184.toInt).toNat) (by omega) x_184 L_175 f_176 _ _ ls rfl ⟨by omega, by omega⟩ hWF hKP hGM hFK hw (lv_sub hl [0, 4, 5, 6, 7] rfl)
              exact lo_35 _ 1 L_j24 f_j24 _ _ ls rfl ⟨by omega, by omega⟩ hWF hKP hGM hFK hw (lv_sub hl [0, 1, 2, 3, 4] rfl)
        exact lo_24 _ 0 L_j2 f_j2 _ _ ls rfl ⟨by omega, by omega⟩ hWF hKP hGM hFK hw (lv_sub hl [0, 1, 2, 3] rfl)
      · skip
        have tc_2 := ti_nle c_2
        refine lv_aload_n G0.1 G0.2.1 dX12_oneWinter_9 rfl (lv_at hl 1 rfl) ?_
        obtain ⟨v_185, v_186, v_187, v_188, v_189, v_190, v_191, v_192, v_193, v_194, v_195, v_196, y_197, v_198, v_199, v_200, v_201, v_202, y_203, v_204, y_205, v_206, hr_219, b_207, b_208, b_209, b_210, b_211, b_212, b_213, b_214, b_215, b_216, b_217, b_218⟩ := wg_12 hWF Tu
        refine py_get (C := RX12) (T := TX12) (N := 54) (k := 46) (v := .ref (G.2 u 46)) G0 hw in_X12_oneWinter_X12 rfl hr_219 (by decide) (by decide +kernel) rfl dX12_oneWinter_10 ?_
        refine lv_iload_n G0.1 G0.2.1 dX12_oneWinter_13 rfl (lv_at hl 0 rfl) ?_
        refine lv_lconst (v := 0) G0.1 G0.2.1 dX12_oneWinter_14 (by decide) ?_
        obtain ⟨g_220, ha_221⟩ := wf_j68 hWF (wt12_46 hG Tu)
        have rg_222 : vp_in v_1 168 := ti_in (by omega) (by omega)
        refine py_last G0 hw ha_221 rg_222 dX12_oneWinter_15 (fun f_223 H_224 locs h_225 x_226 hw => ?_)
        have hGM := hGM.kps hG Tu (KP.refl.upd hWF x_226 (wt12_46 hG Tu) (Or.inl (by decide)) : KP G [68] false f_j2 f_223) (LK.of (by decide)) (by decide)
        have hFK := hFK.same ((x_226 _ (hWF _ (by rw [Tu]; decide)).1 (wf_ne Tu (wt12_46 hG Tu) (by decide))).2)
        have hKP := hKP.upd hWF x_226 (wt12_46 hG Tu) (Or.inl (by decide))
        have hWF := wf_upd hWF h_225 x_226 (by rw [(wt12_46 hG Tu)]; exact ⟨_, rfl⟩)
        have hr_219 := hr_219.ext x_226 (py_ne_arr hr_219 ha_221)
        obtain ⟨x_227, ex_227⟩ : ∃ y : Int32, y = v_1 + 1 := ⟨_, rfl⟩
        first | have tx_227 := ti_add ex_227 (by omega -splitDisjunctions) (by omega -splitDisjunctions) | skip
        refine lv_iinc (v := x_227) (lv' := [(3, .int x_227), (0, .ref u), (1, .int a), (2, .int b)]) G0.1 G0.2.1 dX12_oneWinter_16 hl (k := 0) rfl (show _ + (1 : Int32) = _ from ex_227.symm) (by decide) rfl (fun ls hl => ?_)
        refine lv_goto (tgt := 2) G0.1 G0.2.1 dX12_oneWinter_19 (by decide) ?_
        exact ih_2 ((2147483647 - x_227.toInt).toNat) (by omega) x_227 L_j2 f_223 _ _ ls rfl ⟨by omega, by omega⟩ hWF hKP hGM hFK hw (lv_sub hl [0, 1, 2, 3] rfl)
  exact lo_2 _ 0 L f _ _ ls rfl ⟨by omega, by omega⟩ hWF hKP hGM hFK hw (lv_sub hl [0, 1, 2, 3] rfl)

def w_X12_odds : List Cond := .code yX12_odds cX12_odds 7 (some .int) :: ([Cond.methodLink RX12 347 yX12_isFamily, Cond.instanceMethod yX12_isFamily, Cond.selects RX12 yX12_isFamily yX12_isFamily, Cond.initialized RX12, Cond.constant RX12 350 (-1000000), Cond.methodLink RX12 341 yX12_isGone, Cond.instanceMethod yX12_isGone, Cond.selects RX12 yX12_isGone yX12_isGone, Cond.methodLink RX12 232 yX12_in, Cond.static yX12_in, Cond.fieldLink RX12 101 "HeadYearModel" "parts" "[J", Cond.methodLink RX12 287 yX12_of, Cond.instanceMethod yX12_of, Cond.selects RX12 yX12_of yX12_of, Cond.methodLink RX12 425 yX12_state, Cond.static yX12_state, Cond.constantLong RX12 432 (1000000000), Cond.fieldLink RX12 422 "HeadYearModel" "goneParts" "J", Cond.fieldLink RX12 309 "HeadYearModel" "years" "I", Cond.methodLink RX12 434 yX12_oneWinter, Cond.instanceMethod yX12_oneWinter, Cond.selects RX12 yX12_oneWinter yX12_oneWinter, Cond.methodLink RX12 330 yX12_isLevel, Cond.instanceMethod yX12_isLevel, Cond.selects RX12 yX12_isLevel yX12_isLevel] ++ (u_ws RX12 TX12 54 ++ (w_X12_isFamily ++ (w_X12_isGone ++ (w_X12_in ++ (w_X12_of ++ (w_X12_state ++ (w_X12_oneWinter ++ (w_X12_isLevel ++ ([]))))))))))
theorem in_X12_odds_X12 : ∀ w ∈ u_ws RX12 TX12 54, w ∈ w_X12_odds := fun _ h => List.mem_cons_of_mem _ (List.mem_append_right _ (List.mem_append_left _ h))
theorem gg_X12_odds_X12_isFamily : GoodIn w_X12_odds w_X12_isFamily := goodIn_sub (fun _ h => List.mem_cons_of_mem _ (List.mem_append_right _ (List.mem_append_right _ (List.mem_append_left _ h)))) (by decide +kernel)
theorem gg_X12_odds_X12_isGone : GoodIn w_X12_odds w_X12_isGone := goodIn_sub (fun _ h => List.mem_cons_of_mem _ (List.mem_append_right _ (List.mem_append_right _ (List.mem_append_right _ (List.mem_append_left _ h))))) (by decide +kernel)
theorem gg_X12_odds_X12_in : GoodIn w_X12_odds w_X12_in := goodIn_sub (fun _ h => List.mem_cons_of_mem _ (List.mem_append_right _ (List.mem_append_right _ (List.mem_append_right _ (List.mem_append_right _ (List.mem_append_left _ h)))))) (by decide +kernel)
theorem gg_X12_odds_X12_of : GoodIn w_X12_odds w_X12_of := goodIn_sub (fun _ h => List.mem_cons_of_mem _ (List.mem_append_right _ (List.mem_append_right _ (List.mem_append_right _ (List.mem_append_right _ (List.mem_append_right _ (List.mem_append_left _ h))))))) (by decide +kernel)
theorem gg_X12_odds_X12_state : GoodIn w_X12_odds w_X12_state := goodIn_sub (fun _ h => List.mem_cons_of_mem _ (List.mem_append_right _ (List.mem_append_right _ (List.mem_append_right _ (List.mem_append_right _ (List.mem_append_right _ (List.mem_append_right _ (List.mem_append_left _ h)))))))) (by decide +kernel)
theorem gg_X12_odds_X12_oneWinter : GoodIn w_X12_odds w_X12_oneWinter := goodIn_sub (fun _ h => List.mem_cons_of_mem _ (List.mem_append_right _ (List.mem_append_right _ (List.mem_append_right _ (List.mem_append_right _ (List.mem_append_right _ (List.mem_append_right _ (List.mem_append_right _ (List.mem_append_left _ h))))))))) (by decide +kernel)
theorem gg_X12_odds_X12_isLevel : GoodIn w_X12_odds w_X12_isLevel := goodIn_sub (fun _ h => List.mem_cons_of_mem _ (List.mem_append_right _ (List.mem_append_right _ (List.mem_append_right _ (List.mem_append_right _ (List.mem_append_right _ (List.mem_append_right _ (List.mem_append_right _ (List.mem_append_right _ (List.mem_append_left _ h)))))))))) (by decide +kernel)
theorem g_X12_odds_X12_in_232 : GoodIn w_X12_odds (va_wsS RX12 232 yX12_in w_X12_in) := goodIn_app (goodIn_of _ (by decide +kernel)) gg_X12_odds_X12_in
theorem g_X12_odds_X12_isFamily_347 : GoodIn w_X12_odds (wsV RX12 347 RX12 yX12_isFamily w_X12_isFamily) := goodIn_app (goodIn_of _ (by decide +kernel)) gg_X12_odds_X12_isFamily
theorem g_X12_odds_X12_isGone_341 : GoodIn w_X12_odds (wsV RX12 341 RX12 yX12_isGone w_X12_isGone) := goodIn_app (goodIn_of _ (by decide +kernel)) gg_X12_odds_X12_isGone
theorem g_X12_odds_X12_isLevel_330 : GoodIn w_X12_odds (wsV RX12 330 RX12 yX12_isLevel w_X12_isLevel) := goodIn_app (goodIn_of _ (by decide +kernel)) gg_X12_odds_X12_isLevel
theorem g_X12_odds_X12_of_287 : GoodIn w_X12_odds (wsV RX12 287 RX12 yX12_of w_X12_of) := goodIn_app (goodIn_of _ (by decide +kernel)) gg_X12_odds_X12_of
theorem g_X12_odds_X12_oneWinter_434 : GoodIn w_X12_odds (wsV RX12 434 RX12 yX12_oneWinter w_X12_oneWinter) := goodIn_app (goodIn_of _ (by decide +kernel)) gg_X12_odds_X12_oneWinter
theorem g_X12_odds_X12_state_425 : GoodIn w_X12_odds (va_wsS RX12 425 yX12_state w_X12_state) := goodIn_app (goodIn_of _ (by decide +kernel)) gg_X12_odds_X12_state
set_option maxHeartbeats 4000000 in
set_option maxRecDepth 100000 in
theorem c_X12_odds (l : Launch) (E : py_E) (G : wf_G) (L : List Nat) (f : py_F) (sz : Nat) (u : Nat) (a : Int32) (b : Int32) (q : Int32) (hG : GT G) (hWF : WF E G L f) (Tu : G.1 u = 13) (hq0 : GM f G u) : Met l yX12_odds w_X12_odds ({ frames := 8, cells := 0, slots := 0, locals := 207 }) (py_Pc E [.ref u, .int a, .int b, .int q] L f sz) (py_Qi E L f sz (fun _ L1 f1 => WF E G L1 f1 ∧ KP G [67, 68, 69, 48, 49, 13] false f f1 ∧ FK [48] f f1 u)) 0 0 (va_A (va_pl L f) sz) := by
  refine Met.ofW (cc := cX12_odds) (maxL := 7) (ret := (some .int)) (by decide) rfl ?_
  intro p e s m args below meth c s₁ B hml hv
  obtain ⟨rfl, rfl, hw⟩ := py_start hv
  have G0 : CallFix p m c cX12_odds 7 s _ w_X12_odds RX12 := ⟨B.exec, B.bytes, hml, findClass_of_methodNamed B.named, atoms_spec (ws := w_X12_odds) B.pre⟩
  have hr := B.returns
  have hlk := B.notSynchronized
  have kcm1000000 : (-1000000 : Int32).toInt = -1000000 := rfl
  have kcm1 : (-1 : Int32).toInt = -1 := rfl
  have kc0 : (0 : Int32).toInt = 0 := rfl
  have kc1 : (1 : Int32).toInt = 1 := rfl
  have kc9 : (9 : Int32).toInt = 9 := rfl
  have kc20 : (20 : Int32).toInt = 20 := rfl
  have kc168 : (168 : Int32).toInt = 168 := rfl
  have hl := lv_entry ([.ref u, .int a, .int b, .int q]) (n := 7) (Nat.le_of_ble_eq_true rfl)
  rw [lg_entry_eq]
  generalize (lg_sl ([.ref u, .int a, .int b, .int q]) ++ List.replicate (7 - (lg_sl ([.ref u, .int a, .int b, .int q])).length) Slot.unset).toArray = ls at hl ⊢
  have hl : lv_has ls 7 [(0, .ref u), (1, .int a), (2, .int b), (3, .int q)] := hl
  have hFK : FK [48] f f u := FK.refl
  have hKP : KP G [67, 68, 69, 48, 49, 13] false f f := KP.refl
  have hGM := hq0
  refine lv_aload_n G0.1 G0.2.1 dX12_odds_0 rfl (lv_at hl 0 rfl) ?_
  refine lv_iload_n G0.1 G0.2.1 dX12_odds_1 rfl (lv_at hl 1 rfl) ?_
  obtain ⟨v_1, v_2, v_3, v_4, v_5, v_6, v_7, v_8, v_9, v_10, v_11, v_12, y_13, v_14, v_15, v_16, v_17, v_18, y_19, v_20, y_21, v_22, hr_35, b_23, b_24, b_25, b_26, b_27, b_28, b_29, b_30, b_31, b_32, b_33, b_34⟩ := wg_12 hWF Tu
  refine py_calli hw (va_runV (As := [.int a]) (rest := []) G0 (c_X12_isFamily l E G L f s.heap.size u a hG hWF Tu) (cwV 1 G0.2.2.2.2 g_X12_odds_X12_isFamily_347 rfl rfl rfl (by decide +kernel) ⟨(Nat.le_of_ble_eq_true rfl), (Nat.le_of_ble_eq_true rfl)⟩) (py_preV hw (C := RX12) (T := TX12) (N := 54) rfl hr_35) rfl rfl hl.1 rfl (lv_room (Nat.le_of_ble_eq_true rfl)) dX12_odds_2 ⟨(Nat.le_of_ble_eq_true rfl), (Nat.le_of_ble_eq_true rfl)⟩) (fun r_40 L_36 f_37 H_38 locs hp_39 hw => ?_)
  obtain ⟨b_42, en_41, rfl, rfl⟩ := hp_39
  refine lv_if_eq (tgt := 39) G0.1 G0.2.1 dX12_odds_5 (by decide) (fun c_43 => ?_) (fun c_43 => ?_)
  · skip
    have tc_43 := ti_eq c_43
    clear en_41
    refine lv_ldcw (v := (-1000000)) G0.1 G0.2.1 G0.2.2.2.1 (G0.2.2.2.2 (Cond.constant RX12 350 (-1000000)) (by decide +kernel)) dX12_odds_39 ?_
    exact py_iret G0 hr rfl hlk hw ⟨hWF, hKP, hFK⟩ dX12_odds_42
  · skip
    have tc_43 := ti_ne c_43
    replace en_41 := en_41 (by omega)
    refine lv_aload_n G0.1 G0.2.1 dX12_odds_8 rfl (lv_at hl 0 rfl) ?_
    refine lv_iload_n G0.1 G0.2.1 dX12_odds_9 rfl (lv_at hl 1 rfl) ?_
    refine py_calli hw (va_runV (As := [.int a]) (rest := []) G0 (c_X12_isGone l E G L f H_38.size u a hG hWF Tu ⟨by omega, by omega⟩) (cwV 1 G0.2.2.2.2 g_X12_odds_X12_isGone_341 rfl rfl rfl (by decide +kernel) ⟨(Nat.le_of_ble_eq_true rfl), (Nat.le_of_ble_eq_true rfl)⟩) (py_preV hw (C := RX12) (T := TX12) (N := 54) rfl hr_35) rfl rfl hl.1 rfl (lv_room (Nat.le_of_ble_eq_true rfl)) dX12_odds_10 ⟨(Nat.le_of_ble_eq_true rfl), (Nat.le_of_ble_eq_true rfl)⟩) (fun r_48 L_44 f_45 H_46 locs hp_47 hw => ?_)
    obtain ⟨b_51, en_49, en_50, rfl, rfl⟩ := hp_47
    refine lv_if_ne (tgt := 39) G0.1 G0.2.1 dX12_odds_13 (by decide) (fun c_52 => ?_) (fun c_52 => ?_)
    · skip
      have tc_52 := ti_ne c_52
      replace en_49 := en_49 (by omega)
      clear en_50
      refine lv_ldcw (v := (-1000000)) G0.1 G0.2.1 G0.2.2.2.1 (G0.2.2.2.2 (Cond.constant RX12 350 (-1000000)) (by decide +kernel)) dX12_odds_39 ?_
      exact py_iret G0 hr rfl hlk hw ⟨hWF, hKP, hFK⟩ dX12_odds_42
    · skip
      have tc_52 := ti_eq c_52
      clear en_49
      replace en_50 := en_50 (by omega)
      refine lv_iload_n G0.1 G0.2.1 dX12_odds_16 rfl (lv_at hl 2 rfl) ?_
      refine lv_iconst (v := 1) G0.1 G0.2.1 dX12_odds_17 (by decide) ?_
      refine lv_bipush (v := 9) G0.1 G0.2.1 dX12_odds_18 (by decide) ?_
      refine py_calli hw (va_runS (As := [.int b, .int 1, .int 9]) (rest := []) G0 (c_X12_in l E G L f H_46.size b 1 9 hG hWF) (va_cwS 3 G0.2.2.2.2 g_X12_odds_X12_in_232 rfl rfl rfl (by decide +kernel) ⟨(Nat.le_of_ble_eq_true rfl), (Nat.le_of_ble_eq_true rfl)⟩) (py_preS hw) rfl rfl hl.1 rfl (lv_room (Nat.le_of_ble_eq_true rfl)) dX12_odds_20 ⟨(Nat.le_of_ble_eq_true rfl), (Nat.le_of_ble_eq_true rfl)⟩) (fun r_57 L_53 f_54 H_55 locs hp_56 hw => ?_)
      obtain ⟨b_60, en_58, en_59, rfl, rfl⟩ := hp_56
      have en_58 : r_57.toInt ≠ 0 → (1 : Int) ≤ b.toInt ∧ b.toInt ≤ (9 : Int) := en_58
      have en_59 : r_57.toInt = 0 → b.toInt < (1 : Int) ∨ (9 : Int) < b.toInt := en_59
      refine lv_if_eq (tgt := 39) G0.1 G0.2.1 dX12_odds_23 (by decide) (fun c_61 => ?_) (fun c_61 => ?_)
      · skip
        have tc_61 := ti_eq c_61
        clear en_58
        replace en_59 := en_59 (by omega)
        refine lv_ldcw (v := (-1000000)) G0.1 G0.2.1 G0.2.2.2.1 (G0.2.2.2.2 (Cond.constant RX12 350 (-1000000)) (by decide +kernel)) dX12_odds_39 ?_
        exact py_iret G0 hr rfl hlk hw ⟨hWF, hKP, hFK⟩ dX12_odds_42
      · skip
        have tc_61 := ti_ne c_61
        replace en_58 := en_58 (by omega)
        clear en_59
        refine lv_iload_n G0.1 G0.2.1 dX12_odds_26 rfl (lv_at hl 3 rfl) ?_
        refine lv_iconst (v := (-1)) G0.1 G0.2.1 dX12_odds_27 (by decide) ?_
        refine lv_icmp_eq (tgt := 43) G0.1 G0.2.1 dX12_odds_28 (by decide) (fun c_62 => ?_) (fun c_62 => ?_)
        · skip
          have tc_62 := ti_eq c_62
          refine lv_iconst (v := 0) G0.1 G0.2.1 dX12_odds_43 (by decide) ?_
          refine lv_istore (lv' := [(4, .int 0), (0, .ref u), (1, .int a), (2, .int b), (3, .int q)]) G0.1 G0.2.1 dX12_odds_44 hl (by decide) rfl (fun ls hl => ?_)
          have lo_46 : ∀ n_46 : Nat, ∀ (v_63 : Int32) (L_j46 : List Nat) (f_j46 : py_F) (H_j46 : Heap) (locs : List Loc) (ls : Array Slot), (2147483647 - v_63.toInt).toNat = n_46 → (0 ≤ v_63.toInt ∧ v_63.toInt ≤ 2147483647) → WF E G L_j46 f_j46 → KP G [67, 68, 69, 48, 49, 13] false f f_j46 → GM f_j46 G u → FK [48] f f_j46 u → py_W E (va_A (va_pl L f) s.heap.size) s L_j46 f_j46 H_j46 locs → lv_has ls 7 [(4, .int v_63), (0, .ref u), (1, .int a), (2, .int b), (3, .int q)] → W p l e (headSpec w_X12_odds ({ frames := 8, cells := 0, slots := 0, locals := 207 })).room s m ([.ref u, .int a, .int b, .int q] : List Value).toArray below meth c H_j46 locs 0 0 (MQ below (py_Qi E L f s.heap.size (fun _ L1 f1 => WF E G L1 f1 ∧ KP G [67, 68, 69, 48, 49, 13] false f f1 ∧ FK [48] f f1 u)) ([.ref u, .int a, .int b, .int q] : List Value).toArray s 0 0 (va_A (va_pl L f) s.heap.size)) (F0 m 46 ls []) := by
            intro n_46
            induction n_46 using Nat.strongRecOn with
            | _ n_46 ih_46 =>
              intro v_63 L_j46 f_j46 H_j46 locs ls hn_46 bv_63 hWF hKP hGM hFK hw hl
              refine lv_iload G0.1 G0.2.1 dX12_odds_46 (lv_at hl 0 rfl) ?_
              refine lv_sipush (v := 168) G0.1 G0.2.1 dX12_odds_48 (by decide) ?_
              refine lv_icmp_ge (tgt := 68) G0.1 G0.2.1 dX12_odds_51 (by decide) (fun c_64 => ?_) (fun c_64 => ?_)
              · skip
                have tc_64 := ti_le c_64
                refine lv_aload_n G0.1 G0.2.1 dX12_odds_68 rfl (lv_at hl 1 rfl) ?_
                obtain ⟨v_65, v_66, v_67, v_68, v_69, v_70, v_71, v_72, v_73, v_74, v_75, v_76, y_77, v_78, v_79, v_80, v_81, v_82, y_83, v_84, y_85, v_86, hr_99, b_87, b_88, b_89, b_90, b_91, b_92, b_93, b_94, b_95, b_96, b_97, b_98⟩ := wg_12 hWF Tu
                refine py_get (C := RX12) (T := TX12) (N := 54) (k := 45) (v := .ref (G.2 u 45)) G0 hw in_X12_odds_X12 rfl hr_99 (by decide) (by decide +kernel) rfl dX12_odds_69 ?_
                refine lv_aload_n G0.1 G0.2.1 dX12_odds_72 rfl (lv_at hl 1 rfl) ?_
                refine lv_iload_n G0.1 G0.2.1 dX12_odds_73 rfl (lv_at hl 2 rfl) ?_
                refine lv_iconst (v := 1) G0.1 G0.2.1 dX12_odds_74 (by decide) ?_
                refine py_calli hw (va_runV (As := [.int a, .int 1]) (rest := [.ref (G.2 u 45)]) G0 (c_X12_of l E G L_j46 f_j46 H_j46.size u a 1 hG hWF Tu ⟨by omega, by omega⟩ ⟨by omega, by omega⟩) (cwV 2 G0.2.2.2.2 g_X12_odds_X12_of_287 rfl rfl rfl (by decide +kernel) ⟨(Nat.le_of_ble_eq_true rfl), (Nat.le_of_ble_eq_true rfl)⟩) (py_preV hw (C := RX12) (T := TX12) (N := 54) rfl hr_99) rfl rfl hl.1 rfl (lv_room (Nat.le_of_ble_eq_true rfl)) dX12_odds_75 ⟨(Nat.le_of_ble_eq_true rfl), (Nat.le_of_ble_eq_true rfl)⟩) (fun r_104 L_100 f_101 H_102 locs hp_103 hw => ?_)
                obtain ⟨en_105, en_106, rfl, rfl⟩ := hp_103
                have en_105 : r_104.toInt = nw f_j46 G u a.toInt (1 : Int) := en_105
                have en_106 : ((1 : Int) = 0 → 0 ≤ r_104.toInt ∧ r_104.toInt ≤ 20) ∧ ((1 : Int) = 1 → -1 ≤ r_104.toInt ∧ r_104.toInt ≤ 7) := en_106
                have br_104 := wf_free r_104
                refine lv_aload_n G0.1 G0.2.1 dX12_odds_78 rfl (lv_at hl 1 rfl) ?_
                refine lv_iload_n G0.1 G0.2.1 dX12_odds_79 rfl (lv_at hl 2 rfl) ?_
                refine lv_iconst (v := 0) G0.1 G0.2.1 dX12_odds_80 (by decide) ?_
                refine py_calli hw (va_runV (As := [.int a, .int 0]) (rest := [.int r_104, .ref (G.2 u 45)]) G0 (c_X12_of l E G L_j46 f_j46 H_102.size u a 0 hG hWF Tu ⟨by omega, by omega⟩ ⟨by omega, by omega⟩) (cwV 2 G0.2.2.2.2 g_X12_odds_X12_of_287 rfl rfl rfl (by decide +kernel) ⟨(Nat.le_of_ble_eq_true rfl), (Nat.le_of_ble_eq_true rfl)⟩) (py_preV hw (C := RX12) (T := TX12) (N := 54) rfl hr_99) rfl rfl hl.1 rfl (lv_room (Nat.le_of_ble_eq_true rfl)) dX12_odds_81 ⟨(Nat.le_of_ble_eq_true rfl), (Nat.le_of_ble_eq_true rfl)⟩) (fun r_111 L_107 f_108 H_109 locs hp_110 hw => ?_)
                obtain ⟨en_112, en_113, rfl, rfl⟩ := hp_110
                have en_112 : r_111.toInt = nw f_j46 G u a.toInt (0 : Int) := en_112
                have en_113 : ((0 : Int) = 0 → 0 ≤ r_111.toInt ∧ r_111.toInt ≤ 20) ∧ ((0 : Int) = 1 → -1 ≤ r_111.toInt ∧ r_111.toInt ≤ 7) := en_113
                have br_111 := wf_free r_111
                have nk_114 : nw f_j46 G u a.toInt 0 = nw f G u a.toInt 0 := arz_kp (kp_f hKP (wt12_26 hG Tu) (by decide) (by decide) (fun _ => by decide)) _
                have nk_115 : nw f_j46 G u a.toInt 1 = nw f G u a.toInt 1 := arz_kp (kp_f hKP (wt12_26 hG Tu) (by decide) (by decide) (fun _ => by decide)) _
                refine py_calli hw (va_runS (As := [.int r_104, .int r_111]) (rest := [.ref (G.2 u 45)]) G0 (c_X12_state l E G L_j46 f_j46 H_109.size r_104 r_111 hG hWF ⟨by omega, by omega⟩ ⟨by omega, by omega⟩) (va_cwS 2 G0.2.2.2.2 g_X12_odds_X12_state_425 rfl rfl rfl (by decide +kernel) ⟨(Nat.le_of_ble_eq_true rfl), (Nat.le_of_ble_eq_true rfl)⟩) (py_preS hw) rfl rfl hl.1 rfl (lv_room (Nat.le_of_ble_eq_true rfl)) dX12_odds_84 ⟨(Nat.le_of_ble_eq_true rfl), (Nat.le_of_ble_eq_true rfl)⟩) (fun r_120 L_116 f_117 H_118 locs hp_119 hw => ?_)
                obtain ⟨b_122, en_121, rfl, rfl⟩ := hp_119
                refine lv_ldc2 (v := 1000000000) G0.1 G0.2.1 G0.2.2.2.1 (G0.2.2.2.2 (Cond.constantLong RX12 432 (1000000000)) (by decide +kernel)) dX12_odds_87 ?_
                obtain ⟨g_123, ha_124⟩ := wf_j67 hWF (wt12_45 hG Tu)
                have rg_125 : vp_in r_120 168 := ti_in (by omega) (by omega)
                refine py_last G0 hw ha_124 rg_125 dX12_odds_90 (fun f_126 H_127 locs h_128 x_129 hw => ?_)
                have hGM := hGM.kps hG Tu (KP.refl.upd hWF x_129 (wt12_45 hG Tu) (Or.inl (by decide)) : KP G [67] false f_j46 f_126) (LK.of (by decide)) (by decide)
                have hFK := hFK.same ((x_129 _ (hWF _ (by rw [Tu]; decide)).1 (wf_ne Tu (wt12_45 hG Tu) (by decide))).2)
                have hKP := hKP.upd hWF x_129 (wt12_45 hG Tu) (Or.inl (by decide))
                have hWF := wf_upd hWF h_128 x_129 (by rw [(wt12_45 hG Tu)]; exact ⟨_, rfl⟩)
                have hr_99 := hr_99.ext x_129 (py_ne_arr hr_99 ha_124)
                refine lv_aload_n G0.1 G0.2.1 dX12_odds_91 rfl (lv_at hl 1 rfl) ?_
                refine lv_lconst (v := 0) G0.1 G0.2.1 dX12_odds_92 (by decide) ?_
                refine py_put (C := RX12) (T := TX12) (N := 54) (k := 48) (v := .long 0) (fs' := [.int v_65, .ref (G.2 u 1), .int v_66, .int v_67, .int v_68, .int v_69, .ref (G.2 u 6), .ref (G.2 u 7), .ref (G.2 u 8), .ref (G.2 u 9), .ref (G.2 u 10), .ref (G.2 u 11), .ref (G.2 u 12), .int v_70, .int v_71, .ref (G.2 u 15), .ref (G.2 u 16), .ref (G.2 u 17), .ref (G.2 u 18), .int v_72, .int v_73, .ref (G.2 u 21), .ref (G.2 u 22), .ref (G.2 u 23), .int v_74, .int v_75, .ref (G.2 u 26), .ref (G.2 u 27), .ref (G.2 u 28), .int v_76, .long y_77, .int v_78, .int v_79, .int v_80, .int v_81, .ref (G.2 u 35), .ref (G.2 u 36), .ref (G.2 u 37), .ref (G.2 u 38), .ref (G.2 u 39), .ref (G.2 u 40), .ref (G.2 u 41), .ref (G.2 u 42), .int v_82, .ref (G.2 u 44), .ref (G.2 u 45), .ref (G.2 u 46), .ref (G.2 u 47), .long 0, .ref (G.2 u 49), .ref (G.2 u 50), .int v_84, .long y_85, .int v_86]) (ty0 := tyX12) G0 hw tyX12_ok nmX12 in_X12_odds_X12 rfl hr_99 (by decide) (by decide +kernel) rfl rfl rfl rfl (Nat.le_of_ble_eq_true rfl) rfl dX12_odds_93 (fun f_130 H_131 locs h_132 x_133 hw => ?_)
                have hGM := hGM.own hG hWF Tu x_133 (by have z1 := mi_row hr_99 13 rfl; have z2 := mi_row h_132 13 rfl; omega) (by have z1 := mi_row hr_99 31 rfl; have z2 := mi_row h_132 31 rfl; omega)
                have hFK := hFK.put hr_99 h_132 48 (by decide) rfl
                have hKP := hKP.upd hWF x_133 Tu (Or.inl (by decide))
                have hWF := wf_upd hWF h_132 x_133 (by rw [Tu]; exact ⟨v_65, v_66, v_67, v_68, v_69, v_70, v_71, v_72, v_73, v_74, v_75, v_76, y_77, v_78, v_79, v_80, v_81, v_82, 0, v_84, y_85, v_86, rfl, ⟨by omega, by omega⟩, ⟨by omega, by omega⟩, ⟨by omega, by omega⟩, ⟨by omega, by omega⟩, ⟨by omega, by omega⟩, ⟨by omega, by omega⟩, ⟨by omega, by omega⟩, ⟨by omega, by omega⟩, ⟨by omega, by omega⟩, ⟨by omega, by omega⟩, ⟨by omega, by omega⟩, ⟨by omega, by omega⟩⟩)
                refine lv_iconst (v := 1) G0.1 G0.2.1 dX12_odds_96 (by decide) ?_
                refine lv_istore (lv' := [(4, .int 1), (0, .ref u), (1, .int a), (2, .int b), (3, .int q)]) G0.1 G0.2.1 dX12_odds_97 hl (by decide) rfl (fun ls hl => ?_)
                have lo_99 : ∀ n_99 : Nat, ∀ (v_134 : Int32) (L_j99 : List Nat) (f_j99 : py_F) (H_j99 : Heap) (locs : List Loc) (ls : Array Slot), (2147483647 - v_134.toInt).toNat = n_99 → (1 ≤ v_134.toInt ∧ v_134.toInt ≤ 2147483647) → WF E G L_j99 f_j99 → KP G [67, 68, 69, 48, 49, 13] false f f_j99 → GM f_j99 G u → FK [48] f f_j99 u → py_W E (va_A (va_pl L f) s.heap.size) s L_j99 f_j99 H_j99 locs → lv_has ls 7 [(4, .int v_134), (0, .ref u), (1, .int a), (2, .int b), (3, .int q)] → W p l e (headSpec w_X12_odds ({ frames := 8, cells := 0, slots := 0, locals := 207 })).room s m ([.ref u, .int a, .int b, .int q] : List Value).toArray below meth c H_j99 locs 0 0 (MQ below (py_Qi E L f s.heap.size (fun _ L1 f1 => WF E G L1 f1 ∧ KP G [67, 68, 69, 48, 49, 13] false f f1 ∧ FK [48] f f1 u)) ([.ref u, .int a, .int b, .int q] : List Value).toArray s 0 0 (va_A (va_pl L f) s.heap.size)) (F0 m 99 ls []) := by
                  intro n_99
                  induction n_99 using Nat.strongRecOn with
                  | _ n_99 ih_99 =>
                    intro v_134 L_j99 f_j99 H_j99 locs ls hn_99 bv_134 hWF hKP hGM hFK hw hl
                    refine lv_iload G0.1 G0.2.1 dX12_odds_99 (lv_at hl 0 rfl) ?_
                    refine lv_iload_n G0.1 G0.2.1 dX12_odds_101 rfl (lv_at hl 3 rfl) ?_
                    refine lv_icmp_gt (tgt := 123) G0.1 G0.2.1 dX12_odds_102 (by decide) (fun c_135 => ?_) (fun c_135 => ?_)
                    · skip
                      have tc_135 := ti_lt c_135
                      refine lv_iload_n G0.1 G0.2.1 dX12_odds_123 rfl (lv_at hl 4 rfl) ?_
                      refine lv_iconst (v := (-1)) G0.1 G0.2.1 dX12_odds_124 (by decide) ?_
                      refine lv_icmp_ne (tgt := 135) G0.1 G0.2.1 dX12_odds_125 (by decide) (fun c_136 => ?_) (fun c_136 => ?_)
                      · skip
                        have tc_136 := ti_ne c_136
                        refine lv_lconst (v := 0) G0.1 G0.2.1 dX12_odds_135 (by decide) ?_
                        refine lv_lstore (lv' := [(4, .long 0), (0, .ref u), (1, .int a), (2, .int b), (3, .int q)]) G0.1 G0.2.1 dX12_odds_136 hl (by decide) rfl (fun ls hl => ?_)
                        refine lv_iconst (v := 1) G0.1 G0.2.1 dX12_odds_138 (by decide) ?_
                        refine lv_istore (lv' := [(6, .int 1), (4, .long 0), (0, .ref u), (1, .int a), (2, .int b), (3, .int q)]) G0.1 G0.2.1 dX12_odds_139 hl (by decide) rfl (fun ls hl => ?_)
                        have lo_141 : ∀ n_141 : Nat, ∀ (v_137 : Int32) (v_138 : Int64) (H_j141 : Heap) (locs : List Loc) (ls : Array Slot), (2147483647 - v_137.toInt).toNat = n_141 → (1 ≤ v_137.toInt ∧ v_137.toInt ≤ 2147483647) → py_W E (va_A (va_pl L f) s.heap.size) s L_j99 f_j99 H_j141 locs → lv_has ls 7 [(6, .int v_137), (4, .long v_138), (0, .ref u), (1, .int a), (2, .int b), (3, .int q)] → W p l e (headSpec w_X12_odds ({ frames := 8, cells := 0, slots := 0, locals := 207 })).room s m ([.ref u, .int a, .int b, .int q] : List Value).toArray below meth c H_j141 locs 0 0 (MQ below (py_Qi E L f s.heap.size (fun _ L1 f1 => WF E G L1 f1 ∧ KP G [67, 68, 69, 48, 49, 13] false f f1 ∧ FK [48] f f1 u)) ([.ref u, .int a, .int b, .int q] : List Value).toArray s 0 0 (va_A (va_pl L f) s.heap.size)) (F0 m 141 ls []) := by
                          intro n_141
                          induction n_141 using Nat.strongRecOn with
                          | _ n_141 ih_141 =>
                            intro v_137 v_138 H_j141 locs ls hn_141 bv_137 hw hl
                            refine lv_iload G0.1 G0.2.1 dX12_odds_141 (lv_at hl 0 rfl) ?_
                            refine lv_bipush (v := 20) G0.1 G0.2.1 dX12_odds_143 (by decide) ?_
                            refine lv_icmp_gt (tgt := 175) G0.1 G0.2.1 dX12_odds_145 (by decide) (fun c_139 => ?_) (fun c_139 => ?_)
                            · skip
                              have tc_139 := ti_lt c_139
                              refine lv_lload G0.1 G0.2.1 dX12_odds_175 (lv_at hl 1 rfl) ?_
                              refine lv_l2i G0.1 G0.2.1 dX12_odds_177 rfl ?_
                              refine lv_topi (fun x_140 ex_140 => ?_)
                              exact py_iret G0 hr rfl hlk hw ⟨hWF, hKP, hFK⟩ dX12_odds_178
                            · skip
                              have tc_139 := ti_nlt c_139
                              refine lv_iload_n G0.1 G0.2.1 dX12_odds_148 rfl (lv_at hl 5 rfl) ?_
                              refine lv_iconst (v := (-1)) G0.1 G0.2.1 dX12_odds_149 (by decide) ?_
                              refine lv_icmp_eq (tgt := 175) G0.1 G0.2.1 dX12_odds_150 (by decide) (fun c_141 => ?_) (fun c_141 => ?_)
                              · skip
                                have tc_141 := ti_eq c_141
                                refine lv_lload G0.1 G0.2.1 dX12_odds_175 (lv_at hl 1 rfl) ?_
                                refine lv_l2i G0.1 G0.2.1 dX12_odds_177 rfl ?_
                                refine lv_topi (fun x_142 ex_142 => ?_)
                                exact py_iret G0 hr rfl hlk hw ⟨hWF, hKP, hFK⟩ dX12_odds_178
                              · skip
                                have tc_141 := ti_ne c_141
                                refine lv_lload G0.1 G0.2.1 dX12_odds_153 (lv_at hl 1 rfl) ?_
                                refine lv_aload_n G0.1 G0.2.1 dX12_odds_155 rfl (lv_at hl 2 rfl) ?_
                                obtain ⟨v_143, v_144, v_145, v_146, v_147, v_148, v_149, v_150, v_151, v_152, v_153, v_154, y_155, v_156, v_157, v_158, v_159, v_160, y_161, v_162, y_163, v_164, hr_177, b_165, b_166, b_167, b_168, b_169, b_170, b_171, b_172, b_173, b_174, b_175, b_176⟩ := wg_12 hWF Tu
                                refine py_get (C := RX12) (T := TX12) (N := 54) (k := 45) (v := .ref (G.2 u 45)) G0 hw in_X12_odds_X12 rfl hr_177 (by decide) (by decide +kernel) rfl dX12_odds_156 ?_
                                refine lv_iload_n G0.1 G0.2.1 dX12_odds_159 rfl (lv_at hl 5 rfl) ?_
                                refine lv_iload G0.1 G0.2.1 dX12_odds_160 (lv_at hl 0 rfl) ?_
                                refine py_calli hw (va_runS (As := [.int q, .int v_137]) (rest := [.ref (G.2 u 45), .long v_138]) G0 (c_X12_state l E G L_j99 f_j99 H_j141.size q v_137 hG hWF ⟨by omega, by omega⟩ ⟨by omega, by omega⟩) (va_cwS 2 G0.2.2.2.2 g_X12_odds_X12_state_425 rfl rfl rfl (by decide +kernel) ⟨(Nat.le_of_ble_eq_true rfl), (Nat.le_of_ble_eq_true rfl)⟩) (py_preS hw) rfl rfl hl.1 rfl (lv_room (Nat.le_of_ble_eq_true rfl)) dX12_odds_162 ⟨(Nat.le_of_ble_eq_true rfl), (Nat.le_of_ble_eq_true rfl)⟩) (fun r_182 L_178 f_179 H_180 locs hp_181 hw => ?_)
                                obtain ⟨b_184, en_183, rfl, rfl⟩ := hp_181
                                obtain ⟨g_185, ha_186⟩ := wf_j67 hWF (wt12_45 hG Tu)
                                have rg_187 : vp_in r_182 168 := ti_in (by omega) (by omega)
                                refine py_lald G0 hw ha_186 rg_187 dX12_odds_165 ?_
                                refine lv_topl (fun y_188 ey_188 => ?_)
                                refine lv_ladd G0.1 G0.2.1 dX12_odds_166 ?_
                                refine lv_topl (fun y_189 ey_189 => ?_)
                                refine lv_lstore (lv' := [(4, .long y_189), (6, .int v_137), (0, .ref u), (1, .int a), (2, .int b), (3, .int q)]) G0.1 G0.2.1 dX12_odds_167 hl (by decide) rfl (fun ls hl => ?_)
                                obtain ⟨x_190, ex_190⟩ : ∃ y : Int32, y = v_137 + 1 := ⟨_, rfl⟩
                                first | have tx_190 := ti_add ex_190 (by omega -splitDisjunctions) (by omega -splitDisjunctions) | skip
                                refine lv_iinc (v := x_190) (lv' := [(6, .int x_190), (4, .long y_189), (0, .ref u), (1, .int a), (2, .int b), (3, .int q)]) G0.1 G0.2.1 dX12_odds_169 hl (k := 1) rfl (show _ + (1 : Int32) = _ from ex_190.symm) (by decide) rfl (fun ls hl => ?_)
                                refine lv_goto (tgt := 141) G0.1 G0.2.1 dX12_odds_172 (by decide) ?_
                                exact ih_141 ((2147483647 - x_190.toInt).toNat) (by omega) x_190 y_189 _ _ ls rfl ⟨by omega, by omega⟩ hw (lv_sub hl [0, 1, 2, 3, 4, 5] rfl)
                        exact lo_141 _ 1 0 _ _ ls rfl ⟨by omega, by omega⟩ hw (lv_sub hl [0, 1, 2, 3, 4, 5] rfl)
                      · skip
                        have tc_136 := ti_eq c_136
                        refine lv_aload_n G0.1 G0.2.1 dX12_odds_128 rfl (lv_at hl 1 rfl) ?_
                        obtain ⟨v_191, v_192, v_193, v_194, v_195, v_196, v_197, v_198, v_199, v_200, v_201, v_202, y_203, v_204, v_205, v_206, v_207, v_208, y_209, v_210, y_211, v_212, hr_225, b_213, b_214, b_215, b_216, b_217, b_218, b_219, b_220, b_221, b_222, b_223, b_224⟩ := wg_12 hWF Tu
                        refine py_get (C := RX12) (T := TX12) (N := 54) (k := 48) (v := .long y_209) G0 hw in_X12_odds_X12 rfl hr_225 (by decide) (by decide +kernel) rfl dX12_odds_129 ?_
                        refine lv_goto (tgt := 136) G0.1 G0.2.1 dX12_odds_132 (by decide) ?_
                        refine lv_lstore (lv' := [(4, .long y_209), (0, .ref u), (1, .int a), (2, .int b), (3, .int q)]) G0.1 G0.2.1 dX12_odds_136 hl (by decide) rfl (fun ls hl => ?_)
                        refine lv_iconst (v := 1) G0.1 G0.2.1 dX12_odds_138 (by decide) ?_
                        refine lv_istore (lv' := [(6, .int 1), (4, .long y_209), (0, .ref u), (1, .int a), (2, .int b), (3, .int q)]) G0.1 G0.2.1 dX12_odds_139 hl (by decide) rfl (fun ls hl => ?_)
                        have lo_141 : ∀ n_141 : Nat, ∀ (v_226 : Int32) (v_227 : Int64) (H_j141 : Heap) (locs : List Loc) (ls : Array Slot), (2147483647 - v_226.toInt).toNat = n_141 → (1 ≤ v_226.toInt ∧ v_226.toInt ≤ 2147483647) → py_W E (va_A (va_pl L f) s.heap.size) s L_j99 f_j99 H_j141 locs → lv_has ls 7 [(6, .int v_226), (4, .long v_227), (0, .ref u), (1, .int a), (2, .int b), (3, .int q)] → W p l e (headSpec w_X12_odds ({ frames := 8, cells := 0, slots := 0, locals := 207 })).room s m ([.ref u, .int a, .int b, .int q] : List Value).toArray below meth c H_j141 locs 0 0 (MQ below (py_Qi E L f s.heap.size (fun _ L1 f1 => WF E G L1 f1 ∧ KP G [67, 68, 69, 48, 49, 13] false f f1 ∧ FK [48] f f1 u)) ([.ref u, .int a, .int b, .int q] : List Value).toArray s 0 0 (va_A (va_pl L f) s.heap.size)) (F0 m 141 ls []) := by
                          intro n_141
                          induction n_141 using Nat.strongRecOn with
                          | _ n_141 ih_141 =>
                            intro v_226 v_227 H_j141 locs ls hn_141 bv_226 hw hl
                            refine lv_iload G0.1 G0.2.1 dX12_odds_141 (lv_at hl 0 rfl) ?_
                            refine lv_bipush (v := 20) G0.1 G0.2.1 dX12_odds_143 (by decide) ?_
                            refine lv_icmp_gt (tgt := 175) G0.1 G0.2.1 dX12_odds_145 (by decide) (fun c_228 => ?_) (fun c_228 => ?_)
                            · skip
                              have tc_228 := ti_lt c_228
                              refine lv_lload G0.1 G0.2.1 dX12_odds_175 (lv_at hl 1 rfl) ?_
                              refine lv_l2i G0.1 G0.2.1 dX12_odds_177 rfl ?_
                              refine lv_topi (fun x_229 ex_229 => ?_)
                              exact py_iret G0 hr rfl hlk hw ⟨hWF, hKP, hFK⟩ dX12_odds_178
                            · skip
                              have tc_228 := ti_nlt c_228
                              refine lv_iload_n G0.1 G0.2.1 dX12_odds_148 rfl (lv_at hl 5 rfl) ?_
                              refine lv_iconst (v := (-1)) G0.1 G0.2.1 dX12_odds_149 (by decide) ?_
                              refine lv_icmp_eq (tgt := 175) G0.1 G0.2.1 dX12_odds_150 (by decide) (fun c_230 => ?_) (fun c_230 => ?_)
                              · skip
                                have tc_230 := ti_eq c_230
                                refine lv_lload G0.1 G0.2.1 dX12_odds_175 (lv_at hl 1 rfl) ?_
                                refine lv_l2i G0.1 G0.2.1 dX12_odds_177 rfl ?_
                                refine lv_topi (fun x_231 ex_231 => ?_)
                                exact py_iret G0 hr rfl hlk hw ⟨hWF, hKP, hFK⟩ dX12_odds_178
                              · skip
                                have tc_230 := ti_ne c_230
                                refine lv_lload G0.1 G0.2.1 dX12_odds_153 (lv_at hl 1 rfl) ?_
                                refine lv_aload_n G0.1 G0.2.1 dX12_odds_155 rfl (lv_at hl 2 rfl) ?_
                                refine py_get (C := RX12) (T := TX12) (N := 54) (k := 45) (v := .ref (G.2 u 45)) G0 hw in_X12_odds_X12 rfl hr_225 (by decide) (by decide +kernel) rfl dX12_odds_156 ?_
                                refine lv_iload_n G0.1 G0.2.1 dX12_odds_159 rfl (lv_at hl 5 rfl) ?_
                                refine lv_iload G0.1 G0.2.1 dX12_odds_160 (lv_at hl 0 rfl) ?_
                                refine py_calli hw (va_runS (As := [.int q, .int v_226]) (rest := [.ref (G.2 u 45), .long v_227]) G0 (c_X12_state l E G L_j99 f_j99 H_j141.size q v_226 hG hWF ⟨by omega, by omega⟩ ⟨by omega, by omega⟩) (va_cwS 2 G0.2.2.2.2 g_X12_odds_X12_state_425 rfl rfl rfl (by decide +kernel) ⟨(Nat.le_of_ble_eq_true rfl), (Nat.le_of_ble_eq_true rfl)⟩) (py_preS hw) rfl rfl hl.1 rfl (lv_room (Nat.le_of_ble_eq_true rfl)) dX12_odds_162 ⟨(Nat.le_of_ble_eq_true rfl), (Nat.le_of_ble_eq_true rfl)⟩) (fun r_236 L_232 f_233 H_234 locs hp_235 hw => ?_)
                                obtain ⟨b_238, en_237, rfl, rfl⟩ := hp_235
                                obtain ⟨g_239, ha_240⟩ := wf_j67 hWF (wt12_45 hG Tu)
                                have rg_241 : vp_in r_236 168 := ti_in (by omega) (by omega)
                                refine py_lald G0 hw ha_240 rg_241 dX12_odds_165 ?_
                                refine lv_topl (fun y_242 ey_242 => ?_)
                                refine lv_ladd G0.1 G0.2.1 dX12_odds_166 ?_
                                refine lv_topl (fun y_243 ey_243 => ?_)
                                refine lv_lstore (lv' := [(4, .long y_243), (6, .int v_226), (0, .ref u), (1, .int a), (2, .int b), (3, .int q)]) G0.1 G0.2.1 dX12_odds_167 hl (by decide) rfl (fun ls hl => ?_)
                                obtain ⟨x_244, ex_244⟩ : ∃ y : Int32, y = v_226 + 1 := ⟨_, rfl⟩
                                first | have tx_244 := ti_add ex_244 (by omega -splitDisjunctions) (by omega -splitDisjunctions) | skip
                                refine lv_iinc (v := x_244) (lv' := [(6, .int x_244), (4, .long y_243), (0, .ref u), (1, .int a), (2, .int b), (3, .int q)]) G0.1 G0.2.1 dX12_odds_169 hl (k := 1) rfl (show _ + (1 : Int32) = _ from ex_244.symm) (by decide) rfl (fun ls hl => ?_)
                                refine lv_goto (tgt := 141) G0.1 G0.2.1 dX12_odds_172 (by decide) ?_
                                exact ih_141 ((2147483647 - x_244.toInt).toNat) (by omega) x_244 y_243 _ _ ls rfl ⟨by omega, by omega⟩ hw (lv_sub hl [0, 1, 2, 3, 4, 5] rfl)
                        exact lo_141 _ 1 y_209 _ _ ls rfl ⟨by omega, by omega⟩ hw (lv_sub hl [0, 1, 2, 3, 4, 5] rfl)
                    · skip
                      have tc_135 := ti_nlt c_135
                      refine lv_aload_n G0.1 G0.2.1 dX12_odds_105 rfl (lv_at hl 1 rfl) ?_
                      refine lv_iload_n G0.1 G0.2.1 dX12_odds_106 rfl (lv_at hl 2 rfl) ?_
                      refine lv_aload_n G0.1 G0.2.1 dX12_odds_107 rfl (lv_at hl 1 rfl) ?_
                      obtain ⟨v_245, v_246, v_247, v_248, v_249, v_250, v_251, v_252, v_253, v_254, v_255, v_256, y_257, v_258, v_259, v_260, v_261, v_262, y_263, v_264, y_265, v_266, hr_279, b_267, b_268, b_269, b_270, b_271, b_272, b_273, b_274, b_275, b_276, b_277, b_278⟩ := wg_12 hWF Tu
                      refine py_get (C := RX12) (T := TX12) (N := 54) (k := 29) (v := .int v_256) G0 hw in_X12_odds_X12 rfl hr_279 (by decide) (by decide +kernel) rfl dX12_odds_108 ?_
                      refine lv_iload G0.1 G0.2.1 dX12_odds_111 (lv_at hl 0 rfl) ?_
                      refine lv_iadd G0.1 G0.2.1 dX12_odds_113 ?_
                      refine lv_topi (fun x_280 ex_280 => ?_)
                      first | have tx_280 := ti_add ex_280 (by omega -splitDisjunctions) (by omega -splitDisjunctions) | skip
                      refine py_callv hw (va_runV (As := [.int a, .int x_280]) (rest := []) G0 (c_X12_oneWinter l E G L_j99 f_j99 H_j99.size u a x_280 hG hWF Tu ⟨by omega, by omega⟩ hGM) (cwV 2 G0.2.2.2.2 g_X12_odds_X12_oneWinter_434 rfl rfl rfl (by decide +kernel) ⟨(Nat.le_of_ble_eq_true rfl), (Nat.le_of_ble_eq_true rfl)⟩) (py_preV hw (C := RX12) (T := TX12) (N := 54) rfl hr_279) rfl rfl hl.1 rfl (lv_room (Nat.le_of_ble_eq_true rfl)) dX12_odds_114 ⟨(Nat.le_of_ble_eq_true rfl), (Nat.le_of_ble_eq_true rfl)⟩) (fun L_281 f_282 H_283 locs hp_284 hw => ?_)
                      obtain ⟨hWF, kp_286, fk_287⟩ := hp_284
                      have hGM := hGM.kp hG Tu kp_286 fk_287 (LK.of (by decide)) (by decide)
                      have hFK := hFK.trans fk_287 (by decide)
                      have hKP := hKP.trans kp_286 (by decide) (by decide)
                      obtain ⟨v_288, hr_289⟩ := fk_48 hWF Tu fk_287 hr_279
                      obtain ⟨x_290, ex_290⟩ : ∃ y : Int32, y = v_134 + 1 := ⟨_, rfl⟩
                      first | have tx_290 := ti_add ex_290 (by omega -splitDisjunctions) (by omega -splitDisjunctions) | skip
                      refine lv_iinc (v := x_290) (lv' := [(4, .int x_290), (0, .ref u), (1, .int a), (2, .int b), (3, .int q)]) G0.1 G0.2.1 dX12_odds_117 hl (k := 0) rfl (show _ + (1 : Int32) = _ from ex_290.symm) (by decide) rfl (fun ls hl => ?_)
                      refine lv_goto (tgt := 99) G0.1 G0.2.1 dX12_odds_120 (by decide) ?_
                      exact ih_99 ((2147483647 - x_290.toInt).toNat) (by omega) x_290 L_281 f_282 _ _ ls rfl ⟨by omega, by omega⟩ hWF hKP hGM hFK hw (lv_sub hl [0, 1, 2, 3, 4] rfl)
                exact lo_99 _ 1 L_j46 f_130 _ _ ls rfl ⟨by omega, by omega⟩ hWF hKP hGM hFK hw (lv_sub hl [0, 1, 2, 3, 4] rfl)
              · skip
                have tc_64 := ti_nle c_64
                refine lv_aload_n G0.1 G0.2.1 dX12_odds_54 rfl (lv_at hl 1 rfl) ?_
                obtain ⟨v_291, v_292, v_293, v_294, v_295, v_296, v_297, v_298, v_299, v_300, v_301, v_302, y_303, v_304, v_305, v_306, v_307, v_308, y_309, v_310, y_311, v_312, hr_325, b_313, b_314, b_315, b_316, b_317, b_318, b_319, b_320, b_321, b_322, b_323, b_324⟩ := wg_12 hWF Tu
                refine py_get (C := RX12) (T := TX12) (N := 54) (k := 45) (v := .ref (G.2 u 45)) G0 hw in_X12_odds_X12 rfl hr_325 (by decide) (by decide +kernel) rfl dX12_odds_55 ?_
                refine lv_iload G0.1 G0.2.1 dX12_odds_58 (lv_at hl 0 rfl) ?_
                refine lv_lconst (v := 0) G0.1 G0.2.1 dX12_odds_60 (by decide) ?_
                obtain ⟨g_326, ha_327⟩ := wf_j67 hWF (wt12_45 hG Tu)
                have rg_328 : vp_in v_63 168 := ti_in (by omega) (by omega)
                refine py_last G0 hw ha_327 rg_328 dX12_odds_61 (fun f_329 H_330 locs h_331 x_332 hw => ?_)
                have hGM := hGM.kps hG Tu (KP.refl.upd hWF x_332 (wt12_45 hG Tu) (Or.inl (by decide)) : KP G [67] false f_j46 f_329) (LK.of (by decide)) (by decide)
                have hFK := hFK.same ((x_332 _ (hWF _ (by rw [Tu]; decide)).1 (wf_ne Tu (wt12_45 hG Tu) (by decide))).2)
                have hKP := hKP.upd hWF x_332 (wt12_45 hG Tu) (Or.inl (by decide))
                have hWF := wf_upd hWF h_331 x_332 (by rw [(wt12_45 hG Tu)]; exact ⟨_, rfl⟩)
                have hr_325 := hr_325.ext x_332 (py_ne_arr hr_325 ha_327)
                obtain ⟨x_333, ex_333⟩ : ∃ y : Int32, y = v_63 + 1 := ⟨_, rfl⟩
                first | have tx_333 := ti_add ex_333 (by omega -splitDisjunctions) (by omega -splitDisjunctions) | skip
                refine lv_iinc (v := x_333) (lv' := [(4, .int x_333), (0, .ref u), (1, .int a), (2, .int b), (3, .int q)]) G0.1 G0.2.1 dX12_odds_62 hl (k := 0) rfl (show _ + (1 : Int32) = _ from ex_333.symm) (by decide) rfl (fun ls hl => ?_)
                refine lv_goto (tgt := 46) G0.1 G0.2.1 dX12_odds_65 (by decide) ?_
                exact ih_46 ((2147483647 - x_333.toInt).toNat) (by omega) x_333 L_j46 f_329 _ _ ls rfl ⟨by omega, by omega⟩ hWF hKP hGM hFK hw (lv_sub hl [0, 1, 2, 3, 4] rfl)
          exact lo_46 _ 0 L f _ _ ls rfl ⟨by omega, by omega⟩ hWF hKP hGM hFK hw (lv_sub hl [0, 1, 2, 3, 4] rfl)
        · skip
          have tc_62 := ti_ne c_62
          refine lv_aload_n G0.1 G0.2.1 dX12_odds_31 rfl (lv_at hl 0 rfl) ?_
          refine lv_iload_n G0.1 G0.2.1 dX12_odds_32 rfl (lv_at hl 3 rfl) ?_
          refine py_calli hw (va_runV (As := [.int q]) (rest := []) G0 (c_X12_isLevel l E G L f H_55.size u q hG hWF Tu) (cwV 1 G0.2.2.2.2 g_X12_odds_X12_isLevel_330 rfl rfl rfl (by decide +kernel) ⟨(Nat.le_of_ble_eq_true rfl), (Nat.le_of_ble_eq_true rfl)⟩) (py_preV hw (C := RX12) (T := TX12) (N := 54) rfl hr_35) rfl rfl hl.1 rfl (lv_room (Nat.le_of_ble_eq_true rfl)) dX12_odds_33 ⟨(Nat.le_of_ble_eq_true rfl), (Nat.le_of_ble_eq_true rfl)⟩) (fun r_338 L_334 f_335 H_336 locs hp_337 hw => ?_)
          obtain ⟨b_340, en_339, rfl, rfl⟩ := hp_337
          refine lv_if_ne (tgt := 43) G0.1 G0.2.1 dX12_odds_36 (by decide) (fun c_341 => ?_) (fun c_341 => ?_)
          · skip
            have tc_341 := ti_ne c_341
            replace en_339 := en_339 (by omega)
            refine lv_iconst (v := 0) G0.1 G0.2.1 dX12_odds_43 (by decide) ?_
            refine lv_istore (lv' := [(4, .int 0), (0, .ref u), (1, .int a), (2, .int b), (3, .int q)]) G0.1 G0.2.1 dX12_odds_44 hl (by decide) rfl (fun ls hl => ?_)
            have lo_46 : ∀ n_46 : Nat, ∀ (v_342 : Int32) (L_j46 : List Nat) (f_j46 : py_F) (H_j46 : Heap) (locs : List Loc) (ls : Array Slot), (2147483647 - v_342.toInt).toNat = n_46 → (0 ≤ v_342.toInt ∧ v_342.toInt ≤ 2147483647) → WF E G L_j46 f_j46 → KP G [67, 68, 69, 48, 49, 13] false f f_j46 → GM f_j46 G u → FK [48] f f_j46 u → py_W E (va_A (va_pl L f) s.heap.size) s L_j46 f_j46 H_j46 locs → lv_has ls 7 [(4, .int v_342), (0, .ref u), (1, .int a), (2, .int b), (3, .int q)] → W p l e (headSpec w_X12_odds ({ frames := 8, cells := 0, slots := 0, locals := 207 })).room s m ([.ref u, .int a, .int b, .int q] : List Value).toArray below meth c H_j46 locs 0 0 (MQ below (py_Qi E L f s.heap.size (fun _ L1 f1 => WF E G L1 f1 ∧ KP G [67, 68, 69, 48, 49, 13] false f f1 ∧ FK [48] f f1 u)) ([.ref u, .int a, .int b, .int q] : List Value).toArray s 0 0 (va_A (va_pl L f) s.heap.size)) (F0 m 46 ls []) := by
              intro n_46
              induction n_46 using Nat.strongRecOn with
              | _ n_46 ih_46 =>
                intro v_342 L_j46 f_j46 H_j46 locs ls hn_46 bv_342 hWF hKP hGM hFK hw hl
                refine lv_iload G0.1 G0.2.1 dX12_odds_46 (lv_at hl 0 rfl) ?_
                refine lv_sipush (v := 168) G0.1 G0.2.1 dX12_odds_48 (by decide) ?_
                refine lv_icmp_ge (tgt := 68) G0.1 G0.2.1 dX12_odds_51 (by decide) (fun c_343 => ?_) (fun c_343 => ?_)
                · skip
                  have tc_343 := ti_le c_343
                  refine lv_aload_n G0.1 G0.2.1 dX12_odds_68 rfl (lv_at hl 1 rfl) ?_
                  obtain ⟨v_344, v_345, v_346, v_347, v_348, v_349, v_350, v_351, v_352, v_353, v_354, v_355, y_356, v_357, v_358, v_359, v_360, v_361, y_362, v_363, y_364, v_365, hr_378, b_366, b_367, b_368, b_369, b_370, b_371, b_372, b_373, b_374, b_375, b_376, b_377⟩ := wg_12 hWF Tu
                  refine py_get (C := RX12) (T := TX12) (N := 54) (k := 45) (v := .ref (G.2 u 45)) G0 hw in_X12_odds_X12 rfl hr_378 (by decide) (by decide +kernel) rfl dX12_odds_69 ?_
                  refine lv_aload_n G0.1 G0.2.1 dX12_odds_72 rfl (lv_at hl 1 rfl) ?_
                  refine lv_iload_n G0.1 G0.2.1 dX12_odds_73 rfl (lv_at hl 2 rfl) ?_
                  refine lv_iconst (v := 1) G0.1 G0.2.1 dX12_odds_74 (by decide) ?_
                  refine py_calli hw (va_runV (As := [.int a, .int 1]) (rest := [.ref (G.2 u 45)]) G0 (c_X12_of l E G L_j46 f_j46 H_j46.size u a 1 hG hWF Tu ⟨by omega, by omega⟩ ⟨by omega, by omega⟩) (cwV 2 G0.2.2.2.2 g_X12_odds_X12_of_287 rfl rfl rfl (by decide +kernel) ⟨(Nat.le_of_ble_eq_true rfl), (Nat.le_of_ble_eq_true rfl)⟩) (py_preV hw (C := RX12) (T := TX12) (N := 54) rfl hr_378) rfl rfl hl.1 rfl (lv_room (Nat.le_of_ble_eq_true rfl)) dX12_odds_75 ⟨(Nat.le_of_ble_eq_true rfl), (Nat.le_of_ble_eq_true rfl)⟩) (fun r_383 L_379 f_380 H_381 locs hp_382 hw => ?_)
                  obtain ⟨en_384, en_385, rfl, rfl⟩ := hp_382
                  have en_384 : r_383.toInt = nw f_j46 G u a.toInt (1 : Int) := en_384
                  have en_385 : ((1 : Int) = 0 → 0 ≤ r_383.toInt ∧ r_383.toInt ≤ 20) ∧ ((1 : Int) = 1 → -1 ≤ r_383.toInt ∧ r_383.toInt ≤ 7) := en_385
                  have br_383 := wf_free r_383
                  refine lv_aload_n G0.1 G0.2.1 dX12_odds_78 rfl (lv_at hl 1 rfl) ?_
                  refine lv_iload_n G0.1 G0.2.1 dX12_odds_79 rfl (lv_at hl 2 rfl) ?_
                  refine lv_iconst (v := 0) G0.1 G0.2.1 dX12_odds_80 (by decide) ?_
                  refine py_calli hw (va_runV (As := [.int a, .int 0]) (rest := [.int r_383, .ref (G.2 u 45)]) G0 (c_X12_of l E G L_j46 f_j46 H_381.size u a 0 hG hWF Tu ⟨by omega, by omega⟩ ⟨by omega, by omega⟩) (cwV 2 G0.2.2.2.2 g_X12_odds_X12_of_287 rfl rfl rfl (by decide +kernel) ⟨(Nat.le_of_ble_eq_true rfl), (Nat.le_of_ble_eq_true rfl)⟩) (py_preV hw (C := RX12) (T := TX12) (N := 54) rfl hr_378) rfl rfl hl.1 rfl (lv_room (Nat.le_of_ble_eq_true rfl)) dX12_odds_81 ⟨(Nat.le_of_ble_eq_true rfl), (Nat.le_of_ble_eq_true rfl)⟩) (fun r_390 L_386 f_387 H_388 locs hp_389 hw => ?_)
                  obtain ⟨en_391, en_392, rfl, rfl⟩ := hp_389
                  have en_391 : r_390.toInt = nw f_j46 G u a.toInt (0 : Int) := en_391
                  have en_392 : ((0 : Int) = 0 → 0 ≤ r_390.toInt ∧ r_390.toInt ≤ 20) ∧ ((0 : Int) = 1 → -1 ≤ r_390.toInt ∧ r_390.toInt ≤ 7) := en_392
                  have br_390 := wf_free r_390
                  have nk_393 : nw f_j46 G u a.toInt 0 = nw f G u a.toInt 0 := arz_kp (kp_f hKP (wt12_26 hG Tu) (by decide) (by decide) (fun _ => by decide)) _
                  have nk_394 : nw f_j46 G u a.toInt 1 = nw f G u a.toInt 1 := arz_kp (kp_f hKP (wt12_26 hG Tu) (by decide) (by decide) (fun _ => by decide)) _
                  refine py_calli hw (va_runS (As := [.int r_383, .int r_390]) (rest := [.ref (G.2 u 45)]) G0 (c_X12_state l E G L_j46 f_j46 H_388.size r_383 r_390 hG hWF ⟨by omega, by omega⟩ ⟨by omega, by omega⟩) (va_cwS 2 G0.2.2.2.2 g_X12_odds_X12_state_425 rfl rfl rfl (by decide +kernel) ⟨(Nat.le_of_ble_eq_true rfl), (Nat.le_of_ble_eq_true rfl)⟩) (py_preS hw) rfl rfl hl.1 rfl (lv_room (Nat.le_of_ble_eq_true rfl)) dX12_odds_84 ⟨(Nat.le_of_ble_eq_true rfl), (Nat.le_of_ble_eq_true rfl)⟩) (fun r_399 L_395 f_396 H_397 locs hp_398 hw => ?_)
                  obtain ⟨b_401, en_400, rfl, rfl⟩ := hp_398
                  refine lv_ldc2 (v := 1000000000) G0.1 G0.2.1 G0.2.2.2.1 (G0.2.2.2.2 (Cond.constantLong RX12 432 (1000000000)) (by decide +kernel)) dX12_odds_87 ?_
                  obtain ⟨g_402, ha_403⟩ := wf_j67 hWF (wt12_45 hG Tu)
                  have rg_404 : vp_in r_399 168 := ti_in (by omega) (by omega)
                  refine py_last G0 hw ha_403 rg_404 dX12_odds_90 (fun f_405 H_406 locs h_407 x_408 hw => ?_)
                  have hGM := hGM.kps hG Tu (KP.refl.upd hWF x_408 (wt12_45 hG Tu) (Or.inl (by decide)) : KP G [67] false f_j46 f_405) (LK.of (by decide)) (by decide)
                  have hFK := hFK.same ((x_408 _ (hWF _ (by rw [Tu]; decide)).1 (wf_ne Tu (wt12_45 hG Tu) (by decide))).2)
                  have hKP := hKP.upd hWF x_408 (wt12_45 hG Tu) (Or.inl (by decide))
                  have hWF := wf_upd hWF h_407 x_408 (by rw [(wt12_45 hG Tu)]; exact ⟨_, rfl⟩)
                  have hr_378 := hr_378.ext x_408 (py_ne_arr hr_378 ha_403)
                  refine lv_aload_n G0.1 G0.2.1 dX12_odds_91 rfl (lv_at hl 1 rfl) ?_
                  refine lv_lconst (v := 0) G0.1 G0.2.1 dX12_odds_92 (by decide) ?_
                  refine py_put (C := RX12) (T := TX12) (N := 54) (k := 48) (v := .long 0) (fs' := [.int v_344, .ref (G.2 u 1), .int v_345, .int v_346, .int v_347, .int v_348, .ref (G.2 u 6), .ref (G.2 u 7), .ref (G.2 u 8), .ref (G.2 u 9), .ref (G.2 u 10), .ref (G.2 u 11), .ref (G.2 u 12), .int v_349, .int v_350, .ref (G.2 u 15), .ref (G.2 u 16), .ref (G.2 u 17), .ref (G.2 u 18), .int v_351, .int v_352, .ref (G.2 u 21), .ref (G.2 u 22), .ref (G.2 u 23), .int v_353, .int v_354, .ref (G.2 u 26), .ref (G.2 u 27), .ref (G.2 u 28), .int v_355, .long y_356, .int v_357, .int v_358, .int v_359, .int v_360, .ref (G.2 u 35), .ref (G.2 u 36), .ref (G.2 u 37), .ref (G.2 u 38), .ref (G.2 u 39), .ref (G.2 u 40), .ref (G.2 u 41), .ref (G.2 u 42), .int v_361, .ref (G.2 u 44), .ref (G.2 u 45), .ref (G.2 u 46), .ref (G.2 u 47), .long 0, .ref (G.2 u 49), .ref (G.2 u 50), .int v_363, .long y_364, .int v_365]) (ty0 := tyX12) G0 hw tyX12_ok nmX12 in_X12_odds_X12 rfl hr_378 (by decide) (by decide +kernel) rfl rfl rfl rfl (Nat.le_of_ble_eq_true rfl) rfl dX12_odds_93 (fun f_409 H_410 locs h_411 x_412 hw => ?_)
                  have hGM := hGM.own hG hWF Tu x_412 (by have z1 := mi_row hr_378 13 rfl; have z2 := mi_row h_411 13 rfl; omega) (by have z1 := mi_row hr_378 31 rfl; have z2 := mi_row h_411 31 rfl; omega)
                  have hFK := hFK.put hr_378 h_411 48 (by decide) rfl
                  have hKP := hKP.upd hWF x_412 Tu (Or.inl (by decide))
                  have hWF := wf_upd hWF h_411 x_412 (by rw [Tu]; exact ⟨v_344, v_345, v_346, v_347, v_348, v_349, v_350, v_351, v_352, v_353, v_354, v_355, y_356, v_357, v_358, v_359, v_360, v_361, 0, v_363, y_364, v_365, rfl, ⟨by omega, by omega⟩, ⟨by omega, by omega⟩, ⟨by omega, by omega⟩, ⟨by omega, by omega⟩, ⟨by omega, by omega⟩, ⟨by omega, by omega⟩, ⟨by omega, by omega⟩, ⟨by omega, by omega⟩, ⟨by omega, by omega⟩, ⟨by omega, by omega⟩, ⟨by omega, by omega⟩, ⟨by omega, by omega⟩⟩)
                  refine lv_iconst (v := 1) G0.1 G0.2.1 dX12_odds_96 (by decide) ?_
                  refine lv_istore (lv' := [(4, .int 1), (0, .ref u), (1, .int a), (2, .int b), (3, .int q)]) G0.1 G0.2.1 dX12_odds_97 hl (by decide) rfl (fun ls hl => ?_)
                  have lo_99 : ∀ n_99 : Nat, ∀ (v_413 : Int32) (L_j99 : List Nat) (f_j99 : py_F) (H_j99 : Heap) (locs : List Loc) (ls : Array Slot), (2147483647 - v_413.toInt).toNat = n_99 → (1 ≤ v_413.toInt ∧ v_413.toInt ≤ 2147483647) → WF E G L_j99 f_j99 → KP G [67, 68, 69, 48, 49, 13] false f f_j99 → GM f_j99 G u → FK [48] f f_j99 u → py_W E (va_A (va_pl L f) s.heap.size) s L_j99 f_j99 H_j99 locs → lv_has ls 7 [(4, .int v_413), (0, .ref u), (1, .int a), (2, .int b), (3, .int q)] → W p l e (headSpec w_X12_odds ({ frames := 8, cells := 0, slots := 0, locals := 207 })).room s m ([.ref u, .int a, .int b, .int q] : List Value).toArray below meth c H_j99 locs 0 0 (MQ below (py_Qi E L f s.heap.size (fun _ L1 f1 => WF E G L1 f1 ∧ KP G [67, 68, 69, 48, 49, 13] false f f1 ∧ FK [48] f f1 u)) ([.ref u, .int a, .int b, .int q] : List Value).toArray s 0 0 (va_A (va_pl L f) s.heap.size)) (F0 m 99 ls []) := by
                    intro n_99
                    induction n_99 using Nat.strongRecOn with
                    | _ n_99 ih_99 =>
                      intro v_413 L_j99 f_j99 H_j99 locs ls hn_99 bv_413 hWF hKP hGM hFK hw hl
                      refine lv_iload G0.1 G0.2.1 dX12_odds_99 (lv_at hl 0 rfl) ?_
                      refine lv_iload_n G0.1 G0.2.1 dX12_odds_101 rfl (lv_at hl 3 rfl) ?_
                      refine lv_icmp_gt (tgt := 123) G0.1 G0.2.1 dX12_odds_102 (by decide) (fun c_414 => ?_) (fun c_414 => ?_)
                      · skip
                        have tc_414 := ti_lt c_414
                        refine lv_iload_n G0.1 G0.2.1 dX12_odds_123 rfl (lv_at hl 4 rfl) ?_
                        refine lv_iconst (v := (-1)) G0.1 G0.2.1 dX12_odds_124 (by decide) ?_
                        refine lv_icmp_ne (tgt := 135) G0.1 G0.2.1 dX12_odds_125 (by decide) (fun c_415 => ?_) (fun c_415 => ?_)
                        · skip
                          have tc_415 := ti_ne c_415
                          refine lv_lconst (v := 0) G0.1 G0.2.1 dX12_odds_135 (by decide) ?_
                          refine lv_lstore (lv' := [(4, .long 0), (0, .ref u), (1, .int a), (2, .int b), (3, .int q)]) G0.1 G0.2.1 dX12_odds_136 hl (by decide) rfl (fun ls hl => ?_)
                          refine lv_iconst (v := 1) G0.1 G0.2.1 dX12_odds_138 (by decide) ?_
                          refine lv_istore (lv' := [(6, .int 1), (4, .long 0), (0, .ref u), (1, .int a), (2, .int b), (3, .int q)]) G0.1 G0.2.1 dX12_odds_139 hl (by decide) rfl (fun ls hl => ?_)
                          have lo_141 : ∀ n_141 : Nat, ∀ (v_416 : Int32) (v_417 : Int64) (H_j141 : Heap) (locs : List Loc) (ls : Array Slot), (2147483647 - v_416.toInt).toNat = n_141 → (1 ≤ v_416.toInt ∧ v_416.toInt ≤ 2147483647) → py_W E (va_A (va_pl L f) s.heap.size) s L_j99 f_j99 H_j141 locs → lv_has ls 7 [(6, .int v_416), (4, .long v_417), (0, .ref u), (1, .int a), (2, .int b), (3, .int q)] → W p l e (headSpec w_X12_odds ({ frames := 8, cells := 0, slots := 0, locals := 207 })).room s m ([.ref u, .int a, .int b, .int q] : List Value).toArray below meth c H_j141 locs 0 0 (MQ below (py_Qi E L f s.heap.size (fun _ L1 f1 => WF E G L1 f1 ∧ KP G [67, 68, 69, 48, 49, 13] false f f1 ∧ FK [48] f f1 u)) ([.ref u, .int a, .int b, .int q] : List Value).toArray s 0 0 (va_A (va_pl L f) s.heap.size)) (F0 m 141 ls []) := by
                            intro n_141
                            induction n_141 using Nat.strongRecOn with
                            | _ n_141 ih_141 =>
                              intro v_416 v_417 H_j141 locs ls hn_141 bv_416 hw hl
                              refine lv_iload G0.1 G0.2.1 dX12_odds_141 (lv_at hl 0 rfl) ?_
                              refine lv_bipush (v := 20) G0.1 G0.2.1 dX12_odds_143 (by decide) ?_
                              refine lv_icmp_gt (tgt := 175) G0.1 G0.2.1 dX12_odds_145 (by decide) (fun c_418 => ?_) (fun c_418 => ?_)
                              · skip
                                have tc_418 := ti_lt c_418
                                refine lv_lload G0.1 G0.2.1 dX12_odds_175 (lv_at hl 1 rfl) ?_
                                refine lv_l2i G0.1 G0.2.1 dX12_odds_177 rfl ?_
                                refine lv_topi (fun x_419 ex_419 => ?_)
                                exact py_iret G0 hr rfl hlk hw ⟨hWF, hKP, hFK⟩ dX12_odds_178
                              · skip
                                have tc_418 := ti_nlt c_418
                                refine lv_iload_n G0.1 G0.2.1 dX12_odds_148 rfl (lv_at hl 5 rfl) ?_
                                refine lv_iconst (v := (-1)) G0.1 G0.2.1 dX12_odds_149 (by decide) ?_
                                refine lv_icmp_eq (tgt := 175) G0.1 G0.2.1 dX12_odds_150 (by decide) (fun c_420 => ?_) (fun c_420 => ?_)
                                · skip
                                  have tc_420 := ti_eq c_420
                                  refine lv_lload G0.1 G0.2.1 dX12_odds_175 (lv_at hl 1 rfl) ?_
                                  refine lv_l2i G0.1 G0.2.1 dX12_odds_177 rfl ?_
                                  refine lv_topi (fun x_421 ex_421 => ?_)
                                  exact py_iret G0 hr rfl hlk hw ⟨hWF, hKP, hFK⟩ dX12_odds_178
                                · skip
                                  have tc_420 := ti_ne c_420
                                  refine lv_lload G0.1 G0.2.1 dX12_odds_153 (lv_at hl 1 rfl) ?_
                                  refine lv_aload_n G0.1 G0.2.1 dX12_odds_155 rfl (lv_at hl 2 rfl) ?_
                                  obtain ⟨v_422, v_423, v_424, v_425, v_426, v_427, v_428, v_429, v_430, v_431, v_432, v_433, y_434, v_435, v_436, v_437, v_438, v_439, y_440, v_441, y_442, v_443, hr_456, b_444, b_445, b_446, b_447, b_448, b_449, b_450, b_451, b_452, b_453, b_454, b_455⟩ := wg_12 hWF Tu
                                  refine py_get (C := RX12) (T := TX12) (N := 54) (k := 45) (v := .ref (G.2 u 45)) G0 hw in_X12_odds_X12 rfl hr_456 (by decide) (by decide +kernel) rfl dX12_odds_156 ?_
                                  refine lv_iload_n G0.1 G0.2.1 dX12_odds_159 rfl (lv_at hl 5 rfl) ?_
                                  refine lv_iload G0.1 G0.2.1 dX12_odds_160 (lv_at hl 0 rfl) ?_
                                  refine py_calli hw (va_runS (As := [.int q, .int v_416]) (rest := [.ref (G.2 u 45), .long v_417]) G0 (c_X12_state l E G L_j99 f_j99 H_j141.size q v_416 hG hWF ⟨by omega, by omega⟩ ⟨by omega, by omega⟩) (va_cwS 2 G0.2.2.2.2 g_X12_odds_X12_state_425 rfl rfl rfl (by decide +kernel) ⟨(Nat.le_of_ble_eq_true rfl), (Nat.le_of_ble_eq_true rfl)⟩) (py_preS hw) rfl rfl hl.1 rfl (lv_room (Nat.le_of_ble_eq_true rfl)) dX12_odds_162 ⟨(Nat.le_of_ble_eq_true rfl), (Nat.le_of_ble_eq_true rfl)⟩) (fun r_461 L_457 f_458 H_459 locs hp_460 hw => ?_)
                                  obtain ⟨b_463, en_462, rfl, rfl⟩ := hp_460
                                  obtain ⟨g_464, ha_465⟩ := wf_j67 hWF (wt12_45 hG Tu)
                                  have rg_466 : vp_in r_461 168 := ti_in (by omega) (by omega)
                                  refine py_lald G0 hw ha_465 rg_466 dX12_odds_165 ?_
                                  refine lv_topl (fun y_467 ey_467 => ?_)
                                  refine lv_ladd G0.1 G0.2.1 dX12_odds_166 ?_
                                  refine lv_topl (fun y_468 ey_468 => ?_)
                                  refine lv_lstore (lv' := [(4, .long y_468), (6, .int v_416), (0, .ref u), (1, .int a), (2, .int b), (3, .int q)]) G0.1 G0.2.1 dX12_odds_167 hl (by decide) rfl (fun ls hl => ?_)
                                  obtain ⟨x_469, ex_469⟩ : ∃ y : Int32, y = v_416 + 1 := ⟨_, rfl⟩
                                  first | have tx_469 := ti_add ex_469 (by omega -splitDisjunctions) (by omega -splitDisjunctions) | skip
                                  refine lv_iinc (v := x_469) (lv' := [(6, .int x_469), (4, .long y_468), (0, .ref u), (1, .int a), (2, .int b), (3, .int q)]) G0.1 G0.2.1 dX12_odds_169 hl (k := 1) rfl (show _ + (1 : Int32) = _ from ex_469.symm) (by decide) rfl (fun ls hl => ?_)
                                  refine lv_goto (tgt := 141) G0.1 G0.2.1 dX12_odds_172 (by decide) ?_
                                  exact ih_141 ((2147483647 - x_469.toInt).toNat) (by omega) x_469 y_468 _ _ ls rfl ⟨by omega, by omega⟩ hw (lv_sub hl [0, 1, 2, 3, 4, 5] rfl)
                          exact lo_141 _ 1 0 _ _ ls rfl ⟨by omega, by omega⟩ hw (lv_sub hl [0, 1, 2, 3, 4, 5] rfl)
                        · skip
                          have tc_415 := ti_eq c_415
                          refine lv_aload_n G0.1 G0.2.1 dX12_odds_128 rfl (lv_at hl 1 rfl) ?_
                          obtain ⟨v_470, v_471, v_472, v_473, v_474, v_475, v_476, v_477, v_478, v_479, v_480, v_481, y_482, v_483, v_484, v_485, v_486, v_487, y_488, v_489, y_490, v_491, hr_504, b_492, b_493, b_494, b_495, b_496, b_497, b_498, b_499, b_500, b_501, b_502, b_503⟩ := wg_12 hWF Tu
                          refine py_get (C := RX12) (T := TX12) (N := 54) (k := 48) (v := .long y_488) G0 hw in_X12_odds_X12 rfl hr_504 (by decide) (by decide +kernel) rfl dX12_odds_129 ?_
                          refine lv_goto (tgt := 136) G0.1 G0.2.1 dX12_odds_132 (by decide) ?_
                          refine lv_lstore (lv' := [(4, .long y_488), (0, .ref u), (1, .int a), (2, .int b), (3, .int q)]) G0.1 G0.2.1 dX12_odds_136 hl (by decide) rfl (fun ls hl => ?_)
                          refine lv_iconst (v := 1) G0.1 G0.2.1 dX12_odds_138 (by decide) ?_
                          refine lv_istore (lv' := [(6, .int 1), (4, .long y_488), (0, .ref u), (1, .int a), (2, .int b), (3, .int q)]) G0.1 G0.2.1 dX12_odds_139 hl (by decide) rfl (fun ls hl => ?_)
                          have lo_141 : ∀ n_141 : Nat, ∀ (v_505 : Int32) (v_506 : Int64) (H_j141 : Heap) (locs : List Loc) (ls : Array Slot), (2147483647 - v_505.toInt).toNat = n_141 → (1 ≤ v_505.toInt ∧ v_505.toInt ≤ 2147483647) → py_W E (va_A (va_pl L f) s.heap.size) s L_j99 f_j99 H_j141 locs → lv_has ls 7 [(6, .int v_505), (4, .long v_506), (0, .ref u), (1, .int a), (2, .int b), (3, .int q)] → W p l e (headSpec w_X12_odds ({ frames := 8, cells := 0, slots := 0, locals := 207 })).room s m ([.ref u, .int a, .int b, .int q] : List Value).toArray below meth c H_j141 locs 0 0 (MQ below (py_Qi E L f s.heap.size (fun _ L1 f1 => WF E G L1 f1 ∧ KP G [67, 68, 69, 48, 49, 13] false f f1 ∧ FK [48] f f1 u)) ([.ref u, .int a, .int b, .int q] : List Value).toArray s 0 0 (va_A (va_pl L f) s.heap.size)) (F0 m 141 ls []) := by
                            intro n_141
                            induction n_141 using Nat.strongRecOn with
                            | _ n_141 ih_141 =>
                              intro v_505 v_506 H_j141 locs ls hn_141 bv_505 hw hl
                              refine lv_iload G0.1 G0.2.1 dX12_odds_141 (lv_at hl 0 rfl) ?_
                              refine lv_bipush (v := 20) G0.1 G0.2.1 dX12_odds_143 (by decide) ?_
                              refine lv_icmp_gt (tgt := 175) G0.1 G0.2.1 dX12_odds_145 (by decide) (fun c_507 => ?_) (fun c_507 => ?_)
                              · skip
                                have tc_507 := ti_lt c_507
                                refine lv_lload G0.1 G0.2.1 dX12_odds_175 (lv_at hl 1 rfl) ?_
                                refine lv_l2i G0.1 G0.2.1 dX12_odds_177 rfl ?_
                                refine lv_topi (fun x_508 ex_508 => ?_)
                                exact py_iret G0 hr rfl hlk hw ⟨hWF, hKP, hFK⟩ dX12_odds_178
                              · skip
                                have tc_507 := ti_nlt c_507
                                refine lv_iload_n G0.1 G0.2.1 dX12_odds_148 rfl (lv_at hl 5 rfl) ?_
                                refine lv_iconst (v := (-1)) G0.1 G0.2.1 dX12_odds_149 (by decide) ?_
                                refine lv_icmp_eq (tgt := 175) G0.1 G0.2.1 dX12_odds_150 (by decide) (fun c_509 => ?_) (fun c_509 => ?_)
                                · skip
                                  have tc_509 := ti_eq c_509
                                  refine lv_lload G0.1 G0.2.1 dX12_odds_175 (lv_at hl 1 rfl) ?_
                                  refine lv_l2i G0.1 G0.2.1 dX12_odds_177 rfl ?_
                                  refine lv_topi (fun x_510 ex_510 => ?_)
                                  exact py_iret G0 hr rfl hlk hw ⟨hWF, hKP, hFK⟩ dX12_odds_178
                                · skip
                                  have tc_509 := ti_ne c_509
                                  refine lv_lload G0.1 G0.2.1 dX12_odds_153 (lv_at hl 1 rfl) ?_
                                  refine lv_aload_n G0.1 G0.2.1 dX12_odds_155 rfl (lv_at hl 2 rfl) ?_
                                  refine py_get (C := RX12) (T := TX12) (N := 54) (k := 45) (v := .ref (G.2 u 45)) G0 hw in_X12_odds_X12 rfl hr_504 (by decide) (by decide +kernel) rfl dX12_odds_156 ?_
                                  refine lv_iload_n G0.1 G0.2.1 dX12_odds_159 rfl (lv_at hl 5 rfl) ?_
                                  refine lv_iload G0.1 G0.2.1 dX12_odds_160 (lv_at hl 0 rfl) ?_
                                  refine py_calli hw (va_runS (As := [.int q, .int v_505]) (rest := [.ref (G.2 u 45), .long v_506]) G0 (c_X12_state l E G L_j99 f_j99 H_j141.size q v_505 hG hWF ⟨by omega, by omega⟩ ⟨by omega, by omega⟩) (va_cwS 2 G0.2.2.2.2 g_X12_odds_X12_state_425 rfl rfl rfl (by decide +kernel) ⟨(Nat.le_of_ble_eq_true rfl), (Nat.le_of_ble_eq_true rfl)⟩) (py_preS hw) rfl rfl hl.1 rfl (lv_room (Nat.le_of_ble_eq_true rfl)) dX12_odds_162 ⟨(Nat.le_of_ble_eq_true rfl), (Nat.le_of_ble_eq_true rfl)⟩) (fun r_515 L_511 f_512 H_513 locs hp_514 hw => ?_)
                                  obtain ⟨b_517, en_516, rfl, rfl⟩ := hp_514
                                  obtain ⟨g_518, ha_519⟩ := wf_j67 hWF (wt12_45 hG Tu)
                                  have rg_520 : vp_in r_515 168 := ti_in (by omega) (by omega)
                                  refine py_lald G0 hw ha_519 rg_520 dX12_odds_165 ?_
                                  refine lv_topl (fun y_521 ey_521 => ?_)
                                  refine lv_ladd G0.1 G0.2.1 dX12_odds_166 ?_
                                  refine lv_topl (fun y_522 ey_522 => ?_)
                                  refine lv_lstore (lv' := [(4, .long y_522), (6, .int v_505), (0, .ref u), (1, .int a), (2, .int b), (3, .int q)]) G0.1 G0.2.1 dX12_odds_167 hl (by decide) rfl (fun ls hl => ?_)
                                  obtain ⟨x_523, ex_523⟩ : ∃ y : Int32, y = v_505 + 1 := ⟨_, rfl⟩
                                  first | have tx_523 := ti_add ex_523 (by omega -splitDisjunctions) (by omega -splitDisjunctions) | skip
                                  refine lv_iinc (v := x_523) (lv' := [(6, .int x_523), (4, .long y_522), (0, .ref u), (1, .int a), (2, .int b), (3, .int q)]) G0.1 G0.2.1 dX12_odds_169 hl (k := 1) rfl (show _ + (1 : Int32) = _ from ex_523.symm) (by decide) rfl (fun ls hl => ?_)
                                  refine lv_goto (tgt := 141) G0.1 G0.2.1 dX12_odds_172 (by decide) ?_
                                  exact ih_141 ((2147483647 - x_523.toInt).toNat) (by omega) x_523 y_522 _ _ ls rfl ⟨by omega, by omega⟩ hw (lv_sub hl [0, 1, 2, 3, 4, 5] rfl)
                          exact lo_141 _ 1 y_488 _ _ ls rfl ⟨by omega, by omega⟩ hw (lv_sub hl [0, 1, 2, 3, 4, 5] rfl)
                      · skip
                        have tc_414 := ti_nlt c_414
                        refine lv_aload_n G0.1 G0.2.1 dX12_odds_105 rfl (lv_at hl 1 rfl) ?_
                        refine lv_iload_n G0.1 G0.2.1 dX12_odds_106 rfl (lv_at hl 2 rfl) ?_
                        refine lv_aload_n G0.1 G0.2.1 dX12_odds_107 rfl (lv_at hl 1 rfl) ?_
                        obtain ⟨v_524, v_525, v_526, v_527, v_528, v_529, v_530, v_531, v_532, v_533, v_534, v_535, y_536, v_537, v_538, v_539, v_540, v_541, y_542, v_543, y_544, v_545, hr_558, b_546, b_547, b_548, b_549, b_550, b_551, b_552, b_553, b_554, b_555, b_556, b_557⟩ := wg_12 hWF Tu
                        refine py_get (C := RX12) (T := TX12) (N := 54) (k := 29) (v := .int v_535) G0 hw in_X12_odds_X12 rfl hr_558 (by decide) (by decide +kernel) rfl dX12_odds_108 ?_
                        refine lv_iload G0.1 G0.2.1 dX12_odds_111 (lv_at hl 0 rfl) ?_
                        refine lv_iadd G0.1 G0.2.1 dX12_odds_113 ?_
                        refine lv_topi (fun x_559 ex_559 => ?_)
                        first | have tx_559 := ti_add ex_559 (by omega -splitDisjunctions) (by omega -splitDisjunctions) | skip
                        refine py_callv hw (va_runV (As := [.int a, .int x_559]) (rest := []) G0 (c_X12_oneWinter l E G L_j99 f_j99 H_j99.size u a x_559 hG hWF Tu ⟨by omega, by omega⟩ hGM) (cwV 2 G0.2.2.2.2 g_X12_odds_X12_oneWinter_434 rfl rfl rfl (by decide +kernel) ⟨(Nat.le_of_ble_eq_true rfl), (Nat.le_of_ble_eq_true rfl)⟩) (py_preV hw (C := RX12) (T := TX12) (N := 54) rfl hr_558) rfl rfl hl.1 rfl (lv_room (Nat.le_of_ble_eq_true rfl)) dX12_odds_114 ⟨(Nat.le_of_ble_eq_true rfl), (Nat.le_of_ble_eq_true rfl)⟩) (fun L_560 f_561 H_562 locs hp_563 hw => ?_)
                        obtain ⟨hWF, kp_565, fk_566⟩ := hp_563
                        have hGM := hGM.kp hG Tu kp_565 fk_566 (LK.of (by decide)) (by decide)
                        have hFK := hFK.trans fk_566 (by decide)
                        have hKP := hKP.trans kp_565 (by decide) (by decide)
                        obtain ⟨v_567, hr_568⟩ := fk_48 hWF Tu fk_566 hr_558
                        obtain ⟨x_569, ex_569⟩ : ∃ y : Int32, y = v_413 + 1 := ⟨_, rfl⟩
                        first | have tx_569 := ti_add ex_569 (by omega -splitDisjunctions) (by omega -splitDisjunctions) | skip
                        refine lv_iinc (v := x_569) (lv' := [(4, .int x_569), (0, .ref u), (1, .int a), (2, .int b), (3, .int q)]) G0.1 G0.2.1 dX12_odds_117 hl (k := 0) rfl (show _ + (1 : Int32) = _ from ex_569.symm) (by decide) rfl (fun ls hl => ?_)
                        refine lv_goto (tgt := 99) G0.1 G0.2.1 dX12_odds_120 (by decide) ?_
                        exact ih_99 ((2147483647 - x_569.toInt).toNat) (by omega) x_569 L_560 f_561 _ _ ls rfl ⟨by omega, by omega⟩ hWF hKP hGM hFK hw (lv_sub hl [0, 1, 2, 3, 4] rfl)
                  exact lo_99 _ 1 L_j46 f_409 _ _ ls rfl ⟨by omega, by omega⟩ hWF hKP hGM hFK hw (lv_sub hl [0, 1, 2, 3, 4] rfl)
                · skip
                  have tc_343 := ti_nle c_343
                  refine lv_aload_n G0.1 G0.2.1 dX12_odds_54 rfl (lv_at hl 1 rfl) ?_
                  obtain ⟨v_570, v_571, v_572, v_573, v_574, v_575, v_576, v_577, v_578, v_579, v_580, v_581, y_582, v_583, v_584, v_585, v_586, v_587, y_588, v_589, y_590, v_591, hr_604, b_592, b_593, b_594, b_595, b_596, b_597, b_598, b_599, b_600, b_601, b_602, b_603⟩ := wg_12 hWF Tu
                  refine py_get (C := RX12) (T := TX12) (N := 54) (k := 45) (v := .ref (G.2 u 45)) G0 hw in_X12_odds_X12 rfl hr_604 (by decide) (by decide +kernel) rfl dX12_odds_55 ?_
                  refine lv_iload G0.1 G0.2.1 dX12_odds_58 (lv_at hl 0 rfl) ?_
                  refine lv_lconst (v := 0) G0.1 G0.2.1 dX12_odds_60 (by decide) ?_
                  obtain ⟨g_605, ha_606⟩ := wf_j67 hWF (wt12_45 hG Tu)
                  have rg_607 : vp_in v_342 168 := ti_in (by omega) (by omega)
                  refine py_last G0 hw ha_606 rg_607 dX12_odds_61 (fun f_608 H_609 locs h_610 x_611 hw => ?_)
                  have hGM := hGM.kps hG Tu (KP.refl.upd hWF x_611 (wt12_45 hG Tu) (Or.inl (by decide)) : KP G [67] false f_j46 f_608) (LK.of (by decide)) (by decide)
                  have hFK := hFK.same ((x_611 _ (hWF _ (by rw [Tu]; decide)).1 (wf_ne Tu (wt12_45 hG Tu) (by decide))).2)
                  have hKP := hKP.upd hWF x_611 (wt12_45 hG Tu) (Or.inl (by decide))
                  have hWF := wf_upd hWF h_610 x_611 (by rw [(wt12_45 hG Tu)]; exact ⟨_, rfl⟩)
                  have hr_604 := hr_604.ext x_611 (py_ne_arr hr_604 ha_606)
                  obtain ⟨x_612, ex_612⟩ : ∃ y : Int32, y = v_342 + 1 := ⟨_, rfl⟩
                  first | have tx_612 := ti_add ex_612 (by omega -splitDisjunctions) (by omega -splitDisjunctions) | skip
                  refine lv_iinc (v := x_612) (lv' := [(4, .int x_612), (0, .ref u), (1, .int a), (2, .int b), (3, .int q)]) G0.1 G0.2.1 dX12_odds_62 hl (k := 0) rfl (show _ + (1 : Int32) = _ from ex_612.symm) (by decide) rfl (fun ls hl => ?_)
                  refine lv_goto (tgt := 46) G0.1 G0.2.1 dX12_odds_65 (by decide) ?_
                  exact ih_46 ((2147483647 - x_612.toInt).toNat) (by omega) x_612 L_j46 f_608 _ _ ls rfl ⟨by omega, by omega⟩ hWF hKP hGM hFK hw (lv_sub hl [0, 1, 2, 3, 4] rfl)
            exact lo_46 _ 0 L f _ _ ls rfl ⟨by omega, by omega⟩ hWF hKP hGM hFK hw (lv_sub hl [0, 1, 2, 3, 4] rfl)
          · skip
            have tc_341 := ti_eq c_341
            clear en_339
            refine lv_ldcw (v := (-1000000)) G0.1 G0.2.1 G0.2.2.2.1 (G0.2.2.2.2 (Cond.constant RX12 350 (-1000000)) (by decide +kernel)) dX12_odds_39 ?_
            exact py_iret G0 hr rfl hlk hw ⟨hWF, hKP, hFK⟩ dX12_odds_42

def w_X12_mean : List Cond := .code yX12_mean cX12_mean 6 (some .long) :: ([Cond.methodLink RX12 451 yX12_odds, Cond.instanceMethod yX12_odds, Cond.selects RX12 yX12_odds yX12_odds, Cond.initialized RX12, Cond.constant RX12 350 (-1000000), Cond.constantLong RX12 209 (1000000), Cond.fieldLink RX12 101 "HeadYearModel" "parts" "[J", Cond.constantLong RX12 207 (-1000000)] ++ (u_ws RX12 TX12 54 ++ (w_X12_odds ++ ([]))))
theorem in_X12_mean_X12 : ∀ w ∈ u_ws RX12 TX12 54, w ∈ w_X12_mean := fun _ h => List.mem_cons_of_mem _ (List.mem_append_right _ (List.mem_append_left _ h))
theorem gg_X12_mean_X12_odds : GoodIn w_X12_mean w_X12_odds := goodIn_sub (fun _ h => List.mem_cons_of_mem _ (List.mem_append_right _ (List.mem_append_right _ (List.mem_append_left _ h)))) (by decide +kernel)
theorem g_X12_mean_X12_odds_451 : GoodIn w_X12_mean (wsV RX12 451 RX12 yX12_odds w_X12_odds) := goodIn_app (goodIn_of _ (by decide +kernel)) gg_X12_mean_X12_odds
set_option maxHeartbeats 4000000 in
set_option maxRecDepth 100000 in
theorem c_X12_mean (l : Launch) (E : py_E) (G : wf_G) (L : List Nat) (f : py_F) (sz : Nat) (u : Nat) (a : Int32) (b : Int32) (hG : GT G) (hWF : WF E G L f) (Tu : G.1 u = 13) (hq0 : GM f G u) : Met l yX12_mean w_X12_mean ({ frames := 9, cells := 0, slots := 0, locals := 233 }) (py_Pc E [.ref u, .int a, .int b] L f sz) (py_Ql E L f sz (fun _ L1 f1 => WF E G L1 f1 ∧ KP G [67, 68, 69, 48, 49, 13] false f f1 ∧ FK [48] f f1 u)) 0 0 (va_A (va_pl L f) sz) := by
  refine Met.ofW (cc := cX12_mean) (maxL := 6) (ret := (some .long)) (by decide) rfl ?_
  intro p e s m args below meth c s₁ B hml hv
  obtain ⟨rfl, rfl, hw⟩ := py_start hv
  have G0 : CallFix p m c cX12_mean 6 s _ w_X12_mean RX12 := ⟨B.exec, B.bytes, hml, findClass_of_methodNamed B.named, atoms_spec (ws := w_X12_mean) B.pre⟩
  have hr := B.returns
  have hlk := B.notSynchronized
  have kcm1000000 : (-1000000 : Int32).toInt = -1000000 := rfl
  have kcm1 : (-1 : Int32).toInt = -1 := rfl
  have kc0 : (0 : Int32).toInt = 0 := rfl
  have kc1 : (1 : Int32).toInt = 1 := rfl
  have kc21 : (21 : Int32).toInt = 21 := rfl
  have kc168 : (168 : Int32).toInt = 168 := rfl
  have hl := lv_entry ([.ref u, .int a, .int b]) (n := 6) (Nat.le_of_ble_eq_true rfl)
  rw [lg_entry_eq]
  generalize (lg_sl ([.ref u, .int a, .int b]) ++ List.replicate (6 - (lg_sl ([.ref u, .int a, .int b])).length) Slot.unset).toArray = ls at hl ⊢
  have hl : lv_has ls 6 [(0, .ref u), (1, .int a), (2, .int b)] := hl
  have hFK : FK [48] f f u := FK.refl
  have hKP : KP G [67, 68, 69, 48, 49, 13] false f f := KP.refl
  have hGM := hq0
  refine lv_aload_n G0.1 G0.2.1 dX12_mean_0 rfl (lv_at hl 0 rfl) ?_
  refine lv_iload_n G0.1 G0.2.1 dX12_mean_1 rfl (lv_at hl 1 rfl) ?_
  refine lv_iload_n G0.1 G0.2.1 dX12_mean_2 rfl (lv_at hl 2 rfl) ?_
  refine lv_iconst (v := (-1)) G0.1 G0.2.1 dX12_mean_3 (by decide) ?_
  obtain ⟨v_1, v_2, v_3, v_4, v_5, v_6, v_7, v_8, v_9, v_10, v_11, v_12, y_13, v_14, v_15, v_16, v_17, v_18, y_19, v_20, y_21, v_22, hr_35, b_23, b_24, b_25, b_26, b_27, b_28, b_29, b_30, b_31, b_32, b_33, b_34⟩ := wg_12 hWF Tu
  refine py_calli hw (va_runV (As := [.int a, .int b, .int (-1)]) (rest := []) G0 (c_X12_odds l E G L f s.heap.size u a b (-1) hG hWF Tu hGM) (cwV 3 G0.2.2.2.2 g_X12_mean_X12_odds_451 rfl rfl rfl (by decide +kernel) ⟨(Nat.le_of_ble_eq_true rfl), (Nat.le_of_ble_eq_true rfl)⟩) (py_preV hw (C := RX12) (T := TX12) (N := 54) rfl hr_35) rfl rfl hl.1 rfl (lv_room (Nat.le_of_ble_eq_true rfl)) dX12_mean_4 ⟨(Nat.le_of_ble_eq_true rfl), (Nat.le_of_ble_eq_true rfl)⟩) (fun r_40 L_36 f_37 H_38 locs hp_39 hw => ?_)
  obtain ⟨hWF, kp_41, fk_42⟩ := hp_39
  have hGM := hGM.kp hG Tu kp_41 fk_42 (LK.of (by decide)) (by decide)
  have hFK := hFK.trans fk_42 (by decide)
  have hKP := hKP.trans kp_41 (by decide) (by decide)
  obtain ⟨v_43, hr_44⟩ := fk_48 hWF Tu fk_42 hr_35
  have br_40 := wf_free r_40
  refine lv_ldcw (v := (-1000000)) G0.1 G0.2.1 G0.2.2.2.1 (G0.2.2.2.2 (Cond.constant RX12 350 (-1000000)) (by decide +kernel)) dX12_mean_7 ?_
  refine lv_icmp_ne (tgt := 17) G0.1 G0.2.1 dX12_mean_10 (by decide) (fun c_45 => ?_) (fun c_45 => ?_)
  · skip
    have tc_45 := ti_ne c_45
    refine lv_lconst (v := 0) G0.1 G0.2.1 dX12_mean_17 (by decide) ?_
    refine lv_lstore_n (lv' := [(3, .long 0), (0, .ref u), (1, .int a), (2, .int b)]) G0.1 G0.2.1 dX12_mean_18 rfl hl (by decide) rfl (fun ls hl => ?_)
    refine lv_iconst (v := 0) G0.1 G0.2.1 dX12_mean_19 (by decide) ?_
    refine lv_istore (lv' := [(5, .int 0), (3, .long 0), (0, .ref u), (1, .int a), (2, .int b)]) G0.1 G0.2.1 dX12_mean_20 hl (by decide) rfl (fun ls hl => ?_)
    have lo_22 : ∀ n_22 : Nat, ∀ (v_46 : Int32) (v_47 : Int64) (H_j22 : Heap) (locs : List Loc) (ls : Array Slot), (2147483647 - v_46.toInt).toNat = n_22 → (0 ≤ v_46.toInt ∧ v_46.toInt ≤ 2147483647) → py_W E (va_A (va_pl L f) s.heap.size) s L_36 f_37 H_j22 locs → lv_has ls 6 [(5, .int v_46), (3, .long v_47), (0, .ref u), (1, .int a), (2, .int b)] → W p l e (headSpec w_X12_mean ({ frames := 9, cells := 0, slots := 0, locals := 233 })).room s m ([.ref u, .int a, .int b] : List Value).toArray below meth c H_j22 locs 0 0 (MQ below (py_Ql E L f s.heap.size (fun _ L1 f1 => WF E G L1 f1 ∧ KP G [67, 68, 69, 48, 49, 13] false f f1 ∧ FK [48] f f1 u)) ([.ref u, .int a, .int b] : List Value).toArray s 0 0 (va_A (va_pl L f) s.heap.size)) (F0 m 22 ls []) := by
      intro n_22
      induction n_22 using Nat.strongRecOn with
      | _ n_22 ih_22 =>
        intro v_46 v_47 H_j22 locs ls hn_22 bv_46 hw hl
        refine lv_iload G0.1 G0.2.1 dX12_mean_22 (lv_at hl 0 rfl) ?_
        refine lv_sipush (v := 168) G0.1 G0.2.1 dX12_mean_24 (by decide) ?_
        refine lv_icmp_ge (tgt := 53) G0.1 G0.2.1 dX12_mean_27 (by decide) (fun c_48 => ?_) (fun c_48 => ?_)
        · skip
          have tc_48 := ti_le c_48
          refine lv_lload_n G0.1 G0.2.1 dX12_mean_53 rfl (lv_at hl 1 rfl) ?_
          refine lv_ldc2 (v := 1000000) G0.1 G0.2.1 G0.2.2.2.1 (G0.2.2.2.2 (Cond.constantLong RX12 209 (1000000)) (by decide +kernel)) dX12_mean_54 ?_
          refine lv_ldiv G0.1 G0.2.1 dX12_mean_57 (by decide) ?_
          refine lv_topl (fun y_49 ey_49 => ?_)
          exact py_lret G0 hr hlk hw ⟨hWF, hKP, hFK⟩ dX12_mean_58
        · skip
          have tc_48 := ti_nle c_48
          refine lv_lload_n G0.1 G0.2.1 dX12_mean_30 rfl (lv_at hl 1 rfl) ?_
          refine lv_aload_n G0.1 G0.2.1 dX12_mean_31 rfl (lv_at hl 2 rfl) ?_
          refine py_get (C := RX12) (T := TX12) (N := 54) (k := 45) (v := .ref (G.2 u 45)) G0 hw in_X12_mean_X12 rfl hr_44 (by decide) (by decide +kernel) rfl dX12_mean_32 ?_
          refine lv_iload G0.1 G0.2.1 dX12_mean_35 (lv_at hl 0 rfl) ?_
          obtain ⟨g_50, ha_51⟩ := wf_j67 hWF (wt12_45 hG Tu)
          have rg_52 : vp_in v_46 168 := ti_in (by omega) (by omega)
          refine py_lald G0 hw ha_51 rg_52 dX12_mean_37 ?_
          refine lv_topl (fun y_53 ey_53 => ?_)
          refine lv_iload G0.1 G0.2.1 dX12_mean_38 (lv_at hl 0 rfl) ?_
          refine lv_bipush (v := 21) G0.1 G0.2.1 dX12_mean_40 (by decide) ?_
          refine lv_irem G0.1 G0.2.1 dX12_mean_42 (by decide) ?_
          refine lv_topi (fun x_54 ex_54 => ?_)
          refine lv_i2l (v := x_54.toInt64) G0.1 G0.2.1 dX12_mean_43 rfl ?_
          refine lv_lmul G0.1 G0.2.1 dX12_mean_44 ?_
          refine lv_topl (fun y_55 ey_55 => ?_)
          refine lv_ladd G0.1 G0.2.1 dX12_mean_45 ?_
          refine lv_topl (fun y_56 ey_56 => ?_)
          refine lv_lstore_n (lv' := [(3, .long y_56), (5, .int v_46), (0, .ref u), (1, .int a), (2, .int b)]) G0.1 G0.2.1 dX12_mean_46 rfl hl (by decide) rfl (fun ls hl => ?_)
          obtain ⟨x_57, ex_57⟩ : ∃ y : Int32, y = v_46 + 1 := ⟨_, rfl⟩
          first | have tx_57 := ti_add ex_57 (by omega -splitDisjunctions) (by omega -splitDisjunctions) | skip
          refine lv_iinc (v := x_57) (lv' := [(5, .int x_57), (3, .long y_56), (0, .ref u), (1, .int a), (2, .int b)]) G0.1 G0.2.1 dX12_mean_47 hl (k := 1) rfl (show _ + (1 : Int32) = _ from ex_57.symm) (by decide) rfl (fun ls hl => ?_)
          refine lv_goto (tgt := 22) G0.1 G0.2.1 dX12_mean_50 (by decide) ?_
          exact ih_22 ((2147483647 - x_57.toInt).toNat) (by omega) x_57 y_56 _ _ ls rfl ⟨by omega, by omega⟩ hw (lv_sub hl [0, 1, 2, 3, 4] rfl)
    exact lo_22 _ 0 0 _ _ ls rfl ⟨by omega, by omega⟩ hw (lv_sub hl [0, 1, 2, 3, 4] rfl)
  · skip
    have tc_45 := ti_eq c_45
    refine lv_ldc2 (v := (-1000000)) G0.1 G0.2.1 G0.2.2.2.1 (G0.2.2.2.2 (Cond.constantLong RX12 207 (-1000000)) (by decide +kernel)) dX12_mean_13 ?_
    exact py_lret G0 hr hlk hw ⟨hWF, hKP, hFK⟩ dX12_mean_16

def w_X12_triedBy : List Cond := .code yX12_triedBy cX12_triedBy 10 (some .int) :: ([Cond.fieldLink RX12 55 "HeadYearModel" "now" "[I", Cond.fieldLink RX12 58 "HeadYearModel" "aside" "[I", Cond.methodLink RX12 437 yX12_copy, Cond.static yX12_copy, Cond.initialized RX12, Cond.fieldLink RX12 357 "HeadYearModel" "draws" "J", Cond.methodLink RX12 414 yX12_waiters, Cond.instanceMethod yX12_waiters, Cond.selects RX12 yX12_waiters yX12_waiters, Cond.methodLink RX12 391 yJ6_bitCount_0f7a4, Cond.static yJ6_bitCount_0f7a4, Cond.initialized RJ6, Cond.fieldLink RX12 290 "HeadYearModel" "families" "I", Cond.methodLink RX12 341 yX12_isGone, Cond.instanceMethod yX12_isGone, Cond.selects RX12 yX12_isGone yX12_isGone, Cond.methodLink RX12 408 yX12_headsOfAll, Cond.instanceMethod yX12_headsOfAll, Cond.selects RX12 yX12_headsOfAll yX12_headsOfAll, Cond.fieldLink RX12 309 "HeadYearModel" "years" "I", Cond.methodLink RX12 405 yX12_winter, Cond.instanceMethod yX12_winter, Cond.selects RX12 yX12_winter yX12_winter] ++ (u_ws RX12 TX12 54 ++ (w_X12_copy ++ (w_X12_waiters ++ (w_J6_bitCount_0f7a4 ++ (w_X12_isGone ++ (w_X12_headsOfAll ++ (w_X12_winter ++ ([])))))))))
theorem in_X12_triedBy_X12 : ∀ w ∈ u_ws RX12 TX12 54, w ∈ w_X12_triedBy := fun _ h => List.mem_cons_of_mem _ (List.mem_append_right _ (List.mem_append_left _ h))
theorem gg_X12_triedBy_X12_copy : GoodIn w_X12_triedBy w_X12_copy := goodIn_sub (fun _ h => List.mem_cons_of_mem _ (List.mem_append_right _ (List.mem_append_right _ (List.mem_append_left _ h)))) (by decide +kernel)
theorem gg_X12_triedBy_X12_waiters : GoodIn w_X12_triedBy w_X12_waiters := goodIn_sub (fun _ h => List.mem_cons_of_mem _ (List.mem_append_right _ (List.mem_append_right _ (List.mem_append_right _ (List.mem_append_left _ h))))) (by decide +kernel)
theorem gg_X12_triedBy_J6_bitCount_0f7a4 : GoodIn w_X12_triedBy w_J6_bitCount_0f7a4 := goodIn_sub (fun _ h => List.mem_cons_of_mem _ (List.mem_append_right _ (List.mem_append_right _ (List.mem_append_right _ (List.mem_append_right _ (List.mem_append_left _ h)))))) (by decide +kernel)
theorem gg_X12_triedBy_X12_isGone : GoodIn w_X12_triedBy w_X12_isGone := goodIn_sub (fun _ h => List.mem_cons_of_mem _ (List.mem_append_right _ (List.mem_append_right _ (List.mem_append_right _ (List.mem_append_right _ (List.mem_append_right _ (List.mem_append_left _ h))))))) (by decide +kernel)
theorem gg_X12_triedBy_X12_headsOfAll : GoodIn w_X12_triedBy w_X12_headsOfAll := goodIn_sub (fun _ h => List.mem_cons_of_mem _ (List.mem_append_right _ (List.mem_append_right _ (List.mem_append_right _ (List.mem_append_right _ (List.mem_append_right _ (List.mem_append_right _ (List.mem_append_left _ h)))))))) (by decide +kernel)
theorem gg_X12_triedBy_X12_winter : GoodIn w_X12_triedBy w_X12_winter := goodIn_sub (fun _ h => List.mem_cons_of_mem _ (List.mem_append_right _ (List.mem_append_right _ (List.mem_append_right _ (List.mem_append_right _ (List.mem_append_right _ (List.mem_append_right _ (List.mem_append_right _ (List.mem_append_left _ h))))))))) (by decide +kernel)
theorem g_X12_triedBy_J6_bitCount_0f7a4_391 : GoodIn w_X12_triedBy (va_wsS RX12 391 yJ6_bitCount_0f7a4 w_J6_bitCount_0f7a4) := goodIn_app (goodIn_of _ (by decide +kernel)) gg_X12_triedBy_J6_bitCount_0f7a4
theorem g_X12_triedBy_X12_copy_437 : GoodIn w_X12_triedBy (va_wsS RX12 437 yX12_copy w_X12_copy) := goodIn_app (goodIn_of _ (by decide +kernel)) gg_X12_triedBy_X12_copy
theorem g_X12_triedBy_X12_headsOfAll_408 : GoodIn w_X12_triedBy (wsV RX12 408 RX12 yX12_headsOfAll w_X12_headsOfAll) := goodIn_app (goodIn_of _ (by decide +kernel)) gg_X12_triedBy_X12_headsOfAll
theorem g_X12_triedBy_X12_isGone_341 : GoodIn w_X12_triedBy (wsV RX12 341 RX12 yX12_isGone w_X12_isGone) := goodIn_app (goodIn_of _ (by decide +kernel)) gg_X12_triedBy_X12_isGone
theorem g_X12_triedBy_X12_waiters_414 : GoodIn w_X12_triedBy (wsV RX12 414 RX12 yX12_waiters w_X12_waiters) := goodIn_app (goodIn_of _ (by decide +kernel)) gg_X12_triedBy_X12_waiters
theorem g_X12_triedBy_X12_winter_405 : GoodIn w_X12_triedBy (wsV RX12 405 RX12 yX12_winter w_X12_winter) := goodIn_app (goodIn_of _ (by decide +kernel)) gg_X12_triedBy_X12_winter
set_option maxHeartbeats 4000000 in
set_option maxRecDepth 100000 in
theorem c_X12_triedBy (l : Launch) (E : py_E) (G : wf_G) (L : List Nat) (f : py_F) (sz : Nat) (u : Nat) (a : Int32) (b : Int32) (q : Int32) (d : Int32) (hG : GT G) (hWF : WF E G L f) (Tu : G.1 u = 13) (Ba : ((-1) ≤ a.toInt ∧ a.toInt ≤ 3)) (Bb : (1 ≤ b.toInt ∧ b.toInt ≤ 20)) (Bq : (1 ≤ q.toInt ∧ q.toInt ≤ 10)) (hq0 : a.toInt ≠ -1 → LV f G u a.toInt) : Met l yX12_triedBy w_X12_triedBy ({ frames := 9, cells := 0, slots := 0, locals := 203 }) (py_Pc E [.ref u, .int a, .int b, .int q, .int d] L f sz) (py_Qi E L f sz (fun _ L1 f1 => WF E G L1 f1 ∧ KP G [56, 55, 58, 48, 49, 59, 60, 13] false f f1 ∧ FK [30] f f1 u)) 0 0 (va_A (va_pl L f) sz) := by
  refine Met.ofW (cc := cX12_triedBy) (maxL := 10) (ret := (some .int)) (by decide) rfl ?_
  intro p e s m args below meth c s₁ B hml hv
  obtain ⟨rfl, rfl, hw⟩ := py_start hv
  have G0 : CallFix p m c cX12_triedBy 10 s _ w_X12_triedBy RX12 := ⟨B.exec, B.bytes, hml, findClass_of_methodNamed B.named, atoms_spec (ws := w_X12_triedBy) B.pre⟩
  have hr := B.returns
  have hlk := B.notSynchronized
  have kcm1 : (-1 : Int32).toInt = -1 := rfl
  have kc0 : (0 : Int32).toInt = 0 := rfl
  have kc1 : (1 : Int32).toInt = 1 := rfl
  have hl := lv_entry ([.ref u, .int a, .int b, .int q, .int d]) (n := 10) (Nat.le_of_ble_eq_true rfl)
  rw [lg_entry_eq]
  generalize (lg_sl ([.ref u, .int a, .int b, .int q, .int d]) ++ List.replicate (10 - (lg_sl ([.ref u, .int a, .int b, .int q, .int d])).length) Slot.unset).toArray = ls at hl ⊢
  have hl : lv_has ls 10 [(0, .ref u), (1, .int a), (2, .int b), (3, .int q), (4, .int d)] := hl
  have hFK : FK [30] f f u := FK.refl
  have hKP : KP G [56, 55, 58, 48, 49, 59, 60, 13] false f f := KP.refl
  have hLW := hq0
  refine lv_aload_n G0.1 G0.2.1 dX12_triedBy_0 rfl (lv_at hl 0 rfl) ?_
  obtain ⟨v_1, v_2, v_3, v_4, v_5, v_6, v_7, v_8, v_9, v_10, v_11, v_12, y_13, v_14, v_15, v_16, v_17, v_18, y_19, v_20, y_21, v_22, hr_35, b_23, b_24, b_25, b_26, b_27, b_28, b_29, b_30, b_31, b_32, b_33, b_34⟩ := wg_12 hWF Tu
  refine py_get (C := RX12) (T := TX12) (N := 54) (k := 26) (v := .ref (G.2 u 26)) G0 hw in_X12_triedBy_X12 rfl hr_35 (by decide) (by decide +kernel) rfl dX12_triedBy_1 ?_
  refine lv_aload_n G0.1 G0.2.1 dX12_triedBy_4 rfl (lv_at hl 0 rfl) ?_
  refine py_get (C := RX12) (T := TX12) (N := 54) (k := 27) (v := .ref (G.2 u 27)) G0 hw in_X12_triedBy_X12 rfl hr_35 (by decide) (by decide +kernel) rfl dX12_triedBy_5 ?_
  refine py_callv hw (va_runS (As := [.ref (G.2 u 26), .ref (G.2 u 27)]) (rest := []) G0 (c_X12_copy55_56 l E G L f s.heap.size (G.2 u 26) (G.2 u 27) hG hWF (wt12_26 hG Tu) (wt12_27 hG Tu)) (va_cwS 2 G0.2.2.2.2 g_X12_triedBy_X12_copy_437 rfl rfl rfl (by decide +kernel) ⟨(Nat.le_of_ble_eq_true rfl), (Nat.le_of_ble_eq_true rfl)⟩) (py_preS hw) rfl rfl hl.1 rfl (lv_room (Nat.le_of_ble_eq_true rfl)) dX12_triedBy_8 ⟨(Nat.le_of_ble_eq_true rfl), (Nat.le_of_ble_eq_true rfl)⟩) (fun L_36 f_37 H_38 locs hp_39 hw => ?_)
  obtain ⟨hWF, kp_41⟩ := hp_39
  have hLW := fun hy => (hLW hy).kp hG Tu kp_41 (LK.of (by decide))
  have hFK := hFK.same (kp_f kp_41 Tu (by decide) (by decide) (fun _ => by decide))
  have hKP := hKP.trans kp_41 (by decide) (by decide)
  have hr_35 := kp_at kp_41 hWF Tu (by decide) (by decide) (by decide) hr_35
  refine lv_aload_n G0.1 G0.2.1 dX12_triedBy_11 rfl (lv_at hl 0 rfl) ?_
  refine py_get (C := RX12) (T := TX12) (N := 54) (k := 30) (v := .long y_13) G0 hw in_X12_triedBy_X12 rfl hr_35 (by decide) (by decide +kernel) rfl dX12_triedBy_12 ?_
  refine lv_lstore (lv' := [(5, .long y_13), (0, .ref u), (1, .int a), (2, .int b), (3, .int q), (4, .int d)]) G0.1 G0.2.1 dX12_triedBy_15 hl (by decide) rfl (fun ls hl => ?_)
  refine lv_iconst (v := 0) G0.1 G0.2.1 dX12_triedBy_17 (by decide) ?_
  refine lv_istore (lv' := [(7, .int 0), (5, .long y_13), (0, .ref u), (1, .int a), (2, .int b), (3, .int q), (4, .int d)]) G0.1 G0.2.1 dX12_triedBy_18 hl (by decide) rfl (fun ls hl => ?_)
  refine lv_iconst (v := 0) G0.1 G0.2.1 dX12_triedBy_20 (by decide) ?_
  refine lv_istore (lv' := [(8, .int 0), (7, .int 0), (5, .long y_13), (0, .ref u), (1, .int a), (2, .int b), (3, .int q), (4, .int d)]) G0.1 G0.2.1 dX12_triedBy_21 hl (by decide) rfl (fun ls hl => ?_)
  have lo_23 : ∀ n_23 : Nat, ∀ (v_42 : Int32) (v_43 : Int32) (L_j23 : List Nat) (f_j23 : py_F) (H_j23 : Heap) (locs : List Loc) (ls : Array Slot), (2147483647 - v_42.toInt).toNat = n_23 → (0 ≤ v_42.toInt ∧ v_42.toInt ≤ 2147483647) → WF E G L_j23 f_j23 → KP G [56, 55, 58, 48, 49, 59, 60, 13] false f f_j23 → (a.toInt ≠ -1 → LV f_j23 G u a.toInt) → FK [30] f f_j23 u → py_W E (va_A (va_pl L f) s.heap.size) s L_j23 f_j23 H_j23 locs → lv_has ls 10 [(8, .int v_42), (7, .int v_43), (5, .long y_13), (0, .ref u), (1, .int a), (2, .int b), (3, .int q), (4, .int d)] → W p l e (headSpec w_X12_triedBy ({ frames := 9, cells := 0, slots := 0, locals := 203 })).room s m ([.ref u, .int a, .int b, .int q, .int d] : List Value).toArray below meth c H_j23 locs 0 0 (MQ below (py_Qi E L f s.heap.size (fun _ L1 f1 => WF E G L1 f1 ∧ KP G [56, 55, 58, 48, 49, 59, 60, 13] false f f1 ∧ FK [30] f f1 u)) ([.ref u, .int a, .int b, .int q, .int d] : List Value).toArray s 0 0 (va_A (va_pl L f) s.heap.size)) (F0 m 23 ls []) := by
    intro n_23
    induction n_23 using Nat.strongRecOn with
    | _ n_23 ih_23 =>
      intro v_42 v_43 L_j23 f_j23 H_j23 locs ls hn_23 bv_42 hWF hKP hLW hFK hw hl
      refine lv_iload G0.1 G0.2.1 dX12_triedBy_23 (lv_at hl 0 rfl) ?_
      refine lv_iload_n G0.1 G0.2.1 dX12_triedBy_25 rfl (lv_at hl 6 rfl) ?_
      refine lv_icmp_ge (tgt := 155) G0.1 G0.2.1 dX12_triedBy_26 (by decide) (fun c_44 => ?_) (fun c_44 => ?_)
      · skip
        have tc_44 := ti_le c_44
        refine lv_aload_n G0.1 G0.2.1 dX12_triedBy_155 rfl (lv_at hl 3 rfl) ?_
        refine lv_lload G0.1 G0.2.1 dX12_triedBy_156 (lv_at hl 2 rfl) ?_
        obtain ⟨v_45, v_46, v_47, v_48, v_49, v_50, v_51, v_52, v_53, v_54, v_55, v_56, y_57, v_58, v_59, v_60, v_61, v_62, y_63, v_64, y_65, v_66, hr_79, b_67, b_68, b_69, b_70, b_71, b_72, b_73, b_74, b_75, b_76, b_77, b_78⟩ := wg_12 hWF Tu
        refine py_put (C := RX12) (T := TX12) (N := 54) (k := 30) (v := .long y_13) (fs' := [.int v_45, .ref (G.2 u 1), .int v_46, .int v_47, .int v_48, .int v_49, .ref (G.2 u 6), .ref (G.2 u 7), .ref (G.2 u 8), .ref (G.2 u 9), .ref (G.2 u 10), .ref (G.2 u 11), .ref (G.2 u 12), .int v_50, .int v_51, .ref (G.2 u 15), .ref (G.2 u 16), .ref (G.2 u 17), .ref (G.2 u 18), .int v_52, .int v_53, .ref (G.2 u 21), .ref (G.2 u 22), .ref (G.2 u 23), .int v_54, .int v_55, .ref (G.2 u 26), .ref (G.2 u 27), .ref (G.2 u 28), .int v_56, .long y_13, .int v_58, .int v_59, .int v_60, .int v_61, .ref (G.2 u 35), .ref (G.2 u 36), .ref (G.2 u 37), .ref (G.2 u 38), .ref (G.2 u 39), .ref (G.2 u 40), .ref (G.2 u 41), .ref (G.2 u 42), .int v_62, .ref (G.2 u 44), .ref (G.2 u 45), .ref (G.2 u 46), .ref (G.2 u 47), .long y_63, .ref (G.2 u 49), .ref (G.2 u 50), .int v_64, .long y_65, .int v_66]) (ty0 := tyX12) G0 hw tyX12_ok nmX12 in_X12_triedBy_X12 rfl hr_79 (by decide) (by decide +kernel) rfl rfl rfl rfl (Nat.le_of_ble_eq_true rfl) rfl dX12_triedBy_158 (fun f_80 H_81 locs h_82 x_83 hw => ?_)
        have hLW := fun hy => (hLW hy).kp hG Tu (KP.refl.upd hWF x_83 Tu (Or.inl (by decide)) : KP G [13] false f_j23 f_80) (LK.of (by decide))
        have hFK := hFK.put hr_79 h_82 30 (by decide) rfl
        have hKP := hKP.upd hWF x_83 Tu (Or.inl (by decide))
        have hWF := wf_upd hWF h_82 x_83 (by rw [Tu]; exact ⟨v_45, v_46, v_47, v_48, v_49, v_50, v_51, v_52, v_53, v_54, v_55, v_56, y_13, v_58, v_59, v_60, v_61, v_62, y_63, v_64, y_65, v_66, rfl, ⟨by omega, by omega⟩, ⟨by omega, by omega⟩, ⟨by omega, by omega⟩, ⟨by omega, by omega⟩, ⟨by omega, by omega⟩, ⟨by omega, by omega⟩, ⟨by omega, by omega⟩, ⟨by omega, by omega⟩, ⟨by omega, by omega⟩, ⟨by omega, by omega⟩, ⟨by omega, by omega⟩, ⟨by omega, by omega⟩⟩)
        refine lv_iload G0.1 G0.2.1 dX12_triedBy_161 (lv_at hl 1 rfl) ?_
        exact py_iret G0 hr rfl hlk hw ⟨hWF, hKP, hFK⟩ dX12_triedBy_163
      · skip
        have tc_44 := ti_nle c_44
        refine lv_aload_n G0.1 G0.2.1 dX12_triedBy_29 rfl (lv_at hl 3 rfl) ?_
        refine lv_iload G0.1 G0.2.1 dX12_triedBy_30 (lv_at hl 0 rfl) ?_
        refine lv_i2l (v := v_42.toInt64) G0.1 G0.2.1 dX12_triedBy_32 rfl ?_
        obtain ⟨v_84, v_85, v_86, v_87, v_88, v_89, v_90, v_91, v_92, v_93, v_94, v_95, y_96, v_97, v_98, v_99, v_100, v_101, y_102, v_103, y_104, v_105, hr_118, b_106, b_107, b_108, b_109, b_110, b_111, b_112, b_113, b_114, b_115, b_116, b_117⟩ := wg_12 hWF Tu
        refine py_put (C := RX12) (T := TX12) (N := 54) (k := 30) (v := .long (v_42.toInt64)) (fs' := [.int v_84, .ref (G.2 u 1), .int v_85, .int v_86, .int v_87, .int v_88, .ref (G.2 u 6), .ref (G.2 u 7), .ref (G.2 u 8), .ref (G.2 u 9), .ref (G.2 u 10), .ref (G.2 u 11), .ref (G.2 u 12), .int v_89, .int v_90, .ref (G.2 u 15), .ref (G.2 u 16), .ref (G.2 u 17), .ref (G.2 u 18), .int v_91, .int v_92, .ref (G.2 u 21), .ref (G.2 u 22), .ref (G.2 u 23), .int v_93, .int v_94, .ref (G.2 u 26), .ref (G.2 u 27), .ref (G.2 u 28), .int v_95, .long (v_42.toInt64), .int v_97, .int v_98, .int v_99, .int v_100, .ref (G.2 u 35), .ref (G.2 u 36), .ref (G.2 u 37), .ref (G.2 u 38), .ref (G.2 u 39), .ref (G.2 u 40), .ref (G.2 u 41), .ref (G.2 u 42), .int v_101, .ref (G.2 u 44), .ref (G.2 u 45), .ref (G.2 u 46), .ref (G.2 u 47), .long y_102, .ref (G.2 u 49), .ref (G.2 u 50), .int v_103, .long y_104, .int v_105]) (ty0 := tyX12) G0 hw tyX12_ok nmX12 in_X12_triedBy_X12 rfl hr_118 (by decide) (by decide +kernel) rfl rfl rfl rfl (Nat.le_of_ble_eq_true rfl) rfl dX12_triedBy_33 (fun f_119 H_120 locs h_121 x_122 hw => ?_)
        have hLW := fun hy => (hLW hy).kp hG Tu (KP.refl.upd hWF x_122 Tu (Or.inl (by decide)) : KP G [13] false f_j23 f_119) (LK.of (by decide))
        have hFK := hFK.put hr_118 h_121 30 (by decide) rfl
        have hKP := hKP.upd hWF x_122 Tu (Or.inl (by decide))
        have hWF := wf_upd hWF h_121 x_122 (by rw [Tu]; exact ⟨v_84, v_85, v_86, v_87, v_88, v_89, v_90, v_91, v_92, v_93, v_94, v_95, (v_42.toInt64), v_97, v_98, v_99, v_100, v_101, y_102, v_103, y_104, v_105, rfl, ⟨by omega, by omega⟩, ⟨by omega, by omega⟩, ⟨by omega, by omega⟩, ⟨by omega, by omega⟩, ⟨by omega, by omega⟩, ⟨by omega, by omega⟩, ⟨by omega, by omega⟩, ⟨by omega, by omega⟩, ⟨by omega, by omega⟩, ⟨by omega, by omega⟩, ⟨by omega, by omega⟩, ⟨by omega, by omega⟩⟩)
        refine lv_iconst (v := 1) G0.1 G0.2.1 dX12_triedBy_36 (by decide) ?_
        refine lv_istore (lv' := [(9, .int 1), (8, .int v_42), (7, .int v_43), (5, .long y_13), (0, .ref u), (1, .int a), (2, .int b), (3, .int q), (4, .int d)]) G0.1 G0.2.1 dX12_triedBy_37 hl (by decide) rfl (fun ls hl => ?_)
        have lo_39 : ∀ n_39 : Nat, ∀ (v_123 : Int32) (L_j39 : List Nat) (f_j39 : py_F) (H_j39 : Heap) (locs : List Loc) (ls : Array Slot), (2147483647 - v_123.toInt).toNat = n_39 → (1 ≤ v_123.toInt ∧ v_123.toInt ≤ 2147483647) → WF E G L_j39 f_j39 → KP G [56, 55, 58, 48, 49, 59, 60, 13] false f f_j39 → (a.toInt ≠ -1 → LV f_j39 G u a.toInt) → FK [30] f f_j39 u → py_W E (va_A (va_pl L f) s.heap.size) s L_j39 f_j39 H_j39 locs → lv_has ls 10 [(9, .int v_123), (8, .int v_42), (7, .int v_43), (5, .long y_13), (0, .ref u), (1, .int a), (2, .int b), (3, .int q), (4, .int d)] → W p l e (headSpec w_X12_triedBy ({ frames := 9, cells := 0, slots := 0, locals := 203 })).room s m ([.ref u, .int a, .int b, .int q, .int d] : List Value).toArray below meth c H_j39 locs 0 0 (MQ below (py_Qi E L f s.heap.size (fun _ L1 f1 => WF E G L1 f1 ∧ KP G [56, 55, 58, 48, 49, 59, 60, 13] false f f1 ∧ FK [30] f f1 u)) ([.ref u, .int a, .int b, .int q, .int d] : List Value).toArray s 0 0 (va_A (va_pl L f) s.heap.size)) (F0 m 39 ls []) := by
          intro n_39
          induction n_39 using Nat.strongRecOn with
          | _ n_39 ih_39 =>
            intro v_123 L_j39 f_j39 H_j39 locs ls hn_39 bv_123 hWF hKP hLW hFK hw hl
            refine lv_iload G0.1 G0.2.1 dX12_triedBy_39 (lv_at hl 0 rfl) ?_
            refine lv_iload_n G0.1 G0.2.1 dX12_triedBy_41 rfl (lv_at hl 6 rfl) ?_
            refine lv_icmp_gt (tgt := 63) G0.1 G0.2.1 dX12_triedBy_42 (by decide) (fun c_124 => ?_) (fun c_124 => ?_)
            · skip
              have tc_124 := ti_lt c_124
              refine lv_iload G0.1 G0.2.1 dX12_triedBy_63 (lv_at hl 8 rfl) ?_
              refine lv_if_ne (tgt := 80) G0.1 G0.2.1 dX12_triedBy_65 (by decide) (fun c_125 => ?_) (fun c_125 => ?_)
              · skip
                have tc_125 := ti_ne c_125
                refine lv_iload G0.1 G0.2.1 dX12_triedBy_80 (lv_at hl 8 rfl) ?_
                refine lv_iconst (v := 1) G0.1 G0.2.1 dX12_triedBy_82 (by decide) ?_
                refine lv_icmp_ne (tgt := 126) G0.1 G0.2.1 dX12_triedBy_83 (by decide) (fun c_126 => ?_) (fun c_126 => ?_)
                · skip
                  have tc_126 := ti_ne c_126
                  refine lv_iload G0.1 G0.2.1 dX12_triedBy_126 (lv_at hl 2 rfl) ?_
                  refine lv_aload_n G0.1 G0.2.1 dX12_triedBy_128 rfl (lv_at hl 4 rfl) ?_
                  obtain ⟨v_127, v_128, v_129, v_130, v_131, v_132, v_133, v_134, v_135, v_136, v_137, v_138, y_139, v_140, v_141, v_142, v_143, v_144, y_145, v_146, y_147, v_148, hr_161, b_149, b_150, b_151, b_152, b_153, b_154, b_155, b_156, b_157, b_158, b_159, b_160⟩ := wg_12 hWF Tu
                  refine py_calli hw (va_runV (As := []) (rest := [.int v_43]) G0 (c_X12_waiters l E G L_j39 f_j39 H_j39.size u hG hWF Tu) (cwV 0 G0.2.2.2.2 g_X12_triedBy_X12_waiters_414 rfl rfl rfl (by decide +kernel) ⟨(Nat.le_of_ble_eq_true rfl), (Nat.le_of_ble_eq_true rfl)⟩) (py_preV hw (C := RX12) (T := TX12) (N := 54) rfl hr_161) rfl rfl hl.1 rfl (lv_room (Nat.le_of_ble_eq_true rfl)) dX12_triedBy_129 ⟨(Nat.le_of_ble_eq_true rfl), (Nat.le_of_ble_eq_true rfl)⟩) (fun r_166 L_162 f_163 H_164 locs hp_165 hw => ?_)
                  obtain ⟨b_167, rfl, rfl⟩ := hp_165
                  refine py_calli hw (va_runS (As := [.int r_166]) (rest := [.int v_43]) G0 (c_J6_bitCount_0f7a4 l E G L_j39 f_j39 H_164.size r_166 hG hWF) (va_cwS 1 G0.2.2.2.2 g_X12_triedBy_J6_bitCount_0f7a4_391 rfl rfl rfl (by decide +kernel) ⟨(Nat.le_of_ble_eq_true rfl), (Nat.le_of_ble_eq_true rfl)⟩) (py_preS hw) rfl rfl hl.1 rfl (lv_room (Nat.le_of_ble_eq_true rfl)) dX12_triedBy_132 ⟨(Nat.le_of_ble_eq_true rfl), (Nat.le_of_ble_eq_true rfl)⟩) (fun r_172 L_168 f_169 H_170 locs hp_171 hw => ?_)
                  obtain ⟨rfl, rfl⟩ := hp_171
                  have br_172 := wf_free r_172
                  refine lv_iadd G0.1 G0.2.1 dX12_triedBy_135 ?_
                  refine lv_topi (fun x_173 ex_173 => ?_)
                  first | have tx_173 := ti_add ex_173 (by omega -splitDisjunctions) (by omega -splitDisjunctions) | skip
                  refine lv_istore (lv' := [(7, .int x_173), (9, .int v_123), (8, .int v_42), (5, .long y_13), (0, .ref u), (1, .int a), (2, .int b), (3, .int q), (4, .int d)]) G0.1 G0.2.1 dX12_triedBy_136 hl (by decide) rfl (fun ls hl => ?_)
                  refine lv_aload_n G0.1 G0.2.1 dX12_triedBy_138 rfl (lv_at hl 4 rfl) ?_
                  refine py_get (C := RX12) (T := TX12) (N := 54) (k := 27) (v := .ref (G.2 u 27)) G0 hw in_X12_triedBy_X12 rfl hr_161 (by decide) (by decide +kernel) rfl dX12_triedBy_139 ?_
                  refine lv_aload_n G0.1 G0.2.1 dX12_triedBy_142 rfl (lv_at hl 4 rfl) ?_
                  refine py_get (C := RX12) (T := TX12) (N := 54) (k := 26) (v := .ref (G.2 u 26)) G0 hw in_X12_triedBy_X12 rfl hr_161 (by decide) (by decide +kernel) rfl dX12_triedBy_143 ?_
                  refine py_callv hw (va_runS (As := [.ref (G.2 u 27), .ref (G.2 u 26)]) (rest := []) G0 (c_X12_copy56_55 l E G L_j39 f_j39 H_170.size (G.2 u 27) (G.2 u 26) hG hWF (wt12_27 hG Tu) (wt12_26 hG Tu)) (va_cwS 2 G0.2.2.2.2 g_X12_triedBy_X12_copy_437 rfl rfl rfl (by decide +kernel) ⟨(Nat.le_of_ble_eq_true rfl), (Nat.le_of_ble_eq_true rfl)⟩) (py_preS hw) rfl rfl hl.1 rfl (lv_room (Nat.le_of_ble_eq_true rfl)) dX12_triedBy_146 ⟨(Nat.le_of_ble_eq_true rfl), (Nat.le_of_ble_eq_true rfl)⟩) (fun L_174 f_175 H_176 locs hp_177 hw => ?_)
                  obtain ⟨hWF, kp_179⟩ := hp_177
                  have hLW := fun hy => (hLW hy).kp hG Tu kp_179 (LK.of (by decide))
                  have hFK := hFK.same (kp_f kp_179 Tu (by decide) (by decide) (fun _ => by decide))
                  have hKP := hKP.trans kp_179 (by decide) (by decide)
                  have hr_161 := kp_at kp_179 hWF Tu (by decide) (by decide) (by decide) hr_161
                  obtain ⟨x_180, ex_180⟩ : ∃ y : Int32, y = v_42 + 1 := ⟨_, rfl⟩
                  first | have tx_180 := ti_add ex_180 (by omega -splitDisjunctions) (by omega -splitDisjunctions) | skip
                  refine lv_iinc (v := x_180) (lv' := [(8, .int x_180), (7, .int x_173), (9, .int v_123), (5, .long y_13), (0, .ref u), (1, .int a), (2, .int b), (3, .int q), (4, .int d)]) G0.1 G0.2.1 dX12_triedBy_149 hl (k := 2) rfl (show _ + (1 : Int32) = _ from ex_180.symm) (by decide) rfl (fun ls hl => ?_)
                  refine lv_goto (tgt := 23) G0.1 G0.2.1 dX12_triedBy_152 (by decide) ?_
                  exact ih_23 ((2147483647 - x_180.toInt).toNat) (by omega) x_180 x_173 L_174 f_175 _ _ ls rfl ⟨by omega, by omega⟩ hWF hKP hLW hFK hw (lv_sub hl [0, 1, 3, 4, 5, 6, 7, 8] rfl)
                · skip
                  have tc_126 := ti_eq c_126
                  refine lv_iconst (v := 0) G0.1 G0.2.1 dX12_triedBy_86 (by decide) ?_
                  refine lv_istore (lv' := [(9, .int 0), (8, .int v_42), (7, .int v_43), (5, .long y_13), (0, .ref u), (1, .int a), (2, .int b), (3, .int q), (4, .int d)]) G0.1 G0.2.1 dX12_triedBy_87 hl (by decide) rfl (fun ls hl => ?_)
                  have lo_89 : ∀ n_89 : Nat, ∀ (v_181 : Int32) (v_182 : Int32) (H_j89 : Heap) (locs : List Loc) (ls : Array Slot), (2147483647 - v_181.toInt).toNat = n_89 → (0 ≤ v_181.toInt ∧ v_181.toInt ≤ 2147483647) → py_W E (va_A (va_pl L f) s.heap.size) s L_j39 f_j39 H_j89 locs → lv_has ls 10 [(9, .int v_181), (8, .int v_42), (7, .int v_182), (5, .long y_13), (0, .ref u), (1, .int a), (2, .int b), (3, .int q), (4, .int d)] → W p l e (headSpec w_X12_triedBy ({ frames := 9, cells := 0, slots := 0, locals := 203 })).room s m ([.ref u, .int a, .int b, .int q, .int d] : List Value).toArray below meth c H_j89 locs 0 0 (MQ below (py_Qi E L f s.heap.size (fun _ L1 f1 => WF E G L1 f1 ∧ KP G [56, 55, 58, 48, 49, 59, 60, 13] false f f1 ∧ FK [30] f f1 u)) ([.ref u, .int a, .int b, .int q, .int d] : List Value).toArray s 0 0 (va_A (va_pl L f) s.heap.size)) (F0 m 89 ls []) := by
                    intro n_89
                    induction n_89 using Nat.strongRecOn with
                    | _ n_89 ih_89 =>
                      intro v_181 v_182 H_j89 locs ls hn_89 bv_181 hw hl
                      refine lv_iload G0.1 G0.2.1 dX12_triedBy_89 (lv_at hl 0 rfl) ?_
                      refine lv_aload_n G0.1 G0.2.1 dX12_triedBy_91 rfl (lv_at hl 4 rfl) ?_
                      obtain ⟨v_183, v_184, v_185, v_186, v_187, v_188, v_189, v_190, v_191, v_192, v_193, v_194, y_195, v_196, v_197, v_198, v_199, v_200, y_201, v_202, y_203, v_204, hr_217, b_205, b_206, b_207, b_208, b_209, b_210, b_211, b_212, b_213, b_214, b_215, b_216⟩ := wg_12 hWF Tu
                      refine py_get (C := RX12) (T := TX12) (N := 54) (k := 25) (v := .int v_193) G0 hw in_X12_triedBy_X12 rfl hr_217 (by decide) (by decide +kernel) rfl dX12_triedBy_92 ?_
                      refine lv_icmp_ge (tgt := 123) G0.1 G0.2.1 dX12_triedBy_95 (by decide) (fun c_218 => ?_) (fun c_218 => ?_)
                      · skip
                        have tc_218 := ti_le c_218
                        refine lv_goto (tgt := 138) G0.1 G0.2.1 dX12_triedBy_123 (by decide) ?_
                        refine lv_aload_n G0.1 G0.2.1 dX12_triedBy_138 rfl (lv_at hl 4 rfl) ?_
                        refine py_get (C := RX12) (T := TX12) (N := 54) (k := 27) (v := .ref (G.2 u 27)) G0 hw in_X12_triedBy_X12 rfl hr_217 (by decide) (by decide +kernel) rfl dX12_triedBy_139 ?_
                        refine lv_aload_n G0.1 G0.2.1 dX12_triedBy_142 rfl (lv_at hl 4 rfl) ?_
                        refine py_get (C := RX12) (T := TX12) (N := 54) (k := 26) (v := .ref (G.2 u 26)) G0 hw in_X12_triedBy_X12 rfl hr_217 (by decide) (by decide +kernel) rfl dX12_triedBy_143 ?_
                        refine py_callv hw (va_runS (As := [.ref (G.2 u 27), .ref (G.2 u 26)]) (rest := []) G0 (c_X12_copy56_55 l E G L_j39 f_j39 H_j89.size (G.2 u 27) (G.2 u 26) hG hWF (wt12_27 hG Tu) (wt12_26 hG Tu)) (va_cwS 2 G0.2.2.2.2 g_X12_triedBy_X12_copy_437 rfl rfl rfl (by decide +kernel) ⟨(Nat.le_of_ble_eq_true rfl), (Nat.le_of_ble_eq_true rfl)⟩) (py_preS hw) rfl rfl hl.1 rfl (lv_room (Nat.le_of_ble_eq_true rfl)) dX12_triedBy_146 ⟨(Nat.le_of_ble_eq_true rfl), (Nat.le_of_ble_eq_true rfl)⟩) (fun L_219 f_220 H_221 locs hp_222 hw => ?_)
                        obtain ⟨hWF, kp_224⟩ := hp_222
                        have hLW := fun hy => (hLW hy).kp hG Tu kp_224 (LK.of (by decide))
                        have hFK := hFK.same (kp_f kp_224 Tu (by decide) (by decide) (fun _ => by decide))
                        have hKP := hKP.trans kp_224 (by decide) (by decide)
                        have hr_217 := kp_at kp_224 hWF Tu (by decide) (by decide) (by decide) hr_217
                        obtain ⟨x_225, ex_225⟩ : ∃ y : Int32, y = v_42 + 1 := ⟨_, rfl⟩
                        first | have tx_225 := ti_add ex_225 (by omega -splitDisjunctions) (by omega -splitDisjunctions) | skip
                        refine lv_iinc (v := x_225) (lv' := [(8, .int x_225), (9, .int v_181), (7, .int v_182), (5, .long y_13), (0, .ref u), (1, .int a), (2, .int b), (3, .int q), (4, .int d)]) G0.1 G0.2.1 dX12_triedBy_149 hl (k := 1) rfl (show _ + (1 : Int32) = _ from ex_225.symm) (by decide) rfl (fun ls hl => ?_)
                        refine lv_goto (tgt := 23) G0.1 G0.2.1 dX12_triedBy_152 (by decide) ?_
                        exact ih_23 ((2147483647 - x_225.toInt).toNat) (by omega) x_225 v_182 L_219 f_220 _ _ ls rfl ⟨by omega, by omega⟩ hWF hKP hLW hFK hw (lv_sub hl [0, 2, 3, 4, 5, 6, 7, 8] rfl)
                      · skip
                        have tc_218 := ti_nle c_218
                        refine lv_iload G0.1 G0.2.1 dX12_triedBy_98 (lv_at hl 2 rfl) ?_
                        refine lv_aload_n G0.1 G0.2.1 dX12_triedBy_100 rfl (lv_at hl 4 rfl) ?_
                        refine lv_iload G0.1 G0.2.1 dX12_triedBy_101 (lv_at hl 0 rfl) ?_
                        refine py_calli hw (va_runV (As := [.int v_181]) (rest := [.int v_182]) G0 (c_X12_isGone l E G L_j39 f_j39 H_j89.size u v_181 hG hWF Tu ⟨by omega, by omega⟩) (cwV 1 G0.2.2.2.2 g_X12_triedBy_X12_isGone_341 rfl rfl rfl (by decide +kernel) ⟨(Nat.le_of_ble_eq_true rfl), (Nat.le_of_ble_eq_true rfl)⟩) (py_preV hw (C := RX12) (T := TX12) (N := 54) rfl hr_217) rfl rfl hl.1 rfl (lv_room (Nat.le_of_ble_eq_true rfl)) dX12_triedBy_103 ⟨(Nat.le_of_ble_eq_true rfl), (Nat.le_of_ble_eq_true rfl)⟩) (fun r_230 L_226 f_227 H_228 locs hp_229 hw => ?_)
                        obtain ⟨b_233, en_231, en_232, rfl, rfl⟩ := hp_229
                        have jn_114 : ∀ (v_234 : Int32) (H_j114 : Heap) (locs : List Loc) (ls : Array Slot), (0 ≤ v_234.toInt ∧ v_234.toInt ≤ 1) → py_W E (va_A (va_pl L f) s.heap.size) s L_j39 f_j39 H_j114 locs → lv_has ls 10 [(9, .int v_181), (8, .int v_42), (7, .int v_182), (5, .long y_13), (0, .ref u), (1, .int a), (2, .int b), (3, .int q), (4, .int d)] → W p l e (headSpec w_X12_triedBy ({ frames := 9, cells := 0, slots := 0, locals := 203 })).room s m ([.ref u, .int a, .int b, .int q, .int d] : List Value).toArray below meth c H_j114 locs 0 0 (MQ below (py_Qi E L f s.heap.size (fun _ L1 f1 => WF E G L1 f1 ∧ KP G [56, 55, 58, 48, 49, 59, 60, 13] false f f1 ∧ FK [30] f f1 u)) ([.ref u, .int a, .int b, .int q, .int d] : List Value).toArray s 0 0 (va_A (va_pl L f) s.heap.size)) (F0 m 114 ls [.int v_234, .int v_182]) := by
                          intro v_234 H_j114 locs ls bv_234 hw hl
                          refine lv_iadd G0.1 G0.2.1 dX12_triedBy_114 ?_
                          refine lv_topi (fun x_235 ex_235 => ?_)
                          first | have tx_235 := ti_add ex_235 (by omega -splitDisjunctions) (by omega -splitDisjunctions) | skip
                          refine lv_istore (lv' := [(7, .int x_235), (9, .int v_181), (8, .int v_42), (5, .long y_13), (0, .ref u), (1, .int a), (2, .int b), (3, .int q), (4, .int d)]) G0.1 G0.2.1 dX12_triedBy_115 hl (by decide) rfl (fun ls hl => ?_)
                          obtain ⟨x_236, ex_236⟩ : ∃ y : Int32, y = v_181 + 1 := ⟨_, rfl⟩
                          first | have tx_236 := ti_add ex_236 (by omega -splitDisjunctions) (by omega -splitDisjunctions) | skip
                          refine lv_iinc (v := x_236) (lv' := [(9, .int x_236), (7, .int x_235), (8, .int v_42), (5, .long y_13), (0, .ref u), (1, .int a), (2, .int b), (3, .int q), (4, .int d)]) G0.1 G0.2.1 dX12_triedBy_117 hl (k := 1) rfl (show _ + (1 : Int32) = _ from ex_236.symm) (by decide) rfl (fun ls hl => ?_)
                          refine lv_goto (tgt := 89) G0.1 G0.2.1 dX12_triedBy_120 (by decide) ?_
                          exact ih_89 ((2147483647 - x_236.toInt).toNat) (by omega) x_236 x_235 _ _ ls rfl ⟨by omega, by omega⟩ hw (lv_sub hl [0, 2, 1, 3, 4, 5, 6, 7, 8] rfl)
                        refine lv_if_eq (tgt := 113) G0.1 G0.2.1 dX12_triedBy_106 (by decide) (fun c_237 => ?_) (fun c_237 => ?_)
                        · skip
                          have tc_237 := ti_eq c_237
                          clear en_231
                          replace en_232 := en_232 (by omega)
                          refine lv_iconst (v := 0) G0.1 G0.2.1 dX12_triedBy_113 (by decide) ?_
                          exact jn_114 0 _ _ ls ⟨by omega, by omega⟩ hw (lv_sub hl [0, 1, 2, 3, 4, 5, 6, 7, 8] rfl)
                        · skip
                          have tc_237 := ti_ne c_237
                          replace en_231 := en_231 (by omega)
                          clear en_232
                          refine lv_iconst (v := 1) G0.1 G0.2.1 dX12_triedBy_109 (by decide) ?_
                          refine lv_goto (tgt := 114) G0.1 G0.2.1 dX12_triedBy_110 (by decide) ?_
                          exact jn_114 1 _ _ ls ⟨by omega, by omega⟩ hw (lv_sub hl [0, 1, 2, 3, 4, 5, 6, 7, 8] rfl)
                  exact lo_89 _ 0 v_43 _ _ ls rfl ⟨by omega, by omega⟩ hw (lv_sub hl [0, 1, 2, 3, 4, 5, 6, 7, 8] rfl)
              · skip
                have tc_125 := ti_eq c_125
                refine lv_iload G0.1 G0.2.1 dX12_triedBy_68 (lv_at hl 2 rfl) ?_
                refine lv_aload_n G0.1 G0.2.1 dX12_triedBy_70 rfl (lv_at hl 4 rfl) ?_
                obtain ⟨v_238, v_239, v_240, v_241, v_242, v_243, v_244, v_245, v_246, v_247, v_248, v_249, y_250, v_251, v_252, v_253, v_254, v_255, y_256, v_257, y_258, v_259, hr_272, b_260, b_261, b_262, b_263, b_264, b_265, b_266, b_267, b_268, b_269, b_270, b_271⟩ := wg_12 hWF Tu
                refine py_calli hw (va_runV (As := []) (rest := [.int v_43]) G0 (c_X12_headsOfAll l E G L_j39 f_j39 H_j39.size u hG hWF Tu) (cwV 0 G0.2.2.2.2 g_X12_triedBy_X12_headsOfAll_408 rfl rfl rfl (by decide +kernel) ⟨(Nat.le_of_ble_eq_true rfl), (Nat.le_of_ble_eq_true rfl)⟩) (py_preV hw (C := RX12) (T := TX12) (N := 54) rfl hr_272) rfl rfl hl.1 rfl (lv_room (Nat.le_of_ble_eq_true rfl)) dX12_triedBy_71 ⟨(Nat.le_of_ble_eq_true rfl), (Nat.le_of_ble_eq_true rfl)⟩) (fun r_277 L_273 f_274 H_275 locs hp_276 hw => ?_)
                obtain ⟨rfl, rfl⟩ := hp_276
                have br_277 := wf_free r_277
                refine lv_iadd G0.1 G0.2.1 dX12_triedBy_74 ?_
                refine lv_topi (fun x_278 ex_278 => ?_)
                first | have tx_278 := ti_add ex_278 (by omega -splitDisjunctions) (by omega -splitDisjunctions) | skip
                refine lv_istore (lv' := [(7, .int x_278), (9, .int v_123), (8, .int v_42), (5, .long y_13), (0, .ref u), (1, .int a), (2, .int b), (3, .int q), (4, .int d)]) G0.1 G0.2.1 dX12_triedBy_75 hl (by decide) rfl (fun ls hl => ?_)
                refine lv_goto (tgt := 138) G0.1 G0.2.1 dX12_triedBy_77 (by decide) ?_
                refine lv_aload_n G0.1 G0.2.1 dX12_triedBy_138 rfl (lv_at hl 4 rfl) ?_
                refine py_get (C := RX12) (T := TX12) (N := 54) (k := 27) (v := .ref (G.2 u 27)) G0 hw in_X12_triedBy_X12 rfl hr_272 (by decide) (by decide +kernel) rfl dX12_triedBy_139 ?_
                refine lv_aload_n G0.1 G0.2.1 dX12_triedBy_142 rfl (lv_at hl 4 rfl) ?_
                refine py_get (C := RX12) (T := TX12) (N := 54) (k := 26) (v := .ref (G.2 u 26)) G0 hw in_X12_triedBy_X12 rfl hr_272 (by decide) (by decide +kernel) rfl dX12_triedBy_143 ?_
                refine py_callv hw (va_runS (As := [.ref (G.2 u 27), .ref (G.2 u 26)]) (rest := []) G0 (c_X12_copy56_55 l E G L_j39 f_j39 H_275.size (G.2 u 27) (G.2 u 26) hG hWF (wt12_27 hG Tu) (wt12_26 hG Tu)) (va_cwS 2 G0.2.2.2.2 g_X12_triedBy_X12_copy_437 rfl rfl rfl (by decide +kernel) ⟨(Nat.le_of_ble_eq_true rfl), (Nat.le_of_ble_eq_true rfl)⟩) (py_preS hw) rfl rfl hl.1 rfl (lv_room (Nat.le_of_ble_eq_true rfl)) dX12_triedBy_146 ⟨(Nat.le_of_ble_eq_true rfl), (Nat.le_of_ble_eq_true rfl)⟩) (fun L_279 f_280 H_281 locs hp_282 hw => ?_)
                obtain ⟨hWF, kp_284⟩ := hp_282
                have hLW := fun hy => (hLW hy).kp hG Tu kp_284 (LK.of (by decide))
                have hFK := hFK.same (kp_f kp_284 Tu (by decide) (by decide) (fun _ => by decide))
                have hKP := hKP.trans kp_284 (by decide) (by decide)
                have hr_272 := kp_at kp_284 hWF Tu (by decide) (by decide) (by decide) hr_272
                obtain ⟨x_285, ex_285⟩ : ∃ y : Int32, y = v_42 + 1 := ⟨_, rfl⟩
                first | have tx_285 := ti_add ex_285 (by omega -splitDisjunctions) (by omega -splitDisjunctions) | skip
                refine lv_iinc (v := x_285) (lv' := [(8, .int x_285), (7, .int x_278), (9, .int v_123), (5, .long y_13), (0, .ref u), (1, .int a), (2, .int b), (3, .int q), (4, .int d)]) G0.1 G0.2.1 dX12_triedBy_149 hl (k := 2) rfl (show _ + (1 : Int32) = _ from ex_285.symm) (by decide) rfl (fun ls hl => ?_)
                refine lv_goto (tgt := 23) G0.1 G0.2.1 dX12_triedBy_152 (by decide) ?_
                exact ih_23 ((2147483647 - x_285.toInt).toNat) (by omega) x_285 x_278 L_279 f_280 _ _ ls rfl ⟨by omega, by omega⟩ hWF hKP hLW hFK hw (lv_sub hl [0, 1, 3, 4, 5, 6, 7, 8] rfl)
            · skip
              have tc_124 := ti_nlt c_124
              refine lv_aload_n G0.1 G0.2.1 dX12_triedBy_45 rfl (lv_at hl 4 rfl) ?_
              refine lv_iload_n G0.1 G0.2.1 dX12_triedBy_46 rfl (lv_at hl 5 rfl) ?_
              refine lv_aload_n G0.1 G0.2.1 dX12_triedBy_47 rfl (lv_at hl 4 rfl) ?_
              obtain ⟨v_286, v_287, v_288, v_289, v_290, v_291, v_292, v_293, v_294, v_295, v_296, v_297, y_298, v_299, v_300, v_301, v_302, v_303, y_304, v_305, y_306, v_307, hr_320, b_308, b_309, b_310, b_311, b_312, b_313, b_314, b_315, b_316, b_317, b_318, b_319⟩ := wg_12 hWF Tu
              refine py_get (C := RX12) (T := TX12) (N := 54) (k := 29) (v := .int v_297) G0 hw in_X12_triedBy_X12 rfl hr_320 (by decide) (by decide +kernel) rfl dX12_triedBy_48 ?_
              refine lv_iload G0.1 G0.2.1 dX12_triedBy_51 (lv_at hl 0 rfl) ?_
              refine lv_iadd G0.1 G0.2.1 dX12_triedBy_53 ?_
              refine lv_topi (fun x_321 ex_321 => ?_)
              first | have tx_321 := ti_add ex_321 (by omega -splitDisjunctions) (by omega -splitDisjunctions) | skip
              refine py_callv hw (va_runV (As := [.int a, .int x_321]) (rest := []) G0 (c_X12_winter l E G L_j39 f_j39 H_j39.size u a x_321 hG hWF Tu ⟨by omega, by omega⟩ hLW) (cwV 2 G0.2.2.2.2 g_X12_triedBy_X12_winter_405 rfl rfl rfl (by decide +kernel) ⟨(Nat.le_of_ble_eq_true rfl), (Nat.le_of_ble_eq_true rfl)⟩) (py_preV hw (C := RX12) (T := TX12) (N := 54) rfl hr_320) rfl rfl hl.1 rfl (lv_room (Nat.le_of_ble_eq_true rfl)) dX12_triedBy_54 ⟨(Nat.le_of_ble_eq_true rfl), (Nat.le_of_ble_eq_true rfl)⟩) (fun L_322 f_323 H_324 locs hp_325 hw => ?_)
              obtain ⟨hWF, kp_327, fk_328⟩ := hp_325
              have hLW := fun hy => (hLW hy).kp hG Tu kp_327 (LK.of (by decide))
              have hFK := hFK.trans fk_328 (by decide)
              have hKP := hKP.trans kp_327 (by decide) (by decide)
              obtain ⟨v_329, hr_330⟩ := fk_30 hWF Tu fk_328 hr_320
              obtain ⟨x_331, ex_331⟩ : ∃ y : Int32, y = v_123 + 1 := ⟨_, rfl⟩
              first | have tx_331 := ti_add ex_331 (by omega -splitDisjunctions) (by omega -splitDisjunctions) | skip
              refine lv_iinc (v := x_331) (lv' := [(9, .int x_331), (8, .int v_42), (7, .int v_43), (5, .long y_13), (0, .ref u), (1, .int a), (2, .int b), (3, .int q), (4, .int d)]) G0.1 G0.2.1 dX12_triedBy_57 hl (k := 0) rfl (show _ + (1 : Int32) = _ from ex_331.symm) (by decide) rfl (fun ls hl => ?_)
              refine lv_goto (tgt := 39) G0.1 G0.2.1 dX12_triedBy_60 (by decide) ?_
              exact ih_39 ((2147483647 - x_331.toInt).toNat) (by omega) x_331 L_322 f_323 _ _ ls rfl ⟨by omega, by omega⟩ hWF hKP hLW hFK hw (lv_sub hl [0, 1, 2, 3, 4, 5, 6, 7, 8] rfl)
        exact lo_39 _ 1 L_j23 f_119 _ _ ls rfl ⟨by omega, by omega⟩ hWF hKP hLW hFK hw (lv_sub hl [0, 1, 2, 3, 4, 5, 6, 7, 8] rfl)
  exact lo_23 _ 0 0 L_36 f_37 _ _ ls rfl ⟨by omega, by omega⟩ hWF hKP hLW hFK hw (lv_sub hl [0, 1, 2, 3, 4, 5, 6, 7] rfl)
