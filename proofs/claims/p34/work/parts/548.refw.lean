theorem dX12_advice_0 : decode cX12_advice 0 = .ok (.aload_n 0, 1) := by decide +kernel
theorem dX12_advice_1 : decode cX12_advice 1 = .ok (.iload_n 2, 1) := by decide +kernel
theorem dX12_advice_2 : decode cX12_advice 2 = .ok (.iload_n 3, 1) := by decide +kernel
theorem dX12_advice_3 : decode cX12_advice 3 = .ok (.invokevirtual 441, 3) := by decide +kernel
theorem dX12_advice_6 : decode cX12_advice 6 = .ok (.ifCond .eq 29, 3) := by decide +kernel
theorem dX12_advice_9 : decode cX12_advice 9 = .ok (.aload_n 0, 1) := by decide +kernel
theorem dX12_advice_10 : decode cX12_advice 10 = .ok (.iload_n 1, 1) := by decide +kernel
theorem dX12_advice_11 : decode cX12_advice 11 = .ok (.invokevirtual 347, 3) := by decide +kernel
theorem dX12_advice_14 : decode cX12_advice 14 = .ok (.ifCond .eq 21, 3) := by decide +kernel
theorem dX12_advice_17 : decode cX12_advice 17 = .ok (.aload_n 0, 1) := by decide +kernel
theorem dX12_advice_18 : decode cX12_advice 18 = .ok (.iload_n 1, 1) := by decide +kernel
theorem dX12_advice_19 : decode cX12_advice 19 = .ok (.invokevirtual 341, 3) := by decide +kernel
theorem dX12_advice_22 : decode cX12_advice 22 = .ok (.ifCond .ne 13, 3) := by decide +kernel
theorem dX12_advice_25 : decode cX12_advice 25 = .ok (.iload 4, 2) := by decide +kernel
theorem dX12_advice_27 : decode cX12_advice 27 = .ok (.iconst 0, 1) := by decide +kernel
theorem dX12_advice_28 : decode cX12_advice 28 = .ok (.iconst 1, 1) := by decide +kernel
theorem dX12_advice_29 : decode cX12_advice 29 = .ok (.invokestatic 232, 3) := by decide +kernel
theorem dX12_advice_32 : decode cX12_advice 32 = .ok (.ifCond .ne 7, 3) := by decide +kernel
theorem dX12_advice_35 : decode cX12_advice 35 = .ok (.ldc_w 350, 3) := by decide +kernel
theorem dX12_advice_38 : decode cX12_advice 38 = .ok (.ireturn, 1) := by decide +kernel
theorem dX12_advice_39 : decode cX12_advice 39 = .ok (.iconst 0, 1) := by decide +kernel
theorem dX12_advice_40 : decode cX12_advice 40 = .ok (.istore 5, 2) := by decide +kernel
theorem dX12_advice_42 : decode cX12_advice 42 = .ok (.aload_n 0, 1) := by decide +kernel
theorem dX12_advice_43 : decode cX12_advice 43 = .ok (.iload_n 1, 1) := by decide +kernel
theorem dX12_advice_44 : decode cX12_advice 44 = .ok (.iconst 0, 1) := by decide +kernel
theorem dX12_advice_45 : decode cX12_advice 45 = .ok (.iload_n 2, 1) := by decide +kernel
theorem dX12_advice_46 : decode cX12_advice 46 = .ok (.iload_n 3, 1) := by decide +kernel
theorem dX12_advice_47 : decode cX12_advice 47 = .ok (.invokevirtual 454, 3) := by decide +kernel
theorem dX12_advice_50 : decode cX12_advice 50 = .ok (.istore 6, 2) := by decide +kernel
theorem dX12_advice_52 : decode cX12_advice 52 = .ok (.iconst 2, 1) := by decide +kernel
theorem dX12_advice_53 : decode cX12_advice 53 = .ok (.istore 7, 2) := by decide +kernel
theorem dX12_advice_55 : decode cX12_advice 55 = .ok (.iload 7, 2) := by decide +kernel
theorem dX12_advice_57 : decode cX12_advice 57 = .ok (.bipush 7, 2) := by decide +kernel
theorem dX12_advice_59 : decode cX12_advice 59 = .ok (.if_icmp .gt 75, 3) := by decide +kernel
theorem dX12_advice_62 : decode cX12_advice 62 = .ok (.iload 7, 2) := by decide +kernel
theorem dX12_advice_64 : decode cX12_advice 64 = .ok (.iconst 2, 1) := by decide +kernel
theorem dX12_advice_65 : decode cX12_advice 65 = .ok (.irem, 1) := by decide +kernel
theorem dX12_advice_66 : decode cX12_advice 66 = .ok (.ifCond .ne 11, 3) := by decide +kernel
theorem dX12_advice_69 : decode cX12_advice 69 = .ok (.iload 7, 2) := by decide +kernel
theorem dX12_advice_71 : decode cX12_advice 71 = .ok (.iconst 2, 1) := by decide +kernel
theorem dX12_advice_72 : decode cX12_advice 72 = .ok (.idiv, 1) := by decide +kernel
theorem dX12_advice_73 : decode cX12_advice 73 = .ok (.ineg, 1) := by decide +kernel
theorem dX12_advice_74 : decode cX12_advice 74 = .ok (.goto 7, 3) := by decide +kernel
theorem dX12_advice_77 : decode cX12_advice 77 = .ok (.iload 7, 2) := by decide +kernel
theorem dX12_advice_79 : decode cX12_advice 79 = .ok (.iconst 2, 1) := by decide +kernel
theorem dX12_advice_80 : decode cX12_advice 80 = .ok (.idiv, 1) := by decide +kernel
theorem dX12_advice_81 : decode cX12_advice 81 = .ok (.istore 8, 2) := by decide +kernel
theorem dX12_advice_83 : decode cX12_advice 83 = .ok (.aload_n 0, 1) := by decide +kernel
theorem dX12_advice_84 : decode cX12_advice 84 = .ok (.iload_n 1, 1) := by decide +kernel
theorem dX12_advice_85 : decode cX12_advice 85 = .ok (.bipush 6, 2) := by decide +kernel
theorem dX12_advice_87 : decode cX12_advice 87 = .ok (.invokevirtual 287, 3) := by decide +kernel
theorem dX12_advice_90 : decode cX12_advice 90 = .ok (.iload 8, 2) := by decide +kernel
theorem dX12_advice_92 : decode cX12_advice 92 = .ok (.iadd, 1) := by decide +kernel
theorem dX12_advice_93 : decode cX12_advice 93 = .ok (.bipush (-3), 2) := by decide +kernel
theorem dX12_advice_95 : decode cX12_advice 95 = .ok (.iconst 3, 1) := by decide +kernel
theorem dX12_advice_96 : decode cX12_advice 96 = .ok (.invokestatic 232, 3) := by decide +kernel
theorem dX12_advice_99 : decode cX12_advice 99 = .ok (.ifCond .eq 29, 3) := by decide +kernel
theorem dX12_advice_102 : decode cX12_advice 102 = .ok (.aload_n 0, 1) := by decide +kernel
theorem dX12_advice_103 : decode cX12_advice 103 = .ok (.iload_n 1, 1) := by decide +kernel
theorem dX12_advice_104 : decode cX12_advice 104 = .ok (.iload 8, 2) := by decide +kernel
theorem dX12_advice_106 : decode cX12_advice 106 = .ok (.iload_n 2, 1) := by decide +kernel
theorem dX12_advice_107 : decode cX12_advice 107 = .ok (.iload_n 3, 1) := by decide +kernel
theorem dX12_advice_108 : decode cX12_advice 108 = .ok (.invokevirtual 454, 3) := by decide +kernel
theorem dX12_advice_111 : decode cX12_advice 111 = .ok (.istore 9, 2) := by decide +kernel
theorem dX12_advice_113 : decode cX12_advice 113 = .ok (.iload 9, 2) := by decide +kernel
theorem dX12_advice_115 : decode cX12_advice 115 = .ok (.iload 6, 2) := by decide +kernel
theorem dX12_advice_117 : decode cX12_advice 117 = .ok (.if_icmp .le 11, 3) := by decide +kernel
theorem dX12_advice_120 : decode cX12_advice 120 = .ok (.iload 8, 2) := by decide +kernel
theorem dX12_advice_122 : decode cX12_advice 122 = .ok (.istore 5, 2) := by decide +kernel
theorem dX12_advice_124 : decode cX12_advice 124 = .ok (.iload 9, 2) := by decide +kernel
theorem dX12_advice_126 : decode cX12_advice 126 = .ok (.istore 6, 2) := by decide +kernel
theorem dX12_advice_128 : decode cX12_advice 128 = .ok (.iinc 7 1, 3) := by decide +kernel
theorem dX12_advice_131 : decode cX12_advice 131 = .ok (.goto (-76), 3) := by decide +kernel
theorem dX12_advice_134 : decode cX12_advice 134 = .ok (.iload 4, 2) := by decide +kernel
theorem dX12_advice_136 : decode cX12_advice 136 = .ok (.ifCond .ne 8, 3) := by decide +kernel
theorem dX12_advice_139 : decode cX12_advice 139 = .ok (.iload 5, 2) := by decide +kernel
theorem dX12_advice_141 : decode cX12_advice 141 = .ok (.goto 5, 3) := by decide +kernel
theorem dX12_advice_144 : decode cX12_advice 144 = .ok (.iload 6, 2) := by decide +kernel
theorem dX12_advice_146 : decode cX12_advice 146 = .ok (.ireturn, 1) := by decide +kernel
theorem dX12_headsBy_0 : decode cX12_headsBy 0 = .ok (.aload_n 0, 1) := by decide +kernel
theorem dX12_headsBy_1 : decode cX12_headsBy 1 = .ok (.iload_n 1, 1) := by decide +kernel
theorem dX12_headsBy_2 : decode cX12_headsBy 2 = .ok (.bipush 6, 2) := by decide +kernel
theorem dX12_headsBy_4 : decode cX12_headsBy 4 = .ok (.invokevirtual 287, 3) := by decide +kernel
theorem dX12_headsBy_7 : decode cX12_headsBy 7 = .ok (.istore 5, 2) := by decide +kernel
theorem dX12_headsBy_9 : decode cX12_headsBy 9 = .ok (.aload_n 0, 1) := by decide +kernel
theorem dX12_headsBy_10 : decode cX12_headsBy 10 = .ok (.iload_n 1, 1) := by decide +kernel
theorem dX12_headsBy_11 : decode cX12_headsBy 11 = .ok (.bipush 6, 2) := by decide +kernel
theorem dX12_headsBy_13 : decode cX12_headsBy 13 = .ok (.iload 5, 2) := by decide +kernel
theorem dX12_headsBy_15 : decode cX12_headsBy 15 = .ok (.iload_n 2, 1) := by decide +kernel
theorem dX12_headsBy_16 : decode cX12_headsBy 16 = .ok (.iadd, 1) := by decide +kernel
theorem dX12_headsBy_17 : decode cX12_headsBy 17 = .ok (.invokevirtual 305, 3) := by decide +kernel
theorem dX12_headsBy_20 : decode cX12_headsBy 20 = .ok (.aload_n 0, 1) := by decide +kernel
theorem dX12_headsBy_21 : decode cX12_headsBy 21 = .ok (.getfield 55, 3) := by decide +kernel
theorem dX12_headsBy_24 : decode cX12_headsBy 24 = .ok (.aload_n 0, 1) := by decide +kernel
theorem dX12_headsBy_25 : decode cX12_headsBy 25 = .ok (.getfield 58, 3) := by decide +kernel
theorem dX12_headsBy_28 : decode cX12_headsBy 28 = .ok (.invokestatic 437, 3) := by decide +kernel
theorem dX12_headsBy_31 : decode cX12_headsBy 31 = .ok (.aload_n 0, 1) := by decide +kernel
theorem dX12_headsBy_32 : decode cX12_headsBy 32 = .ok (.getfield 357, 3) := by decide +kernel
theorem dX12_headsBy_35 : decode cX12_headsBy 35 = .ok (.lstore 6, 2) := by decide +kernel
theorem dX12_headsBy_37 : decode cX12_headsBy 37 = .ok (.iconst 0, 1) := by decide +kernel
theorem dX12_headsBy_38 : decode cX12_headsBy 38 = .ok (.istore 8, 2) := by decide +kernel
theorem dX12_headsBy_40 : decode cX12_headsBy 40 = .ok (.iconst 0, 1) := by decide +kernel
theorem dX12_headsBy_41 : decode cX12_headsBy 41 = .ok (.istore 9, 2) := by decide +kernel
theorem dX12_headsBy_43 : decode cX12_headsBy 43 = .ok (.iload 9, 2) := by decide +kernel
theorem dX12_headsBy_45 : decode cX12_headsBy 45 = .ok (.iload 4, 2) := by decide +kernel
theorem dX12_headsBy_47 : decode cX12_headsBy 47 = .ok (.if_icmp .ge 68, 3) := by decide +kernel
theorem dX12_headsBy_50 : decode cX12_headsBy 50 = .ok (.aload_n 0, 1) := by decide +kernel
theorem dX12_headsBy_51 : decode cX12_headsBy 51 = .ok (.iload 9, 2) := by decide +kernel
theorem dX12_headsBy_53 : decode cX12_headsBy 53 = .ok (.i2l, 1) := by decide +kernel
theorem dX12_headsBy_54 : decode cX12_headsBy 54 = .ok (.putfield 357, 3) := by decide +kernel
theorem dX12_headsBy_57 : decode cX12_headsBy 57 = .ok (.iconst 1, 1) := by decide +kernel
theorem dX12_headsBy_58 : decode cX12_headsBy 58 = .ok (.istore 10, 2) := by decide +kernel
theorem dX12_headsBy_60 : decode cX12_headsBy 60 = .ok (.iload 10, 2) := by decide +kernel
theorem dX12_headsBy_62 : decode cX12_headsBy 62 = .ok (.iload_n 3, 1) := by decide +kernel
theorem dX12_headsBy_63 : decode cX12_headsBy 63 = .ok (.if_icmp .gt 24, 3) := by decide +kernel
theorem dX12_headsBy_66 : decode cX12_headsBy 66 = .ok (.aload_n 0, 1) := by decide +kernel
theorem dX12_headsBy_67 : decode cX12_headsBy 67 = .ok (.aload_n 0, 1) := by decide +kernel
theorem dX12_headsBy_68 : decode cX12_headsBy 68 = .ok (.getfield 64, 3) := by decide +kernel
theorem dX12_headsBy_71 : decode cX12_headsBy 71 = .ok (.aload_n 0, 1) := by decide +kernel
theorem dX12_headsBy_72 : decode cX12_headsBy 72 = .ok (.getfield 309, 3) := by decide +kernel
theorem dX12_headsBy_75 : decode cX12_headsBy 75 = .ok (.iload 10, 2) := by decide +kernel
theorem dX12_headsBy_77 : decode cX12_headsBy 77 = .ok (.iadd, 1) := by decide +kernel
theorem dX12_headsBy_78 : decode cX12_headsBy 78 = .ok (.invokevirtual 405, 3) := by decide +kernel
theorem dX12_headsBy_81 : decode cX12_headsBy 81 = .ok (.iinc 10 1, 3) := by decide +kernel
theorem dX12_headsBy_84 : decode cX12_headsBy 84 = .ok (.goto (-24), 3) := by decide +kernel
theorem dX12_headsBy_87 : decode cX12_headsBy 87 = .ok (.iload 8, 2) := by decide +kernel
theorem dX12_headsBy_89 : decode cX12_headsBy 89 = .ok (.aload_n 0, 1) := by decide +kernel
theorem dX12_headsBy_90 : decode cX12_headsBy 90 = .ok (.iload_n 1, 1) := by decide +kernel
theorem dX12_headsBy_91 : decode cX12_headsBy 91 = .ok (.iconst 0, 1) := by decide +kernel
theorem dX12_headsBy_92 : decode cX12_headsBy 92 = .ok (.invokevirtual 287, 3) := by decide +kernel
theorem dX12_headsBy_95 : decode cX12_headsBy 95 = .ok (.iadd, 1) := by decide +kernel
theorem dX12_headsBy_96 : decode cX12_headsBy 96 = .ok (.istore 8, 2) := by decide +kernel
theorem dX12_headsBy_98 : decode cX12_headsBy 98 = .ok (.aload_n 0, 1) := by decide +kernel
theorem dX12_headsBy_99 : decode cX12_headsBy 99 = .ok (.getfield 58, 3) := by decide +kernel
theorem dX12_headsBy_102 : decode cX12_headsBy 102 = .ok (.aload_n 0, 1) := by decide +kernel
theorem dX12_headsBy_103 : decode cX12_headsBy 103 = .ok (.getfield 55, 3) := by decide +kernel
theorem dX12_headsBy_106 : decode cX12_headsBy 106 = .ok (.invokestatic 437, 3) := by decide +kernel
theorem dX12_headsBy_109 : decode cX12_headsBy 109 = .ok (.iinc 9 1, 3) := by decide +kernel
theorem dX12_headsBy_112 : decode cX12_headsBy 112 = .ok (.goto (-69), 3) := by decide +kernel
theorem dX12_headsBy_115 : decode cX12_headsBy 115 = .ok (.aload_n 0, 1) := by decide +kernel
theorem dX12_headsBy_116 : decode cX12_headsBy 116 = .ok (.lload 6, 2) := by decide +kernel
theorem dX12_headsBy_118 : decode cX12_headsBy 118 = .ok (.putfield 357, 3) := by decide +kernel
theorem dX12_headsBy_121 : decode cX12_headsBy 121 = .ok (.aload_n 0, 1) := by decide +kernel
theorem dX12_headsBy_122 : decode cX12_headsBy 122 = .ok (.iload_n 1, 1) := by decide +kernel
theorem dX12_headsBy_123 : decode cX12_headsBy 123 = .ok (.bipush 6, 2) := by decide +kernel
theorem dX12_headsBy_125 : decode cX12_headsBy 125 = .ok (.iload 5, 2) := by decide +kernel
theorem dX12_headsBy_127 : decode cX12_headsBy 127 = .ok (.invokevirtual 305, 3) := by decide +kernel
theorem dX12_headsBy_130 : decode cX12_headsBy 130 = .ok (.iload 8, 2) := by decide +kernel
theorem dX12_headsBy_132 : decode cX12_headsBy 132 = .ok (.ireturn, 1) := by decide +kernel
theorem dX12_reform_0 : decode cX12_reform 0 = .ok (.aload_n 0, 1) := by decide +kernel
theorem dX12_reform_1 : decode cX12_reform 1 = .ok (.iload_n 1, 1) := by decide +kernel
theorem dX12_reform_2 : decode cX12_reform 2 = .ok (.iload_n 2, 1) := by decide +kernel
theorem dX12_reform_3 : decode cX12_reform 3 = .ok (.invokevirtual 441, 3) := by decide +kernel
theorem dX12_reform_6 : decode cX12_reform 6 = .ok (.ifCond .ne 7, 3) := by decide +kernel
theorem dX12_reform_9 : decode cX12_reform 9 = .ok (.ldc_w 350, 3) := by decide +kernel
theorem dX12_reform_12 : decode cX12_reform 12 = .ok (.ireturn, 1) := by decide +kernel
theorem dX12_reform_13 : decode cX12_reform 13 = .ok (.iconst (-1), 1) := by decide +kernel
theorem dX12_reform_14 : decode cX12_reform 14 = .ok (.istore_n 3, 1) := by decide +kernel
theorem dX12_reform_15 : decode cX12_reform 15 = .ok (.aload_n 0, 1) := by decide +kernel
theorem dX12_reform_16 : decode cX12_reform 16 = .ok (.iconst (-1), 1) := by decide +kernel
theorem dX12_reform_17 : decode cX12_reform 17 = .ok (.iload_n 1, 1) := by decide +kernel
theorem dX12_reform_18 : decode cX12_reform 18 = .ok (.iload_n 2, 1) := by decide +kernel
theorem dX12_reform_19 : decode cX12_reform 19 = .ok (.iconst 0, 1) := by decide +kernel
theorem dX12_reform_20 : decode cX12_reform 20 = .ok (.invokevirtual 444, 3) := by decide +kernel
theorem dX12_reform_23 : decode cX12_reform 23 = .ok (.istore 4, 2) := by decide +kernel
theorem dX12_reform_25 : decode cX12_reform 25 = .ok (.iconst 0, 1) := by decide +kernel
theorem dX12_reform_26 : decode cX12_reform 26 = .ok (.istore 5, 2) := by decide +kernel
theorem dX12_reform_28 : decode cX12_reform 28 = .ok (.iload 5, 2) := by decide +kernel
theorem dX12_reform_30 : decode cX12_reform 30 = .ok (.aload_n 0, 1) := by decide +kernel
theorem dX12_reform_31 : decode cX12_reform 31 = .ok (.getfield 322, 3) := by decide +kernel
theorem dX12_reform_34 : decode cX12_reform 34 = .ok (.if_icmp .ge 34, 3) := by decide +kernel
theorem dX12_reform_37 : decode cX12_reform 37 = .ok (.aload_n 0, 1) := by decide +kernel
theorem dX12_reform_38 : decode cX12_reform 38 = .ok (.iload 5, 2) := by decide +kernel
theorem dX12_reform_40 : decode cX12_reform 40 = .ok (.iload_n 1, 1) := by decide +kernel
theorem dX12_reform_41 : decode cX12_reform 41 = .ok (.iload_n 2, 1) := by decide +kernel
theorem dX12_reform_42 : decode cX12_reform 42 = .ok (.iconst 0, 1) := by decide +kernel
theorem dX12_reform_43 : decode cX12_reform 43 = .ok (.invokevirtual 444, 3) := by decide +kernel
theorem dX12_reform_46 : decode cX12_reform 46 = .ok (.istore 6, 2) := by decide +kernel
theorem dX12_reform_48 : decode cX12_reform 48 = .ok (.iload 6, 2) := by decide +kernel
theorem dX12_reform_50 : decode cX12_reform 50 = .ok (.iload 4, 2) := by decide +kernel
theorem dX12_reform_52 : decode cX12_reform 52 = .ok (.if_icmp .le 10, 3) := by decide +kernel
theorem dX12_reform_55 : decode cX12_reform 55 = .ok (.iload 5, 2) := by decide +kernel
theorem dX12_reform_57 : decode cX12_reform 57 = .ok (.istore_n 3, 1) := by decide +kernel
theorem dX12_reform_58 : decode cX12_reform 58 = .ok (.iload 6, 2) := by decide +kernel
theorem dX12_reform_60 : decode cX12_reform 60 = .ok (.istore 4, 2) := by decide +kernel
theorem dX12_reform_62 : decode cX12_reform 62 = .ok (.iinc 5 1, 3) := by decide +kernel
theorem dX12_reform_65 : decode cX12_reform 65 = .ok (.goto (-37), 3) := by decide +kernel
theorem dX12_reform_68 : decode cX12_reform 68 = .ok (.iload_n 3, 1) := by decide +kernel
theorem dX12_reform_69 : decode cX12_reform 69 = .ok (.ireturn, 1) := by decide +kernel
theorem dX12_tried_0 : decode cX12_tried 0 = .ok (.aload_n 0, 1) := by decide +kernel
theorem dX12_tried_1 : decode cX12_tried 1 = .ok (.iload_n 2, 1) := by decide +kernel
theorem dX12_tried_2 : decode cX12_tried 2 = .ok (.iload_n 3, 1) := by decide +kernel
theorem dX12_tried_3 : decode cX12_tried 3 = .ok (.invokevirtual 441, 3) := by decide +kernel
theorem dX12_tried_6 : decode cX12_tried 6 = .ok (.ifCond .eq 39, 3) := by decide +kernel
theorem dX12_tried_9 : decode cX12_tried 9 = .ok (.iload_n 1, 1) := by decide +kernel
theorem dX12_tried_10 : decode cX12_tried 10 = .ok (.iconst (-1), 1) := by decide +kernel
theorem dX12_tried_11 : decode cX12_tried 11 = .ok (.aload_n 0, 1) := by decide +kernel
theorem dX12_tried_12 : decode cX12_tried 12 = .ok (.getfield 322, 3) := by decide +kernel
theorem dX12_tried_15 : decode cX12_tried 15 = .ok (.iconst 1, 1) := by decide +kernel
theorem dX12_tried_16 : decode cX12_tried 16 = .ok (.isub, 1) := by decide +kernel
theorem dX12_tried_17 : decode cX12_tried 17 = .ok (.invokestatic 232, 3) := by decide +kernel
theorem dX12_tried_20 : decode cX12_tried 20 = .ok (.ifCond .eq 25, 3) := by decide +kernel
theorem dX12_tried_23 : decode cX12_tried 23 = .ok (.iload 4, 2) := by decide +kernel
theorem dX12_tried_25 : decode cX12_tried 25 = .ok (.iconst 0, 1) := by decide +kernel
theorem dX12_tried_26 : decode cX12_tried 26 = .ok (.iconst 2, 1) := by decide +kernel
theorem dX12_tried_27 : decode cX12_tried 27 = .ok (.invokestatic 232, 3) := by decide +kernel
theorem dX12_tried_30 : decode cX12_tried 30 = .ok (.ifCond .eq 15, 3) := by decide +kernel
theorem dX12_tried_33 : decode cX12_tried 33 = .ok (.aload_n 0, 1) := by decide +kernel
theorem dX12_tried_34 : decode cX12_tried 34 = .ok (.iload_n 1, 1) := by decide +kernel
theorem dX12_tried_35 : decode cX12_tried 35 = .ok (.iload_n 2, 1) := by decide +kernel
theorem dX12_tried_36 : decode cX12_tried 36 = .ok (.iload_n 3, 1) := by decide +kernel
theorem dX12_tried_37 : decode cX12_tried 37 = .ok (.iload 4, 2) := by decide +kernel
theorem dX12_tried_39 : decode cX12_tried 39 = .ok (.invokevirtual 444, 3) := by decide +kernel
theorem dX12_tried_42 : decode cX12_tried 42 = .ok (.goto 6, 3) := by decide +kernel
theorem dX12_tried_45 : decode cX12_tried 45 = .ok (.ldc_w 350, 3) := by decide +kernel
theorem dX12_tried_48 : decode cX12_tried 48 = .ok (.ireturn, 1) := by decide +kernel
def w_X12_tried : List Cond := .code yX12_tried cX12_tried 5 (some .int) :: ([Cond.methodLink RX12 441 yX12_isTrial, Cond.instanceMethod yX12_isTrial, Cond.selects RX12 yX12_isTrial yX12_isTrial, Cond.initialized RX12, Cond.constant RX12 350 (-1000000), Cond.fieldLink RX12 322 "HeadYearModel" "laws" "I", Cond.methodLink RX12 232 yX12_in, Cond.static yX12_in, Cond.methodLink RX12 444 yX12_triedBy, Cond.instanceMethod yX12_triedBy, Cond.selects RX12 yX12_triedBy yX12_triedBy] ++ (u_ws RX12 TX12 54 ++ (w_X12_isTrial ++ (w_X12_in ++ (w_X12_triedBy ++ ([]))))))
theorem in_X12_tried_X12 : ∀ w ∈ u_ws RX12 TX12 54, w ∈ w_X12_tried := fun _ h => List.mem_cons_of_mem _ (List.mem_append_right _ (List.mem_append_left _ h))
theorem gg_X12_tried_X12_isTrial : GoodIn w_X12_tried w_X12_isTrial := goodIn_sub (fun _ h => List.mem_cons_of_mem _ (List.mem_append_right _ (List.mem_append_right _ (List.mem_append_left _ h)))) (by decide +kernel)
theorem gg_X12_tried_X12_in : GoodIn w_X12_tried w_X12_in := goodIn_sub (fun _ h => List.mem_cons_of_mem _ (List.mem_append_right _ (List.mem_append_right _ (List.mem_append_right _ (List.mem_append_left _ h))))) (by decide +kernel)
theorem gg_X12_tried_X12_triedBy : GoodIn w_X12_tried w_X12_triedBy := goodIn_sub (fun _ h => List.mem_cons_of_mem _ (List.mem_append_right _ (List.mem_append_right _ (List.mem_append_right _ (List.mem_append_right _ (List.mem_append_left _ h)))))) (by decide +kernel)
theorem g_X12_tried_X12_in_232 : GoodIn w_X12_tried (va_wsS RX12 232 yX12_in w_X12_in) := goodIn_app (goodIn_of _ (by decide +kernel)) gg_X12_tried_X12_in
theorem g_X12_tried_X12_isTrial_441 : GoodIn w_X12_tried (wsV RX12 441 RX12 yX12_isTrial w_X12_isTrial) := goodIn_app (goodIn_of _ (by decide +kernel)) gg_X12_tried_X12_isTrial
theorem g_X12_tried_X12_triedBy_444 : GoodIn w_X12_tried (wsV RX12 444 RX12 yX12_triedBy w_X12_triedBy) := goodIn_app (goodIn_of _ (by decide +kernel)) gg_X12_tried_X12_triedBy
set_option maxHeartbeats 4000000 in
set_option maxRecDepth 100000 in
theorem c_X12_tried (l : Launch) (E : py_E) (G : wf_G) (L : List Nat) (f : py_F) (sz : Nat) (u : Nat) (a : Int32) (b : Int32) (q : Int32) (d : Int32) (hG : GT G) (hWF : WF E G L f) (Tu : G.1 u = 13) (hq0 : GM f G u) : Met l yX12_tried w_X12_tried ({ frames := 10, cells := 0, slots := 0, locals := 232 }) (py_Pc E [.ref u, .int a, .int b, .int q, .int d] L f sz) (py_Qi E L f sz (fun _ L1 f1 => WF E G L1 f1 ∧ KP G [56, 55, 58, 48, 49, 59, 60, 13] false f f1 ∧ FK [30] f f1 u)) 0 0 (va_A (va_pl L f) sz) := by
  refine Met.ofW (cc := cX12_tried) (maxL := 5) (ret := (some .int)) (by decide) rfl ?_
  intro p e s m args below meth c s₁ B hml hv
  obtain ⟨rfl, rfl, hw⟩ := py_start hv
  have G0 : CallFix p m c cX12_tried 5 s _ w_X12_tried RX12 := ⟨B.exec, B.bytes, hml, findClass_of_methodNamed B.named, atoms_spec (ws := w_X12_tried) B.pre⟩
  have hr := B.returns
  have hlk := B.notSynchronized
  have kcm1000000 : (-1000000 : Int32).toInt = -1000000 := rfl
  have kcm1 : (-1 : Int32).toInt = -1 := rfl
  have kc0 : (0 : Int32).toInt = 0 := rfl
  have kc1 : (1 : Int32).toInt = 1 := rfl
  have kc2 : (2 : Int32).toInt = 2 := rfl
  have hl := lv_entry ([.ref u, .int a, .int b, .int q, .int d]) (n := 5) (Nat.le_of_ble_eq_true rfl)
  rw [lg_entry_eq]
  generalize (lg_sl ([.ref u, .int a, .int b, .int q, .int d]) ++ List.replicate (5 - (lg_sl ([.ref u, .int a, .int b, .int q, .int d])).length) Slot.unset).toArray = ls at hl ⊢
  have hl : lv_has ls 5 [(0, .ref u), (1, .int a), (2, .int b), (3, .int q), (4, .int d)] := hl
  have hFK : FK [30] f f u := FK.refl
  have hKP : KP G [56, 55, 58, 48, 49, 59, 60, 13] false f f := KP.refl
  have hGM := hq0
  refine lv_aload_n G0.1 G0.2.1 dX12_tried_0 rfl (lv_at hl 0 rfl) ?_
  refine lv_iload_n G0.1 G0.2.1 dX12_tried_1 rfl (lv_at hl 2 rfl) ?_
  refine lv_iload_n G0.1 G0.2.1 dX12_tried_2 rfl (lv_at hl 3 rfl) ?_
  obtain ⟨v_1, v_2, v_3, v_4, v_5, v_6, v_7, v_8, v_9, v_10, v_11, v_12, y_13, v_14, v_15, v_16, v_17, v_18, y_19, v_20, y_21, v_22, hr_35, b_23, b_24, b_25, b_26, b_27, b_28, b_29, b_30, b_31, b_32, b_33, b_34⟩ := wg_12 hWF Tu
  have tq_36 := mi_row hr_35 13 rfl
  refine py_calli hw (va_runV (As := [.int b, .int q]) (rest := []) G0 (c_X12_isTrial l E G L f s.heap.size u b q hG hWF Tu) (cwV 2 G0.2.2.2.2 g_X12_tried_X12_isTrial_441 rfl rfl rfl (by decide +kernel) ⟨(Nat.le_of_ble_eq_true rfl), (Nat.le_of_ble_eq_true rfl)⟩) (py_preV hw (C := RX12) (T := TX12) (N := 54) rfl hr_35) rfl rfl hl.1 rfl (lv_room (Nat.le_of_ble_eq_true rfl)) dX12_tried_3 ⟨(Nat.le_of_ble_eq_true rfl), (Nat.le_of_ble_eq_true rfl)⟩) (fun r_41 L_37 f_38 H_39 locs hp_40 hw => ?_)
  obtain ⟨b_43, en_42, rfl, rfl⟩ := hp_40
  refine lv_if_eq (tgt := 45) G0.1 G0.2.1 dX12_tried_6 (by decide) (fun c_44 => ?_) (fun c_44 => ?_)
  · skip
    have tc_44 := ti_eq c_44
    clear en_42
    refine lv_ldcw (v := (-1000000)) G0.1 G0.2.1 G0.2.2.2.1 (G0.2.2.2.2 (Cond.constant RX12 350 (-1000000)) (by decide +kernel)) dX12_tried_45 ?_
    exact py_iret G0 hr rfl hlk hw ⟨hWF, hKP, hFK⟩ dX12_tried_48
  · skip
    have tc_44 := ti_ne c_44
    replace en_42 := en_42 (by omega)
    refine lv_iload_n G0.1 G0.2.1 dX12_tried_9 rfl (lv_at hl 1 rfl) ?_
    refine lv_iconst (v := (-1)) G0.1 G0.2.1 dX12_tried_10 (by decide) ?_
    refine lv_aload_n G0.1 G0.2.1 dX12_tried_11 rfl (lv_at hl 0 rfl) ?_
    refine py_get (C := RX12) (T := TX12) (N := 54) (k := 13) (v := .int v_6) G0 hw in_X12_tried_X12 rfl hr_35 (by decide) (by decide +kernel) rfl dX12_tried_12 ?_
    refine lv_iconst (v := 1) G0.1 G0.2.1 dX12_tried_15 (by decide) ?_
    refine lv_isub G0.1 G0.2.1 dX12_tried_16 ?_
    refine lv_topi (fun x_45 ex_45 => ?_)
    first | have tx_45 := ti_sub ex_45 (by omega -splitDisjunctions) (by omega -splitDisjunctions) | skip
    refine py_calli hw (va_runS (As := [.int a, .int (-1), .int x_45]) (rest := []) G0 (c_X12_in l E G L f H_39.size a (-1) x_45 hG hWF) (va_cwS 3 G0.2.2.2.2 g_X12_tried_X12_in_232 rfl rfl rfl (by decide +kernel) ⟨(Nat.le_of_ble_eq_true rfl), (Nat.le_of_ble_eq_true rfl)⟩) (py_preS hw) rfl rfl hl.1 rfl (lv_room (Nat.le_of_ble_eq_true rfl)) dX12_tried_17 ⟨(Nat.le_of_ble_eq_true rfl), (Nat.le_of_ble_eq_true rfl)⟩) (fun r_50 L_46 f_47 H_48 locs hp_49 hw => ?_)
    obtain ⟨b_53, en_51, en_52, rfl, rfl⟩ := hp_49
    have en_51 : r_50.toInt ≠ 0 → ((-1) : Int) ≤ a.toInt ∧ a.toInt ≤ x_45.toInt := en_51
    have en_52 : r_50.toInt = 0 → a.toInt < ((-1) : Int) ∨ x_45.toInt < a.toInt := en_52
    refine lv_if_eq (tgt := 45) G0.1 G0.2.1 dX12_tried_20 (by decide) (fun c_54 => ?_) (fun c_54 => ?_)
    · skip
      have tc_54 := ti_eq c_54
      clear en_51
      replace en_52 := en_52 (by omega)
      refine lv_ldcw (v := (-1000000)) G0.1 G0.2.1 G0.2.2.2.1 (G0.2.2.2.2 (Cond.constant RX12 350 (-1000000)) (by decide +kernel)) dX12_tried_45 ?_
      exact py_iret G0 hr rfl hlk hw ⟨hWF, hKP, hFK⟩ dX12_tried_48
    · skip
      have tc_54 := ti_ne c_54
      replace en_51 := en_51 (by omega)
      clear en_52
      refine lv_iload G0.1 G0.2.1 dX12_tried_23 (lv_at hl 4 rfl) ?_
      refine lv_iconst (v := 0) G0.1 G0.2.1 dX12_tried_25 (by decide) ?_
      refine lv_iconst (v := 2) G0.1 G0.2.1 dX12_tried_26 (by decide) ?_
      refine py_calli hw (va_runS (As := [.int d, .int 0, .int 2]) (rest := []) G0 (c_X12_in l E G L f H_48.size d 0 2 hG hWF) (va_cwS 3 G0.2.2.2.2 g_X12_tried_X12_in_232 rfl rfl rfl (by decide +kernel) ⟨(Nat.le_of_ble_eq_true rfl), (Nat.le_of_ble_eq_true rfl)⟩) (py_preS hw) rfl rfl hl.1 rfl (lv_room (Nat.le_of_ble_eq_true rfl)) dX12_tried_27 ⟨(Nat.le_of_ble_eq_true rfl), (Nat.le_of_ble_eq_true rfl)⟩) (fun r_59 L_55 f_56 H_57 locs hp_58 hw => ?_)
      obtain ⟨b_62, en_60, en_61, rfl, rfl⟩ := hp_58
      have en_60 : r_59.toInt ≠ 0 → (0 : Int) ≤ d.toInt ∧ d.toInt ≤ (2 : Int) := en_60
      have en_61 : r_59.toInt = 0 → d.toInt < (0 : Int) ∨ (2 : Int) < d.toInt := en_61
      refine lv_if_eq (tgt := 45) G0.1 G0.2.1 dX12_tried_30 (by decide) (fun c_63 => ?_) (fun c_63 => ?_)
      · skip
        have tc_63 := ti_eq c_63
        clear en_60
        replace en_61 := en_61 (by omega)
        refine lv_ldcw (v := (-1000000)) G0.1 G0.2.1 G0.2.2.2.1 (G0.2.2.2.2 (Cond.constant RX12 350 (-1000000)) (by decide +kernel)) dX12_tried_45 ?_
        exact py_iret G0 hr rfl hlk hw ⟨hWF, hKP, hFK⟩ dX12_tried_48
      · skip
        have tc_63 := ti_ne c_63
        replace en_60 := en_60 (by omega)
        clear en_61
        refine lv_aload_n G0.1 G0.2.1 dX12_tried_33 rfl (lv_at hl 0 rfl) ?_
        refine lv_iload_n G0.1 G0.2.1 dX12_tried_34 rfl (lv_at hl 1 rfl) ?_
        refine lv_iload_n G0.1 G0.2.1 dX12_tried_35 rfl (lv_at hl 2 rfl) ?_
        refine lv_iload_n G0.1 G0.2.1 dX12_tried_36 rfl (lv_at hl 3 rfl) ?_
        refine lv_iload G0.1 G0.2.1 dX12_tried_37 (lv_at hl 4 rfl) ?_
        refine py_calli hw (va_runV (As := [.int a, .int b, .int q, .int d]) (rest := []) G0 (c_X12_triedBy l E G L f H_57.size u a b q d hG hWF Tu ⟨by omega, by omega⟩ ⟨by omega, by omega⟩ ⟨by omega, by omega⟩ (fun hy => hGM.2 _ (by omega) (by omega))) (cwV 4 G0.2.2.2.2 g_X12_tried_X12_triedBy_444 rfl rfl rfl (by decide +kernel) ⟨(Nat.le_of_ble_eq_true rfl), (Nat.le_of_ble_eq_true rfl)⟩) (py_preV hw (C := RX12) (T := TX12) (N := 54) rfl hr_35) rfl rfl hl.1 rfl (lv_room (Nat.le_of_ble_eq_true rfl)) dX12_tried_39 ⟨(Nat.le_of_ble_eq_true rfl), (Nat.le_of_ble_eq_true rfl)⟩) (fun r_68 L_64 f_65 H_66 locs hp_67 hw => ?_)
        obtain ⟨hWF, kp_69, fk_70⟩ := hp_67
        have hGM := hGM.kp hG Tu kp_69 fk_70 (LK.of (by decide)) (by decide)
        have hFK := hFK.trans fk_70 (by decide)
        have hKP := hKP.trans kp_69 (by decide) (by decide)
        obtain ⟨v_71, hr_72⟩ := fk_30 hWF Tu fk_70 hr_35
        have tq_73 := mi_row hr_72 13 rfl
        have br_68 := wf_free r_68
        refine lv_goto (tgt := 48) G0.1 G0.2.1 dX12_tried_42 (by decide) ?_
        exact py_iret G0 hr rfl hlk hw ⟨hWF, hKP, hFK⟩ dX12_tried_48

def w_X12_reform : List Cond := .code yX12_reform cX12_reform 7 (some .int) :: ([Cond.methodLink RX12 441 yX12_isTrial, Cond.instanceMethod yX12_isTrial, Cond.selects RX12 yX12_isTrial yX12_isTrial, Cond.initialized RX12, Cond.methodLink RX12 444 yX12_triedBy, Cond.instanceMethod yX12_triedBy, Cond.selects RX12 yX12_triedBy yX12_triedBy, Cond.fieldLink RX12 322 "HeadYearModel" "laws" "I", Cond.constant RX12 350 (-1000000)] ++ (u_ws RX12 TX12 54 ++ (w_X12_isTrial ++ (w_X12_triedBy ++ ([])))))
theorem in_X12_reform_X12 : ∀ w ∈ u_ws RX12 TX12 54, w ∈ w_X12_reform := fun _ h => List.mem_cons_of_mem _ (List.mem_append_right _ (List.mem_append_left _ h))
theorem gg_X12_reform_X12_isTrial : GoodIn w_X12_reform w_X12_isTrial := goodIn_sub (fun _ h => List.mem_cons_of_mem _ (List.mem_append_right _ (List.mem_append_right _ (List.mem_append_left _ h)))) (by decide +kernel)
theorem gg_X12_reform_X12_triedBy : GoodIn w_X12_reform w_X12_triedBy := goodIn_sub (fun _ h => List.mem_cons_of_mem _ (List.mem_append_right _ (List.mem_append_right _ (List.mem_append_right _ (List.mem_append_left _ h))))) (by decide +kernel)
theorem g_X12_reform_X12_isTrial_441 : GoodIn w_X12_reform (wsV RX12 441 RX12 yX12_isTrial w_X12_isTrial) := goodIn_app (goodIn_of _ (by decide +kernel)) gg_X12_reform_X12_isTrial
theorem g_X12_reform_X12_triedBy_444 : GoodIn w_X12_reform (wsV RX12 444 RX12 yX12_triedBy w_X12_triedBy) := goodIn_app (goodIn_of _ (by decide +kernel)) gg_X12_reform_X12_triedBy
set_option maxHeartbeats 4000000 in
set_option maxRecDepth 100000 in
theorem c_X12_reform (l : Launch) (E : py_E) (G : wf_G) (L : List Nat) (f : py_F) (sz : Nat) (u : Nat) (a : Int32) (b : Int32) (hG : GT G) (hWF : WF E G L f) (Tu : G.1 u = 13) (hq0 : GM f G u) : Met l yX12_reform w_X12_reform ({ frames := 10, cells := 0, slots := 0, locals := 232 }) (py_Pc E [.ref u, .int a, .int b] L f sz) (py_Qi E L f sz (fun _ L1 f1 => WF E G L1 f1 ∧ KP G [56, 55, 58, 48, 49, 59, 60, 13] false f f1 ∧ FK [30] f f1 u)) 0 0 (va_A (va_pl L f) sz) := by
  refine Met.ofW (cc := cX12_reform) (maxL := 7) (ret := (some .int)) (by decide) rfl ?_
  intro p e s m args below meth c s₁ B hml hv
  obtain ⟨rfl, rfl, hw⟩ := py_start hv
  have G0 : CallFix p m c cX12_reform 7 s _ w_X12_reform RX12 := ⟨B.exec, B.bytes, hml, findClass_of_methodNamed B.named, atoms_spec (ws := w_X12_reform) B.pre⟩
  have hr := B.returns
  have hlk := B.notSynchronized
  have kcm1000000 : (-1000000 : Int32).toInt = -1000000 := rfl
  have kcm1 : (-1 : Int32).toInt = -1 := rfl
  have kc0 : (0 : Int32).toInt = 0 := rfl
  have kc1 : (1 : Int32).toInt = 1 := rfl
  have hl := lv_entry ([.ref u, .int a, .int b]) (n := 7) (Nat.le_of_ble_eq_true rfl)
  rw [lg_entry_eq]
  generalize (lg_sl ([.ref u, .int a, .int b]) ++ List.replicate (7 - (lg_sl ([.ref u, .int a, .int b])).length) Slot.unset).toArray = ls at hl ⊢
  have hl : lv_has ls 7 [(0, .ref u), (1, .int a), (2, .int b)] := hl
  have hFK : FK [30] f f u := FK.refl
  have hKP : KP G [56, 55, 58, 48, 49, 59, 60, 13] false f f := KP.refl
  have hGM := hq0
  refine lv_aload_n G0.1 G0.2.1 dX12_reform_0 rfl (lv_at hl 0 rfl) ?_
  refine lv_iload_n G0.1 G0.2.1 dX12_reform_1 rfl (lv_at hl 1 rfl) ?_
  refine lv_iload_n G0.1 G0.2.1 dX12_reform_2 rfl (lv_at hl 2 rfl) ?_
  obtain ⟨v_1, v_2, v_3, v_4, v_5, v_6, v_7, v_8, v_9, v_10, v_11, v_12, y_13, v_14, v_15, v_16, v_17, v_18, y_19, v_20, y_21, v_22, hr_35, b_23, b_24, b_25, b_26, b_27, b_28, b_29, b_30, b_31, b_32, b_33, b_34⟩ := wg_12 hWF Tu
  have tq_36 := mi_row hr_35 13 rfl
  refine py_calli hw (va_runV (As := [.int a, .int b]) (rest := []) G0 (c_X12_isTrial l E G L f s.heap.size u a b hG hWF Tu) (cwV 2 G0.2.2.2.2 g_X12_reform_X12_isTrial_441 rfl rfl rfl (by decide +kernel) ⟨(Nat.le_of_ble_eq_true rfl), (Nat.le_of_ble_eq_true rfl)⟩) (py_preV hw (C := RX12) (T := TX12) (N := 54) rfl hr_35) rfl rfl hl.1 rfl (lv_room (Nat.le_of_ble_eq_true rfl)) dX12_reform_3 ⟨(Nat.le_of_ble_eq_true rfl), (Nat.le_of_ble_eq_true rfl)⟩) (fun r_41 L_37 f_38 H_39 locs hp_40 hw => ?_)
  obtain ⟨b_43, en_42, rfl, rfl⟩ := hp_40
  refine lv_if_ne (tgt := 13) G0.1 G0.2.1 dX12_reform_6 (by decide) (fun c_44 => ?_) (fun c_44 => ?_)
  · skip
    have tc_44 := ti_ne c_44
    replace en_42 := en_42 (by omega)
    refine lv_iconst (v := (-1)) G0.1 G0.2.1 dX12_reform_13 (by decide) ?_
    refine lv_istore_n (lv' := [(3, .int (-1)), (0, .ref u), (1, .int a), (2, .int b)]) G0.1 G0.2.1 dX12_reform_14 rfl hl (by decide) rfl (fun ls hl => ?_)
    refine lv_aload_n G0.1 G0.2.1 dX12_reform_15 rfl (lv_at hl 1 rfl) ?_
    refine lv_iconst (v := (-1)) G0.1 G0.2.1 dX12_reform_16 (by decide) ?_
    refine lv_iload_n G0.1 G0.2.1 dX12_reform_17 rfl (lv_at hl 2 rfl) ?_
    refine lv_iload_n G0.1 G0.2.1 dX12_reform_18 rfl (lv_at hl 3 rfl) ?_
    refine lv_iconst (v := 0) G0.1 G0.2.1 dX12_reform_19 (by decide) ?_
    refine py_calli hw (va_runV (As := [.int (-1), .int a, .int b, .int 0]) (rest := []) G0 (c_X12_triedBy l E G L f H_39.size u (-1) a b 0 hG hWF Tu ⟨by omega, by omega⟩ ⟨by omega, by omega⟩ ⟨by omega, by omega⟩ (fun hy => absurd rfl hy)) (cwV 4 G0.2.2.2.2 g_X12_reform_X12_triedBy_444 rfl rfl rfl (by decide +kernel) ⟨(Nat.le_of_ble_eq_true rfl), (Nat.le_of_ble_eq_true rfl)⟩) (py_preV hw (C := RX12) (T := TX12) (N := 54) rfl hr_35) rfl rfl hl.1 rfl (lv_room (Nat.le_of_ble_eq_true rfl)) dX12_reform_20 ⟨(Nat.le_of_ble_eq_true rfl), (Nat.le_of_ble_eq_true rfl)⟩) (fun r_49 L_45 f_46 H_47 locs hp_48 hw => ?_)
    obtain ⟨hWF, kp_50, fk_51⟩ := hp_48
    have hGM := hGM.kp hG Tu kp_50 fk_51 (LK.of (by decide)) (by decide)
    have hFK := hFK.trans fk_51 (by decide)
    have hKP := hKP.trans kp_50 (by decide) (by decide)
    obtain ⟨v_52, hr_53⟩ := fk_30 hWF Tu fk_51 hr_35
    have tq_54 := mi_row hr_53 13 rfl
    have br_49 := wf_free r_49
    refine lv_istore (lv' := [(4, .int r_49), (3, .int (-1)), (0, .ref u), (1, .int a), (2, .int b)]) G0.1 G0.2.1 dX12_reform_23 hl (by decide) rfl (fun ls hl => ?_)
    refine lv_iconst (v := 0) G0.1 G0.2.1 dX12_reform_25 (by decide) ?_
    refine lv_istore (lv' := [(5, .int 0), (4, .int r_49), (3, .int (-1)), (0, .ref u), (1, .int a), (2, .int b)]) G0.1 G0.2.1 dX12_reform_26 hl (by decide) rfl (fun ls hl => ?_)
    have lo_28 : ∀ n_28 : Nat, ∀ (v_55 : Int32) (v_56 : Int32) (v_57 : Int32) (L_j28 : List Nat) (f_j28 : py_F) (H_j28 : Heap) (locs : List Loc) (ls : Array Slot), (2147483647 - v_55.toInt).toNat = n_28 → (0 ≤ v_55.toInt ∧ v_55.toInt ≤ 2147483647) → WF E G L_j28 f_j28 → KP G [56, 55, 58, 48, 49, 59, 60, 13] false f f_j28 → GM f_j28 G u → FK [30] f f_j28 u → py_W E (va_A (va_pl L f) s.heap.size) s L_j28 f_j28 H_j28 locs → lv_has ls 7 [(5, .int v_55), (4, .int v_56), (3, .int v_57), (0, .ref u), (1, .int a), (2, .int b)] → W p l e (headSpec w_X12_reform ({ frames := 10, cells := 0, slots := 0, locals := 232 })).room s m ([.ref u, .int a, .int b] : List Value).toArray below meth c H_j28 locs 0 0 (MQ below (py_Qi E L f s.heap.size (fun _ L1 f1 => WF E G L1 f1 ∧ KP G [56, 55, 58, 48, 49, 59, 60, 13] false f f1 ∧ FK [30] f f1 u)) ([.ref u, .int a, .int b] : List Value).toArray s 0 0 (va_A (va_pl L f) s.heap.size)) (F0 m 28 ls []) := by
      intro n_28
      induction n_28 using Nat.strongRecOn with
      | _ n_28 ih_28 =>
        intro v_55 v_56 v_57 L_j28 f_j28 H_j28 locs ls hn_28 bv_55 hWF hKP hGM hFK hw hl
        refine lv_iload G0.1 G0.2.1 dX12_reform_28 (lv_at hl 0 rfl) ?_
        refine lv_aload_n G0.1 G0.2.1 dX12_reform_30 rfl (lv_at hl 3 rfl) ?_
        obtain ⟨v_58, v_59, v_60, v_61, v_62, v_63, v_64, v_65, v_66, v_67, v_68, v_69, y_70, v_71, v_72, v_73, v_74, v_75, y_76, v_77, y_78, v_79, hr_92, b_80, b_81, b_82, b_83, b_84, b_85, b_86, b_87, b_88, b_89, b_90, b_91⟩ := wg_12 hWF Tu
        have tq_93 := mi_row hr_92 13 rfl
        refine py_get (C := RX12) (T := TX12) (N := 54) (k := 13) (v := .int v_63) G0 hw in_X12_reform_X12 rfl hr_92 (by decide) (by decide +kernel) rfl dX12_reform_31 ?_
        refine lv_icmp_ge (tgt := 68) G0.1 G0.2.1 dX12_reform_34 (by decide) (fun c_94 => ?_) (fun c_94 => ?_)
        · skip
          have tc_94 := ti_le c_94
          refine lv_iload_n G0.1 G0.2.1 dX12_reform_68 rfl (lv_at hl 2 rfl) ?_
          exact py_iret G0 hr rfl hlk hw ⟨hWF, hKP, hFK⟩ dX12_reform_69
        · skip
          have tc_94 := ti_nle c_94
          refine lv_aload_n G0.1 G0.2.1 dX12_reform_37 rfl (lv_at hl 3 rfl) ?_
          refine lv_iload G0.1 G0.2.1 dX12_reform_38 (lv_at hl 0 rfl) ?_
          refine lv_iload_n G0.1 G0.2.1 dX12_reform_40 rfl (lv_at hl 4 rfl) ?_
          refine lv_iload_n G0.1 G0.2.1 dX12_reform_41 rfl (lv_at hl 5 rfl) ?_
          refine lv_iconst (v := 0) G0.1 G0.2.1 dX12_reform_42 (by decide) ?_
          refine py_calli hw (va_runV (As := [.int v_55, .int a, .int b, .int 0]) (rest := []) G0 (c_X12_triedBy l E G L_j28 f_j28 H_j28.size u v_55 a b 0 hG hWF Tu ⟨by omega, by omega⟩ ⟨by omega, by omega⟩ ⟨by omega, by omega⟩ (fun hy => hGM.2 _ (by omega) (by omega))) (cwV 4 G0.2.2.2.2 g_X12_reform_X12_triedBy_444 rfl rfl rfl (by decide +kernel) ⟨(Nat.le_of_ble_eq_true rfl), (Nat.le_of_ble_eq_true rfl)⟩) (py_preV hw (C := RX12) (T := TX12) (N := 54) rfl hr_92) rfl rfl hl.1 rfl (lv_room (Nat.le_of_ble_eq_true rfl)) dX12_reform_43 ⟨(Nat.le_of_ble_eq_true rfl), (Nat.le_of_ble_eq_true rfl)⟩) (fun r_99 L_95 f_96 H_97 locs hp_98 hw => ?_)
          obtain ⟨hWF, kp_100, fk_101⟩ := hp_98
          have hGM := hGM.kp hG Tu kp_100 fk_101 (LK.of (by decide)) (by decide)
          have hFK := hFK.trans fk_101 (by decide)
          have hKP := hKP.trans kp_100 (by decide) (by decide)
          obtain ⟨v_102, hr_103⟩ := fk_30 hWF Tu fk_101 hr_92
          have tq_104 := mi_row hr_103 13 rfl
          have br_99 := wf_free r_99
          refine lv_istore (lv' := [(6, .int r_99), (5, .int v_55), (4, .int v_56), (3, .int v_57), (0, .ref u), (1, .int a), (2, .int b)]) G0.1 G0.2.1 dX12_reform_46 hl (by decide) rfl (fun ls hl => ?_)
          refine lv_iload G0.1 G0.2.1 dX12_reform_48 (lv_at hl 0 rfl) ?_
          refine lv_iload G0.1 G0.2.1 dX12_reform_50 (lv_at hl 2 rfl) ?_
          refine lv_icmp_le (tgt := 62) G0.1 G0.2.1 dX12_reform_52 (by decide) (fun c_105 => ?_) (fun c_105 => ?_)
          · skip
            have tc_105 := ti_le c_105
            obtain ⟨x_106, ex_106⟩ : ∃ y : Int32, y = v_55 + 1 := ⟨_, rfl⟩
            first | have tx_106 := ti_add ex_106 (by omega -splitDisjunctions) (by omega -splitDisjunctions) | skip
            refine lv_iinc (v := x_106) (lv' := [(5, .int x_106), (6, .int r_99), (4, .int v_56), (3, .int v_57), (0, .ref u), (1, .int a), (2, .int b)]) G0.1 G0.2.1 dX12_reform_62 hl (k := 1) rfl (show _ + (1 : Int32) = _ from ex_106.symm) (by decide) rfl (fun ls hl => ?_)
            refine lv_goto (tgt := 28) G0.1 G0.2.1 dX12_reform_65 (by decide) ?_
            exact ih_28 ((2147483647 - x_106.toInt).toNat) (by omega) x_106 v_56 v_57 L_95 f_96 _ _ ls rfl ⟨by omega, by omega⟩ hWF hKP hGM hFK hw (lv_sub hl [0, 2, 3, 4, 5, 6] rfl)
          · skip
            have tc_105 := ti_nle c_105
            refine lv_iload G0.1 G0.2.1 dX12_reform_55 (lv_at hl 1 rfl) ?_
            refine lv_istore_n (lv' := [(3, .int v_55), (6, .int r_99), (5, .int v_55), (4, .int v_56), (0, .ref u), (1, .int a), (2, .int b)]) G0.1 G0.2.1 dX12_reform_57 rfl hl (by decide) rfl (fun ls hl => ?_)
            refine lv_iload G0.1 G0.2.1 dX12_reform_58 (lv_at hl 1 rfl) ?_
            refine lv_istore (lv' := [(4, .int r_99), (3, .int v_55), (6, .int r_99), (5, .int v_55), (0, .ref u), (1, .int a), (2, .int b)]) G0.1 G0.2.1 dX12_reform_60 hl (by decide) rfl (fun ls hl => ?_)
            obtain ⟨x_107, ex_107⟩ : ∃ y : Int32, y = v_55 + 1 := ⟨_, rfl⟩
            first | have tx_107 := ti_add ex_107 (by omega -splitDisjunctions) (by omega -splitDisjunctions) | skip
            refine lv_iinc (v := x_107) (lv' := [(5, .int x_107), (4, .int r_99), (3, .int v_55), (6, .int r_99), (0, .ref u), (1, .int a), (2, .int b)]) G0.1 G0.2.1 dX12_reform_62 hl (k := 3) rfl (show _ + (1 : Int32) = _ from ex_107.symm) (by decide) rfl (fun ls hl => ?_)
            refine lv_goto (tgt := 28) G0.1 G0.2.1 dX12_reform_65 (by decide) ?_
            exact ih_28 ((2147483647 - x_107.toInt).toNat) (by omega) x_107 r_99 v_55 L_95 f_96 _ _ ls rfl ⟨by omega, by omega⟩ hWF hKP hGM hFK hw (lv_sub hl [0, 1, 2, 4, 5, 6] rfl)
    exact lo_28 _ 0 r_49 (-1) L_45 f_46 _ _ ls rfl ⟨by omega, by omega⟩ hWF hKP hGM hFK hw (lv_sub hl [0, 1, 2, 3, 4, 5] rfl)
  · skip
    have tc_44 := ti_eq c_44
    clear en_42
    refine lv_ldcw (v := (-1000000)) G0.1 G0.2.1 G0.2.2.2.1 (G0.2.2.2.2 (Cond.constant RX12 350 (-1000000)) (by decide +kernel)) dX12_reform_9 ?_
    exact py_iret G0 hr rfl hlk hw ⟨hWF, hKP, hFK⟩ dX12_reform_12

def w_X12_headsBy : List Cond := .code yX12_headsBy cX12_headsBy 11 (some .int) :: ([Cond.methodLink RX12 287 yX12_of, Cond.instanceMethod yX12_of, Cond.selects RX12 yX12_of yX12_of, Cond.initialized RX12, Cond.methodLink RX12 305 yX12_tell, Cond.instanceMethod yX12_tell, Cond.selects RX12 yX12_tell yX12_tell, Cond.fieldLink RX12 55 "HeadYearModel" "now" "[I", Cond.fieldLink RX12 58 "HeadYearModel" "aside" "[I", Cond.methodLink RX12 437 yX12_copy, Cond.static yX12_copy, Cond.fieldLink RX12 357 "HeadYearModel" "draws" "J", Cond.fieldLink RX12 64 "HeadYearModel" "holding" "I", Cond.fieldLink RX12 309 "HeadYearModel" "years" "I", Cond.methodLink RX12 405 yX12_winter, Cond.instanceMethod yX12_winter, Cond.selects RX12 yX12_winter yX12_winter] ++ (u_ws RX12 TX12 54 ++ (w_X12_of ++ (w_X12_tell ++ (w_X12_copy ++ (w_X12_winter ++ ([])))))))
theorem in_X12_headsBy_X12 : ∀ w ∈ u_ws RX12 TX12 54, w ∈ w_X12_headsBy := fun _ h => List.mem_cons_of_mem _ (List.mem_append_right _ (List.mem_append_left _ h))
theorem gg_X12_headsBy_X12_of : GoodIn w_X12_headsBy w_X12_of := goodIn_sub (fun _ h => List.mem_cons_of_mem _ (List.mem_append_right _ (List.mem_append_right _ (List.mem_append_left _ h)))) (by decide +kernel)
theorem gg_X12_headsBy_X12_tell : GoodIn w_X12_headsBy w_X12_tell := goodIn_sub (fun _ h => List.mem_cons_of_mem _ (List.mem_append_right _ (List.mem_append_right _ (List.mem_append_right _ (List.mem_append_left _ h))))) (by decide +kernel)
theorem gg_X12_headsBy_X12_copy : GoodIn w_X12_headsBy w_X12_copy := goodIn_sub (fun _ h => List.mem_cons_of_mem _ (List.mem_append_right _ (List.mem_append_right _ (List.mem_append_right _ (List.mem_append_right _ (List.mem_append_left _ h)))))) (by decide +kernel)
theorem gg_X12_headsBy_X12_winter : GoodIn w_X12_headsBy w_X12_winter := goodIn_sub (fun _ h => List.mem_cons_of_mem _ (List.mem_append_right _ (List.mem_append_right _ (List.mem_append_right _ (List.mem_append_right _ (List.mem_append_right _ (List.mem_append_left _ h))))))) (by decide +kernel)
theorem g_X12_headsBy_X12_copy_437 : GoodIn w_X12_headsBy (va_wsS RX12 437 yX12_copy w_X12_copy) := goodIn_app (goodIn_of _ (by decide +kernel)) gg_X12_headsBy_X12_copy
theorem g_X12_headsBy_X12_of_287 : GoodIn w_X12_headsBy (wsV RX12 287 RX12 yX12_of w_X12_of) := goodIn_app (goodIn_of _ (by decide +kernel)) gg_X12_headsBy_X12_of
theorem g_X12_headsBy_X12_tell_305 : GoodIn w_X12_headsBy (wsV RX12 305 RX12 yX12_tell w_X12_tell) := goodIn_app (goodIn_of _ (by decide +kernel)) gg_X12_headsBy_X12_tell
theorem g_X12_headsBy_X12_winter_405 : GoodIn w_X12_headsBy (wsV RX12 405 RX12 yX12_winter w_X12_winter) := goodIn_app (goodIn_of _ (by decide +kernel)) gg_X12_headsBy_X12_winter
set_option maxHeartbeats 4000000 in
set_option maxRecDepth 100000 in
theorem c_X12_headsBy (l : Launch) (E : py_E) (G : wf_G) (L : List Nat) (f : py_F) (sz : Nat) (u : Nat) (a : Int32) (b : Int32) (q : Int32) (d : Int32) (hG : GT G) (hWF : WF E G L f) (Tu : G.1 u = 13) (Ba : (0 ≤ a.toInt ∧ a.toInt ≤ 9)) (Bq : (1 ≤ q.toInt ∧ q.toInt ≤ 20)) (Bd : (1 ≤ d.toInt ∧ d.toInt ≤ 10)) (hq0 : GM f G u) : Met l yX12_headsBy w_X12_headsBy ({ frames := 9, cells := 0, slots := 0, locals := 203 }) (py_Pc E [.ref u, .int a, .int b, .int q, .int d] L f sz) (py_Qi E L f sz (fun _ L1 f1 => WF E G L1 f1 ∧ KP G [56, 55, 58, 48, 49, 59, 60, 13] false f f1 ∧ FK [30] f f1 u)) 0 0 (va_A (va_pl L f) sz) := by
  refine Met.ofW (cc := cX12_headsBy) (maxL := 11) (ret := (some .int)) (by decide) rfl ?_
  intro p e s m args below meth c s₁ B hml hv
  obtain ⟨rfl, rfl, hw⟩ := py_start hv
  have G0 : CallFix p m c cX12_headsBy 11 s _ w_X12_headsBy RX12 := ⟨B.exec, B.bytes, hml, findClass_of_methodNamed B.named, atoms_spec (ws := w_X12_headsBy) B.pre⟩
  have hr := B.returns
  have hlk := B.notSynchronized
  have kcm1 : (-1 : Int32).toInt = -1 := rfl
  have kc0 : (0 : Int32).toInt = 0 := rfl
  have kc1 : (1 : Int32).toInt = 1 := rfl
  have kc6 : (6 : Int32).toInt = 6 := rfl
  have hl := lv_entry ([.ref u, .int a, .int b, .int q, .int d]) (n := 11) (Nat.le_of_ble_eq_true rfl)
  rw [lg_entry_eq]
  generalize (lg_sl ([.ref u, .int a, .int b, .int q, .int d]) ++ List.replicate (11 - (lg_sl ([.ref u, .int a, .int b, .int q, .int d])).length) Slot.unset).toArray = ls at hl ⊢
  have hl : lv_has ls 11 [(0, .ref u), (1, .int a), (2, .int b), (3, .int q), (4, .int d)] := hl
  have hFK : FK [30] f f u := FK.refl
  have hKP : KP G [56, 55, 58, 48, 49, 59, 60, 13] false f f := KP.refl
  have hGM := hq0
  refine lv_aload_n G0.1 G0.2.1 dX12_headsBy_0 rfl (lv_at hl 0 rfl) ?_
  refine lv_iload_n G0.1 G0.2.1 dX12_headsBy_1 rfl (lv_at hl 1 rfl) ?_
  refine lv_bipush (v := 6) G0.1 G0.2.1 dX12_headsBy_2 (by decide) ?_
  obtain ⟨v_1, v_2, v_3, v_4, v_5, v_6, v_7, v_8, v_9, v_10, v_11, v_12, y_13, v_14, v_15, v_16, v_17, v_18, y_19, v_20, y_21, v_22, hr_35, b_23, b_24, b_25, b_26, b_27, b_28, b_29, b_30, b_31, b_32, b_33, b_34⟩ := wg_12 hWF Tu
  refine py_calli hw (va_runV (As := [.int a, .int 6]) (rest := []) G0 (c_X12_of l E G L f s.heap.size u a 6 hG hWF Tu ⟨by omega, by omega⟩ ⟨by omega, by omega⟩) (cwV 2 G0.2.2.2.2 g_X12_headsBy_X12_of_287 rfl rfl rfl (by decide +kernel) ⟨(Nat.le_of_ble_eq_true rfl), (Nat.le_of_ble_eq_true rfl)⟩) (py_preV hw (C := RX12) (T := TX12) (N := 54) rfl hr_35) rfl rfl hl.1 rfl (lv_room (Nat.le_of_ble_eq_true rfl)) dX12_headsBy_4 ⟨(Nat.le_of_ble_eq_true rfl), (Nat.le_of_ble_eq_true rfl)⟩) (fun r_40 L_36 f_37 H_38 locs hp_39 hw => ?_)
  obtain ⟨en_41, en_42, rfl, rfl⟩ := hp_39
  have en_41 : r_40.toInt = nw f G u a.toInt (6 : Int) := en_41
  have en_42 : ((6 : Int) = 0 → 0 ≤ r_40.toInt ∧ r_40.toInt ≤ 20) ∧ ((6 : Int) = 1 → -1 ≤ r_40.toInt ∧ r_40.toInt ≤ 7) := en_42
  have br_40 := wf_free r_40
  refine lv_istore (lv' := [(5, .int r_40), (0, .ref u), (1, .int a), (2, .int b), (3, .int q), (4, .int d)]) G0.1 G0.2.1 dX12_headsBy_7 hl (by decide) rfl (fun ls hl => ?_)
  refine lv_aload_n G0.1 G0.2.1 dX12_headsBy_9 rfl (lv_at hl 1 rfl) ?_
  refine lv_iload_n G0.1 G0.2.1 dX12_headsBy_10 rfl (lv_at hl 2 rfl) ?_
  refine lv_bipush (v := 6) G0.1 G0.2.1 dX12_headsBy_11 (by decide) ?_
  refine lv_iload G0.1 G0.2.1 dX12_headsBy_13 (lv_at hl 0 rfl) ?_
  refine lv_iload_n G0.1 G0.2.1 dX12_headsBy_15 rfl (lv_at hl 3 rfl) ?_
  refine lv_iadd G0.1 G0.2.1 dX12_headsBy_16 ?_
  refine lv_topi (fun x_43 ex_43 => ?_)
  first | have tx_43 := ti_add ex_43 (by omega -splitDisjunctions) (by omega -splitDisjunctions) | skip
  refine py_callv hw (va_runV (As := [.int a, .int 6, .int x_43]) (rest := []) G0 (c_X12_tell l E G L f H_38.size u a 6 x_43 hG hWF Tu ⟨by omega, by omega⟩ ⟨by omega, by omega⟩ (show ((6 : Int32).toInt = 0 → 0 ≤ x_43.toInt ∧ x_43.toInt ≤ 20) ∧ ((6 : Int32).toInt = 1 → -1 ≤ x_43.toInt ∧ x_43.toInt ≤ 7) by omega)) (cwV 3 G0.2.2.2.2 g_X12_headsBy_X12_tell_305 rfl rfl rfl (by decide +kernel) ⟨(Nat.le_of_ble_eq_true rfl), (Nat.le_of_ble_eq_true rfl)⟩) (py_preV hw (C := RX12) (T := TX12) (N := 54) rfl hr_35) rfl rfl hl.1 rfl (lv_room (Nat.le_of_ble_eq_true rfl)) dX12_headsBy_17 ⟨(Nat.le_of_ble_eq_true rfl), (Nat.le_of_ble_eq_true rfl)⟩) (fun L_44 f_45 H_46 locs hp_47 hw => ?_)
  obtain ⟨en_49, hWF, kp_50, fk_51⟩ := hp_47
  have en_49 : TL f f_45 G u a.toInt (6 : Int) x_43.toInt := en_49
  have hGM := hGM.kp hG Tu kp_50 fk_51 (LK.of (by decide)) (by decide)
  have hFK := hFK.trans fk_51 (by decide)
  have hKP := hKP.trans kp_50 (by decide) (by decide)
  have hr_35 := kp_at kp_50 hWF Tu (by decide) (by decide) (by decide) hr_35
  refine lv_aload_n G0.1 G0.2.1 dX12_headsBy_20 rfl (lv_at hl 1 rfl) ?_
  refine py_get (C := RX12) (T := TX12) (N := 54) (k := 26) (v := .ref (G.2 u 26)) G0 hw in_X12_headsBy_X12 rfl hr_35 (by decide) (by decide +kernel) rfl dX12_headsBy_21 ?_
  refine lv_aload_n G0.1 G0.2.1 dX12_headsBy_24 rfl (lv_at hl 1 rfl) ?_
  refine py_get (C := RX12) (T := TX12) (N := 54) (k := 27) (v := .ref (G.2 u 27)) G0 hw in_X12_headsBy_X12 rfl hr_35 (by decide) (by decide +kernel) rfl dX12_headsBy_25 ?_
  refine py_callv hw (va_runS (As := [.ref (G.2 u 26), .ref (G.2 u 27)]) (rest := []) G0 (c_X12_copy55_56 l E G L_44 f_45 H_46.size (G.2 u 26) (G.2 u 27) hG hWF (wt12_26 hG Tu) (wt12_27 hG Tu)) (va_cwS 2 G0.2.2.2.2 g_X12_headsBy_X12_copy_437 rfl rfl rfl (by decide +kernel) ⟨(Nat.le_of_ble_eq_true rfl), (Nat.le_of_ble_eq_true rfl)⟩) (py_preS hw) rfl rfl hl.1 rfl (lv_room (Nat.le_of_ble_eq_true rfl)) dX12_headsBy_28 ⟨(Nat.le_of_ble_eq_true rfl), (Nat.le_of_ble_eq_true rfl)⟩) (fun L_52 f_53 H_54 locs hp_55 hw => ?_)
  obtain ⟨hWF, kp_57⟩ := hp_55
  have hGM := hGM.kps hG Tu kp_57 (LK.of (by decide)) (by decide)
  have hFK := hFK.same (kp_f kp_57 Tu (by decide) (by decide) (fun _ => by decide))
  have hKP := hKP.trans kp_57 (by decide) (by decide)
  have hr_35 := kp_at kp_57 hWF Tu (by decide) (by decide) (by decide) hr_35
  refine lv_aload_n G0.1 G0.2.1 dX12_headsBy_31 rfl (lv_at hl 1 rfl) ?_
  refine py_get (C := RX12) (T := TX12) (N := 54) (k := 30) (v := .long y_13) G0 hw in_X12_headsBy_X12 rfl hr_35 (by decide) (by decide +kernel) rfl dX12_headsBy_32 ?_
  refine lv_lstore (lv' := [(6, .long y_13), (5, .int r_40), (0, .ref u), (1, .int a), (2, .int b), (3, .int q), (4, .int d)]) G0.1 G0.2.1 dX12_headsBy_35 hl (by decide) rfl (fun ls hl => ?_)
  refine lv_iconst (v := 0) G0.1 G0.2.1 dX12_headsBy_37 (by decide) ?_
  refine lv_istore (lv' := [(8, .int 0), (6, .long y_13), (5, .int r_40), (0, .ref u), (1, .int a), (2, .int b), (3, .int q), (4, .int d)]) G0.1 G0.2.1 dX12_headsBy_38 hl (by decide) rfl (fun ls hl => ?_)
  refine lv_iconst (v := 0) G0.1 G0.2.1 dX12_headsBy_40 (by decide) ?_
  refine lv_istore (lv' := [(9, .int 0), (8, .int 0), (6, .long y_13), (5, .int r_40), (0, .ref u), (1, .int a), (2, .int b), (3, .int q), (4, .int d)]) G0.1 G0.2.1 dX12_headsBy_41 hl (by decide) rfl (fun ls hl => ?_)
  have lo_43 : ∀ n_43 : Nat, ∀ (v_58 : Int32) (v_59 : Int32) (L_j43 : List Nat) (f_j43 : py_F) (H_j43 : Heap) (locs : List Loc) (ls : Array Slot), (2147483647 - v_58.toInt).toNat = n_43 → (0 ≤ v_58.toInt ∧ v_58.toInt ≤ 2147483647) → WF E G L_j43 f_j43 → KP G [56, 55, 58, 48, 49, 59, 60, 13] false f f_j43 → GM f_j43 G u → FK [30] f f_j43 u → py_W E (va_A (va_pl L f) s.heap.size) s L_j43 f_j43 H_j43 locs → lv_has ls 11 [(9, .int v_58), (8, .int v_59), (6, .long y_13), (5, .int r_40), (0, .ref u), (1, .int a), (2, .int b), (3, .int q), (4, .int d)] → W p l e (headSpec w_X12_headsBy ({ frames := 9, cells := 0, slots := 0, locals := 203 })).room s m ([.ref u, .int a, .int b, .int q, .int d] : List Value).toArray below meth c H_j43 locs 0 0 (MQ below (py_Qi E L f s.heap.size (fun _ L1 f1 => WF E G L1 f1 ∧ KP G [56, 55, 58, 48, 49, 59, 60, 13] false f f1 ∧ FK [30] f f1 u)) ([.ref u, .int a, .int b, .int q, .int d] : List Value).toArray s 0 0 (va_A (va_pl L f) s.heap.size)) (F0 m 43 ls []) := by
    intro n_43
    induction n_43 using Nat.strongRecOn with
    | _ n_43 ih_43 =>
      intro v_58 v_59 L_j43 f_j43 H_j43 locs ls hn_43 bv_58 hWF hKP hGM hFK hw hl
      refine lv_iload G0.1 G0.2.1 dX12_headsBy_43 (lv_at hl 0 rfl) ?_
      refine lv_iload G0.1 G0.2.1 dX12_headsBy_45 (lv_at hl 8 rfl) ?_
      refine lv_icmp_ge (tgt := 115) G0.1 G0.2.1 dX12_headsBy_47 (by decide) (fun c_60 => ?_) (fun c_60 => ?_)
      · skip
        have tc_60 := ti_le c_60
        refine lv_aload_n G0.1 G0.2.1 dX12_headsBy_115 rfl (lv_at hl 4 rfl) ?_
        refine lv_lload G0.1 G0.2.1 dX12_headsBy_116 (lv_at hl 2 rfl) ?_
        obtain ⟨v_61, v_62, v_63, v_64, v_65, v_66, v_67, v_68, v_69, v_70, v_71, v_72, y_73, v_74, v_75, v_76, v_77, v_78, y_79, v_80, y_81, v_82, hr_95, b_83, b_84, b_85, b_86, b_87, b_88, b_89, b_90, b_91, b_92, b_93, b_94⟩ := wg_12 hWF Tu
        refine py_put (C := RX12) (T := TX12) (N := 54) (k := 30) (v := .long y_13) (fs' := [.int v_61, .ref (G.2 u 1), .int v_62, .int v_63, .int v_64, .int v_65, .ref (G.2 u 6), .ref (G.2 u 7), .ref (G.2 u 8), .ref (G.2 u 9), .ref (G.2 u 10), .ref (G.2 u 11), .ref (G.2 u 12), .int v_66, .int v_67, .ref (G.2 u 15), .ref (G.2 u 16), .ref (G.2 u 17), .ref (G.2 u 18), .int v_68, .int v_69, .ref (G.2 u 21), .ref (G.2 u 22), .ref (G.2 u 23), .int v_70, .int v_71, .ref (G.2 u 26), .ref (G.2 u 27), .ref (G.2 u 28), .int v_72, .long y_13, .int v_74, .int v_75, .int v_76, .int v_77, .ref (G.2 u 35), .ref (G.2 u 36), .ref (G.2 u 37), .ref (G.2 u 38), .ref (G.2 u 39), .ref (G.2 u 40), .ref (G.2 u 41), .ref (G.2 u 42), .int v_78, .ref (G.2 u 44), .ref (G.2 u 45), .ref (G.2 u 46), .ref (G.2 u 47), .long y_79, .ref (G.2 u 49), .ref (G.2 u 50), .int v_80, .long y_81, .int v_82]) (ty0 := tyX12) G0 hw tyX12_ok nmX12 in_X12_headsBy_X12 rfl hr_95 (by decide) (by decide +kernel) rfl rfl rfl rfl (Nat.le_of_ble_eq_true rfl) rfl dX12_headsBy_118 (fun f_96 H_97 locs h_98 x_99 hw => ?_)
        have hGM := hGM.own hG hWF Tu x_99 (by have z1 := mi_row hr_95 13 rfl; have z2 := mi_row h_98 13 rfl; omega) (by have z1 := mi_row hr_95 31 rfl; have z2 := mi_row h_98 31 rfl; omega)
        have hFK := hFK.put hr_95 h_98 30 (by decide) rfl
        have hKP := hKP.upd hWF x_99 Tu (Or.inl (by decide))
        have hWF := wf_upd hWF h_98 x_99 (by rw [Tu]; exact ⟨v_61, v_62, v_63, v_64, v_65, v_66, v_67, v_68, v_69, v_70, v_71, v_72, y_13, v_74, v_75, v_76, v_77, v_78, y_79, v_80, y_81, v_82, rfl, ⟨by omega, by omega⟩, ⟨by omega, by omega⟩, ⟨by omega, by omega⟩, ⟨by omega, by omega⟩, ⟨by omega, by omega⟩, ⟨by omega, by omega⟩, ⟨by omega, by omega⟩, ⟨by omega, by omega⟩, ⟨by omega, by omega⟩, ⟨by omega, by omega⟩, ⟨by omega, by omega⟩, ⟨by omega, by omega⟩⟩)
        refine lv_aload_n G0.1 G0.2.1 dX12_headsBy_121 rfl (lv_at hl 4 rfl) ?_
        refine lv_iload_n G0.1 G0.2.1 dX12_headsBy_122 rfl (lv_at hl 5 rfl) ?_
        refine lv_bipush (v := 6) G0.1 G0.2.1 dX12_headsBy_123 (by decide) ?_
        refine lv_iload G0.1 G0.2.1 dX12_headsBy_125 (lv_at hl 3 rfl) ?_
        refine py_callv hw (va_runV (As := [.int a, .int 6, .int r_40]) (rest := []) G0 (c_X12_tell l E G L_j43 f_96 H_97.size u a 6 r_40 hG hWF Tu ⟨by omega, by omega⟩ ⟨by omega, by omega⟩ (show ((6 : Int32).toInt = 0 → 0 ≤ r_40.toInt ∧ r_40.toInt ≤ 20) ∧ ((6 : Int32).toInt = 1 → -1 ≤ r_40.toInt ∧ r_40.toInt ≤ 7) by omega)) (cwV 3 G0.2.2.2.2 g_X12_headsBy_X12_tell_305 rfl rfl rfl (by decide +kernel) ⟨(Nat.le_of_ble_eq_true rfl), (Nat.le_of_ble_eq_true rfl)⟩) (py_preV hw (C := RX12) (T := TX12) (N := 54) rfl h_98) rfl rfl hl.1 rfl (lv_room (Nat.le_of_ble_eq_true rfl)) dX12_headsBy_127 ⟨(Nat.le_of_ble_eq_true rfl), (Nat.le_of_ble_eq_true rfl)⟩) (fun L_100 f_101 H_102 locs hp_103 hw => ?_)
        obtain ⟨en_105, hWF, kp_106, fk_107⟩ := hp_103
        have en_105 : TL f_96 f_101 G u a.toInt (6 : Int) r_40.toInt := en_105
        have hGM := hGM.kp hG Tu kp_106 fk_107 (LK.of (by decide)) (by decide)
        have hFK := hFK.trans fk_107 (by decide)
        have hKP := hKP.trans kp_106 (by decide) (by decide)
        have h_98 := kp_at kp_106 hWF Tu (by decide) (by decide) (by decide) h_98
        refine lv_iload G0.1 G0.2.1 dX12_headsBy_130 (lv_at hl 1 rfl) ?_
        exact py_iret G0 hr rfl hlk hw ⟨hWF, hKP, hFK⟩ dX12_headsBy_132
      · skip
        have tc_60 := ti_nle c_60
        refine lv_aload_n G0.1 G0.2.1 dX12_headsBy_50 rfl (lv_at hl 4 rfl) ?_
        refine lv_iload G0.1 G0.2.1 dX12_headsBy_51 (lv_at hl 0 rfl) ?_
        refine lv_i2l (v := v_58.toInt64) G0.1 G0.2.1 dX12_headsBy_53 rfl ?_
        obtain ⟨v_108, v_109, v_110, v_111, v_112, v_113, v_114, v_115, v_116, v_117, v_118, v_119, y_120, v_121, v_122, v_123, v_124, v_125, y_126, v_127, y_128, v_129, hr_142, b_130, b_131, b_132, b_133, b_134, b_135, b_136, b_137, b_138, b_139, b_140, b_141⟩ := wg_12 hWF Tu
        refine py_put (C := RX12) (T := TX12) (N := 54) (k := 30) (v := .long (v_58.toInt64)) (fs' := [.int v_108, .ref (G.2 u 1), .int v_109, .int v_110, .int v_111, .int v_112, .ref (G.2 u 6), .ref (G.2 u 7), .ref (G.2 u 8), .ref (G.2 u 9), .ref (G.2 u 10), .ref (G.2 u 11), .ref (G.2 u 12), .int v_113, .int v_114, .ref (G.2 u 15), .ref (G.2 u 16), .ref (G.2 u 17), .ref (G.2 u 18), .int v_115, .int v_116, .ref (G.2 u 21), .ref (G.2 u 22), .ref (G.2 u 23), .int v_117, .int v_118, .ref (G.2 u 26), .ref (G.2 u 27), .ref (G.2 u 28), .int v_119, .long (v_58.toInt64), .int v_121, .int v_122, .int v_123, .int v_124, .ref (G.2 u 35), .ref (G.2 u 36), .ref (G.2 u 37), .ref (G.2 u 38), .ref (G.2 u 39), .ref (G.2 u 40), .ref (G.2 u 41), .ref (G.2 u 42), .int v_125, .ref (G.2 u 44), .ref (G.2 u 45), .ref (G.2 u 46), .ref (G.2 u 47), .long y_126, .ref (G.2 u 49), .ref (G.2 u 50), .int v_127, .long y_128, .int v_129]) (ty0 := tyX12) G0 hw tyX12_ok nmX12 in_X12_headsBy_X12 rfl hr_142 (by decide) (by decide +kernel) rfl rfl rfl rfl (Nat.le_of_ble_eq_true rfl) rfl dX12_headsBy_54 (fun f_143 H_144 locs h_145 x_146 hw => ?_)
        have hGM := hGM.own hG hWF Tu x_146 (by have z1 := mi_row hr_142 13 rfl; have z2 := mi_row h_145 13 rfl; omega) (by have z1 := mi_row hr_142 31 rfl; have z2 := mi_row h_145 31 rfl; omega)
        have hFK := hFK.put hr_142 h_145 30 (by decide) rfl
        have hKP := hKP.upd hWF x_146 Tu (Or.inl (by decide))
        have hWF := wf_upd hWF h_145 x_146 (by rw [Tu]; exact ⟨v_108, v_109, v_110, v_111, v_112, v_113, v_114, v_115, v_116, v_117, v_118, v_119, (v_58.toInt64), v_121, v_122, v_123, v_124, v_125, y_126, v_127, y_128, v_129, rfl, ⟨by omega, by omega⟩, ⟨by omega, by omega⟩, ⟨by omega, by omega⟩, ⟨by omega, by omega⟩, ⟨by omega, by omega⟩, ⟨by omega, by omega⟩, ⟨by omega, by omega⟩, ⟨by omega, by omega⟩, ⟨by omega, by omega⟩, ⟨by omega, by omega⟩, ⟨by omega, by omega⟩, ⟨by omega, by omega⟩⟩)
        refine lv_iconst (v := 1) G0.1 G0.2.1 dX12_headsBy_57 (by decide) ?_
        refine lv_istore (lv' := [(10, .int 1), (9, .int v_58), (8, .int v_59), (6, .long y_13), (5, .int r_40), (0, .ref u), (1, .int a), (2, .int b), (3, .int q), (4, .int d)]) G0.1 G0.2.1 dX12_headsBy_58 hl (by decide) rfl (fun ls hl => ?_)
        have lo_60 : ∀ n_60 : Nat, ∀ (v_147 : Int32) (L_j60 : List Nat) (f_j60 : py_F) (H_j60 : Heap) (locs : List Loc) (ls : Array Slot), (2147483647 - v_147.toInt).toNat = n_60 → (1 ≤ v_147.toInt ∧ v_147.toInt ≤ 2147483647) → WF E G L_j60 f_j60 → KP G [56, 55, 58, 48, 49, 59, 60, 13] false f f_j60 → GM f_j60 G u → FK [30] f f_j60 u → py_W E (va_A (va_pl L f) s.heap.size) s L_j60 f_j60 H_j60 locs → lv_has ls 11 [(10, .int v_147), (9, .int v_58), (8, .int v_59), (6, .long y_13), (5, .int r_40), (0, .ref u), (1, .int a), (2, .int b), (3, .int q), (4, .int d)] → W p l e (headSpec w_X12_headsBy ({ frames := 9, cells := 0, slots := 0, locals := 203 })).room s m ([.ref u, .int a, .int b, .int q, .int d] : List Value).toArray below meth c H_j60 locs 0 0 (MQ below (py_Qi E L f s.heap.size (fun _ L1 f1 => WF E G L1 f1 ∧ KP G [56, 55, 58, 48, 49, 59, 60, 13] false f f1 ∧ FK [30] f f1 u)) ([.ref u, .int a, .int b, .int q, .int d] : List Value).toArray s 0 0 (va_A (va_pl L f) s.heap.size)) (F0 m 60 ls []) := by
          intro n_60
          induction n_60 using Nat.strongRecOn with
          | _ n_60 ih_60 =>
            intro v_147 L_j60 f_j60 H_j60 locs ls hn_60 bv_147 hWF hKP hGM hFK hw hl
            refine lv_iload G0.1 G0.2.1 dX12_headsBy_60 (lv_at hl 0 rfl) ?_
            refine lv_iload_n G0.1 G0.2.1 dX12_headsBy_62 rfl (lv_at hl 8 rfl) ?_
            refine lv_icmp_gt (tgt := 87) G0.1 G0.2.1 dX12_headsBy_63 (by decide) (fun c_148 => ?_) (fun c_148 => ?_)
            · skip
              have tc_148 := ti_lt c_148
              refine lv_iload G0.1 G0.2.1 dX12_headsBy_87 (lv_at hl 2 rfl) ?_
              refine lv_aload_n G0.1 G0.2.1 dX12_headsBy_89 rfl (lv_at hl 5 rfl) ?_
              refine lv_iload_n G0.1 G0.2.1 dX12_headsBy_90 rfl (lv_at hl 6 rfl) ?_
              refine lv_iconst (v := 0) G0.1 G0.2.1 dX12_headsBy_91 (by decide) ?_
              obtain ⟨v_149, v_150, v_151, v_152, v_153, v_154, v_155, v_156, v_157, v_158, v_159, v_160, y_161, v_162, v_163, v_164, v_165, v_166, y_167, v_168, y_169, v_170, hr_183, b_171, b_172, b_173, b_174, b_175, b_176, b_177, b_178, b_179, b_180, b_181, b_182⟩ := wg_12 hWF Tu
              refine py_calli hw (va_runV (As := [.int a, .int 0]) (rest := [.int v_59]) G0 (c_X12_of l E G L_j60 f_j60 H_j60.size u a 0 hG hWF Tu ⟨by omega, by omega⟩ ⟨by omega, by omega⟩) (cwV 2 G0.2.2.2.2 g_X12_headsBy_X12_of_287 rfl rfl rfl (by decide +kernel) ⟨(Nat.le_of_ble_eq_true rfl), (Nat.le_of_ble_eq_true rfl)⟩) (py_preV hw (C := RX12) (T := TX12) (N := 54) rfl hr_183) rfl rfl hl.1 rfl (lv_room (Nat.le_of_ble_eq_true rfl)) dX12_headsBy_92 ⟨(Nat.le_of_ble_eq_true rfl), (Nat.le_of_ble_eq_true rfl)⟩) (fun r_188 L_184 f_185 H_186 locs hp_187 hw => ?_)
              obtain ⟨en_189, en_190, rfl, rfl⟩ := hp_187
              have en_189 : r_188.toInt = nw f_j60 G u a.toInt (0 : Int) := en_189
              have en_190 : ((0 : Int) = 0 → 0 ≤ r_188.toInt ∧ r_188.toInt ≤ 20) ∧ ((0 : Int) = 1 → -1 ≤ r_188.toInt ∧ r_188.toInt ≤ 7) := en_190
              have br_188 := wf_free r_188
              refine lv_iadd G0.1 G0.2.1 dX12_headsBy_95 ?_
              refine lv_topi (fun x_191 ex_191 => ?_)
              first | have tx_191 := ti_add ex_191 (by omega -splitDisjunctions) (by omega -splitDisjunctions) | skip
              refine lv_istore (lv' := [(8, .int x_191), (10, .int v_147), (9, .int v_58), (6, .long y_13), (5, .int r_40), (0, .ref u), (1, .int a), (2, .int b), (3, .int q), (4, .int d)]) G0.1 G0.2.1 dX12_headsBy_96 hl (by decide) rfl (fun ls hl => ?_)
              refine lv_aload_n G0.1 G0.2.1 dX12_headsBy_98 rfl (lv_at hl 5 rfl) ?_
              refine py_get (C := RX12) (T := TX12) (N := 54) (k := 27) (v := .ref (G.2 u 27)) G0 hw in_X12_headsBy_X12 rfl hr_183 (by decide) (by decide +kernel) rfl dX12_headsBy_99 ?_
              refine lv_aload_n G0.1 G0.2.1 dX12_headsBy_102 rfl (lv_at hl 5 rfl) ?_
              refine py_get (C := RX12) (T := TX12) (N := 54) (k := 26) (v := .ref (G.2 u 26)) G0 hw in_X12_headsBy_X12 rfl hr_183 (by decide) (by decide +kernel) rfl dX12_headsBy_103 ?_
              refine py_callv hw (va_runS (As := [.ref (G.2 u 27), .ref (G.2 u 26)]) (rest := []) G0 (c_X12_copy56_55 l E G L_j60 f_j60 H_186.size (G.2 u 27) (G.2 u 26) hG hWF (wt12_27 hG Tu) (wt12_26 hG Tu)) (va_cwS 2 G0.2.2.2.2 g_X12_headsBy_X12_copy_437 rfl rfl rfl (by decide +kernel) ⟨(Nat.le_of_ble_eq_true rfl), (Nat.le_of_ble_eq_true rfl)⟩) (py_preS hw) rfl rfl hl.1 rfl (lv_room (Nat.le_of_ble_eq_true rfl)) dX12_headsBy_106 ⟨(Nat.le_of_ble_eq_true rfl), (Nat.le_of_ble_eq_true rfl)⟩) (fun L_192 f_193 H_194 locs hp_195 hw => ?_)
              obtain ⟨hWF, kp_197⟩ := hp_195
              have hGM := hGM.kps hG Tu kp_197 (LK.of (by decide)) (by decide)
              have hFK := hFK.same (kp_f kp_197 Tu (by decide) (by decide) (fun _ => by decide))
              have hKP := hKP.trans kp_197 (by decide) (by decide)
              have hr_183 := kp_at kp_197 hWF Tu (by decide) (by decide) (by decide) hr_183
              obtain ⟨x_198, ex_198⟩ : ∃ y : Int32, y = v_58 + 1 := ⟨_, rfl⟩
              first | have tx_198 := ti_add ex_198 (by omega -splitDisjunctions) (by omega -splitDisjunctions) | skip
              refine lv_iinc (v := x_198) (lv' := [(9, .int x_198), (8, .int x_191), (10, .int v_147), (6, .long y_13), (5, .int r_40), (0, .ref u), (1, .int a), (2, .int b), (3, .int q), (4, .int d)]) G0.1 G0.2.1 dX12_headsBy_109 hl (k := 2) rfl (show _ + (1 : Int32) = _ from ex_198.symm) (by decide) rfl (fun ls hl => ?_)
              refine lv_goto (tgt := 43) G0.1 G0.2.1 dX12_headsBy_112 (by decide) ?_
              exact ih_43 ((2147483647 - x_198.toInt).toNat) (by omega) x_198 x_191 L_192 f_193 _ _ ls rfl ⟨by omega, by omega⟩ hWF hKP hGM hFK hw (lv_sub hl [0, 1, 3, 4, 5, 6, 7, 8, 9] rfl)
            · skip
              have tc_148 := ti_nlt c_148
              refine lv_aload_n G0.1 G0.2.1 dX12_headsBy_66 rfl (lv_at hl 5 rfl) ?_
              refine lv_aload_n G0.1 G0.2.1 dX12_headsBy_67 rfl (lv_at hl 5 rfl) ?_
              obtain ⟨v_199, v_200, v_201, v_202, v_203, v_204, v_205, v_206, v_207, v_208, v_209, v_210, y_211, v_212, v_213, v_214, v_215, v_216, y_217, v_218, y_219, v_220, hr_233, b_221, b_222, b_223, b_224, b_225, b_226, b_227, b_228, b_229, b_230, b_231, b_232⟩ := wg_12 hWF Tu
              refine py_get (C := RX12) (T := TX12) (N := 54) (k := 31) (v := .int v_212) G0 hw in_X12_headsBy_X12 rfl hr_233 (by decide) (by decide +kernel) rfl dX12_headsBy_68 ?_
              refine lv_aload_n G0.1 G0.2.1 dX12_headsBy_71 rfl (lv_at hl 5 rfl) ?_
              refine py_get (C := RX12) (T := TX12) (N := 54) (k := 29) (v := .int v_210) G0 hw in_X12_headsBy_X12 rfl hr_233 (by decide) (by decide +kernel) rfl dX12_headsBy_72 ?_
              refine lv_iload G0.1 G0.2.1 dX12_headsBy_75 (lv_at hl 0 rfl) ?_
              refine lv_iadd G0.1 G0.2.1 dX12_headsBy_77 ?_
              refine lv_topi (fun x_234 ex_234 => ?_)
              first | have tx_234 := ti_add ex_234 (by omega -splitDisjunctions) (by omega -splitDisjunctions) | skip
              refine py_callv hw (va_runV (As := [.int v_212, .int x_234]) (rest := []) G0 (c_X12_winter l E G L_j60 f_j60 H_j60.size u v_212 x_234 hG hWF Tu ⟨by omega, by omega⟩ (fun hy => hGM.hold (by have hz := mi_row hr_233 31 rfl; omega) hy)) (cwV 2 G0.2.2.2.2 g_X12_headsBy_X12_winter_405 rfl rfl rfl (by decide +kernel) ⟨(Nat.le_of_ble_eq_true rfl), (Nat.le_of_ble_eq_true rfl)⟩) (py_preV hw (C := RX12) (T := TX12) (N := 54) rfl hr_233) rfl rfl hl.1 rfl (lv_room (Nat.le_of_ble_eq_true rfl)) dX12_headsBy_78 ⟨(Nat.le_of_ble_eq_true rfl), (Nat.le_of_ble_eq_true rfl)⟩) (fun L_235 f_236 H_237 locs hp_238 hw => ?_)
              obtain ⟨hWF, kp_240, fk_241⟩ := hp_238
              have hGM := hGM.kp hG Tu kp_240 fk_241 (LK.of (by decide)) (by decide)
              have hFK := hFK.trans fk_241 (by decide)
              have hKP := hKP.trans kp_240 (by decide) (by decide)
              obtain ⟨v_242, hr_243⟩ := fk_30 hWF Tu fk_241 hr_233
              obtain ⟨x_244, ex_244⟩ : ∃ y : Int32, y = v_147 + 1 := ⟨_, rfl⟩
              first | have tx_244 := ti_add ex_244 (by omega -splitDisjunctions) (by omega -splitDisjunctions) | skip
              refine lv_iinc (v := x_244) (lv' := [(10, .int x_244), (9, .int v_58), (8, .int v_59), (6, .long y_13), (5, .int r_40), (0, .ref u), (1, .int a), (2, .int b), (3, .int q), (4, .int d)]) G0.1 G0.2.1 dX12_headsBy_81 hl (k := 0) rfl (show _ + (1 : Int32) = _ from ex_244.symm) (by decide) rfl (fun ls hl => ?_)
              refine lv_goto (tgt := 60) G0.1 G0.2.1 dX12_headsBy_84 (by decide) ?_
              exact ih_60 ((2147483647 - x_244.toInt).toNat) (by omega) x_244 L_235 f_236 _ _ ls rfl ⟨by omega, by omega⟩ hWF hKP hGM hFK hw (lv_sub hl [0, 1, 2, 3, 4, 5, 6, 7, 8, 9] rfl)
        exact lo_60 _ 1 L_j43 f_143 _ _ ls rfl ⟨by omega, by omega⟩ hWF hKP hGM hFK hw (lv_sub hl [0, 1, 2, 3, 4, 5, 6, 7, 8, 9] rfl)
  exact lo_43 _ 0 0 L_52 f_53 _ _ ls rfl ⟨by omega, by omega⟩ hWF hKP hGM hFK hw (lv_sub hl [0, 1, 2, 3, 4, 5, 6, 7, 8] rfl)

def w_X12_advice : List Cond := .code yX12_advice cX12_advice 10 (some .int) :: ([Cond.methodLink RX12 441 yX12_isTrial, Cond.instanceMethod yX12_isTrial, Cond.selects RX12 yX12_isTrial yX12_isTrial, Cond.initialized RX12, Cond.constant RX12 350 (-1000000), Cond.methodLink RX12 347 yX12_isFamily, Cond.instanceMethod yX12_isFamily, Cond.selects RX12 yX12_isFamily yX12_isFamily, Cond.methodLink RX12 341 yX12_isGone, Cond.instanceMethod yX12_isGone, Cond.selects RX12 yX12_isGone yX12_isGone, Cond.methodLink RX12 232 yX12_in, Cond.static yX12_in, Cond.methodLink RX12 454 yX12_headsBy, Cond.instanceMethod yX12_headsBy, Cond.selects RX12 yX12_headsBy yX12_headsBy, Cond.methodLink RX12 287 yX12_of, Cond.instanceMethod yX12_of, Cond.selects RX12 yX12_of yX12_of] ++ (w_X12_isTrial ++ (w_X12_isFamily ++ (w_X12_isGone ++ (w_X12_in ++ (w_X12_headsBy ++ (w_X12_of ++ ([]))))))))
theorem gg_X12_advice_X12_isTrial : GoodIn w_X12_advice w_X12_isTrial := goodIn_sub (fun _ h => List.mem_cons_of_mem _ (List.mem_append_right _ (List.mem_append_left _ h))) (by decide +kernel)
theorem gg_X12_advice_X12_isFamily : GoodIn w_X12_advice w_X12_isFamily := goodIn_sub (fun _ h => List.mem_cons_of_mem _ (List.mem_append_right _ (List.mem_append_right _ (List.mem_append_left _ h)))) (by decide +kernel)
theorem gg_X12_advice_X12_isGone : GoodIn w_X12_advice w_X12_isGone := goodIn_sub (fun _ h => List.mem_cons_of_mem _ (List.mem_append_right _ (List.mem_append_right _ (List.mem_append_right _ (List.mem_append_left _ h))))) (by decide +kernel)
theorem gg_X12_advice_X12_in : GoodIn w_X12_advice w_X12_in := goodIn_sub (fun _ h => List.mem_cons_of_mem _ (List.mem_append_right _ (List.mem_append_right _ (List.mem_append_right _ (List.mem_append_right _ (List.mem_append_left _ h)))))) (by decide +kernel)
theorem gg_X12_advice_X12_headsBy : GoodIn w_X12_advice w_X12_headsBy := goodIn_sub (fun _ h => List.mem_cons_of_mem _ (List.mem_append_right _ (List.mem_append_right _ (List.mem_append_right _ (List.mem_append_right _ (List.mem_append_right _ (List.mem_append_left _ h))))))) (by decide +kernel)
theorem gg_X12_advice_X12_of : GoodIn w_X12_advice w_X12_of := goodIn_sub (fun _ h => List.mem_cons_of_mem _ (List.mem_append_right _ (List.mem_append_right _ (List.mem_append_right _ (List.mem_append_right _ (List.mem_append_right _ (List.mem_append_right _ (List.mem_append_left _ h)))))))) (by decide +kernel)
theorem g_X12_advice_X12_headsBy_454 : GoodIn w_X12_advice (wsV RX12 454 RX12 yX12_headsBy w_X12_headsBy) := goodIn_app (goodIn_of _ (by decide +kernel)) gg_X12_advice_X12_headsBy
theorem g_X12_advice_X12_in_232 : GoodIn w_X12_advice (va_wsS RX12 232 yX12_in w_X12_in) := goodIn_app (goodIn_of _ (by decide +kernel)) gg_X12_advice_X12_in
theorem g_X12_advice_X12_isFamily_347 : GoodIn w_X12_advice (wsV RX12 347 RX12 yX12_isFamily w_X12_isFamily) := goodIn_app (goodIn_of _ (by decide +kernel)) gg_X12_advice_X12_isFamily
theorem g_X12_advice_X12_isGone_341 : GoodIn w_X12_advice (wsV RX12 341 RX12 yX12_isGone w_X12_isGone) := goodIn_app (goodIn_of _ (by decide +kernel)) gg_X12_advice_X12_isGone
theorem g_X12_advice_X12_isTrial_441 : GoodIn w_X12_advice (wsV RX12 441 RX12 yX12_isTrial w_X12_isTrial) := goodIn_app (goodIn_of _ (by decide +kernel)) gg_X12_advice_X12_isTrial
theorem g_X12_advice_X12_of_287 : GoodIn w_X12_advice (wsV RX12 287 RX12 yX12_of w_X12_of) := goodIn_app (goodIn_of _ (by decide +kernel)) gg_X12_advice_X12_of
set_option maxHeartbeats 4000000 in
set_option maxRecDepth 100000 in
theorem c_X12_advice (l : Launch) (E : py_E) (G : wf_G) (L : List Nat) (f : py_F) (sz : Nat) (u : Nat) (a : Int32) (b : Int32) (q : Int32) (d : Int32) (hG : GT G) (hWF : WF E G L f) (Tu : G.1 u = 13) (hq0 : GM f G u) : Met l yX12_advice w_X12_advice ({ frames := 10, cells := 0, slots := 0, locals := 233 }) (py_Pc E [.ref u, .int a, .int b, .int q, .int d] L f sz) (py_Qi E L f sz (fun _ L1 f1 => WF E G L1 f1 ∧ KP G [56, 55, 58, 48, 49, 59, 60, 13] false f f1 ∧ FK [30] f f1 u)) 0 0 (va_A (va_pl L f) sz) := by
  refine Met.ofW (cc := cX12_advice) (maxL := 10) (ret := (some .int)) (by decide) rfl ?_
  intro p e s m args below meth c s₁ B hml hv
  obtain ⟨rfl, rfl, hw⟩ := py_start hv
  have G0 : CallFix p m c cX12_advice 10 s _ w_X12_advice RX12 := ⟨B.exec, B.bytes, hml, findClass_of_methodNamed B.named, atoms_spec (ws := w_X12_advice) B.pre⟩
  have hr := B.returns
  have hlk := B.notSynchronized
  have kcm1000000 : (-1000000 : Int32).toInt = -1000000 := rfl
  have kcm3 : (-3 : Int32).toInt = -3 := rfl
  have kcm1 : (-1 : Int32).toInt = -1 := rfl
  have kc0 : (0 : Int32).toInt = 0 := rfl
  have kc1 : (1 : Int32).toInt = 1 := rfl
  have kc2 : (2 : Int32).toInt = 2 := rfl
  have kc3 : (3 : Int32).toInt = 3 := rfl
  have kc6 : (6 : Int32).toInt = 6 := rfl
  have kc7 : (7 : Int32).toInt = 7 := rfl
  have hl := lv_entry ([.ref u, .int a, .int b, .int q, .int d]) (n := 10) (Nat.le_of_ble_eq_true rfl)
  rw [lg_entry_eq]
  generalize (lg_sl ([.ref u, .int a, .int b, .int q, .int d]) ++ List.replicate (10 - (lg_sl ([.ref u, .int a, .int b, .int q, .int d])).length) Slot.unset).toArray = ls at hl ⊢
  have hl : lv_has ls 10 [(0, .ref u), (1, .int a), (2, .int b), (3, .int q), (4, .int d)] := hl
  have hFK : FK [30] f f u := FK.refl
  have hKP : KP G [56, 55, 58, 48, 49, 59, 60, 13] false f f := KP.refl
  have hGM := hq0
  refine lv_aload_n G0.1 G0.2.1 dX12_advice_0 rfl (lv_at hl 0 rfl) ?_
  refine lv_iload_n G0.1 G0.2.1 dX12_advice_1 rfl (lv_at hl 2 rfl) ?_
  refine lv_iload_n G0.1 G0.2.1 dX12_advice_2 rfl (lv_at hl 3 rfl) ?_
  obtain ⟨v_1, v_2, v_3, v_4, v_5, v_6, v_7, v_8, v_9, v_10, v_11, v_12, y_13, v_14, v_15, v_16, v_17, v_18, y_19, v_20, y_21, v_22, hr_35, b_23, b_24, b_25, b_26, b_27, b_28, b_29, b_30, b_31, b_32, b_33, b_34⟩ := wg_12 hWF Tu
  refine py_calli hw (va_runV (As := [.int b, .int q]) (rest := []) G0 (c_X12_isTrial l E G L f s.heap.size u b q hG hWF Tu) (cwV 2 G0.2.2.2.2 g_X12_advice_X12_isTrial_441 rfl rfl rfl (by decide +kernel) ⟨(Nat.le_of_ble_eq_true rfl), (Nat.le_of_ble_eq_true rfl)⟩) (py_preV hw (C := RX12) (T := TX12) (N := 54) rfl hr_35) rfl rfl hl.1 rfl (lv_room (Nat.le_of_ble_eq_true rfl)) dX12_advice_3 ⟨(Nat.le_of_ble_eq_true rfl), (Nat.le_of_ble_eq_true rfl)⟩) (fun r_40 L_36 f_37 H_38 locs hp_39 hw => ?_)
  obtain ⟨b_42, en_41, rfl, rfl⟩ := hp_39
  refine lv_if_eq (tgt := 35) G0.1 G0.2.1 dX12_advice_6 (by decide) (fun c_43 => ?_) (fun c_43 => ?_)
  · skip
    have tc_43 := ti_eq c_43
    clear en_41
    refine lv_ldcw (v := (-1000000)) G0.1 G0.2.1 G0.2.2.2.1 (G0.2.2.2.2 (Cond.constant RX12 350 (-1000000)) (by decide +kernel)) dX12_advice_35 ?_
    exact py_iret G0 hr rfl hlk hw ⟨hWF, hKP, hFK⟩ dX12_advice_38
  · skip
    have tc_43 := ti_ne c_43
    replace en_41 := en_41 (by omega)
    refine lv_aload_n G0.1 G0.2.1 dX12_advice_9 rfl (lv_at hl 0 rfl) ?_
    refine lv_iload_n G0.1 G0.2.1 dX12_advice_10 rfl (lv_at hl 1 rfl) ?_
    refine py_calli hw (va_runV (As := [.int a]) (rest := []) G0 (c_X12_isFamily l E G L f H_38.size u a hG hWF Tu) (cwV 1 G0.2.2.2.2 g_X12_advice_X12_isFamily_347 rfl rfl rfl (by decide +kernel) ⟨(Nat.le_of_ble_eq_true rfl), (Nat.le_of_ble_eq_true rfl)⟩) (py_preV hw (C := RX12) (T := TX12) (N := 54) rfl hr_35) rfl rfl hl.1 rfl (lv_room (Nat.le_of_ble_eq_true rfl)) dX12_advice_11 ⟨(Nat.le_of_ble_eq_true rfl), (Nat.le_of_ble_eq_true rfl)⟩) (fun r_48 L_44 f_45 H_46 locs hp_47 hw => ?_)
    obtain ⟨b_50, en_49, rfl, rfl⟩ := hp_47
    refine lv_if_eq (tgt := 35) G0.1 G0.2.1 dX12_advice_14 (by decide) (fun c_51 => ?_) (fun c_51 => ?_)
    · skip
      have tc_51 := ti_eq c_51
      clear en_49
      refine lv_ldcw (v := (-1000000)) G0.1 G0.2.1 G0.2.2.2.1 (G0.2.2.2.2 (Cond.constant RX12 350 (-1000000)) (by decide +kernel)) dX12_advice_35 ?_
      exact py_iret G0 hr rfl hlk hw ⟨hWF, hKP, hFK⟩ dX12_advice_38
    · skip
      have tc_51 := ti_ne c_51
      replace en_49 := en_49 (by omega)
      refine lv_aload_n G0.1 G0.2.1 dX12_advice_17 rfl (lv_at hl 0 rfl) ?_
      refine lv_iload_n G0.1 G0.2.1 dX12_advice_18 rfl (lv_at hl 1 rfl) ?_
      refine py_calli hw (va_runV (As := [.int a]) (rest := []) G0 (c_X12_isGone l E G L f H_46.size u a hG hWF Tu ⟨by omega, by omega⟩) (cwV 1 G0.2.2.2.2 g_X12_advice_X12_isGone_341 rfl rfl rfl (by decide +kernel) ⟨(Nat.le_of_ble_eq_true rfl), (Nat.le_of_ble_eq_true rfl)⟩) (py_preV hw (C := RX12) (T := TX12) (N := 54) rfl hr_35) rfl rfl hl.1 rfl (lv_room (Nat.le_of_ble_eq_true rfl)) dX12_advice_19 ⟨(Nat.le_of_ble_eq_true rfl), (Nat.le_of_ble_eq_true rfl)⟩) (fun r_56 L_52 f_53 H_54 locs hp_55 hw => ?_)
      obtain ⟨b_59, en_57, en_58, rfl, rfl⟩ := hp_55
      refine lv_if_ne (tgt := 35) G0.1 G0.2.1 dX12_advice_22 (by decide) (fun c_60 => ?_) (fun c_60 => ?_)
      · skip
        have tc_60 := ti_ne c_60
        replace en_57 := en_57 (by omega)
        clear en_58
        refine lv_ldcw (v := (-1000000)) G0.1 G0.2.1 G0.2.2.2.1 (G0.2.2.2.2 (Cond.constant RX12 350 (-1000000)) (by decide +kernel)) dX12_advice_35 ?_
        exact py_iret G0 hr rfl hlk hw ⟨hWF, hKP, hFK⟩ dX12_advice_38
      · skip
        have tc_60 := ti_eq c_60
        clear en_57
        replace en_58 := en_58 (by omega)
        refine lv_iload G0.1 G0.2.1 dX12_advice_25 (lv_at hl 4 rfl) ?_
        refine lv_iconst (v := 0) G0.1 G0.2.1 dX12_advice_27 (by decide) ?_
        refine lv_iconst (v := 1) G0.1 G0.2.1 dX12_advice_28 (by decide) ?_
        refine py_calli hw (va_runS (As := [.int d, .int 0, .int 1]) (rest := []) G0 (c_X12_in l E G L f H_54.size d 0 1 hG hWF) (va_cwS 3 G0.2.2.2.2 g_X12_advice_X12_in_232 rfl rfl rfl (by decide +kernel) ⟨(Nat.le_of_ble_eq_true rfl), (Nat.le_of_ble_eq_true rfl)⟩) (py_preS hw) rfl rfl hl.1 rfl (lv_room (Nat.le_of_ble_eq_true rfl)) dX12_advice_29 ⟨(Nat.le_of_ble_eq_true rfl), (Nat.le_of_ble_eq_true rfl)⟩) (fun r_65 L_61 f_62 H_63 locs hp_64 hw => ?_)
        obtain ⟨b_68, en_66, en_67, rfl, rfl⟩ := hp_64
        have en_66 : r_65.toInt ≠ 0 → (0 : Int) ≤ d.toInt ∧ d.toInt ≤ (1 : Int) := en_66
        have en_67 : r_65.toInt = 0 → d.toInt < (0 : Int) ∨ (1 : Int) < d.toInt := en_67
        refine lv_if_ne (tgt := 39) G0.1 G0.2.1 dX12_advice_32 (by decide) (fun c_69 => ?_) (fun c_69 => ?_)
        · skip
          have tc_69 := ti_ne c_69
          replace en_66 := en_66 (by omega)
          clear en_67
          refine lv_iconst (v := 0) G0.1 G0.2.1 dX12_advice_39 (by decide) ?_
          refine lv_istore (lv' := [(5, .int 0), (0, .ref u), (1, .int a), (2, .int b), (3, .int q), (4, .int d)]) G0.1 G0.2.1 dX12_advice_40 hl (by decide) rfl (fun ls hl => ?_)
          refine lv_aload_n G0.1 G0.2.1 dX12_advice_42 rfl (lv_at hl 1 rfl) ?_
          refine lv_iload_n G0.1 G0.2.1 dX12_advice_43 rfl (lv_at hl 2 rfl) ?_
          refine lv_iconst (v := 0) G0.1 G0.2.1 dX12_advice_44 (by decide) ?_
          refine lv_iload_n G0.1 G0.2.1 dX12_advice_45 rfl (lv_at hl 3 rfl) ?_
          refine lv_iload_n G0.1 G0.2.1 dX12_advice_46 rfl (lv_at hl 4 rfl) ?_
          refine py_calli hw (va_runV (As := [.int a, .int 0, .int b, .int q]) (rest := []) G0 (c_X12_headsBy l E G L f H_63.size u a 0 b q hG hWF Tu ⟨by omega, by omega⟩ ⟨by omega, by omega⟩ ⟨by omega, by omega⟩ hGM) (cwV 4 G0.2.2.2.2 g_X12_advice_X12_headsBy_454 rfl rfl rfl (by decide +kernel) ⟨(Nat.le_of_ble_eq_true rfl), (Nat.le_of_ble_eq_true rfl)⟩) (py_preV hw (C := RX12) (T := TX12) (N := 54) rfl hr_35) rfl rfl hl.1 rfl (lv_room (Nat.le_of_ble_eq_true rfl)) dX12_advice_47 ⟨(Nat.le_of_ble_eq_true rfl), (Nat.le_of_ble_eq_true rfl)⟩) (fun r_74 L_70 f_71 H_72 locs hp_73 hw => ?_)
          obtain ⟨hWF, kp_75, fk_76⟩ := hp_73
          have hGM := hGM.kp hG Tu kp_75 fk_76 (LK.of (by decide)) (by decide)
          have hFK := hFK.trans fk_76 (by decide)
          have hKP := hKP.trans kp_75 (by decide) (by decide)
          obtain ⟨v_77, hr_78⟩ := fk_30 hWF Tu fk_76 hr_35
          have br_74 := wf_free r_74
          refine lv_istore (lv' := [(6, .int r_74), (5, .int 0), (0, .ref u), (1, .int a), (2, .int b), (3, .int q), (4, .int d)]) G0.1 G0.2.1 dX12_advice_50 hl (by decide) rfl (fun ls hl => ?_)
          refine lv_iconst (v := 2) G0.1 G0.2.1 dX12_advice_52 (by decide) ?_
          refine lv_istore (lv' := [(7, .int 2), (6, .int r_74), (5, .int 0), (0, .ref u), (1, .int a), (2, .int b), (3, .int q), (4, .int d)]) G0.1 G0.2.1 dX12_advice_53 hl (by decide) rfl (fun ls hl => ?_)
          have lo_55 : ∀ n_55 : Nat, ∀ (v_79 : Int32) (v_80 : Int32) (v_81 : Int32) (L_j55 : List Nat) (f_j55 : py_F) (H_j55 : Heap) (locs : List Loc) (ls : Array Slot), (2147483647 - v_79.toInt).toNat = n_55 → (2 ≤ v_79.toInt ∧ v_79.toInt ≤ 2147483647) → WF E G L_j55 f_j55 → KP G [56, 55, 58, 48, 49, 59, 60, 13] false f f_j55 → GM f_j55 G u → FK [30] f f_j55 u → py_W E (va_A (va_pl L f) s.heap.size) s L_j55 f_j55 H_j55 locs → lv_has ls 10 [(7, .int v_79), (6, .int v_80), (5, .int v_81), (0, .ref u), (1, .int a), (2, .int b), (3, .int q), (4, .int d)] → W p l e (headSpec w_X12_advice ({ frames := 10, cells := 0, slots := 0, locals := 233 })).room s m ([.ref u, .int a, .int b, .int q, .int d] : List Value).toArray below meth c H_j55 locs 0 0 (MQ below (py_Qi E L f s.heap.size (fun _ L1 f1 => WF E G L1 f1 ∧ KP G [56, 55, 58, 48, 49, 59, 60, 13] false f f1 ∧ FK [30] f f1 u)) ([.ref u, .int a, .int b, .int q, .int d] : List Value).toArray s 0 0 (va_A (va_pl L f) s.heap.size)) (F0 m 55 ls []) := by
            intro n_55
            induction n_55 using Nat.strongRecOn with
            | _ n_55 ih_55 =>
              intro v_79 v_80 v_81 L_j55 f_j55 H_j55 locs ls hn_55 bv_79 hWF hKP hGM hFK hw hl
              refine lv_iload G0.1 G0.2.1 dX12_advice_55 (lv_at hl 0 rfl) ?_
              refine lv_bipush (v := 7) G0.1 G0.2.1 dX12_advice_57 (by decide) ?_
              refine lv_icmp_gt (tgt := 134) G0.1 G0.2.1 dX12_advice_59 (by decide) (fun c_82 => ?_) (fun c_82 => ?_)
              · skip
                have tc_82 := ti_lt c_82
                refine lv_iload G0.1 G0.2.1 dX12_advice_134 (lv_at hl 7 rfl) ?_
                refine lv_if_ne (tgt := 144) G0.1 G0.2.1 dX12_advice_136 (by decide) (fun c_83 => ?_) (fun c_83 => ?_)
                · skip
                  have tc_83 := ti_ne c_83
                  refine lv_iload G0.1 G0.2.1 dX12_advice_144 (lv_at hl 1 rfl) ?_
                  exact py_iret G0 hr rfl hlk hw ⟨hWF, hKP, hFK⟩ dX12_advice_146
                · skip
                  have tc_83 := ti_eq c_83
                  refine lv_iload G0.1 G0.2.1 dX12_advice_139 (lv_at hl 2 rfl) ?_
                  refine lv_goto (tgt := 146) G0.1 G0.2.1 dX12_advice_141 (by decide) ?_
                  exact py_iret G0 hr rfl hlk hw ⟨hWF, hKP, hFK⟩ dX12_advice_146
              · skip
                have tc_82 := ti_nlt c_82
                refine lv_iload G0.1 G0.2.1 dX12_advice_62 (lv_at hl 0 rfl) ?_
                refine lv_iconst (v := 2) G0.1 G0.2.1 dX12_advice_64 (by decide) ?_
                refine lv_irem G0.1 G0.2.1 dX12_advice_65 (by decide) ?_
                refine lv_topi (fun x_84 ex_84 => ?_)
                refine lv_if_ne (tgt := 77) G0.1 G0.2.1 dX12_advice_66 (by decide) (fun c_85 => ?_) (fun c_85 => ?_)
                · skip
                  have tc_85 := ti_ne c_85
                  refine lv_iload G0.1 G0.2.1 dX12_advice_77 (lv_at hl 0 rfl) ?_
                  refine lv_iconst (v := 2) G0.1 G0.2.1 dX12_advice_79 (by decide) ?_
                  refine lv_idiv G0.1 G0.2.1 dX12_advice_80 (by decide) ?_
                  refine lv_topi (fun x_86 ex_86 => ?_)
                  refine lv_istore (lv' := [(8, .int x_86), (7, .int v_79), (6, .int v_80), (5, .int v_81), (0, .ref u), (1, .int a), (2, .int b), (3, .int q), (4, .int d)]) G0.1 G0.2.1 dX12_advice_81 hl (by decide) rfl (fun ls hl => ?_)
                  refine lv_aload_n G0.1 G0.2.1 dX12_advice_83 rfl (lv_at hl 4 rfl) ?_
                  refine lv_iload_n G0.1 G0.2.1 dX12_advice_84 rfl (lv_at hl 5 rfl) ?_
                  refine lv_bipush (v := 6) G0.1 G0.2.1 dX12_advice_85 (by decide) ?_
                  obtain ⟨v_87, v_88, v_89, v_90, v_91, v_92, v_93, v_94, v_95, v_96, v_97, v_98, y_99, v_100, v_101, v_102, v_103, v_104, y_105, v_106, y_107, v_108, hr_121, b_109, b_110, b_111, b_112, b_113, b_114, b_115, b_116, b_117, b_118, b_119, b_120⟩ := wg_12 hWF Tu
                  refine py_calli hw (va_runV (As := [.int a, .int 6]) (rest := []) G0 (c_X12_of l E G L_j55 f_j55 H_j55.size u a 6 hG hWF Tu ⟨by omega, by omega⟩ ⟨by omega, by omega⟩) (cwV 2 G0.2.2.2.2 g_X12_advice_X12_of_287 rfl rfl rfl (by decide +kernel) ⟨(Nat.le_of_ble_eq_true rfl), (Nat.le_of_ble_eq_true rfl)⟩) (py_preV hw (C := RX12) (T := TX12) (N := 54) rfl hr_121) rfl rfl hl.1 rfl (lv_room (Nat.le_of_ble_eq_true rfl)) dX12_advice_87 ⟨(Nat.le_of_ble_eq_true rfl), (Nat.le_of_ble_eq_true rfl)⟩) (fun r_126 L_122 f_123 H_124 locs hp_125 hw => ?_)
                  obtain ⟨en_127, en_128, rfl, rfl⟩ := hp_125
                  have en_127 : r_126.toInt = nw f_j55 G u a.toInt (6 : Int) := en_127
                  have en_128 : ((6 : Int) = 0 → 0 ≤ r_126.toInt ∧ r_126.toInt ≤ 20) ∧ ((6 : Int) = 1 → -1 ≤ r_126.toInt ∧ r_126.toInt ≤ 7) := en_128
                  have br_126 := wf_free r_126
                  refine lv_iload G0.1 G0.2.1 dX12_advice_90 (lv_at hl 0 rfl) ?_
                  refine lv_iadd G0.1 G0.2.1 dX12_advice_92 ?_
                  refine lv_topi (fun x_129 ex_129 => ?_)
                  first | have tx_129 := ti_add ex_129 (by omega -splitDisjunctions) (by omega -splitDisjunctions) | skip
                  refine lv_bipush (v := (-3)) G0.1 G0.2.1 dX12_advice_93 (by decide) ?_
                  refine lv_iconst (v := 3) G0.1 G0.2.1 dX12_advice_95 (by decide) ?_
                  refine py_calli hw (va_runS (As := [.int x_129, .int (-3), .int 3]) (rest := []) G0 (c_X12_in l E G L_j55 f_j55 H_124.size x_129 (-3) 3 hG hWF) (va_cwS 3 G0.2.2.2.2 g_X12_advice_X12_in_232 rfl rfl rfl (by decide +kernel) ⟨(Nat.le_of_ble_eq_true rfl), (Nat.le_of_ble_eq_true rfl)⟩) (py_preS hw) rfl rfl hl.1 rfl (lv_room (Nat.le_of_ble_eq_true rfl)) dX12_advice_96 ⟨(Nat.le_of_ble_eq_true rfl), (Nat.le_of_ble_eq_true rfl)⟩) (fun r_134 L_130 f_131 H_132 locs hp_133 hw => ?_)
                  obtain ⟨b_137, en_135, en_136, rfl, rfl⟩ := hp_133
                  have en_135 : r_134.toInt ≠ 0 → ((-3) : Int) ≤ x_129.toInt ∧ x_129.toInt ≤ (3 : Int) := en_135
                  have en_136 : r_134.toInt = 0 → x_129.toInt < ((-3) : Int) ∨ (3 : Int) < x_129.toInt := en_136
                  refine lv_if_eq (tgt := 128) G0.1 G0.2.1 dX12_advice_99 (by decide) (fun c_138 => ?_) (fun c_138 => ?_)
                  · skip
                    have tc_138 := ti_eq c_138
                    clear en_135
                    replace en_136 := en_136 (by omega)
                    obtain ⟨x_139, ex_139⟩ : ∃ y : Int32, y = v_79 + 1 := ⟨_, rfl⟩
                    first | have tx_139 := ti_add ex_139 (by omega -splitDisjunctions) (by omega -splitDisjunctions) | skip
                    refine lv_iinc (v := x_139) (lv' := [(7, .int x_139), (8, .int x_86), (6, .int v_80), (5, .int v_81), (0, .ref u), (1, .int a), (2, .int b), (3, .int q), (4, .int d)]) G0.1 G0.2.1 dX12_advice_128 hl (k := 1) rfl (show _ + (1 : Int32) = _ from ex_139.symm) (by decide) rfl (fun ls hl => ?_)
                    refine lv_goto (tgt := 55) G0.1 G0.2.1 dX12_advice_131 (by decide) ?_
                    exact ih_55 ((2147483647 - x_139.toInt).toNat) (by omega) x_139 v_80 v_81 L_j55 f_j55 _ _ ls rfl ⟨by omega, by omega⟩ hWF hKP hGM hFK hw (lv_sub hl [0, 2, 3, 4, 5, 6, 7, 8] rfl)
                  · skip
                    have tc_138 := ti_ne c_138
                    replace en_135 := en_135 (by omega)
                    clear en_136
                    refine lv_aload_n G0.1 G0.2.1 dX12_advice_102 rfl (lv_at hl 4 rfl) ?_
                    refine lv_iload_n G0.1 G0.2.1 dX12_advice_103 rfl (lv_at hl 5 rfl) ?_
                    refine lv_iload G0.1 G0.2.1 dX12_advice_104 (lv_at hl 0 rfl) ?_
                    refine lv_iload_n G0.1 G0.2.1 dX12_advice_106 rfl (lv_at hl 6 rfl) ?_
                    refine lv_iload_n G0.1 G0.2.1 dX12_advice_107 rfl (lv_at hl 7 rfl) ?_
                    refine py_calli hw (va_runV (As := [.int a, .int x_86, .int b, .int q]) (rest := []) G0 (c_X12_headsBy l E G L_j55 f_j55 H_132.size u a x_86 b q hG hWF Tu ⟨by omega, by omega⟩ ⟨by omega, by omega⟩ ⟨by omega, by omega⟩ hGM) (cwV 4 G0.2.2.2.2 g_X12_advice_X12_headsBy_454 rfl rfl rfl (by decide +kernel) ⟨(Nat.le_of_ble_eq_true rfl), (Nat.le_of_ble_eq_true rfl)⟩) (py_preV hw (C := RX12) (T := TX12) (N := 54) rfl hr_121) rfl rfl hl.1 rfl (lv_room (Nat.le_of_ble_eq_true rfl)) dX12_advice_108 ⟨(Nat.le_of_ble_eq_true rfl), (Nat.le_of_ble_eq_true rfl)⟩) (fun r_144 L_140 f_141 H_142 locs hp_143 hw => ?_)
                    obtain ⟨hWF, kp_145, fk_146⟩ := hp_143
                    have hGM := hGM.kp hG Tu kp_145 fk_146 (LK.of (by decide)) (by decide)
                    have hFK := hFK.trans fk_146 (by decide)
                    have hKP := hKP.trans kp_145 (by decide) (by decide)
                    obtain ⟨v_147, hr_148⟩ := fk_30 hWF Tu fk_146 hr_121
                    have br_144 := wf_free r_144
                    refine lv_istore (lv' := [(9, .int r_144), (8, .int x_86), (7, .int v_79), (6, .int v_80), (5, .int v_81), (0, .ref u), (1, .int a), (2, .int b), (3, .int q), (4, .int d)]) G0.1 G0.2.1 dX12_advice_111 hl (by decide) rfl (fun ls hl => ?_)
                    refine lv_iload G0.1 G0.2.1 dX12_advice_113 (lv_at hl 0 rfl) ?_
                    refine lv_iload G0.1 G0.2.1 dX12_advice_115 (lv_at hl 3 rfl) ?_
                    refine lv_icmp_le (tgt := 128) G0.1 G0.2.1 dX12_advice_117 (by decide) (fun c_149 => ?_) (fun c_149 => ?_)
                    · skip
                      have tc_149 := ti_le c_149
                      obtain ⟨x_150, ex_150⟩ : ∃ y : Int32, y = v_79 + 1 := ⟨_, rfl⟩
                      first | have tx_150 := ti_add ex_150 (by omega -splitDisjunctions) (by omega -splitDisjunctions) | skip
                      refine lv_iinc (v := x_150) (lv' := [(7, .int x_150), (9, .int r_144), (8, .int x_86), (6, .int v_80), (5, .int v_81), (0, .ref u), (1, .int a), (2, .int b), (3, .int q), (4, .int d)]) G0.1 G0.2.1 dX12_advice_128 hl (k := 2) rfl (show _ + (1 : Int32) = _ from ex_150.symm) (by decide) rfl (fun ls hl => ?_)
                      refine lv_goto (tgt := 55) G0.1 G0.2.1 dX12_advice_131 (by decide) ?_
                      exact ih_55 ((2147483647 - x_150.toInt).toNat) (by omega) x_150 v_80 v_81 L_140 f_141 _ _ ls rfl ⟨by omega, by omega⟩ hWF hKP hGM hFK hw (lv_sub hl [0, 3, 4, 5, 6, 7, 8, 9] rfl)
                    · skip
                      have tc_149 := ti_nle c_149
                      refine lv_iload G0.1 G0.2.1 dX12_advice_120 (lv_at hl 1 rfl) ?_
                      refine lv_istore (lv' := [(5, .int x_86), (9, .int r_144), (8, .int x_86), (7, .int v_79), (6, .int v_80), (0, .ref u), (1, .int a), (2, .int b), (3, .int q), (4, .int d)]) G0.1 G0.2.1 dX12_advice_122 hl (by decide) rfl (fun ls hl => ?_)
                      refine lv_iload G0.1 G0.2.1 dX12_advice_124 (lv_at hl 1 rfl) ?_
                      refine lv_istore (lv' := [(6, .int r_144), (5, .int x_86), (9, .int r_144), (8, .int x_86), (7, .int v_79), (0, .ref u), (1, .int a), (2, .int b), (3, .int q), (4, .int d)]) G0.1 G0.2.1 dX12_advice_126 hl (by decide) rfl (fun ls hl => ?_)
                      obtain ⟨x_151, ex_151⟩ : ∃ y : Int32, y = v_79 + 1 := ⟨_, rfl⟩
                      first | have tx_151 := ti_add ex_151 (by omega -splitDisjunctions) (by omega -splitDisjunctions) | skip
                      refine lv_iinc (v := x_151) (lv' := [(7, .int x_151), (6, .int r_144), (5, .int x_86), (9, .int r_144), (8, .int x_86), (0, .ref u), (1, .int a), (2, .int b), (3, .int q), (4, .int d)]) G0.1 G0.2.1 dX12_advice_128 hl (k := 4) rfl (show _ + (1 : Int32) = _ from ex_151.symm) (by decide) rfl (fun ls hl => ?_)
                      refine lv_goto (tgt := 55) G0.1 G0.2.1 dX12_advice_131 (by decide) ?_
                      exact ih_55 ((2147483647 - x_151.toInt).toNat) (by omega) x_151 r_144 x_86 L_140 f_141 _ _ ls rfl ⟨by omega, by omega⟩ hWF hKP hGM hFK hw (lv_sub hl [0, 1, 2, 5, 6, 7, 8, 9] rfl)
                · skip
                  have tc_85 := ti_eq c_85
                  refine lv_iload G0.1 G0.2.1 dX12_advice_69 (lv_at hl 0 rfl) ?_
                  refine lv_iconst (v := 2) G0.1 G0.2.1 dX12_advice_71 (by decide) ?_
                  refine lv_idiv G0.1 G0.2.1 dX12_advice_72 (by decide) ?_
                  refine lv_topi (fun x_152 ex_152 => ?_)
                  refine lv_ineg G0.1 G0.2.1 dX12_advice_73 ?_
                  refine lv_topi (fun x_153 ex_153 => ?_)
                  refine lv_goto (tgt := 81) G0.1 G0.2.1 dX12_advice_74 (by decide) ?_
                  refine lv_istore (lv' := [(8, .int x_153), (7, .int v_79), (6, .int v_80), (5, .int v_81), (0, .ref u), (1, .int a), (2, .int b), (3, .int q), (4, .int d)]) G0.1 G0.2.1 dX12_advice_81 hl (by decide) rfl (fun ls hl => ?_)
                  refine lv_aload_n G0.1 G0.2.1 dX12_advice_83 rfl (lv_at hl 4 rfl) ?_
                  refine lv_iload_n G0.1 G0.2.1 dX12_advice_84 rfl (lv_at hl 5 rfl) ?_
                  refine lv_bipush (v := 6) G0.1 G0.2.1 dX12_advice_85 (by decide) ?_
                  obtain ⟨v_154, v_155, v_156, v_157, v_158, v_159, v_160, v_161, v_162, v_163, v_164, v_165, y_166, v_167, v_168, v_169, v_170, v_171, y_172, v_173, y_174, v_175, hr_188, b_176, b_177, b_178, b_179, b_180, b_181, b_182, b_183, b_184, b_185, b_186, b_187⟩ := wg_12 hWF Tu
                  refine py_calli hw (va_runV (As := [.int a, .int 6]) (rest := []) G0 (c_X12_of l E G L_j55 f_j55 H_j55.size u a 6 hG hWF Tu ⟨by omega, by omega⟩ ⟨by omega, by omega⟩) (cwV 2 G0.2.2.2.2 g_X12_advice_X12_of_287 rfl rfl rfl (by decide +kernel) ⟨(Nat.le_of_ble_eq_true rfl), (Nat.le_of_ble_eq_true rfl)⟩) (py_preV hw (C := RX12) (T := TX12) (N := 54) rfl hr_188) rfl rfl hl.1 rfl (lv_room (Nat.le_of_ble_eq_true rfl)) dX12_advice_87 ⟨(Nat.le_of_ble_eq_true rfl), (Nat.le_of_ble_eq_true rfl)⟩) (fun r_193 L_189 f_190 H_191 locs hp_192 hw => ?_)
                  obtain ⟨en_194, en_195, rfl, rfl⟩ := hp_192
                  have en_194 : r_193.toInt = nw f_j55 G u a.toInt (6 : Int) := en_194
                  have en_195 : ((6 : Int) = 0 → 0 ≤ r_193.toInt ∧ r_193.toInt ≤ 20) ∧ ((6 : Int) = 1 → -1 ≤ r_193.toInt ∧ r_193.toInt ≤ 7) := en_195
                  have br_193 := wf_free r_193
                  refine lv_iload G0.1 G0.2.1 dX12_advice_90 (lv_at hl 0 rfl) ?_
                  refine lv_iadd G0.1 G0.2.1 dX12_advice_92 ?_
                  refine lv_topi (fun x_196 ex_196 => ?_)
                  first | have tx_196 := ti_add ex_196 (by omega -splitDisjunctions) (by omega -splitDisjunctions) | skip
                  refine lv_bipush (v := (-3)) G0.1 G0.2.1 dX12_advice_93 (by decide) ?_
                  refine lv_iconst (v := 3) G0.1 G0.2.1 dX12_advice_95 (by decide) ?_
                  refine py_calli hw (va_runS (As := [.int x_196, .int (-3), .int 3]) (rest := []) G0 (c_X12_in l E G L_j55 f_j55 H_191.size x_196 (-3) 3 hG hWF) (va_cwS 3 G0.2.2.2.2 g_X12_advice_X12_in_232 rfl rfl rfl (by decide +kernel) ⟨(Nat.le_of_ble_eq_true rfl), (Nat.le_of_ble_eq_true rfl)⟩) (py_preS hw) rfl rfl hl.1 rfl (lv_room (Nat.le_of_ble_eq_true rfl)) dX12_advice_96 ⟨(Nat.le_of_ble_eq_true rfl), (Nat.le_of_ble_eq_true rfl)⟩) (fun r_201 L_197 f_198 H_199 locs hp_200 hw => ?_)
                  obtain ⟨b_204, en_202, en_203, rfl, rfl⟩ := hp_200
                  have en_202 : r_201.toInt ≠ 0 → ((-3) : Int) ≤ x_196.toInt ∧ x_196.toInt ≤ (3 : Int) := en_202
                  have en_203 : r_201.toInt = 0 → x_196.toInt < ((-3) : Int) ∨ (3 : Int) < x_196.toInt := en_203
                  refine lv_if_eq (tgt := 128) G0.1 G0.2.1 dX12_advice_99 (by decide) (fun c_205 => ?_) (fun c_205 => ?_)
                  · skip
                    have tc_205 := ti_eq c_205
                    clear en_202
                    replace en_203 := en_203 (by omega)
                    obtain ⟨x_206, ex_206⟩ : ∃ y : Int32, y = v_79 + 1 := ⟨_, rfl⟩
                    first | have tx_206 := ti_add ex_206 (by omega -splitDisjunctions) (by omega -splitDisjunctions) | skip
                    refine lv_iinc (v := x_206) (lv' := [(7, .int x_206), (8, .int x_153), (6, .int v_80), (5, .int v_81), (0, .ref u), (1, .int a), (2, .int b), (3, .int q), (4, .int d)]) G0.1 G0.2.1 dX12_advice_128 hl (k := 1) rfl (show _ + (1 : Int32) = _ from ex_206.symm) (by decide) rfl (fun ls hl => ?_)
                    refine lv_goto (tgt := 55) G0.1 G0.2.1 dX12_advice_131 (by decide) ?_
                    exact ih_55 ((2147483647 - x_206.toInt).toNat) (by omega) x_206 v_80 v_81 L_j55 f_j55 _ _ ls rfl ⟨by omega, by omega⟩ hWF hKP hGM hFK hw (lv_sub hl [0, 2, 3, 4, 5, 6, 7, 8] rfl)
                  · skip
                    have tc_205 := ti_ne c_205
                    replace en_202 := en_202 (by omega)
                    clear en_203
                    refine lv_aload_n G0.1 G0.2.1 dX12_advice_102 rfl (lv_at hl 4 rfl) ?_
                    refine lv_iload_n G0.1 G0.2.1 dX12_advice_103 rfl (lv_at hl 5 rfl) ?_
                    refine lv_iload G0.1 G0.2.1 dX12_advice_104 (lv_at hl 0 rfl) ?_
                    refine lv_iload_n G0.1 G0.2.1 dX12_advice_106 rfl (lv_at hl 6 rfl) ?_
                    refine lv_iload_n G0.1 G0.2.1 dX12_advice_107 rfl (lv_at hl 7 rfl) ?_
                    refine py_calli hw (va_runV (As := [.int a, .int x_153, .int b, .int q]) (rest := []) G0 (c_X12_headsBy l E G L_j55 f_j55 H_199.size u a x_153 b q hG hWF Tu ⟨by omega, by omega⟩ ⟨by omega, by omega⟩ ⟨by omega, by omega⟩ hGM) (cwV 4 G0.2.2.2.2 g_X12_advice_X12_headsBy_454 rfl rfl rfl (by decide +kernel) ⟨(Nat.le_of_ble_eq_true rfl), (Nat.le_of_ble_eq_true rfl)⟩) (py_preV hw (C := RX12) (T := TX12) (N := 54) rfl hr_188) rfl rfl hl.1 rfl (lv_room (Nat.le_of_ble_eq_true rfl)) dX12_advice_108 ⟨(Nat.le_of_ble_eq_true rfl), (Nat.le_of_ble_eq_true rfl)⟩) (fun r_211 L_207 f_208 H_209 locs hp_210 hw => ?_)
                    obtain ⟨hWF, kp_212, fk_213⟩ := hp_210
                    have hGM := hGM.kp hG Tu kp_212 fk_213 (LK.of (by decide)) (by decide)
                    have hFK := hFK.trans fk_213 (by decide)
                    have hKP := hKP.trans kp_212 (by decide) (by decide)
                    obtain ⟨v_214, hr_215⟩ := fk_30 hWF Tu fk_213 hr_188
                    have br_211 := wf_free r_211
                    refine lv_istore (lv' := [(9, .int r_211), (8, .int x_153), (7, .int v_79), (6, .int v_80), (5, .int v_81), (0, .ref u), (1, .int a), (2, .int b), (3, .int q), (4, .int d)]) G0.1 G0.2.1 dX12_advice_111 hl (by decide) rfl (fun ls hl => ?_)
                    refine lv_iload G0.1 G0.2.1 dX12_advice_113 (lv_at hl 0 rfl) ?_
                    refine lv_iload G0.1 G0.2.1 dX12_advice_115 (lv_at hl 3 rfl) ?_
                    refine lv_icmp_le (tgt := 128) G0.1 G0.2.1 dX12_advice_117 (by decide) (fun c_216 => ?_) (fun c_216 => ?_)
                    · skip
                      have tc_216 := ti_le c_216
                      obtain ⟨x_217, ex_217⟩ : ∃ y : Int32, y = v_79 + 1 := ⟨_, rfl⟩
                      first | have tx_217 := ti_add ex_217 (by omega -splitDisjunctions) (by omega -splitDisjunctions) | skip
                      refine lv_iinc (v := x_217) (lv' := [(7, .int x_217), (9, .int r_211), (8, .int x_153), (6, .int v_80), (5, .int v_81), (0, .ref u), (1, .int a), (2, .int b), (3, .int q), (4, .int d)]) G0.1 G0.2.1 dX12_advice_128 hl (k := 2) rfl (show _ + (1 : Int32) = _ from ex_217.symm) (by decide) rfl (fun ls hl => ?_)
                      refine lv_goto (tgt := 55) G0.1 G0.2.1 dX12_advice_131 (by decide) ?_
                      exact ih_55 ((2147483647 - x_217.toInt).toNat) (by omega) x_217 v_80 v_81 L_207 f_208 _ _ ls rfl ⟨by omega, by omega⟩ hWF hKP hGM hFK hw (lv_sub hl [0, 3, 4, 5, 6, 7, 8, 9] rfl)
                    · skip
                      have tc_216 := ti_nle c_216
                      refine lv_iload G0.1 G0.2.1 dX12_advice_120 (lv_at hl 1 rfl) ?_
                      refine lv_istore (lv' := [(5, .int x_153), (9, .int r_211), (8, .int x_153), (7, .int v_79), (6, .int v_80), (0, .ref u), (1, .int a), (2, .int b), (3, .int q), (4, .int d)]) G0.1 G0.2.1 dX12_advice_122 hl (by decide) rfl (fun ls hl => ?_)
                      refine lv_iload G0.1 G0.2.1 dX12_advice_124 (lv_at hl 1 rfl) ?_
                      refine lv_istore (lv' := [(6, .int r_211), (5, .int x_153), (9, .int r_211), (8, .int x_153), (7, .int v_79), (0, .ref u), (1, .int a), (2, .int b), (3, .int q), (4, .int d)]) G0.1 G0.2.1 dX12_advice_126 hl (by decide) rfl (fun ls hl => ?_)
                      obtain ⟨x_218, ex_218⟩ : ∃ y : Int32, y = v_79 + 1 := ⟨_, rfl⟩
                      first | have tx_218 := ti_add ex_218 (by omega -splitDisjunctions) (by omega -splitDisjunctions) | skip
                      refine lv_iinc (v := x_218) (lv' := [(7, .int x_218), (6, .int r_211), (5, .int x_153), (9, .int r_211), (8, .int x_153), (0, .ref u), (1, .int a), (2, .int b), (3, .int q), (4, .int d)]) G0.1 G0.2.1 dX12_advice_128 hl (k := 4) rfl (show _ + (1 : Int32) = _ from ex_218.symm) (by decide) rfl (fun ls hl => ?_)
                      refine lv_goto (tgt := 55) G0.1 G0.2.1 dX12_advice_131 (by decide) ?_
                      exact ih_55 ((2147483647 - x_218.toInt).toNat) (by omega) x_218 r_211 x_153 L_207 f_208 _ _ ls rfl ⟨by omega, by omega⟩ hWF hKP hGM hFK hw (lv_sub hl [0, 1, 2, 5, 6, 7, 8, 9] rfl)
          exact lo_55 _ 2 r_74 0 L_70 f_71 _ _ ls rfl ⟨by omega, by omega⟩ hWF hKP hGM hFK hw (lv_sub hl [0, 1, 2, 3, 4, 5, 6, 7] rfl)
        · skip
          have tc_69 := ti_eq c_69
          clear en_66
          replace en_67 := en_67 (by omega)
          refine lv_ldcw (v := (-1000000)) G0.1 G0.2.1 G0.2.2.2.1 (G0.2.2.2.2 (Cond.constant RX12 350 (-1000000)) (by decide +kernel)) dX12_advice_35 ?_
          exact py_iret G0 hr rfl hlk hw ⟨hWF, hKP, hFK⟩ dX12_advice_38
