theorem dX12_buy_0 : decode cX12_buy 0 = .ok (.aload_n 0, 1) := by decide +kernel
theorem dX12_buy_1 : decode cX12_buy 1 = .ok (.iload_n 1, 1) := by decide +kernel
theorem dX12_buy_2 : decode cX12_buy 2 = .ok (.invokevirtual 347, 3) := by decide +kernel
theorem dX12_buy_5 : decode cX12_buy 5 = .ok (.ifCond .eq 52, 3) := by decide +kernel
theorem dX12_buy_8 : decode cX12_buy 8 = .ok (.aload_n 0, 1) := by decide +kernel
theorem dX12_buy_9 : decode cX12_buy 9 = .ok (.iload_n 1, 1) := by decide +kernel
theorem dX12_buy_10 : decode cX12_buy 10 = .ok (.invokevirtual 341, 3) := by decide +kernel
theorem dX12_buy_13 : decode cX12_buy 13 = .ok (.ifCond .ne 44, 3) := by decide +kernel
theorem dX12_buy_16 : decode cX12_buy 16 = .ok (.iload_n 2, 1) := by decide +kernel
theorem dX12_buy_17 : decode cX12_buy 17 = .ok (.bipush (-3), 2) := by decide +kernel
theorem dX12_buy_19 : decode cX12_buy 19 = .ok (.iconst 3, 1) := by decide +kernel
theorem dX12_buy_20 : decode cX12_buy 20 = .ok (.invokestatic 232, 3) := by decide +kernel
theorem dX12_buy_23 : decode cX12_buy 23 = .ok (.ifCond .eq 34, 3) := by decide +kernel
theorem dX12_buy_26 : decode cX12_buy 26 = .ok (.iload_n 2, 1) := by decide +kernel
theorem dX12_buy_27 : decode cX12_buy 27 = .ok (.ifCond .eq 30, 3) := by decide +kernel
theorem dX12_buy_30 : decode cX12_buy 30 = .ok (.aload_n 0, 1) := by decide +kernel
theorem dX12_buy_31 : decode cX12_buy 31 = .ok (.iload_n 1, 1) := by decide +kernel
theorem dX12_buy_32 : decode cX12_buy 32 = .ok (.bipush 6, 2) := by decide +kernel
theorem dX12_buy_34 : decode cX12_buy 34 = .ok (.invokevirtual 287, 3) := by decide +kernel
theorem dX12_buy_37 : decode cX12_buy 37 = .ok (.iload_n 2, 1) := by decide +kernel
theorem dX12_buy_38 : decode cX12_buy 38 = .ok (.iadd, 1) := by decide +kernel
theorem dX12_buy_39 : decode cX12_buy 39 = .ok (.bipush (-3), 2) := by decide +kernel
theorem dX12_buy_41 : decode cX12_buy 41 = .ok (.iconst 3, 1) := by decide +kernel
theorem dX12_buy_42 : decode cX12_buy 42 = .ok (.invokestatic 232, 3) := by decide +kernel
theorem dX12_buy_45 : decode cX12_buy 45 = .ok (.ifCond .eq 12, 3) := by decide +kernel
theorem dX12_buy_48 : decode cX12_buy 48 = .ok (.aload_n 0, 1) := by decide +kernel
theorem dX12_buy_49 : decode cX12_buy 49 = .ok (.getfield 312, 3) := by decide +kernel
theorem dX12_buy_52 : decode cX12_buy 52 = .ok (.bipush 40, 2) := by decide +kernel
theorem dX12_buy_54 : decode cX12_buy 54 = .ok (.if_icmp .ne 5, 3) := by decide +kernel
theorem dX12_buy_57 : decode cX12_buy 57 = .ok (.iconst (-1), 1) := by decide +kernel
theorem dX12_buy_58 : decode cX12_buy 58 = .ok (.ireturn, 1) := by decide +kernel
theorem dX12_buy_59 : decode cX12_buy 59 = .ok (.aload_n 0, 1) := by decide +kernel
theorem dX12_buy_60 : decode cX12_buy 60 = .ok (.getfield 71, 3) := by decide +kernel
theorem dX12_buy_63 : decode cX12_buy 63 = .ok (.iload_n 2, 1) := by decide +kernel
theorem dX12_buy_64 : decode cX12_buy 64 = .ok (.invokestatic 411, 3) := by decide +kernel
theorem dX12_buy_67 : decode cX12_buy 67 = .ok (.imul, 1) := by decide +kernel
theorem dX12_buy_68 : decode cX12_buy 68 = .ok (.istore_n 3, 1) := by decide +kernel
theorem dX12_buy_69 : decode cX12_buy 69 = .ok (.aload_n 0, 1) := by decide +kernel
theorem dX12_buy_70 : decode cX12_buy 70 = .ok (.iload_n 1, 1) := by decide +kernel
theorem dX12_buy_71 : decode cX12_buy 71 = .ok (.bipush 6, 2) := by decide +kernel
theorem dX12_buy_73 : decode cX12_buy 73 = .ok (.aload_n 0, 1) := by decide +kernel
theorem dX12_buy_74 : decode cX12_buy 74 = .ok (.iload_n 1, 1) := by decide +kernel
theorem dX12_buy_75 : decode cX12_buy 75 = .ok (.bipush 6, 2) := by decide +kernel
theorem dX12_buy_77 : decode cX12_buy 77 = .ok (.invokevirtual 287, 3) := by decide +kernel
theorem dX12_buy_80 : decode cX12_buy 80 = .ok (.iload_n 2, 1) := by decide +kernel
theorem dX12_buy_81 : decode cX12_buy 81 = .ok (.iadd, 1) := by decide +kernel
theorem dX12_buy_82 : decode cX12_buy 82 = .ok (.invokevirtual 305, 3) := by decide +kernel
theorem dX12_buy_85 : decode cX12_buy 85 = .ok (.aload_n 0, 1) := by decide +kernel
theorem dX12_buy_86 : decode cX12_buy 86 = .ok (.iload_n 1, 1) := by decide +kernel
theorem dX12_buy_87 : decode cX12_buy 87 = .ok (.bipush 8, 2) := by decide +kernel
theorem dX12_buy_89 : decode cX12_buy 89 = .ok (.aload_n 0, 1) := by decide +kernel
theorem dX12_buy_90 : decode cX12_buy 90 = .ok (.iload_n 1, 1) := by decide +kernel
theorem dX12_buy_91 : decode cX12_buy 91 = .ok (.bipush 8, 2) := by decide +kernel
theorem dX12_buy_93 : decode cX12_buy 93 = .ok (.invokevirtual 287, 3) := by decide +kernel
theorem dX12_buy_96 : decode cX12_buy 96 = .ok (.iload_n 3, 1) := by decide +kernel
theorem dX12_buy_97 : decode cX12_buy 97 = .ok (.iadd, 1) := by decide +kernel
theorem dX12_buy_98 : decode cX12_buy 98 = .ok (.invokevirtual 305, 3) := by decide +kernel
theorem dX12_buy_101 : decode cX12_buy 101 = .ok (.aload_n 0, 1) := by decide +kernel
theorem dX12_buy_102 : decode cX12_buy 102 = .ok (.getfield 89, 3) := by decide +kernel
theorem dX12_buy_105 : decode cX12_buy 105 = .ok (.aload_n 0, 1) := by decide +kernel
theorem dX12_buy_106 : decode cX12_buy 106 = .ok (.getfield 312, 3) := by decide +kernel
theorem dX12_buy_109 : decode cX12_buy 109 = .ok (.iload_n 1, 1) := by decide +kernel
theorem dX12_buy_110 : decode cX12_buy 110 = .ok (.iastore, 1) := by decide +kernel
theorem dX12_buy_111 : decode cX12_buy 111 = .ok (.aload_n 0, 1) := by decide +kernel
theorem dX12_buy_112 : decode cX12_buy 112 = .ok (.getfield 92, 3) := by decide +kernel
theorem dX12_buy_115 : decode cX12_buy 115 = .ok (.aload_n 0, 1) := by decide +kernel
theorem dX12_buy_116 : decode cX12_buy 116 = .ok (.getfield 312, 3) := by decide +kernel
theorem dX12_buy_119 : decode cX12_buy 119 = .ok (.iload_n 2, 1) := by decide +kernel
theorem dX12_buy_120 : decode cX12_buy 120 = .ok (.iastore, 1) := by decide +kernel
theorem dX12_buy_121 : decode cX12_buy 121 = .ok (.aload_n 0, 1) := by decide +kernel
theorem dX12_buy_122 : decode cX12_buy 122 = .ok (.getfield 95, 3) := by decide +kernel
theorem dX12_buy_125 : decode cX12_buy 125 = .ok (.aload_n 0, 1) := by decide +kernel
theorem dX12_buy_126 : decode cX12_buy 126 = .ok (.getfield 312, 3) := by decide +kernel
theorem dX12_buy_129 : decode cX12_buy 129 = .ok (.iload_n 3, 1) := by decide +kernel
theorem dX12_buy_130 : decode cX12_buy 130 = .ok (.iastore, 1) := by decide +kernel
theorem dX12_buy_131 : decode cX12_buy 131 = .ok (.aload_n 0, 1) := by decide +kernel
theorem dX12_buy_132 : decode cX12_buy 132 = .ok (.dup, 1) := by decide +kernel
theorem dX12_buy_133 : decode cX12_buy 133 = .ok (.getfield 312, 3) := by decide +kernel
theorem dX12_buy_136 : decode cX12_buy 136 = .ok (.iconst 1, 1) := by decide +kernel
theorem dX12_buy_137 : decode cX12_buy 137 = .ok (.iadd, 1) := by decide +kernel
theorem dX12_buy_138 : decode cX12_buy 138 = .ok (.putfield 312, 3) := by decide +kernel
theorem dX12_buy_141 : decode cX12_buy 141 = .ok (.iload_n 3, 1) := by decide +kernel
theorem dX12_buy_142 : decode cX12_buy 142 = .ok (.ireturn, 1) := by decide +kernel
theorem dX12_hush_0 : decode cX12_hush 0 = .ok (.aload_n 0, 1) := by decide +kernel
theorem dX12_hush_1 : decode cX12_hush 1 = .ok (.iload_n 1, 1) := by decide +kernel
theorem dX12_hush_2 : decode cX12_hush 2 = .ok (.invokevirtual 347, 3) := by decide +kernel
theorem dX12_hush_5 : decode cX12_hush 5 = .ok (.ifCond .eq 31, 3) := by decide +kernel
theorem dX12_hush_8 : decode cX12_hush 8 = .ok (.aload_n 0, 1) := by decide +kernel
theorem dX12_hush_9 : decode cX12_hush 9 = .ok (.iload_n 1, 1) := by decide +kernel
theorem dX12_hush_10 : decode cX12_hush 10 = .ok (.invokevirtual 341, 3) := by decide +kernel
theorem dX12_hush_13 : decode cX12_hush 13 = .ok (.ifCond .ne 23, 3) := by decide +kernel
theorem dX12_hush_16 : decode cX12_hush 16 = .ok (.aload_n 0, 1) := by decide +kernel
theorem dX12_hush_17 : decode cX12_hush 17 = .ok (.iload_n 1, 1) := by decide +kernel
theorem dX12_hush_18 : decode cX12_hush 18 = .ok (.bipush 7, 2) := by decide +kernel
theorem dX12_hush_20 : decode cX12_hush 20 = .ok (.invokevirtual 287, 3) := by decide +kernel
theorem dX12_hush_23 : decode cX12_hush 23 = .ok (.iconst 1, 1) := by decide +kernel
theorem dX12_hush_24 : decode cX12_hush 24 = .ok (.if_icmp .ne 7, 3) := by decide +kernel
theorem dX12_hush_27 : decode cX12_hush 27 = .ok (.iconst 1, 1) := by decide +kernel
theorem dX12_hush_28 : decode cX12_hush 28 = .ok (.goto 4, 3) := by decide +kernel
theorem dX12_hush_31 : decode cX12_hush 31 = .ok (.iconst 0, 1) := by decide +kernel
theorem dX12_hush_32 : decode cX12_hush 32 = .ok (.iload_n 2, 1) := by decide +kernel
theorem dX12_hush_33 : decode cX12_hush 33 = .ok (.if_icmp .ne 5, 3) := by decide +kernel
theorem dX12_hush_36 : decode cX12_hush 36 = .ok (.iconst 0, 1) := by decide +kernel
theorem dX12_hush_37 : decode cX12_hush 37 = .ok (.ireturn, 1) := by decide +kernel
theorem dX12_hush_38 : decode cX12_hush 38 = .ok (.aload_n 0, 1) := by decide +kernel
theorem dX12_hush_39 : decode cX12_hush 39 = .ok (.iload_n 1, 1) := by decide +kernel
theorem dX12_hush_40 : decode cX12_hush 40 = .ok (.bipush 7, 2) := by decide +kernel
theorem dX12_hush_42 : decode cX12_hush 42 = .ok (.iload_n 2, 1) := by decide +kernel
theorem dX12_hush_43 : decode cX12_hush 43 = .ok (.ifCond .eq 7, 3) := by decide +kernel
theorem dX12_hush_46 : decode cX12_hush 46 = .ok (.iconst 1, 1) := by decide +kernel
theorem dX12_hush_47 : decode cX12_hush 47 = .ok (.goto 4, 3) := by decide +kernel
theorem dX12_hush_50 : decode cX12_hush 50 = .ok (.iconst 0, 1) := by decide +kernel
theorem dX12_hush_51 : decode cX12_hush 51 = .ok (.invokevirtual 305, 3) := by decide +kernel
theorem dX12_hush_54 : decode cX12_hush 54 = .ok (.iconst 1, 1) := by decide +kernel
theorem dX12_hush_55 : decode cX12_hush 55 = .ok (.ireturn, 1) := by decide +kernel
theorem dX12_most_0 : decode cX12_most 0 = .ok (.aload_n 0, 1) := by decide +kernel
theorem dX12_most_1 : decode cX12_most 1 = .ok (.getfield 290, 3) := by decide +kernel
theorem dX12_most_4 : decode cX12_most 4 = .ok (.ifCond .eq 12, 3) := by decide +kernel
theorem dX12_most_7 : decode cX12_most 7 = .ok (.iload_n 1, 1) := by decide +kernel
theorem dX12_most_8 : decode cX12_most 8 = .ok (.iconst 0, 1) := by decide +kernel
theorem dX12_most_9 : decode cX12_most 9 = .ok (.iconst 1, 1) := by decide +kernel
theorem dX12_most_10 : decode cX12_most 10 = .ok (.invokestatic 232, 3) := by decide +kernel
theorem dX12_most_13 : decode cX12_most 13 = .ok (.ifCond .ne 5, 3) := by decide +kernel
theorem dX12_most_16 : decode cX12_most 16 = .ok (.iconst (-1), 1) := by decide +kernel
theorem dX12_most_17 : decode cX12_most 17 = .ok (.ireturn, 1) := by decide +kernel
theorem dX12_most_18 : decode cX12_most 18 = .ok (.iconst 0, 1) := by decide +kernel
theorem dX12_most_19 : decode cX12_most 19 = .ok (.istore_n 2, 1) := by decide +kernel
theorem dX12_most_20 : decode cX12_most 20 = .ok (.aload_n 0, 1) := by decide +kernel
theorem dX12_most_21 : decode cX12_most 21 = .ok (.invokevirtual 414, 3) := by decide +kernel
theorem dX12_most_24 : decode cX12_most 24 = .ok (.istore_n 3, 1) := by decide +kernel
theorem dX12_most_25 : decode cX12_most 25 = .ok (.iconst 1, 1) := by decide +kernel
theorem dX12_most_26 : decode cX12_most 26 = .ok (.istore 4, 2) := by decide +kernel
theorem dX12_most_28 : decode cX12_most 28 = .ok (.iload 4, 2) := by decide +kernel
theorem dX12_most_30 : decode cX12_most 30 = .ok (.iload_n 3, 1) := by decide +kernel
theorem dX12_most_31 : decode cX12_most 31 = .ok (.if_icmp .gt 46, 3) := by decide +kernel
theorem dX12_most_34 : decode cX12_most 34 = .ok (.iload 4, 2) := by decide +kernel
theorem dX12_most_36 : decode cX12_most 36 = .ok (.iload_n 3, 1) := by decide +kernel
theorem dX12_most_37 : decode cX12_most 37 = .ok (.iconst (-1), 1) := by decide +kernel
theorem dX12_most_38 : decode cX12_most 38 = .ok (.ixor, 1) := by decide +kernel
theorem dX12_most_39 : decode cX12_most 39 = .ok (.iand, 1) := by decide +kernel
theorem dX12_most_40 : decode cX12_most 40 = .ok (.ifCond .ne 29, 3) := by decide +kernel
theorem dX12_most_43 : decode cX12_most 43 = .ok (.iload 4, 2) := by decide +kernel
theorem dX12_most_45 : decode cX12_most 45 = .ok (.invokestatic 391, 3) := by decide +kernel
theorem dX12_most_48 : decode cX12_most 48 = .ok (.iload_n 2, 1) := by decide +kernel
theorem dX12_most_49 : decode cX12_most 49 = .ok (.invokestatic 391, 3) := by decide +kernel
theorem dX12_most_52 : decode cX12_most 52 = .ok (.if_icmp .le 17, 3) := by decide +kernel
theorem dX12_most_55 : decode cX12_most 55 = .ok (.aload_n 0, 1) := by decide +kernel
theorem dX12_most_56 : decode cX12_most 56 = .ok (.iload 4, 2) := by decide +kernel
theorem dX12_most_58 : decode cX12_most 58 = .ok (.invokevirtual 417, 3) := by decide +kernel
theorem dX12_most_61 : decode cX12_most 61 = .ok (.ifCond .eq 8, 3) := by decide +kernel
theorem dX12_most_64 : decode cX12_most 64 = .ok (.iload 4, 2) := by decide +kernel
theorem dX12_most_66 : decode cX12_most 66 = .ok (.goto 4, 3) := by decide +kernel
theorem dX12_most_69 : decode cX12_most 69 = .ok (.iload_n 2, 1) := by decide +kernel
theorem dX12_most_70 : decode cX12_most 70 = .ok (.istore_n 2, 1) := by decide +kernel
theorem dX12_most_71 : decode cX12_most 71 = .ok (.iinc 4 1, 3) := by decide +kernel
theorem dX12_most_74 : decode cX12_most 74 = .ok (.goto (-46), 3) := by decide +kernel
theorem dX12_most_77 : decode cX12_most 77 = .ok (.iload_n 1, 1) := by decide +kernel
theorem dX12_most_78 : decode cX12_most 78 = .ok (.ifCond .ne 10, 3) := by decide +kernel
theorem dX12_most_81 : decode cX12_most 81 = .ok (.iload_n 2, 1) := by decide +kernel
theorem dX12_most_82 : decode cX12_most 82 = .ok (.invokestatic 391, 3) := by decide +kernel
theorem dX12_most_85 : decode cX12_most 85 = .ok (.goto 4, 3) := by decide +kernel
theorem dX12_most_88 : decode cX12_most 88 = .ok (.iload_n 2, 1) := by decide +kernel
theorem dX12_most_89 : decode cX12_most 89 = .ok (.ireturn, 1) := by decide +kernel
theorem dX12_needs_0 : decode cX12_needs 0 = .ok (.aload_n 0, 1) := by decide +kernel
theorem dX12_needs_1 : decode cX12_needs 1 = .ok (.iload_n 1, 1) := by decide +kernel
theorem dX12_needs_2 : decode cX12_needs 2 = .ok (.invokevirtual 347, 3) := by decide +kernel
theorem dX12_needs_5 : decode cX12_needs 5 = .ok (.ifCond .eq 11, 3) := by decide +kernel
theorem dX12_needs_8 : decode cX12_needs 8 = .ok (.aload_n 0, 1) := by decide +kernel
theorem dX12_needs_9 : decode cX12_needs 9 = .ok (.iload_n 1, 1) := by decide +kernel
theorem dX12_needs_10 : decode cX12_needs 10 = .ok (.invokevirtual 382, 3) := by decide +kernel
theorem dX12_needs_13 : decode cX12_needs 13 = .ok (.ifCond .ne 5, 3) := by decide +kernel
theorem dX12_needs_16 : decode cX12_needs 16 = .ok (.iconst (-1), 1) := by decide +kernel
theorem dX12_needs_17 : decode cX12_needs 17 = .ok (.ireturn, 1) := by decide +kernel
theorem dX12_needs_18 : decode cX12_needs 18 = .ok (.iconst 0, 1) := by decide +kernel
theorem dX12_needs_19 : decode cX12_needs 19 = .ok (.istore_n 2, 1) := by decide +kernel
theorem dX12_needs_20 : decode cX12_needs 20 = .ok (.iload_n 2, 1) := by decide +kernel
theorem dX12_needs_21 : decode cX12_needs 21 = .ok (.aload_n 0, 1) := by decide +kernel
theorem dX12_needs_22 : decode cX12_needs 22 = .ok (.getfield 302, 3) := by decide +kernel
theorem dX12_needs_25 : decode cX12_needs 25 = .ok (.if_icmp .ge 29, 3) := by decide +kernel
theorem dX12_needs_28 : decode cX12_needs 28 = .ok (.aload_n 0, 1) := by decide +kernel
theorem dX12_needs_29 : decode cX12_needs 29 = .ok (.getfield 98, 3) := by decide +kernel
theorem dX12_needs_32 : decode cX12_needs 32 = .ok (.iload_n 2, 1) := by decide +kernel
theorem dX12_needs_33 : decode cX12_needs 33 = .ok (.iload_n 2, 1) := by decide +kernel
theorem dX12_needs_34 : decode cX12_needs 34 = .ok (.aload_n 0, 1) := by decide +kernel
theorem dX12_needs_35 : decode cX12_needs 35 = .ok (.iload_n 1, 1) := by decide +kernel
theorem dX12_needs_36 : decode cX12_needs 36 = .ok (.invokevirtual 351, 3) := by decide +kernel
theorem dX12_needs_39 : decode cX12_needs 39 = .ok (.if_icmp .ne 7, 3) := by decide +kernel
theorem dX12_needs_42 : decode cX12_needs 42 = .ok (.iconst 0, 1) := by decide +kernel
theorem dX12_needs_43 : decode cX12_needs 43 = .ok (.goto 4, 3) := by decide +kernel
theorem dX12_needs_46 : decode cX12_needs 46 = .ok (.iconst (-1), 1) := by decide +kernel
theorem dX12_needs_47 : decode cX12_needs 47 = .ok (.iastore, 1) := by decide +kernel
theorem dX12_needs_48 : decode cX12_needs 48 = .ok (.iinc 2 1, 3) := by decide +kernel
theorem dX12_needs_51 : decode cX12_needs 51 = .ok (.goto (-31), 3) := by decide +kernel
theorem dX12_needs_54 : decode cX12_needs 54 = .ok (.iconst 0, 1) := by decide +kernel
theorem dX12_needs_55 : decode cX12_needs 55 = .ok (.istore_n 2, 1) := by decide +kernel
theorem dX12_needs_56 : decode cX12_needs 56 = .ok (.iload_n 2, 1) := by decide +kernel
theorem dX12_needs_57 : decode cX12_needs 57 = .ok (.aload_n 0, 1) := by decide +kernel
theorem dX12_needs_58 : decode cX12_needs 58 = .ok (.getfield 302, 3) := by decide +kernel
theorem dX12_needs_61 : decode cX12_needs 61 = .ok (.if_icmp .gt 121, 3) := by decide +kernel
theorem dX12_needs_64 : decode cX12_needs 64 = .ok (.iconst 0, 1) := by decide +kernel
theorem dX12_needs_65 : decode cX12_needs 65 = .ok (.istore_n 3, 1) := by decide +kernel
theorem dX12_needs_66 : decode cX12_needs 66 = .ok (.iload_n 3, 1) := by decide +kernel
theorem dX12_needs_67 : decode cX12_needs 67 = .ok (.aload_n 0, 1) := by decide +kernel
theorem dX12_needs_68 : decode cX12_needs 68 = .ok (.getfield 302, 3) := by decide +kernel
theorem dX12_needs_71 : decode cX12_needs 71 = .ok (.if_icmp .ge 39, 3) := by decide +kernel
theorem dX12_needs_74 : decode cX12_needs 74 = .ok (.aload_n 0, 1) := by decide +kernel
theorem dX12_needs_75 : decode cX12_needs 75 = .ok (.getfield 98, 3) := by decide +kernel
theorem dX12_needs_78 : decode cX12_needs 78 = .ok (.iload_n 3, 1) := by decide +kernel
theorem dX12_needs_79 : decode cX12_needs 79 = .ok (.iaload, 1) := by decide +kernel
theorem dX12_needs_80 : decode cX12_needs 80 = .ok (.iload_n 2, 1) := by decide +kernel
theorem dX12_needs_81 : decode cX12_needs 81 = .ok (.if_icmp .ne 23, 3) := by decide +kernel
theorem dX12_needs_84 : decode cX12_needs 84 = .ok (.aload_n 0, 1) := by decide +kernel
theorem dX12_needs_85 : decode cX12_needs 85 = .ok (.iload_n 3, 1) := by decide +kernel
theorem dX12_needs_86 : decode cX12_needs 86 = .ok (.invokevirtual 333, 3) := by decide +kernel
theorem dX12_needs_89 : decode cX12_needs 89 = .ok (.ifCond .gt 13, 3) := by decide +kernel
theorem dX12_needs_92 : decode cX12_needs 92 = .ok (.iload_n 3, 1) := by decide +kernel
theorem dX12_needs_93 : decode cX12_needs 93 = .ok (.aload_n 0, 1) := by decide +kernel
theorem dX12_needs_94 : decode cX12_needs 94 = .ok (.iload_n 1, 1) := by decide +kernel
theorem dX12_needs_95 : decode cX12_needs 95 = .ok (.iconst 1, 1) := by decide +kernel
theorem dX12_needs_96 : decode cX12_needs 96 = .ok (.invokevirtual 287, 3) := by decide +kernel
theorem dX12_needs_99 : decode cX12_needs 99 = .ok (.if_icmp .ne 5, 3) := by decide +kernel
theorem dX12_needs_102 : decode cX12_needs 102 = .ok (.iload_n 2, 1) := by decide +kernel
theorem dX12_needs_103 : decode cX12_needs 103 = .ok (.ireturn, 1) := by decide +kernel
theorem dX12_needs_104 : decode cX12_needs 104 = .ok (.iinc 3 1, 3) := by decide +kernel
theorem dX12_needs_107 : decode cX12_needs 107 = .ok (.goto (-41), 3) := by decide +kernel
theorem dX12_needs_110 : decode cX12_needs 110 = .ok (.iconst 0, 1) := by decide +kernel
theorem dX12_needs_111 : decode cX12_needs 111 = .ok (.istore_n 3, 1) := by decide +kernel
theorem dX12_needs_112 : decode cX12_needs 112 = .ok (.iload_n 3, 1) := by decide +kernel
theorem dX12_needs_113 : decode cX12_needs 113 = .ok (.aload_n 0, 1) := by decide +kernel
theorem dX12_needs_114 : decode cX12_needs 114 = .ok (.getfield 290, 3) := by decide +kernel
theorem dX12_needs_117 : decode cX12_needs 117 = .ok (.if_icmp .ge 59, 3) := by decide +kernel
theorem dX12_needs_120 : decode cX12_needs 120 = .ok (.aload_n 0, 1) := by decide +kernel
theorem dX12_needs_121 : decode cX12_needs 121 = .ok (.iload_n 3, 1) := by decide +kernel
theorem dX12_needs_122 : decode cX12_needs 122 = .ok (.invokevirtual 382, 3) := by decide +kernel
theorem dX12_needs_125 : decode cX12_needs 125 = .ok (.ifCond .eq 45, 3) := by decide +kernel
theorem dX12_needs_128 : decode cX12_needs 128 = .ok (.aload_n 0, 1) := by decide +kernel
theorem dX12_needs_129 : decode cX12_needs 129 = .ok (.getfield 98, 3) := by decide +kernel
theorem dX12_needs_132 : decode cX12_needs 132 = .ok (.aload_n 0, 1) := by decide +kernel
theorem dX12_needs_133 : decode cX12_needs 133 = .ok (.iload_n 3, 1) := by decide +kernel
theorem dX12_needs_134 : decode cX12_needs 134 = .ok (.iconst 1, 1) := by decide +kernel
theorem dX12_needs_135 : decode cX12_needs 135 = .ok (.invokevirtual 287, 3) := by decide +kernel
theorem dX12_needs_138 : decode cX12_needs 138 = .ok (.iaload, 1) := by decide +kernel
theorem dX12_needs_139 : decode cX12_needs 139 = .ok (.iload_n 2, 1) := by decide +kernel
theorem dX12_needs_140 : decode cX12_needs 140 = .ok (.if_icmp .ne 30, 3) := by decide +kernel
theorem dX12_needs_143 : decode cX12_needs 143 = .ok (.aload_n 0, 1) := by decide +kernel
theorem dX12_needs_144 : decode cX12_needs 144 = .ok (.getfield 98, 3) := by decide +kernel
theorem dX12_needs_147 : decode cX12_needs 147 = .ok (.aload_n 0, 1) := by decide +kernel
theorem dX12_needs_148 : decode cX12_needs 148 = .ok (.iload_n 3, 1) := by decide +kernel
theorem dX12_needs_149 : decode cX12_needs 149 = .ok (.invokevirtual 351, 3) := by decide +kernel
theorem dX12_needs_152 : decode cX12_needs 152 = .ok (.iaload, 1) := by decide +kernel
theorem dX12_needs_153 : decode cX12_needs 153 = .ok (.iconst (-1), 1) := by decide +kernel
theorem dX12_needs_154 : decode cX12_needs 154 = .ok (.if_icmp .ne 16, 3) := by decide +kernel
theorem dX12_needs_157 : decode cX12_needs 157 = .ok (.aload_n 0, 1) := by decide +kernel
theorem dX12_needs_158 : decode cX12_needs 158 = .ok (.getfield 98, 3) := by decide +kernel
theorem dX12_needs_161 : decode cX12_needs 161 = .ok (.aload_n 0, 1) := by decide +kernel
theorem dX12_needs_162 : decode cX12_needs 162 = .ok (.iload_n 3, 1) := by decide +kernel
theorem dX12_needs_163 : decode cX12_needs 163 = .ok (.invokevirtual 351, 3) := by decide +kernel
theorem dX12_needs_166 : decode cX12_needs 166 = .ok (.iload_n 2, 1) := by decide +kernel
theorem dX12_needs_167 : decode cX12_needs 167 = .ok (.iconst 1, 1) := by decide +kernel
theorem dX12_needs_168 : decode cX12_needs 168 = .ok (.iadd, 1) := by decide +kernel
theorem dX12_needs_169 : decode cX12_needs 169 = .ok (.iastore, 1) := by decide +kernel
theorem dX12_needs_170 : decode cX12_needs 170 = .ok (.iinc 3 1, 3) := by decide +kernel
theorem dX12_needs_173 : decode cX12_needs 173 = .ok (.goto (-61), 3) := by decide +kernel
theorem dX12_needs_176 : decode cX12_needs 176 = .ok (.iinc 2 1, 3) := by decide +kernel
theorem dX12_needs_179 : decode cX12_needs 179 = .ok (.goto (-123), 3) := by decide +kernel
theorem dX12_needs_182 : decode cX12_needs 182 = .ok (.iconst (-1), 1) := by decide +kernel
theorem dX12_needs_183 : decode cX12_needs 183 = .ok (.ireturn, 1) := by decide +kernel
theorem dX12_undo_0 : decode cX12_undo 0 = .ok (.aload_n 0, 1) := by decide +kernel
theorem dX12_undo_1 : decode cX12_undo 1 = .ok (.getfield 312, 3) := by decide +kernel
theorem dX12_undo_4 : decode cX12_undo 4 = .ok (.ifCond .ne 5, 3) := by decide +kernel
theorem dX12_undo_7 : decode cX12_undo 7 = .ok (.iconst (-1), 1) := by decide +kernel
theorem dX12_undo_8 : decode cX12_undo 8 = .ok (.ireturn, 1) := by decide +kernel
theorem dX12_undo_9 : decode cX12_undo 9 = .ok (.aload_n 0, 1) := by decide +kernel
theorem dX12_undo_10 : decode cX12_undo 10 = .ok (.dup, 1) := by decide +kernel
theorem dX12_undo_11 : decode cX12_undo 11 = .ok (.getfield 312, 3) := by decide +kernel
theorem dX12_undo_14 : decode cX12_undo 14 = .ok (.iconst 1, 1) := by decide +kernel
theorem dX12_undo_15 : decode cX12_undo 15 = .ok (.isub, 1) := by decide +kernel
theorem dX12_undo_16 : decode cX12_undo 16 = .ok (.putfield 312, 3) := by decide +kernel
theorem dX12_undo_19 : decode cX12_undo 19 = .ok (.aload_n 0, 1) := by decide +kernel
theorem dX12_undo_20 : decode cX12_undo 20 = .ok (.getfield 89, 3) := by decide +kernel
theorem dX12_undo_23 : decode cX12_undo 23 = .ok (.aload_n 0, 1) := by decide +kernel
theorem dX12_undo_24 : decode cX12_undo 24 = .ok (.getfield 312, 3) := by decide +kernel
theorem dX12_undo_27 : decode cX12_undo 27 = .ok (.iaload, 1) := by decide +kernel
theorem dX12_undo_28 : decode cX12_undo 28 = .ok (.istore_n 1, 1) := by decide +kernel
theorem dX12_undo_29 : decode cX12_undo 29 = .ok (.aload_n 0, 1) := by decide +kernel
theorem dX12_undo_30 : decode cX12_undo 30 = .ok (.iload_n 1, 1) := by decide +kernel
theorem dX12_undo_31 : decode cX12_undo 31 = .ok (.bipush 6, 2) := by decide +kernel
theorem dX12_undo_33 : decode cX12_undo 33 = .ok (.aload_n 0, 1) := by decide +kernel
theorem dX12_undo_34 : decode cX12_undo 34 = .ok (.iload_n 1, 1) := by decide +kernel
theorem dX12_undo_35 : decode cX12_undo 35 = .ok (.bipush 6, 2) := by decide +kernel
theorem dX12_undo_37 : decode cX12_undo 37 = .ok (.invokevirtual 287, 3) := by decide +kernel
theorem dX12_undo_40 : decode cX12_undo 40 = .ok (.aload_n 0, 1) := by decide +kernel
theorem dX12_undo_41 : decode cX12_undo 41 = .ok (.getfield 92, 3) := by decide +kernel
theorem dX12_undo_44 : decode cX12_undo 44 = .ok (.aload_n 0, 1) := by decide +kernel
theorem dX12_undo_45 : decode cX12_undo 45 = .ok (.getfield 312, 3) := by decide +kernel
theorem dX12_undo_48 : decode cX12_undo 48 = .ok (.iaload, 1) := by decide +kernel
theorem dX12_undo_49 : decode cX12_undo 49 = .ok (.isub, 1) := by decide +kernel
theorem dX12_undo_50 : decode cX12_undo 50 = .ok (.invokevirtual 305, 3) := by decide +kernel
theorem dX12_undo_53 : decode cX12_undo 53 = .ok (.aload_n 0, 1) := by decide +kernel
theorem dX12_undo_54 : decode cX12_undo 54 = .ok (.iload_n 1, 1) := by decide +kernel
theorem dX12_undo_55 : decode cX12_undo 55 = .ok (.bipush 8, 2) := by decide +kernel
theorem dX12_undo_57 : decode cX12_undo 57 = .ok (.aload_n 0, 1) := by decide +kernel
theorem dX12_undo_58 : decode cX12_undo 58 = .ok (.iload_n 1, 1) := by decide +kernel
theorem dX12_undo_59 : decode cX12_undo 59 = .ok (.bipush 8, 2) := by decide +kernel
theorem dX12_undo_61 : decode cX12_undo 61 = .ok (.invokevirtual 287, 3) := by decide +kernel
theorem dX12_undo_64 : decode cX12_undo 64 = .ok (.aload_n 0, 1) := by decide +kernel
theorem dX12_undo_65 : decode cX12_undo 65 = .ok (.getfield 95, 3) := by decide +kernel
theorem dX12_undo_68 : decode cX12_undo 68 = .ok (.aload_n 0, 1) := by decide +kernel
theorem dX12_undo_69 : decode cX12_undo 69 = .ok (.getfield 312, 3) := by decide +kernel
theorem dX12_undo_72 : decode cX12_undo 72 = .ok (.iaload, 1) := by decide +kernel
theorem dX12_undo_73 : decode cX12_undo 73 = .ok (.isub, 1) := by decide +kernel
theorem dX12_undo_74 : decode cX12_undo 74 = .ok (.invokevirtual 305, 3) := by decide +kernel
theorem dX12_undo_77 : decode cX12_undo 77 = .ok (.iload_n 1, 1) := by decide +kernel
theorem dX12_undo_78 : decode cX12_undo 78 = .ok (.ireturn, 1) := by decide +kernel
def w_X12_buy : List Cond := .code yX12_buy cX12_buy 4 (some .int) :: ([Cond.methodLink RX12 347 yX12_isFamily, Cond.instanceMethod yX12_isFamily, Cond.selects RX12 yX12_isFamily yX12_isFamily, Cond.initialized RX12, Cond.methodLink RX12 341 yX12_isGone, Cond.instanceMethod yX12_isGone, Cond.selects RX12 yX12_isGone yX12_isGone, Cond.methodLink RX12 232 yX12_in, Cond.static yX12_in, Cond.methodLink RX12 287 yX12_of, Cond.instanceMethod yX12_of, Cond.selects RX12 yX12_of yX12_of, Cond.fieldLink RX12 312 "HeadYearModel" "buys" "I", Cond.fieldLink RX12 71 "HeadYearModel" "price" "I", Cond.methodLink RX12 411 Lib.Math.abs.name, Cond.static Lib.Math.abs.name, Cond.initialized "java/lang/Math", Cond.code Lib.Math.abs.name Lib.Math.abs.code 1 (some .int), Cond.methodLink RX12 305 yX12_tell, Cond.instanceMethod yX12_tell, Cond.selects RX12 yX12_tell yX12_tell, Cond.fieldLink RX12 89 "HeadYearModel" "buyer" "[I", Cond.fieldLink RX12 92 "HeadYearModel" "buyBy" "[I", Cond.fieldLink RX12 95 "HeadYearModel" "buyCost" "[I"] ++ (u_ws RX12 TX12 54 ++ (w_X12_isFamily ++ (w_X12_isGone ++ (w_X12_in ++ (w_X12_of ++ (w_X12_tell ++ ([]))))))))
theorem in_X12_buy_X12 : ∀ w ∈ u_ws RX12 TX12 54, w ∈ w_X12_buy := fun _ h => List.mem_cons_of_mem _ (List.mem_append_right _ (List.mem_append_left _ h))
theorem gg_X12_buy_X12_isFamily : GoodIn w_X12_buy w_X12_isFamily := goodIn_sub (fun _ h => List.mem_cons_of_mem _ (List.mem_append_right _ (List.mem_append_right _ (List.mem_append_left _ h)))) (by decide +kernel)
theorem gg_X12_buy_X12_isGone : GoodIn w_X12_buy w_X12_isGone := goodIn_sub (fun _ h => List.mem_cons_of_mem _ (List.mem_append_right _ (List.mem_append_right _ (List.mem_append_right _ (List.mem_append_left _ h))))) (by decide +kernel)
theorem gg_X12_buy_X12_in : GoodIn w_X12_buy w_X12_in := goodIn_sub (fun _ h => List.mem_cons_of_mem _ (List.mem_append_right _ (List.mem_append_right _ (List.mem_append_right _ (List.mem_append_right _ (List.mem_append_left _ h)))))) (by decide +kernel)
theorem gg_X12_buy_X12_of : GoodIn w_X12_buy w_X12_of := goodIn_sub (fun _ h => List.mem_cons_of_mem _ (List.mem_append_right _ (List.mem_append_right _ (List.mem_append_right _ (List.mem_append_right _ (List.mem_append_right _ (List.mem_append_left _ h))))))) (by decide +kernel)
theorem gg_X12_buy_X12_tell : GoodIn w_X12_buy w_X12_tell := goodIn_sub (fun _ h => List.mem_cons_of_mem _ (List.mem_append_right _ (List.mem_append_right _ (List.mem_append_right _ (List.mem_append_right _ (List.mem_append_right _ (List.mem_append_right _ (List.mem_append_left _ h)))))))) (by decide +kernel)
theorem g_X12_buy_X12_in_232 : GoodIn w_X12_buy (va_wsS RX12 232 yX12_in w_X12_in) := goodIn_app (goodIn_of _ (by decide +kernel)) gg_X12_buy_X12_in
theorem g_X12_buy_X12_isFamily_347 : GoodIn w_X12_buy (wsV RX12 347 RX12 yX12_isFamily w_X12_isFamily) := goodIn_app (goodIn_of _ (by decide +kernel)) gg_X12_buy_X12_isFamily
theorem g_X12_buy_X12_isGone_341 : GoodIn w_X12_buy (wsV RX12 341 RX12 yX12_isGone w_X12_isGone) := goodIn_app (goodIn_of _ (by decide +kernel)) gg_X12_buy_X12_isGone
theorem g_X12_buy_X12_of_287 : GoodIn w_X12_buy (wsV RX12 287 RX12 yX12_of w_X12_of) := goodIn_app (goodIn_of _ (by decide +kernel)) gg_X12_buy_X12_of
theorem g_X12_buy_X12_tell_305 : GoodIn w_X12_buy (wsV RX12 305 RX12 yX12_tell w_X12_tell) := goodIn_app (goodIn_of _ (by decide +kernel)) gg_X12_buy_X12_tell
set_option maxHeartbeats 4000000 in
set_option maxRecDepth 100000 in
theorem c_X12_buy (l : Launch) (E : py_E) (G : wf_G) (L : List Nat) (f : py_F) (sz : Nat) (u : Nat) (a : Int32) (b : Int32) (hG : GT G) (hWF : WF E G L f) (Tu : G.1 u = 13) : Met l yX12_buy w_X12_buy ({ frames := 2, cells := 0, slots := 0, locals := 43 }) (py_Pc E [.ref u, .int a, .int b] L f sz) (py_Qi E L f sz (fun _ L1 f1 => WF E G L1 f1 ∧ KP G [55, 63, 64, 65, 13] false f f1 ∧ FK [43] f f1 u)) 0 0 (va_A (va_pl L f) sz) := by
  refine Met.ofW (cc := cX12_buy) (maxL := 4) (ret := (some .int)) (by decide) rfl ?_
  intro p e s m args below meth c s₁ B hml hv
  obtain ⟨rfl, rfl, hw⟩ := py_start hv
  have G0 : CallFix p m c cX12_buy 4 s _ w_X12_buy RX12 := ⟨B.exec, B.bytes, hml, findClass_of_methodNamed B.named, atoms_spec (ws := w_X12_buy) B.pre⟩
  have hr := B.returns
  have hlk := B.notSynchronized
  have kcm3 : (-3 : Int32).toInt = -3 := rfl
  have kcm1 : (-1 : Int32).toInt = -1 := rfl
  have kc0 : (0 : Int32).toInt = 0 := rfl
  have kc1 : (1 : Int32).toInt = 1 := rfl
  have kc3 : (3 : Int32).toInt = 3 := rfl
  have kc6 : (6 : Int32).toInt = 6 := rfl
  have kc8 : (8 : Int32).toInt = 8 := rfl
  have kc40 : (40 : Int32).toInt = 40 := rfl
  have hl := lv_entry ([.ref u, .int a, .int b]) (n := 4) (Nat.le_of_ble_eq_true rfl)
  rw [lg_entry_eq]
  generalize (lg_sl ([.ref u, .int a, .int b]) ++ List.replicate (4 - (lg_sl ([.ref u, .int a, .int b])).length) Slot.unset).toArray = ls at hl ⊢
  have hl : lv_has ls 4 [(0, .ref u), (1, .int a), (2, .int b)] := hl
  have hFK : FK [43] f f u := FK.refl
  have hKP : KP G [55, 63, 64, 65, 13] false f f := KP.refl
  refine lv_aload_n G0.1 G0.2.1 dX12_buy_0 rfl (lv_at hl 0 rfl) ?_
  refine lv_iload_n G0.1 G0.2.1 dX12_buy_1 rfl (lv_at hl 1 rfl) ?_
  obtain ⟨v_1, v_2, v_3, v_4, v_5, v_6, v_7, v_8, v_9, v_10, v_11, v_12, y_13, v_14, v_15, v_16, v_17, v_18, y_19, v_20, y_21, v_22, hr_35, b_23, b_24, b_25, b_26, b_27, b_28, b_29, b_30, b_31, b_32, b_33, b_34⟩ := wg_12 hWF Tu
  refine py_calli hw (va_runV (As := [.int a]) (rest := []) G0 (c_X12_isFamily l E G L f s.heap.size u a hG hWF Tu) (cwV 1 G0.2.2.2.2 g_X12_buy_X12_isFamily_347 rfl rfl rfl (by decide +kernel) ⟨(Nat.le_of_ble_eq_true rfl), (Nat.le_of_ble_eq_true rfl)⟩) (py_preV hw (C := RX12) (T := TX12) (N := 54) rfl hr_35) rfl rfl hl.1 rfl (lv_room (Nat.le_of_ble_eq_true rfl)) dX12_buy_2 ⟨(Nat.le_of_ble_eq_true rfl), (Nat.le_of_ble_eq_true rfl)⟩) (fun r_40 L_36 f_37 H_38 locs hp_39 hw => ?_)
  obtain ⟨b_42, en_41, rfl, rfl⟩ := hp_39
  refine lv_if_eq (tgt := 57) G0.1 G0.2.1 dX12_buy_5 (by decide) (fun c_43 => ?_) (fun c_43 => ?_)
  · skip
    have tc_43 := ti_eq c_43
    refine lv_iconst (v := (-1)) G0.1 G0.2.1 dX12_buy_57 (by decide) ?_
    exact py_iret G0 hr rfl hlk hw ⟨hWF, hKP, hFK⟩ dX12_buy_58
  · skip
    have tc_43 := ti_ne c_43
    refine lv_aload_n G0.1 G0.2.1 dX12_buy_8 rfl (lv_at hl 0 rfl) ?_
    refine lv_iload_n G0.1 G0.2.1 dX12_buy_9 rfl (lv_at hl 1 rfl) ?_
    refine py_calli hw (va_runV (As := [.int a]) (rest := []) G0 (c_X12_isGone l E G L f H_38.size u a hG hWF Tu ⟨by omega, by omega⟩) (cwV 1 G0.2.2.2.2 g_X12_buy_X12_isGone_341 rfl rfl rfl (by decide +kernel) ⟨(Nat.le_of_ble_eq_true rfl), (Nat.le_of_ble_eq_true rfl)⟩) (py_preV hw (C := RX12) (T := TX12) (N := 54) rfl hr_35) rfl rfl hl.1 rfl (lv_room (Nat.le_of_ble_eq_true rfl)) dX12_buy_10 ⟨(Nat.le_of_ble_eq_true rfl), (Nat.le_of_ble_eq_true rfl)⟩) (fun r_48 L_44 f_45 H_46 locs hp_47 hw => ?_)
    obtain ⟨b_51, en_49, en_50, rfl, rfl⟩ := hp_47
    refine lv_if_ne (tgt := 57) G0.1 G0.2.1 dX12_buy_13 (by decide) (fun c_52 => ?_) (fun c_52 => ?_)
    · skip
      have tc_52 := ti_ne c_52
      refine lv_iconst (v := (-1)) G0.1 G0.2.1 dX12_buy_57 (by decide) ?_
      exact py_iret G0 hr rfl hlk hw ⟨hWF, hKP, hFK⟩ dX12_buy_58
    · skip
      have tc_52 := ti_eq c_52
      refine lv_iload_n G0.1 G0.2.1 dX12_buy_16 rfl (lv_at hl 2 rfl) ?_
      refine lv_bipush (v := (-3)) G0.1 G0.2.1 dX12_buy_17 (by decide) ?_
      refine lv_iconst (v := 3) G0.1 G0.2.1 dX12_buy_19 (by decide) ?_
      refine py_calli hw (va_runS (As := [.int b, .int (-3), .int 3]) (rest := []) G0 (c_X12_in l E G L f H_46.size b (-3) 3 hG hWF) (va_cwS 3 G0.2.2.2.2 g_X12_buy_X12_in_232 rfl rfl rfl (by decide +kernel) ⟨(Nat.le_of_ble_eq_true rfl), (Nat.le_of_ble_eq_true rfl)⟩) (py_preS hw) rfl rfl hl.1 rfl (lv_room (Nat.le_of_ble_eq_true rfl)) dX12_buy_20 ⟨(Nat.le_of_ble_eq_true rfl), (Nat.le_of_ble_eq_true rfl)⟩) (fun r_57 L_53 f_54 H_55 locs hp_56 hw => ?_)
      obtain ⟨b_60, en_58, en_59, rfl, rfl⟩ := hp_56
      have en_58 : r_57.toInt ≠ 0 → ((-3) : Int) ≤ b.toInt ∧ b.toInt ≤ (3 : Int) := en_58
      have en_59 : r_57.toInt = 0 → b.toInt < ((-3) : Int) ∨ (3 : Int) < b.toInt := en_59
      refine lv_if_eq (tgt := 57) G0.1 G0.2.1 dX12_buy_23 (by decide) (fun c_61 => ?_) (fun c_61 => ?_)
      · skip
        have tc_61 := ti_eq c_61
        refine lv_iconst (v := (-1)) G0.1 G0.2.1 dX12_buy_57 (by decide) ?_
        exact py_iret G0 hr rfl hlk hw ⟨hWF, hKP, hFK⟩ dX12_buy_58
      · skip
        have tc_61 := ti_ne c_61
        refine lv_iload_n G0.1 G0.2.1 dX12_buy_26 rfl (lv_at hl 2 rfl) ?_
        refine lv_if_eq (tgt := 57) G0.1 G0.2.1 dX12_buy_27 (by decide) (fun c_62 => ?_) (fun c_62 => ?_)
        · skip
          have tc_62 := ti_eq c_62
          refine lv_iconst (v := (-1)) G0.1 G0.2.1 dX12_buy_57 (by decide) ?_
          exact py_iret G0 hr rfl hlk hw ⟨hWF, hKP, hFK⟩ dX12_buy_58
        · skip
          have tc_62 := ti_ne c_62
          refine lv_aload_n G0.1 G0.2.1 dX12_buy_30 rfl (lv_at hl 0 rfl) ?_
          refine lv_iload_n G0.1 G0.2.1 dX12_buy_31 rfl (lv_at hl 1 rfl) ?_
          refine lv_bipush (v := 6) G0.1 G0.2.1 dX12_buy_32 (by decide) ?_
          refine py_calli hw (va_runV (As := [.int a, .int 6]) (rest := []) G0 (c_X12_of l E G L f H_55.size u a 6 hG hWF Tu ⟨by omega, by omega⟩ ⟨by omega, by omega⟩) (cwV 2 G0.2.2.2.2 g_X12_buy_X12_of_287 rfl rfl rfl (by decide +kernel) ⟨(Nat.le_of_ble_eq_true rfl), (Nat.le_of_ble_eq_true rfl)⟩) (py_preV hw (C := RX12) (T := TX12) (N := 54) rfl hr_35) rfl rfl hl.1 rfl (lv_room (Nat.le_of_ble_eq_true rfl)) dX12_buy_34 ⟨(Nat.le_of_ble_eq_true rfl), (Nat.le_of_ble_eq_true rfl)⟩) (fun r_67 L_63 f_64 H_65 locs hp_66 hw => ?_)
          obtain ⟨en_68, en_69, rfl, rfl⟩ := hp_66
          have en_68 : r_67.toInt = nw f G u a.toInt (6 : Int) := en_68
          have en_69 : ((6 : Int) = 0 → 0 ≤ r_67.toInt ∧ r_67.toInt ≤ 20) ∧ ((6 : Int) = 1 → -1 ≤ r_67.toInt ∧ r_67.toInt ≤ 7) := en_69
          have br_67 := wf_free r_67
          refine lv_iload_n G0.1 G0.2.1 dX12_buy_37 rfl (lv_at hl 2 rfl) ?_
          refine lv_iadd G0.1 G0.2.1 dX12_buy_38 ?_
          refine lv_topi (fun x_70 ex_70 => ?_)
          first | have tx_70 := ti_add ex_70 (by omega) (by omega) | skip
          refine lv_bipush (v := (-3)) G0.1 G0.2.1 dX12_buy_39 (by decide) ?_
          refine lv_iconst (v := 3) G0.1 G0.2.1 dX12_buy_41 (by decide) ?_
          refine py_calli hw (va_runS (As := [.int x_70, .int (-3), .int 3]) (rest := []) G0 (c_X12_in l E G L f H_65.size x_70 (-3) 3 hG hWF) (va_cwS 3 G0.2.2.2.2 g_X12_buy_X12_in_232 rfl rfl rfl (by decide +kernel) ⟨(Nat.le_of_ble_eq_true rfl), (Nat.le_of_ble_eq_true rfl)⟩) (py_preS hw) rfl rfl hl.1 rfl (lv_room (Nat.le_of_ble_eq_true rfl)) dX12_buy_42 ⟨(Nat.le_of_ble_eq_true rfl), (Nat.le_of_ble_eq_true rfl)⟩) (fun r_75 L_71 f_72 H_73 locs hp_74 hw => ?_)
          obtain ⟨b_78, en_76, en_77, rfl, rfl⟩ := hp_74
          have en_76 : r_75.toInt ≠ 0 → ((-3) : Int) ≤ x_70.toInt ∧ x_70.toInt ≤ (3 : Int) := en_76
          have en_77 : r_75.toInt = 0 → x_70.toInt < ((-3) : Int) ∨ (3 : Int) < x_70.toInt := en_77
          refine lv_if_eq (tgt := 57) G0.1 G0.2.1 dX12_buy_45 (by decide) (fun c_79 => ?_) (fun c_79 => ?_)
          · skip
            have tc_79 := ti_eq c_79
            refine lv_iconst (v := (-1)) G0.1 G0.2.1 dX12_buy_57 (by decide) ?_
            exact py_iret G0 hr rfl hlk hw ⟨hWF, hKP, hFK⟩ dX12_buy_58
          · skip
            have tc_79 := ti_ne c_79
            refine lv_aload_n G0.1 G0.2.1 dX12_buy_48 rfl (lv_at hl 0 rfl) ?_
            refine py_get (C := RX12) (T := TX12) (N := 54) (k := 43) (v := .int v_18) G0 hw in_X12_buy_X12 rfl hr_35 (by decide) (by decide +kernel) rfl dX12_buy_49 ?_
            refine lv_bipush (v := 40) G0.1 G0.2.1 dX12_buy_52 (by decide) ?_
            refine lv_icmp_ne (tgt := 59) G0.1 G0.2.1 dX12_buy_54 (by decide) (fun c_80 => ?_) (fun c_80 => ?_)
            · skip
              have tc_80 := ti_ne c_80
              refine lv_aload_n G0.1 G0.2.1 dX12_buy_59 rfl (lv_at hl 0 rfl) ?_
              refine py_get (C := RX12) (T := TX12) (N := 54) (k := 34) (v := .int v_17) G0 hw in_X12_buy_X12 rfl hr_35 (by decide) (by decide +kernel) rfl dX12_buy_60 ?_
              refine lv_iload_n G0.1 G0.2.1 dX12_buy_63 rfl (lv_at hl 2 rfl) ?_
              refine va_mabs G0.1 G0.2.1 (by rw [G0.2.2.1, hl.1]) G0.2.2.2.1 (G0.2.2.2.2 (Cond.methodLink RX12 411 Lib.Math.abs.name) (by decide +kernel)) (G0.2.2.2.2 (Cond.static Lib.Math.abs.name) (by decide +kernel)) (G0.2.2.2.2 (Cond.initialized "java/lang/Math") (by decide +kernel)) (G0.2.2.2.2 (Cond.code Lib.Math.abs.name Lib.Math.abs.code 1 (some .int)) (by decide +kernel)) (Nat.le_of_ble_eq_true rfl) (Nat.le_of_ble_eq_true rfl) (Nat.le_of_ble_eq_true rfl) (Nat.le_of_ble_eq_true rfl) dX12_buy_64 ?_
              refine lv_topi (fun x_81 ex_81 => ?_)
              refine lv_imul G0.1 G0.2.1 dX12_buy_67 ?_
              refine lv_topi (fun x_82 ex_82 => ?_)
              refine lv_istore_n (lv' := [(3, .int x_82), (0, .ref u), (1, .int a), (2, .int b)]) G0.1 G0.2.1 dX12_buy_68 rfl hl (by decide) rfl (fun ls hl => ?_)
              refine lv_aload_n G0.1 G0.2.1 dX12_buy_69 rfl (lv_at hl 1 rfl) ?_
              refine lv_iload_n G0.1 G0.2.1 dX12_buy_70 rfl (lv_at hl 2 rfl) ?_
              refine lv_bipush (v := 6) G0.1 G0.2.1 dX12_buy_71 (by decide) ?_
              refine lv_aload_n G0.1 G0.2.1 dX12_buy_73 rfl (lv_at hl 1 rfl) ?_
              refine lv_iload_n G0.1 G0.2.1 dX12_buy_74 rfl (lv_at hl 2 rfl) ?_
              refine lv_bipush (v := 6) G0.1 G0.2.1 dX12_buy_75 (by decide) ?_
              refine py_calli hw (va_runV (As := [.int a, .int 6]) (rest := [.int 6, .int a, .ref u]) G0 (c_X12_of l E G L f H_73.size u a 6 hG hWF Tu ⟨by omega, by omega⟩ ⟨by omega, by omega⟩) (cwV 2 G0.2.2.2.2 g_X12_buy_X12_of_287 rfl rfl rfl (by decide +kernel) ⟨(Nat.le_of_ble_eq_true rfl), (Nat.le_of_ble_eq_true rfl)⟩) (py_preV hw (C := RX12) (T := TX12) (N := 54) rfl hr_35) rfl rfl hl.1 rfl (lv_room (Nat.le_of_ble_eq_true rfl)) dX12_buy_77 ⟨(Nat.le_of_ble_eq_true rfl), (Nat.le_of_ble_eq_true rfl)⟩) (fun r_87 L_83 f_84 H_85 locs hp_86 hw => ?_)
              obtain ⟨en_88, en_89, rfl, rfl⟩ := hp_86
              have en_88 : r_87.toInt = nw f G u a.toInt (6 : Int) := en_88
              have en_89 : ((6 : Int) = 0 → 0 ≤ r_87.toInt ∧ r_87.toInt ≤ 20) ∧ ((6 : Int) = 1 → -1 ≤ r_87.toInt ∧ r_87.toInt ≤ 7) := en_89
              have br_87 := wf_free r_87
              refine lv_iload_n G0.1 G0.2.1 dX12_buy_80 rfl (lv_at hl 3 rfl) ?_
              refine lv_iadd G0.1 G0.2.1 dX12_buy_81 ?_
              refine lv_topi (fun x_90 ex_90 => ?_)
              first | have tx_90 := ti_add ex_90 (by omega) (by omega) | skip
              refine py_callv hw (va_runV (As := [.int a, .int 6, .int x_90]) (rest := []) G0 (c_X12_tell l E G L f H_85.size u a 6 x_90 hG hWF Tu ⟨by omega, by omega⟩ ⟨by omega, by omega⟩ (show ((6 : Int32).toInt = 0 → 0 ≤ x_90.toInt ∧ x_90.toInt ≤ 20) ∧ ((6 : Int32).toInt = 1 → -1 ≤ x_90.toInt ∧ x_90.toInt ≤ 7) by omega)) (cwV 3 G0.2.2.2.2 g_X12_buy_X12_tell_305 rfl rfl rfl (by decide +kernel) ⟨(Nat.le_of_ble_eq_true rfl), (Nat.le_of_ble_eq_true rfl)⟩) (py_preV hw (C := RX12) (T := TX12) (N := 54) rfl hr_35) rfl rfl hl.1 rfl (lv_room (Nat.le_of_ble_eq_true rfl)) dX12_buy_82 ⟨(Nat.le_of_ble_eq_true rfl), (Nat.le_of_ble_eq_true rfl)⟩) (fun L_91 f_92 H_93 locs hp_94 hw => ?_)
              obtain ⟨en_96, hWF, kp_97, fk_98⟩ := hp_94
              have en_96 : TL f f_92 G u a.toInt (6 : Int) x_90.toInt := en_96
              have hFK := hFK.trans fk_98 (by decide)
              have hKP := hKP.trans kp_97 (by decide) (by decide)
              have hr_35 := kp_at kp_97 hWF Tu (by decide) (by decide) (by decide) hr_35
              refine lv_aload_n G0.1 G0.2.1 dX12_buy_85 rfl (lv_at hl 1 rfl) ?_
              refine lv_iload_n G0.1 G0.2.1 dX12_buy_86 rfl (lv_at hl 2 rfl) ?_
              refine lv_bipush (v := 8) G0.1 G0.2.1 dX12_buy_87 (by decide) ?_
              refine lv_aload_n G0.1 G0.2.1 dX12_buy_89 rfl (lv_at hl 1 rfl) ?_
              refine lv_iload_n G0.1 G0.2.1 dX12_buy_90 rfl (lv_at hl 2 rfl) ?_
              refine lv_bipush (v := 8) G0.1 G0.2.1 dX12_buy_91 (by decide) ?_
              refine py_calli hw (va_runV (As := [.int a, .int 8]) (rest := [.int 8, .int a, .ref u]) G0 (c_X12_of l E G L_91 f_92 H_93.size u a 8 hG hWF Tu ⟨by omega, by omega⟩ ⟨by omega, by omega⟩) (cwV 2 G0.2.2.2.2 g_X12_buy_X12_of_287 rfl rfl rfl (by decide +kernel) ⟨(Nat.le_of_ble_eq_true rfl), (Nat.le_of_ble_eq_true rfl)⟩) (py_preV hw (C := RX12) (T := TX12) (N := 54) rfl hr_35) rfl rfl hl.1 rfl (lv_room (Nat.le_of_ble_eq_true rfl)) dX12_buy_93 ⟨(Nat.le_of_ble_eq_true rfl), (Nat.le_of_ble_eq_true rfl)⟩) (fun r_103 L_99 f_100 H_101 locs hp_102 hw => ?_)
              obtain ⟨en_104, en_105, rfl, rfl⟩ := hp_102
              have en_104 : r_103.toInt = nw f_92 G u a.toInt (8 : Int) := en_104
              have en_105 : ((8 : Int) = 0 → 0 ≤ r_103.toInt ∧ r_103.toInt ≤ 20) ∧ ((8 : Int) = 1 → -1 ≤ r_103.toInt ∧ r_103.toInt ≤ 7) := en_105
              have br_103 := wf_free r_103
              refine lv_iload_n G0.1 G0.2.1 dX12_buy_96 rfl (lv_at hl 0 rfl) ?_
              refine lv_iadd G0.1 G0.2.1 dX12_buy_97 ?_
              refine lv_topi (fun x_106 ex_106 => ?_)
              first | have tx_106 := ti_add ex_106 (by omega) (by omega) | skip
              refine py_callv hw (va_runV (As := [.int a, .int 8, .int x_106]) (rest := []) G0 (c_X12_tell l E G L_91 f_92 H_101.size u a 8 x_106 hG hWF Tu ⟨by omega, by omega⟩ ⟨by omega, by omega⟩ (show ((8 : Int32).toInt = 0 → 0 ≤ x_106.toInt ∧ x_106.toInt ≤ 20) ∧ ((8 : Int32).toInt = 1 → -1 ≤ x_106.toInt ∧ x_106.toInt ≤ 7) by omega)) (cwV 3 G0.2.2.2.2 g_X12_buy_X12_tell_305 rfl rfl rfl (by decide +kernel) ⟨(Nat.le_of_ble_eq_true rfl), (Nat.le_of_ble_eq_true rfl)⟩) (py_preV hw (C := RX12) (T := TX12) (N := 54) rfl hr_35) rfl rfl hl.1 rfl (lv_room (Nat.le_of_ble_eq_true rfl)) dX12_buy_98 ⟨(Nat.le_of_ble_eq_true rfl), (Nat.le_of_ble_eq_true rfl)⟩) (fun L_107 f_108 H_109 locs hp_110 hw => ?_)
              obtain ⟨en_112, hWF, kp_113, fk_114⟩ := hp_110
              have en_112 : TL f_92 f_108 G u a.toInt (8 : Int) x_106.toInt := en_112
              have hFK := hFK.trans fk_114 (by decide)
              have hKP := hKP.trans kp_113 (by decide) (by decide)
              have hr_35 := kp_at kp_113 hWF Tu (by decide) (by decide) (by decide) hr_35
              refine lv_aload_n G0.1 G0.2.1 dX12_buy_101 rfl (lv_at hl 1 rfl) ?_
              refine py_get (C := RX12) (T := TX12) (N := 54) (k := 40) (v := .ref (G.2 u 40)) G0 hw in_X12_buy_X12 rfl hr_35 (by decide) (by decide +kernel) rfl dX12_buy_102 ?_
              refine lv_aload_n G0.1 G0.2.1 dX12_buy_105 rfl (lv_at hl 1 rfl) ?_
              refine py_get (C := RX12) (T := TX12) (N := 54) (k := 43) (v := .int v_18) G0 hw in_X12_buy_X12 rfl hr_35 (by decide) (by decide +kernel) rfl dX12_buy_106 ?_
              refine lv_iload_n G0.1 G0.2.1 dX12_buy_109 rfl (lv_at hl 2 rfl) ?_
              obtain ⟨g_115, ha_116, hi_117⟩ := wf_arr (n := 40) (lo := 0) (hi := 9) hWF (wt12_40 hG Tu) (by decide) (fun _ => rfl)
              have rg_118 : vp_in v_18 40 := ti_in (by omega) (by omega)
              refine py_iast G0 hw ha_116 rg_118 dX12_buy_110 (fun f_119 H_120 locs h_121 x_122 hw => ?_)
              have hFK := hFK.same ((x_122 _ (hWF _ (by rw [Tu]; decide)).1 (wf_ne Tu (wt12_40 hG Tu) (by decide))).2)
              have hKP := hKP.upd hWF x_122 (wt12_40 hG Tu) (Or.inl (by decide))
              have hi_123 := wf_inu (k := (v_18 : Int32).toNatClampNeg) (x := a) hi_117 (by omega) (by omega)
              have hWF := wf_upd hWF h_121 x_122 (by rw [(wt12_40 hG Tu)]; exact ⟨_, rfl, hi_123⟩)
              have hr_35 := hr_35.ext x_122 (py_ne_arr hr_35 ha_116)
              refine lv_aload_n G0.1 G0.2.1 dX12_buy_111 rfl (lv_at hl 1 rfl) ?_
              refine py_get (C := RX12) (T := TX12) (N := 54) (k := 41) (v := .ref (G.2 u 41)) G0 hw in_X12_buy_X12 rfl hr_35 (by decide) (by decide +kernel) rfl dX12_buy_112 ?_
              refine lv_aload_n G0.1 G0.2.1 dX12_buy_115 rfl (lv_at hl 1 rfl) ?_
              refine py_get (C := RX12) (T := TX12) (N := 54) (k := 43) (v := .int v_18) G0 hw in_X12_buy_X12 rfl hr_35 (by decide) (by decide +kernel) rfl dX12_buy_116 ?_
              refine lv_iload_n G0.1 G0.2.1 dX12_buy_119 rfl (lv_at hl 3 rfl) ?_
              obtain ⟨g_124, ha_125, hi_126⟩ := wf_arr (n := 40) (lo := (-2147483648)) (hi := 2147483647) hWF (wt12_41 hG Tu) (by decide) (fun _ => rfl)
              have rg_127 : vp_in v_18 40 := ti_in (by omega) (by omega)
              refine py_iast G0 hw ha_125 rg_127 dX12_buy_120 (fun f_128 H_129 locs h_130 x_131 hw => ?_)
              have hFK := hFK.same ((x_131 _ (hWF _ (by rw [Tu]; decide)).1 (wf_ne Tu (wt12_41 hG Tu) (by decide))).2)
              have hKP := hKP.upd hWF x_131 (wt12_41 hG Tu) (Or.inl (by decide))
              have hi_132 := wf_inu (k := (v_18 : Int32).toNatClampNeg) (x := b) hi_126 (wf_free b).1 (wf_free b).2
              have hWF := wf_upd hWF h_130 x_131 (by rw [(wt12_41 hG Tu)]; exact ⟨_, rfl, hi_132⟩)
              have hr_35 := hr_35.ext x_131 (py_ne_arr hr_35 ha_125)
              have h_121 := h_121.ext x_131 (wf_ne (wt12_40 hG Tu) (wt12_41 hG Tu) (by decide))
              refine lv_aload_n G0.1 G0.2.1 dX12_buy_121 rfl (lv_at hl 1 rfl) ?_
              refine py_get (C := RX12) (T := TX12) (N := 54) (k := 42) (v := .ref (G.2 u 42)) G0 hw in_X12_buy_X12 rfl hr_35 (by decide) (by decide +kernel) rfl dX12_buy_122 ?_
              refine lv_aload_n G0.1 G0.2.1 dX12_buy_125 rfl (lv_at hl 1 rfl) ?_
              refine py_get (C := RX12) (T := TX12) (N := 54) (k := 43) (v := .int v_18) G0 hw in_X12_buy_X12 rfl hr_35 (by decide) (by decide +kernel) rfl dX12_buy_126 ?_
              refine lv_iload_n G0.1 G0.2.1 dX12_buy_129 rfl (lv_at hl 0 rfl) ?_
              obtain ⟨g_133, ha_134, hi_135⟩ := wf_arr (n := 40) (lo := (-2147483648)) (hi := 2147483647) hWF (wt12_42 hG Tu) (by decide) (fun _ => rfl)
              have rg_136 : vp_in v_18 40 := ti_in (by omega) (by omega)
              refine py_iast G0 hw ha_134 rg_136 dX12_buy_130 (fun f_137 H_138 locs h_139 x_140 hw => ?_)
              have hFK := hFK.same ((x_140 _ (hWF _ (by rw [Tu]; decide)).1 (wf_ne Tu (wt12_42 hG Tu) (by decide))).2)
              have hKP := hKP.upd hWF x_140 (wt12_42 hG Tu) (Or.inl (by decide))
              have hi_141 := wf_inu (k := (v_18 : Int32).toNatClampNeg) (x := x_82) hi_135 (wf_free x_82).1 (wf_free x_82).2
              have hWF := wf_upd hWF h_139 x_140 (by rw [(wt12_42 hG Tu)]; exact ⟨_, rfl, hi_141⟩)
              have hr_35 := hr_35.ext x_140 (py_ne_arr hr_35 ha_134)
              have h_130 := h_130.ext x_140 (wf_ne (wt12_41 hG Tu) (wt12_42 hG Tu) (by decide))
              have h_121 := h_121.ext x_140 (wf_ne (wt12_40 hG Tu) (wt12_42 hG Tu) (by decide))
              refine lv_aload_n G0.1 G0.2.1 dX12_buy_131 rfl (lv_at hl 1 rfl) ?_
              refine lv_dup G0.1 G0.2.1 dX12_buy_132 rfl ?_
              refine py_get (C := RX12) (T := TX12) (N := 54) (k := 43) (v := .int v_18) G0 hw in_X12_buy_X12 rfl hr_35 (by decide) (by decide +kernel) rfl dX12_buy_133 ?_
              refine lv_iconst (v := 1) G0.1 G0.2.1 dX12_buy_136 (by decide) ?_
              refine lv_iadd G0.1 G0.2.1 dX12_buy_137 ?_
              refine lv_topi (fun x_142 ex_142 => ?_)
              first | have tx_142 := ti_add ex_142 (by omega) (by omega) | skip
              refine py_put (C := RX12) (T := TX12) (N := 54) (k := 43) (v := .int x_142) (fs' := [.int v_1, .ref (G.2 u 1), .int v_2, .int v_3, .int v_4, .int v_5, .ref (G.2 u 6), .ref (G.2 u 7), .ref (G.2 u 8), .ref (G.2 u 9), .ref (G.2 u 10), .ref (G.2 u 11), .ref (G.2 u 12), .int v_6, .int v_7, .ref (G.2 u 15), .ref (G.2 u 16), .ref (G.2 u 17), .ref (G.2 u 18), .int v_8, .int v_9, .ref (G.2 u 21), .ref (G.2 u 22), .ref (G.2 u 23), .int v_10, .int v_11, .ref (G.2 u 26), .ref (G.2 u 27), .ref (G.2 u 28), .int v_12, .long y_13, .int v_14, .int v_15, .int v_16, .int v_17, .ref (G.2 u 35), .ref (G.2 u 36), .ref (G.2 u 37), .ref (G.2 u 38), .ref (G.2 u 39), .ref (G.2 u 40), .ref (G.2 u 41), .ref (G.2 u 42), .int x_142, .ref (G.2 u 44), .ref (G.2 u 45), .ref (G.2 u 46), .ref (G.2 u 47), .long y_19, .ref (G.2 u 49), .ref (G.2 u 50), .int v_20, .long y_21, .int v_22]) (ty0 := tyX12) G0 hw tyX12_ok nmX12 in_X12_buy_X12 rfl hr_35 (by decide) (by decide +kernel) rfl rfl rfl rfl (Nat.le_of_ble_eq_true rfl) rfl dX12_buy_138 (fun f_143 H_144 locs h_145 x_146 hw => ?_)
              have hFK := hFK.put hr_35 h_145 43 (by decide) rfl
              have hKP := hKP.upd hWF x_146 Tu (Or.inl (by decide))
              have hWF := wf_upd hWF h_145 x_146 (by rw [Tu]; exact ⟨v_1, v_2, v_3, v_4, v_5, v_6, v_7, v_8, v_9, v_10, v_11, v_12, y_13, v_14, v_15, v_16, v_17, x_142, y_19, v_20, y_21, v_22, rfl, ⟨by omega, by omega⟩, ⟨by omega, by omega⟩, ⟨by omega, by omega⟩, ⟨by omega, by omega⟩, ⟨by omega, by omega⟩, ⟨by omega, by omega⟩, ⟨by omega, by omega⟩, ⟨by omega, by omega⟩, ⟨by omega, by omega⟩, ⟨by omega, by omega⟩, ⟨by omega, by omega⟩, ⟨by omega, by omega⟩⟩)
              have h_139 := h_139.ext x_146 (Ne.symm (py_ne_arr hr_35 h_139))
              have h_130 := h_130.ext x_146 (Ne.symm (py_ne_arr hr_35 h_130))
              have h_121 := h_121.ext x_146 (Ne.symm (py_ne_arr hr_35 h_121))
              refine lv_iload_n G0.1 G0.2.1 dX12_buy_141 rfl (lv_at hl 0 rfl) ?_
              exact py_iret G0 hr rfl hlk hw ⟨hWF, hKP, hFK⟩ dX12_buy_142
            · skip
              have tc_80 := ti_eq c_80
              refine lv_iconst (v := (-1)) G0.1 G0.2.1 dX12_buy_57 (by decide) ?_
              exact py_iret G0 hr rfl hlk hw ⟨hWF, hKP, hFK⟩ dX12_buy_58

def w_X12_undo : List Cond := .code yX12_undo cX12_undo 2 (some .int) :: ([Cond.fieldLink RX12 312 "HeadYearModel" "buys" "I", Cond.fieldLink RX12 89 "HeadYearModel" "buyer" "[I", Cond.methodLink RX12 287 yX12_of, Cond.instanceMethod yX12_of, Cond.selects RX12 yX12_of yX12_of, Cond.initialized RX12, Cond.fieldLink RX12 92 "HeadYearModel" "buyBy" "[I", Cond.methodLink RX12 305 yX12_tell, Cond.instanceMethod yX12_tell, Cond.selects RX12 yX12_tell yX12_tell, Cond.fieldLink RX12 95 "HeadYearModel" "buyCost" "[I"] ++ (u_ws RX12 TX12 54 ++ (w_X12_of ++ (w_X12_tell ++ ([])))))
theorem in_X12_undo_X12 : ∀ w ∈ u_ws RX12 TX12 54, w ∈ w_X12_undo := fun _ h => List.mem_cons_of_mem _ (List.mem_append_right _ (List.mem_append_left _ h))
theorem gg_X12_undo_X12_of : GoodIn w_X12_undo w_X12_of := goodIn_sub (fun _ h => List.mem_cons_of_mem _ (List.mem_append_right _ (List.mem_append_right _ (List.mem_append_left _ h)))) (by decide +kernel)
theorem gg_X12_undo_X12_tell : GoodIn w_X12_undo w_X12_tell := goodIn_sub (fun _ h => List.mem_cons_of_mem _ (List.mem_append_right _ (List.mem_append_right _ (List.mem_append_right _ (List.mem_append_left _ h))))) (by decide +kernel)
theorem g_X12_undo_X12_of_287 : GoodIn w_X12_undo (wsV RX12 287 RX12 yX12_of w_X12_of) := goodIn_app (goodIn_of _ (by decide +kernel)) gg_X12_undo_X12_of
theorem g_X12_undo_X12_tell_305 : GoodIn w_X12_undo (wsV RX12 305 RX12 yX12_tell w_X12_tell) := goodIn_app (goodIn_of _ (by decide +kernel)) gg_X12_undo_X12_tell
set_option maxHeartbeats 4000000 in
set_option maxRecDepth 100000 in
theorem c_X12_undo (l : Launch) (E : py_E) (G : wf_G) (L : List Nat) (f : py_F) (sz : Nat) (u : Nat) (hG : GT G) (hWF : WF E G L f) (Tu : G.1 u = 13) : Met l yX12_undo w_X12_undo ({ frames := 1, cells := 0, slots := 0, locals := 23 }) (py_Pc E [.ref u] L f sz) (py_Qi E L f sz (fun _ L1 f1 => WF E G L1 f1 ∧ KP G [55, 13] false f f1 ∧ FK [43] f f1 u)) 0 0 (va_A (va_pl L f) sz) := by
  refine Met.ofW (cc := cX12_undo) (maxL := 2) (ret := (some .int)) (by decide) rfl ?_
  intro p e s m args below meth c s₁ B hml hv
  obtain ⟨rfl, rfl, hw⟩ := py_start hv
  have G0 : CallFix p m c cX12_undo 2 s _ w_X12_undo RX12 := ⟨B.exec, B.bytes, hml, findClass_of_methodNamed B.named, atoms_spec (ws := w_X12_undo) B.pre⟩
  have hr := B.returns
  have hlk := B.notSynchronized
  have kcm1 : (-1 : Int32).toInt = -1 := rfl
  have kc0 : (0 : Int32).toInt = 0 := rfl
  have kc1 : (1 : Int32).toInt = 1 := rfl
  have kc6 : (6 : Int32).toInt = 6 := rfl
  have kc8 : (8 : Int32).toInt = 8 := rfl
  have hl := lv_entry ([.ref u]) (n := 2) (Nat.le_of_ble_eq_true rfl)
  rw [lg_entry_eq]
  generalize (lg_sl ([.ref u]) ++ List.replicate (2 - (lg_sl ([.ref u])).length) Slot.unset).toArray = ls at hl ⊢
  have hl : lv_has ls 2 [(0, .ref u)] := hl
  have hFK : FK [43] f f u := FK.refl
  have hKP : KP G [55, 13] false f f := KP.refl
  refine lv_aload_n G0.1 G0.2.1 dX12_undo_0 rfl (lv_at hl 0 rfl) ?_
  obtain ⟨v_1, v_2, v_3, v_4, v_5, v_6, v_7, v_8, v_9, v_10, v_11, v_12, y_13, v_14, v_15, v_16, v_17, v_18, y_19, v_20, y_21, v_22, hr_35, b_23, b_24, b_25, b_26, b_27, b_28, b_29, b_30, b_31, b_32, b_33, b_34⟩ := wg_12 hWF Tu
  refine py_get (C := RX12) (T := TX12) (N := 54) (k := 43) (v := .int v_18) G0 hw in_X12_undo_X12 rfl hr_35 (by decide) (by decide +kernel) rfl dX12_undo_1 ?_
  refine lv_if_ne (tgt := 9) G0.1 G0.2.1 dX12_undo_4 (by decide) (fun c_36 => ?_) (fun c_36 => ?_)
  · skip
    have tc_36 := ti_ne c_36
    refine lv_aload_n G0.1 G0.2.1 dX12_undo_9 rfl (lv_at hl 0 rfl) ?_
    refine lv_dup G0.1 G0.2.1 dX12_undo_10 rfl ?_
    refine py_get (C := RX12) (T := TX12) (N := 54) (k := 43) (v := .int v_18) G0 hw in_X12_undo_X12 rfl hr_35 (by decide) (by decide +kernel) rfl dX12_undo_11 ?_
    refine lv_iconst (v := 1) G0.1 G0.2.1 dX12_undo_14 (by decide) ?_
    refine lv_isub G0.1 G0.2.1 dX12_undo_15 ?_
    refine lv_topi (fun x_37 ex_37 => ?_)
    first | have tx_37 := ti_sub ex_37 (by omega) (by omega) | skip
    refine py_put (C := RX12) (T := TX12) (N := 54) (k := 43) (v := .int x_37) (fs' := [.int v_1, .ref (G.2 u 1), .int v_2, .int v_3, .int v_4, .int v_5, .ref (G.2 u 6), .ref (G.2 u 7), .ref (G.2 u 8), .ref (G.2 u 9), .ref (G.2 u 10), .ref (G.2 u 11), .ref (G.2 u 12), .int v_6, .int v_7, .ref (G.2 u 15), .ref (G.2 u 16), .ref (G.2 u 17), .ref (G.2 u 18), .int v_8, .int v_9, .ref (G.2 u 21), .ref (G.2 u 22), .ref (G.2 u 23), .int v_10, .int v_11, .ref (G.2 u 26), .ref (G.2 u 27), .ref (G.2 u 28), .int v_12, .long y_13, .int v_14, .int v_15, .int v_16, .int v_17, .ref (G.2 u 35), .ref (G.2 u 36), .ref (G.2 u 37), .ref (G.2 u 38), .ref (G.2 u 39), .ref (G.2 u 40), .ref (G.2 u 41), .ref (G.2 u 42), .int x_37, .ref (G.2 u 44), .ref (G.2 u 45), .ref (G.2 u 46), .ref (G.2 u 47), .long y_19, .ref (G.2 u 49), .ref (G.2 u 50), .int v_20, .long y_21, .int v_22]) (ty0 := tyX12) G0 hw tyX12_ok nmX12 in_X12_undo_X12 rfl hr_35 (by decide) (by decide +kernel) rfl rfl rfl rfl (Nat.le_of_ble_eq_true rfl) rfl dX12_undo_16 (fun f_38 H_39 locs h_40 x_41 hw => ?_)
    have hFK := hFK.put hr_35 h_40 43 (by decide) rfl
    have hKP := hKP.upd hWF x_41 Tu (Or.inl (by decide))
    have hWF := wf_upd hWF h_40 x_41 (by rw [Tu]; exact ⟨v_1, v_2, v_3, v_4, v_5, v_6, v_7, v_8, v_9, v_10, v_11, v_12, y_13, v_14, v_15, v_16, v_17, x_37, y_19, v_20, y_21, v_22, rfl, ⟨by omega, by omega⟩, ⟨by omega, by omega⟩, ⟨by omega, by omega⟩, ⟨by omega, by omega⟩, ⟨by omega, by omega⟩, ⟨by omega, by omega⟩, ⟨by omega, by omega⟩, ⟨by omega, by omega⟩, ⟨by omega, by omega⟩, ⟨by omega, by omega⟩, ⟨by omega, by omega⟩, ⟨by omega, by omega⟩⟩)
    refine lv_aload_n G0.1 G0.2.1 dX12_undo_19 rfl (lv_at hl 0 rfl) ?_
    refine py_get (C := RX12) (T := TX12) (N := 54) (k := 40) (v := .ref (G.2 u 40)) G0 hw in_X12_undo_X12 rfl h_40 (by decide) (by decide +kernel) rfl dX12_undo_20 ?_
    refine lv_aload_n G0.1 G0.2.1 dX12_undo_23 rfl (lv_at hl 0 rfl) ?_
    refine py_get (C := RX12) (T := TX12) (N := 54) (k := 43) (v := .int x_37) G0 hw in_X12_undo_X12 rfl h_40 (by decide) (by decide +kernel) rfl dX12_undo_24 ?_
    obtain ⟨g_42, ha_43, hi_44⟩ := wf_arr (n := 40) (lo := 0) (hi := 9) hWF (wt12_40 hG Tu) (by decide) (fun _ => rfl)
    have rg_45 : vp_in x_37 40 := ti_in (by omega) (by omega)
    refine py_iald G0 hw ha_43 rg_45 dX12_undo_27 ?_
    refine lv_topi (fun x_46 ex_46 => ?_)
    have bx_46 := ti_at hi_44 rg_45 ex_46
    refine lv_istore_n (lv' := [(1, .int x_46), (0, .ref u)]) G0.1 G0.2.1 dX12_undo_28 rfl hl (by decide) rfl (fun ls hl => ?_)
    refine lv_aload_n G0.1 G0.2.1 dX12_undo_29 rfl (lv_at hl 1 rfl) ?_
    refine lv_iload_n G0.1 G0.2.1 dX12_undo_30 rfl (lv_at hl 0 rfl) ?_
    refine lv_bipush (v := 6) G0.1 G0.2.1 dX12_undo_31 (by decide) ?_
    refine lv_aload_n G0.1 G0.2.1 dX12_undo_33 rfl (lv_at hl 1 rfl) ?_
    refine lv_iload_n G0.1 G0.2.1 dX12_undo_34 rfl (lv_at hl 0 rfl) ?_
    refine lv_bipush (v := 6) G0.1 G0.2.1 dX12_undo_35 (by decide) ?_
    refine py_calli hw (va_runV (As := [.int x_46, .int 6]) (rest := [.int 6, .int x_46, .ref u]) G0 (c_X12_of l E G L f_38 H_39.size u x_46 6 hG hWF Tu ⟨by omega, by omega⟩ ⟨by omega, by omega⟩) (cwV 2 G0.2.2.2.2 g_X12_undo_X12_of_287 rfl rfl rfl (by decide +kernel) ⟨(Nat.le_of_ble_eq_true rfl), (Nat.le_of_ble_eq_true rfl)⟩) (py_preV hw (C := RX12) (T := TX12) (N := 54) rfl h_40) rfl rfl hl.1 rfl (lv_room (Nat.le_of_ble_eq_true rfl)) dX12_undo_37 ⟨(Nat.le_of_ble_eq_true rfl), (Nat.le_of_ble_eq_true rfl)⟩) (fun r_51 L_47 f_48 H_49 locs hp_50 hw => ?_)
    obtain ⟨en_52, en_53, rfl, rfl⟩ := hp_50
    have en_52 : r_51.toInt = nw f_38 G u x_46.toInt (6 : Int) := en_52
    have en_53 : ((6 : Int) = 0 → 0 ≤ r_51.toInt ∧ r_51.toInt ≤ 20) ∧ ((6 : Int) = 1 → -1 ≤ r_51.toInt ∧ r_51.toInt ≤ 7) := en_53
    have br_51 := wf_free r_51
    refine lv_aload_n G0.1 G0.2.1 dX12_undo_40 rfl (lv_at hl 1 rfl) ?_
    refine py_get (C := RX12) (T := TX12) (N := 54) (k := 41) (v := .ref (G.2 u 41)) G0 hw in_X12_undo_X12 rfl h_40 (by decide) (by decide +kernel) rfl dX12_undo_41 ?_
    refine lv_aload_n G0.1 G0.2.1 dX12_undo_44 rfl (lv_at hl 1 rfl) ?_
    refine py_get (C := RX12) (T := TX12) (N := 54) (k := 43) (v := .int x_37) G0 hw in_X12_undo_X12 rfl h_40 (by decide) (by decide +kernel) rfl dX12_undo_45 ?_
    obtain ⟨g_54, ha_55, hi_56⟩ := wf_arr (n := 40) (lo := (-2147483648)) (hi := 2147483647) hWF (wt12_41 hG Tu) (by decide) (fun _ => rfl)
    have rg_57 : vp_in x_37 40 := ti_in (by omega) (by omega)
    refine py_iald G0 hw ha_55 rg_57 dX12_undo_48 ?_
    refine lv_topi (fun x_58 ex_58 => ?_)
    have bx_58 := wf_free x_58
    refine lv_isub G0.1 G0.2.1 dX12_undo_49 ?_
    refine lv_topi (fun x_59 ex_59 => ?_)
    first | have tx_59 := ti_sub ex_59 (by omega) (by omega) | skip
    refine py_callv hw (va_runV (As := [.int x_46, .int 6, .int x_59]) (rest := []) G0 (c_X12_tell l E G L f_38 H_49.size u x_46 6 x_59 hG hWF Tu ⟨by omega, by omega⟩ ⟨by omega, by omega⟩ (show ((6 : Int32).toInt = 0 → 0 ≤ x_59.toInt ∧ x_59.toInt ≤ 20) ∧ ((6 : Int32).toInt = 1 → -1 ≤ x_59.toInt ∧ x_59.toInt ≤ 7) by omega)) (cwV 3 G0.2.2.2.2 g_X12_undo_X12_tell_305 rfl rfl rfl (by decide +kernel) ⟨(Nat.le_of_ble_eq_true rfl), (Nat.le_of_ble_eq_true rfl)⟩) (py_preV hw (C := RX12) (T := TX12) (N := 54) rfl h_40) rfl rfl hl.1 rfl (lv_room (Nat.le_of_ble_eq_true rfl)) dX12_undo_50 ⟨(Nat.le_of_ble_eq_true rfl), (Nat.le_of_ble_eq_true rfl)⟩) (fun L_60 f_61 H_62 locs hp_63 hw => ?_)
    obtain ⟨en_65, hWF, kp_66, fk_67⟩ := hp_63
    have en_65 : TL f_38 f_61 G u x_46.toInt (6 : Int) x_59.toInt := en_65
    have hFK := hFK.trans fk_67 (by decide)
    have hKP := hKP.trans kp_66 (by decide) (by decide)
    have h_40 := kp_at kp_66 hWF Tu (by decide) (by decide) (by decide) h_40
    have ha_43 := kp_at kp_66 hWF (wt12_40 hG Tu) (by decide) (by decide) (by decide) ha_43
    have ha_55 := kp_at kp_66 hWF (wt12_41 hG Tu) (by decide) (by decide) (by decide) ha_55
    refine lv_aload_n G0.1 G0.2.1 dX12_undo_53 rfl (lv_at hl 1 rfl) ?_
    refine lv_iload_n G0.1 G0.2.1 dX12_undo_54 rfl (lv_at hl 0 rfl) ?_
    refine lv_bipush (v := 8) G0.1 G0.2.1 dX12_undo_55 (by decide) ?_
    refine lv_aload_n G0.1 G0.2.1 dX12_undo_57 rfl (lv_at hl 1 rfl) ?_
    refine lv_iload_n G0.1 G0.2.1 dX12_undo_58 rfl (lv_at hl 0 rfl) ?_
    refine lv_bipush (v := 8) G0.1 G0.2.1 dX12_undo_59 (by decide) ?_
    refine py_calli hw (va_runV (As := [.int x_46, .int 8]) (rest := [.int 8, .int x_46, .ref u]) G0 (c_X12_of l E G L_60 f_61 H_62.size u x_46 8 hG hWF Tu ⟨by omega, by omega⟩ ⟨by omega, by omega⟩) (cwV 2 G0.2.2.2.2 g_X12_undo_X12_of_287 rfl rfl rfl (by decide +kernel) ⟨(Nat.le_of_ble_eq_true rfl), (Nat.le_of_ble_eq_true rfl)⟩) (py_preV hw (C := RX12) (T := TX12) (N := 54) rfl h_40) rfl rfl hl.1 rfl (lv_room (Nat.le_of_ble_eq_true rfl)) dX12_undo_61 ⟨(Nat.le_of_ble_eq_true rfl), (Nat.le_of_ble_eq_true rfl)⟩) (fun r_72 L_68 f_69 H_70 locs hp_71 hw => ?_)
    obtain ⟨en_73, en_74, rfl, rfl⟩ := hp_71
    have en_73 : r_72.toInt = nw f_61 G u x_46.toInt (8 : Int) := en_73
    have en_74 : ((8 : Int) = 0 → 0 ≤ r_72.toInt ∧ r_72.toInt ≤ 20) ∧ ((8 : Int) = 1 → -1 ≤ r_72.toInt ∧ r_72.toInt ≤ 7) := en_74
    have br_72 := wf_free r_72
    refine lv_aload_n G0.1 G0.2.1 dX12_undo_64 rfl (lv_at hl 1 rfl) ?_
    refine py_get (C := RX12) (T := TX12) (N := 54) (k := 42) (v := .ref (G.2 u 42)) G0 hw in_X12_undo_X12 rfl h_40 (by decide) (by decide +kernel) rfl dX12_undo_65 ?_
    refine lv_aload_n G0.1 G0.2.1 dX12_undo_68 rfl (lv_at hl 1 rfl) ?_
    refine py_get (C := RX12) (T := TX12) (N := 54) (k := 43) (v := .int x_37) G0 hw in_X12_undo_X12 rfl h_40 (by decide) (by decide +kernel) rfl dX12_undo_69 ?_
    obtain ⟨g_75, ha_76, hi_77⟩ := wf_arr (n := 40) (lo := (-2147483648)) (hi := 2147483647) hWF (wt12_42 hG Tu) (by decide) (fun _ => rfl)
    have rg_78 : vp_in x_37 40 := ti_in (by omega) (by omega)
    refine py_iald G0 hw ha_76 rg_78 dX12_undo_72 ?_
    refine lv_topi (fun x_79 ex_79 => ?_)
    have bx_79 := wf_free x_79
    refine lv_isub G0.1 G0.2.1 dX12_undo_73 ?_
    refine lv_topi (fun x_80 ex_80 => ?_)
    first | have tx_80 := ti_sub ex_80 (by omega) (by omega) | skip
    refine py_callv hw (va_runV (As := [.int x_46, .int 8, .int x_80]) (rest := []) G0 (c_X12_tell l E G L_60 f_61 H_70.size u x_46 8 x_80 hG hWF Tu ⟨by omega, by omega⟩ ⟨by omega, by omega⟩ (show ((8 : Int32).toInt = 0 → 0 ≤ x_80.toInt ∧ x_80.toInt ≤ 20) ∧ ((8 : Int32).toInt = 1 → -1 ≤ x_80.toInt ∧ x_80.toInt ≤ 7) by omega)) (cwV 3 G0.2.2.2.2 g_X12_undo_X12_tell_305 rfl rfl rfl (by decide +kernel) ⟨(Nat.le_of_ble_eq_true rfl), (Nat.le_of_ble_eq_true rfl)⟩) (py_preV hw (C := RX12) (T := TX12) (N := 54) rfl h_40) rfl rfl hl.1 rfl (lv_room (Nat.le_of_ble_eq_true rfl)) dX12_undo_74 ⟨(Nat.le_of_ble_eq_true rfl), (Nat.le_of_ble_eq_true rfl)⟩) (fun L_81 f_82 H_83 locs hp_84 hw => ?_)
    obtain ⟨en_86, hWF, kp_87, fk_88⟩ := hp_84
    have en_86 : TL f_61 f_82 G u x_46.toInt (8 : Int) x_80.toInt := en_86
    have hFK := hFK.trans fk_88 (by decide)
    have hKP := hKP.trans kp_87 (by decide) (by decide)
    have h_40 := kp_at kp_87 hWF Tu (by decide) (by decide) (by decide) h_40
    have ha_43 := kp_at kp_87 hWF (wt12_40 hG Tu) (by decide) (by decide) (by decide) ha_43
    have ha_55 := kp_at kp_87 hWF (wt12_41 hG Tu) (by decide) (by decide) (by decide) ha_55
    have ha_76 := kp_at kp_87 hWF (wt12_42 hG Tu) (by decide) (by decide) (by decide) ha_76
    refine lv_iload_n G0.1 G0.2.1 dX12_undo_77 rfl (lv_at hl 0 rfl) ?_
    exact py_iret G0 hr rfl hlk hw ⟨hWF, hKP, hFK⟩ dX12_undo_78
  · skip
    have tc_36 := ti_eq c_36
    refine lv_iconst (v := (-1)) G0.1 G0.2.1 dX12_undo_7 (by decide) ?_
    exact py_iret G0 hr rfl hlk hw ⟨hWF, hKP, hFK⟩ dX12_undo_8

def w_X12_hush : List Cond := .code yX12_hush cX12_hush 3 (some .boolean) :: ([Cond.methodLink RX12 347 yX12_isFamily, Cond.instanceMethod yX12_isFamily, Cond.selects RX12 yX12_isFamily yX12_isFamily, Cond.initialized RX12, Cond.methodLink RX12 341 yX12_isGone, Cond.instanceMethod yX12_isGone, Cond.selects RX12 yX12_isGone yX12_isGone, Cond.methodLink RX12 287 yX12_of, Cond.instanceMethod yX12_of, Cond.selects RX12 yX12_of yX12_of, Cond.methodLink RX12 305 yX12_tell, Cond.instanceMethod yX12_tell, Cond.selects RX12 yX12_tell yX12_tell] ++ (w_X12_isFamily ++ (w_X12_isGone ++ (w_X12_of ++ (w_X12_tell ++ ([]))))))
theorem gg_X12_hush_X12_isFamily : GoodIn w_X12_hush w_X12_isFamily := goodIn_sub (fun _ h => List.mem_cons_of_mem _ (List.mem_append_right _ (List.mem_append_left _ h))) (by decide +kernel)
theorem gg_X12_hush_X12_isGone : GoodIn w_X12_hush w_X12_isGone := goodIn_sub (fun _ h => List.mem_cons_of_mem _ (List.mem_append_right _ (List.mem_append_right _ (List.mem_append_left _ h)))) (by decide +kernel)
theorem gg_X12_hush_X12_of : GoodIn w_X12_hush w_X12_of := goodIn_sub (fun _ h => List.mem_cons_of_mem _ (List.mem_append_right _ (List.mem_append_right _ (List.mem_append_right _ (List.mem_append_left _ h))))) (by decide +kernel)
theorem gg_X12_hush_X12_tell : GoodIn w_X12_hush w_X12_tell := goodIn_sub (fun _ h => List.mem_cons_of_mem _ (List.mem_append_right _ (List.mem_append_right _ (List.mem_append_right _ (List.mem_append_right _ (List.mem_append_left _ h)))))) (by decide +kernel)
theorem g_X12_hush_X12_isFamily_347 : GoodIn w_X12_hush (wsV RX12 347 RX12 yX12_isFamily w_X12_isFamily) := goodIn_app (goodIn_of _ (by decide +kernel)) gg_X12_hush_X12_isFamily
theorem g_X12_hush_X12_isGone_341 : GoodIn w_X12_hush (wsV RX12 341 RX12 yX12_isGone w_X12_isGone) := goodIn_app (goodIn_of _ (by decide +kernel)) gg_X12_hush_X12_isGone
theorem g_X12_hush_X12_of_287 : GoodIn w_X12_hush (wsV RX12 287 RX12 yX12_of w_X12_of) := goodIn_app (goodIn_of _ (by decide +kernel)) gg_X12_hush_X12_of
theorem g_X12_hush_X12_tell_305 : GoodIn w_X12_hush (wsV RX12 305 RX12 yX12_tell w_X12_tell) := goodIn_app (goodIn_of _ (by decide +kernel)) gg_X12_hush_X12_tell
set_option maxHeartbeats 4000000 in
set_option maxRecDepth 100000 in
theorem c_X12_hush (l : Launch) (E : py_E) (G : wf_G) (L : List Nat) (f : py_F) (sz : Nat) (u : Nat) (a : Int32) (b : Int32) (hG : GT G) (hWF : WF E G L f) (Tu : G.1 u = 13) (Bb : (0 ≤ b.toInt ∧ b.toInt ≤ 1)) : Met l yX12_hush w_X12_hush ({ frames := 2, cells := 0, slots := 0, locals := 43 }) (py_Pc E [.ref u, .int a, .int b] L f sz) (py_Qi E L f sz (fun r L1 f1 => (0 ≤ r.toInt ∧ r.toInt ≤ 1) ∧ WF E G L1 f1 ∧ KP G [55] false f f1 ∧ FK [] f f1 u)) 0 0 (va_A (va_pl L f) sz) := by
  refine Met.ofW (cc := cX12_hush) (maxL := 3) (ret := (some .boolean)) (by decide) rfl ?_
  intro p e s m args below meth c s₁ B hml hv
  obtain ⟨rfl, rfl, hw⟩ := py_start hv
  have G0 : CallFix p m c cX12_hush 3 s _ w_X12_hush RX12 := ⟨B.exec, B.bytes, hml, findClass_of_methodNamed B.named, atoms_spec (ws := w_X12_hush) B.pre⟩
  have hr := B.returns
  have hlk := B.notSynchronized
  have kcm1 : (-1 : Int32).toInt = -1 := rfl
  have kc0 : (0 : Int32).toInt = 0 := rfl
  have kc1 : (1 : Int32).toInt = 1 := rfl
  have kc7 : (7 : Int32).toInt = 7 := rfl
  have hl := lv_entry ([.ref u, .int a, .int b]) (n := 3) (Nat.le_of_ble_eq_true rfl)
  rw [lg_entry_eq]
  generalize (lg_sl ([.ref u, .int a, .int b]) ++ List.replicate (3 - (lg_sl ([.ref u, .int a, .int b])).length) Slot.unset).toArray = ls at hl ⊢
  have hl : lv_has ls 3 [(0, .ref u), (1, .int a), (2, .int b)] := hl
  have hFK : FK [] f f u := FK.refl
  have hKP : KP G [55] false f f := KP.refl
  refine lv_aload_n G0.1 G0.2.1 dX12_hush_0 rfl (lv_at hl 0 rfl) ?_
  refine lv_iload_n G0.1 G0.2.1 dX12_hush_1 rfl (lv_at hl 1 rfl) ?_
  obtain ⟨v_1, v_2, v_3, v_4, v_5, v_6, v_7, v_8, v_9, v_10, v_11, v_12, y_13, v_14, v_15, v_16, v_17, v_18, y_19, v_20, y_21, v_22, hr_35, b_23, b_24, b_25, b_26, b_27, b_28, b_29, b_30, b_31, b_32, b_33, b_34⟩ := wg_12 hWF Tu
  refine py_calli hw (va_runV (As := [.int a]) (rest := []) G0 (c_X12_isFamily l E G L f s.heap.size u a hG hWF Tu) (cwV 1 G0.2.2.2.2 g_X12_hush_X12_isFamily_347 rfl rfl rfl (by decide +kernel) ⟨(Nat.le_of_ble_eq_true rfl), (Nat.le_of_ble_eq_true rfl)⟩) (py_preV hw (C := RX12) (T := TX12) (N := 54) rfl hr_35) rfl rfl hl.1 rfl (lv_room (Nat.le_of_ble_eq_true rfl)) dX12_hush_2 ⟨(Nat.le_of_ble_eq_true rfl), (Nat.le_of_ble_eq_true rfl)⟩) (fun r_40 L_36 f_37 H_38 locs hp_39 hw => ?_)
  obtain ⟨b_42, en_41, rfl, rfl⟩ := hp_39
  refine lv_if_eq (tgt := 36) G0.1 G0.2.1 dX12_hush_5 (by decide) (fun c_43 => ?_) (fun c_43 => ?_)
  · skip
    have tc_43 := ti_eq c_43
    refine lv_iconst (v := 0) G0.1 G0.2.1 dX12_hush_36 (by decide) ?_
    exact py_iret G0 hr rfl hlk hw ⟨⟨by omega, by omega⟩, hWF, hKP, hFK⟩ dX12_hush_37
  · skip
    have tc_43 := ti_ne c_43
    refine lv_aload_n G0.1 G0.2.1 dX12_hush_8 rfl (lv_at hl 0 rfl) ?_
    refine lv_iload_n G0.1 G0.2.1 dX12_hush_9 rfl (lv_at hl 1 rfl) ?_
    refine py_calli hw (va_runV (As := [.int a]) (rest := []) G0 (c_X12_isGone l E G L f H_38.size u a hG hWF Tu ⟨by omega, by omega⟩) (cwV 1 G0.2.2.2.2 g_X12_hush_X12_isGone_341 rfl rfl rfl (by decide +kernel) ⟨(Nat.le_of_ble_eq_true rfl), (Nat.le_of_ble_eq_true rfl)⟩) (py_preV hw (C := RX12) (T := TX12) (N := 54) rfl hr_35) rfl rfl hl.1 rfl (lv_room (Nat.le_of_ble_eq_true rfl)) dX12_hush_10 ⟨(Nat.le_of_ble_eq_true rfl), (Nat.le_of_ble_eq_true rfl)⟩) (fun r_48 L_44 f_45 H_46 locs hp_47 hw => ?_)
    obtain ⟨b_51, en_49, en_50, rfl, rfl⟩ := hp_47
    refine lv_if_ne (tgt := 36) G0.1 G0.2.1 dX12_hush_13 (by decide) (fun c_52 => ?_) (fun c_52 => ?_)
    · skip
      have tc_52 := ti_ne c_52
      refine lv_iconst (v := 0) G0.1 G0.2.1 dX12_hush_36 (by decide) ?_
      exact py_iret G0 hr rfl hlk hw ⟨⟨by omega, by omega⟩, hWF, hKP, hFK⟩ dX12_hush_37
    · skip
      have tc_52 := ti_eq c_52
      refine lv_aload_n G0.1 G0.2.1 dX12_hush_16 rfl (lv_at hl 0 rfl) ?_
      refine lv_iload_n G0.1 G0.2.1 dX12_hush_17 rfl (lv_at hl 1 rfl) ?_
      refine lv_bipush (v := 7) G0.1 G0.2.1 dX12_hush_18 (by decide) ?_
      refine py_calli hw (va_runV (As := [.int a, .int 7]) (rest := []) G0 (c_X12_of l E G L f H_46.size u a 7 hG hWF Tu ⟨by omega, by omega⟩ ⟨by omega, by omega⟩) (cwV 2 G0.2.2.2.2 g_X12_hush_X12_of_287 rfl rfl rfl (by decide +kernel) ⟨(Nat.le_of_ble_eq_true rfl), (Nat.le_of_ble_eq_true rfl)⟩) (py_preV hw (C := RX12) (T := TX12) (N := 54) rfl hr_35) rfl rfl hl.1 rfl (lv_room (Nat.le_of_ble_eq_true rfl)) dX12_hush_20 ⟨(Nat.le_of_ble_eq_true rfl), (Nat.le_of_ble_eq_true rfl)⟩) (fun r_57 L_53 f_54 H_55 locs hp_56 hw => ?_)
      obtain ⟨en_58, en_59, rfl, rfl⟩ := hp_56
      have en_58 : r_57.toInt = nw f G u a.toInt (7 : Int) := en_58
      have en_59 : ((7 : Int) = 0 → 0 ≤ r_57.toInt ∧ r_57.toInt ≤ 20) ∧ ((7 : Int) = 1 → -1 ≤ r_57.toInt ∧ r_57.toInt ≤ 7) := en_59
      have br_57 := wf_free r_57
      refine lv_iconst (v := 1) G0.1 G0.2.1 dX12_hush_23 (by decide) ?_
      have jn_32 : ∀ (v_60 : Int32) (H_j32 : Heap) (locs : List Loc) (ls : Array Slot), (0 ≤ v_60.toInt ∧ v_60.toInt ≤ 1) → py_W E (va_A (va_pl L f) s.heap.size) s L f H_j32 locs → lv_has ls 3 [(0, .ref u), (1, .int a), (2, .int b)] → W p l e (headSpec w_X12_hush ({ frames := 2, cells := 0, slots := 0, locals := 43 })).room s m ([.ref u, .int a, .int b] : List Value).toArray below meth c H_j32 locs 0 0 (MQ below (py_Qi E L f s.heap.size (fun r L1 f1 => (0 ≤ r.toInt ∧ r.toInt ≤ 1) ∧ WF E G L1 f1 ∧ KP G [55] false f f1 ∧ FK [] f f1 u)) ([.ref u, .int a, .int b] : List Value).toArray s 0 0 (va_A (va_pl L f) s.heap.size)) (F0 m 32 ls [.int v_60]) := by
        intro v_60 H_j32 locs ls bv_60 hw hl
        refine lv_iload_n G0.1 G0.2.1 dX12_hush_32 rfl (lv_at hl 2 rfl) ?_
        refine lv_icmp_ne (tgt := 38) G0.1 G0.2.1 dX12_hush_33 (by decide) (fun c_61 => ?_) (fun c_61 => ?_)
        · skip
          have tc_61 := ti_ne c_61
          refine lv_aload_n G0.1 G0.2.1 dX12_hush_38 rfl (lv_at hl 0 rfl) ?_
          refine lv_iload_n G0.1 G0.2.1 dX12_hush_39 rfl (lv_at hl 1 rfl) ?_
          refine lv_bipush (v := 7) G0.1 G0.2.1 dX12_hush_40 (by decide) ?_
          refine lv_iload_n G0.1 G0.2.1 dX12_hush_42 rfl (lv_at hl 2 rfl) ?_
          have jn_51 : ∀ (v_62 : Int32) (H_j51 : Heap) (locs : List Loc) (ls : Array Slot), (0 ≤ v_62.toInt ∧ v_62.toInt ≤ 1) → py_W E (va_A (va_pl L f) s.heap.size) s L f H_j51 locs → lv_has ls 3 [(0, .ref u), (1, .int a), (2, .int b)] → W p l e (headSpec w_X12_hush ({ frames := 2, cells := 0, slots := 0, locals := 43 })).room s m ([.ref u, .int a, .int b] : List Value).toArray below meth c H_j51 locs 0 0 (MQ below (py_Qi E L f s.heap.size (fun r L1 f1 => (0 ≤ r.toInt ∧ r.toInt ≤ 1) ∧ WF E G L1 f1 ∧ KP G [55] false f f1 ∧ FK [] f f1 u)) ([.ref u, .int a, .int b] : List Value).toArray s 0 0 (va_A (va_pl L f) s.heap.size)) (F0 m 51 ls [.int v_62, .int 7, .int a, .ref u]) := by
            intro v_62 H_j51 locs ls bv_62 hw hl
            refine py_callv hw (va_runV (As := [.int a, .int 7, .int v_62]) (rest := []) G0 (c_X12_tell l E G L f H_j51.size u a 7 v_62 hG hWF Tu ⟨by omega, by omega⟩ ⟨by omega, by omega⟩ (show ((7 : Int32).toInt = 0 → 0 ≤ v_62.toInt ∧ v_62.toInt ≤ 20) ∧ ((7 : Int32).toInt = 1 → -1 ≤ v_62.toInt ∧ v_62.toInt ≤ 7) by omega)) (cwV 3 G0.2.2.2.2 g_X12_hush_X12_tell_305 rfl rfl rfl (by decide +kernel) ⟨(Nat.le_of_ble_eq_true rfl), (Nat.le_of_ble_eq_true rfl)⟩) (py_preV hw (C := RX12) (T := TX12) (N := 54) rfl hr_35) rfl rfl hl.1 rfl (lv_room (Nat.le_of_ble_eq_true rfl)) dX12_hush_51 ⟨(Nat.le_of_ble_eq_true rfl), (Nat.le_of_ble_eq_true rfl)⟩) (fun L_63 f_64 H_65 locs hp_66 hw => ?_)
            obtain ⟨en_68, hWF, kp_69, fk_70⟩ := hp_66
            have en_68 : TL f f_64 G u a.toInt (7 : Int) v_62.toInt := en_68
            have hFK := hFK.trans fk_70 (by decide)
            have hKP := hKP.trans kp_69 (by decide) (by decide)
            have hr_35 := kp_at kp_69 hWF Tu (by decide) (by decide) (by decide) hr_35
            refine lv_iconst (v := 1) G0.1 G0.2.1 dX12_hush_54 (by decide) ?_
            exact py_iret G0 hr rfl hlk hw ⟨⟨by omega, by omega⟩, hWF, hKP, hFK⟩ dX12_hush_55
          refine lv_if_eq (tgt := 50) G0.1 G0.2.1 dX12_hush_43 (by decide) (fun c_71 => ?_) (fun c_71 => ?_)
          · skip
            have tc_71 := ti_eq c_71
            refine lv_iconst (v := 0) G0.1 G0.2.1 dX12_hush_50 (by decide) ?_
            exact jn_51 0 _ _ ls ⟨by omega, by omega⟩ hw (lv_sub hl [0, 1, 2] rfl)
          · skip
            have tc_71 := ti_ne c_71
            refine lv_iconst (v := 1) G0.1 G0.2.1 dX12_hush_46 (by decide) ?_
            refine lv_goto (tgt := 51) G0.1 G0.2.1 dX12_hush_47 (by decide) ?_
            exact jn_51 1 _ _ ls ⟨by omega, by omega⟩ hw (lv_sub hl [0, 1, 2] rfl)
        · skip
          have tc_61 := ti_eq c_61
          refine lv_iconst (v := 0) G0.1 G0.2.1 dX12_hush_36 (by decide) ?_
          exact py_iret G0 hr rfl hlk hw ⟨⟨by omega, by omega⟩, hWF, hKP, hFK⟩ dX12_hush_37
      refine lv_icmp_ne (tgt := 31) G0.1 G0.2.1 dX12_hush_24 (by decide) (fun c_72 => ?_) (fun c_72 => ?_)
      · skip
        have tc_72 := ti_ne c_72
        refine lv_iconst (v := 0) G0.1 G0.2.1 dX12_hush_31 (by decide) ?_
        exact jn_32 0 _ _ ls ⟨by omega, by omega⟩ hw (lv_sub hl [0, 1, 2] rfl)
      · skip
        have tc_72 := ti_eq c_72
        refine lv_iconst (v := 1) G0.1 G0.2.1 dX12_hush_27 (by decide) ?_
        refine lv_goto (tgt := 32) G0.1 G0.2.1 dX12_hush_28 (by decide) ?_
        exact jn_32 1 _ _ ls ⟨by omega, by omega⟩ hw (lv_sub hl [0, 1, 2] rfl)

def w_X12_most : List Cond := .code yX12_most cX12_most 5 (some .int) :: ([Cond.fieldLink RX12 290 "HeadYearModel" "families" "I", Cond.methodLink RX12 232 yX12_in, Cond.static yX12_in, Cond.initialized RX12, Cond.methodLink RX12 414 yX12_waiters, Cond.instanceMethod yX12_waiters, Cond.selects RX12 yX12_waiters yX12_waiters, Cond.methodLink RX12 391 yJ6_bitCount_0f7a4, Cond.static yJ6_bitCount_0f7a4, Cond.initialized RJ6, Cond.methodLink RX12 417 yX12_canGo, Cond.instanceMethod yX12_canGo, Cond.selects RX12 yX12_canGo yX12_canGo] ++ (u_ws RX12 TX12 54 ++ (w_X12_in ++ (w_X12_waiters ++ (w_J6_bitCount_0f7a4 ++ (w_X12_canGo ++ ([])))))))
theorem in_X12_most_X12 : ∀ w ∈ u_ws RX12 TX12 54, w ∈ w_X12_most := fun _ h => List.mem_cons_of_mem _ (List.mem_append_right _ (List.mem_append_left _ h))
theorem gg_X12_most_X12_in : GoodIn w_X12_most w_X12_in := goodIn_sub (fun _ h => List.mem_cons_of_mem _ (List.mem_append_right _ (List.mem_append_right _ (List.mem_append_left _ h)))) (by decide +kernel)
theorem gg_X12_most_X12_waiters : GoodIn w_X12_most w_X12_waiters := goodIn_sub (fun _ h => List.mem_cons_of_mem _ (List.mem_append_right _ (List.mem_append_right _ (List.mem_append_right _ (List.mem_append_left _ h))))) (by decide +kernel)
theorem gg_X12_most_J6_bitCount_0f7a4 : GoodIn w_X12_most w_J6_bitCount_0f7a4 := goodIn_sub (fun _ h => List.mem_cons_of_mem _ (List.mem_append_right _ (List.mem_append_right _ (List.mem_append_right _ (List.mem_append_right _ (List.mem_append_left _ h)))))) (by decide +kernel)
theorem gg_X12_most_X12_canGo : GoodIn w_X12_most w_X12_canGo := goodIn_sub (fun _ h => List.mem_cons_of_mem _ (List.mem_append_right _ (List.mem_append_right _ (List.mem_append_right _ (List.mem_append_right _ (List.mem_append_right _ (List.mem_append_left _ h))))))) (by decide +kernel)
theorem g_X12_most_J6_bitCount_0f7a4_391 : GoodIn w_X12_most (va_wsS RX12 391 yJ6_bitCount_0f7a4 w_J6_bitCount_0f7a4) := goodIn_app (goodIn_of _ (by decide +kernel)) gg_X12_most_J6_bitCount_0f7a4
theorem g_X12_most_X12_canGo_417 : GoodIn w_X12_most (wsV RX12 417 RX12 yX12_canGo w_X12_canGo) := goodIn_app (goodIn_of _ (by decide +kernel)) gg_X12_most_X12_canGo
theorem g_X12_most_X12_in_232 : GoodIn w_X12_most (va_wsS RX12 232 yX12_in w_X12_in) := goodIn_app (goodIn_of _ (by decide +kernel)) gg_X12_most_X12_in
theorem g_X12_most_X12_waiters_414 : GoodIn w_X12_most (wsV RX12 414 RX12 yX12_waiters w_X12_waiters) := goodIn_app (goodIn_of _ (by decide +kernel)) gg_X12_most_X12_waiters
set_option maxHeartbeats 4000000 in
set_option maxRecDepth 100000 in
theorem c_X12_most (l : Launch) (E : py_E) (G : wf_G) (L : List Nat) (f : py_F) (sz : Nat) (u : Nat) (a : Int32) (hG : GT G) (hWF : WF E G L f) (Tu : G.1 u = 13) : Met l yX12_most w_X12_most ({ frames := 5, cells := 0, slots := 0, locals := 110 }) (py_Pc E [.ref u, .int a] L f sz) (py_Qi E L f sz (fun _ L1 f1 => L = L1 ∧ f = f1)) 0 0 (va_A (va_pl L f) sz) := by
  refine Met.ofW (cc := cX12_most) (maxL := 5) (ret := (some .int)) (by decide) rfl ?_
  intro p e s m args below meth c s₁ B hml hv
  obtain ⟨rfl, rfl, hw⟩ := py_start hv
  have G0 : CallFix p m c cX12_most 5 s _ w_X12_most RX12 := ⟨B.exec, B.bytes, hml, findClass_of_methodNamed B.named, atoms_spec (ws := w_X12_most) B.pre⟩
  have hr := B.returns
  have hlk := B.notSynchronized
  have kcm1 : (-1 : Int32).toInt = -1 := rfl
  have kc0 : (0 : Int32).toInt = 0 := rfl
  have kc1 : (1 : Int32).toInt = 1 := rfl
  have hl := lv_entry ([.ref u, .int a]) (n := 5) (Nat.le_of_ble_eq_true rfl)
  rw [lg_entry_eq]
  generalize (lg_sl ([.ref u, .int a]) ++ List.replicate (5 - (lg_sl ([.ref u, .int a])).length) Slot.unset).toArray = ls at hl ⊢
  have hl : lv_has ls 5 [(0, .ref u), (1, .int a)] := hl
  refine lv_aload_n G0.1 G0.2.1 dX12_most_0 rfl (lv_at hl 0 rfl) ?_
  obtain ⟨v_1, v_2, v_3, v_4, v_5, v_6, v_7, v_8, v_9, v_10, v_11, v_12, y_13, v_14, v_15, v_16, v_17, v_18, y_19, v_20, y_21, v_22, hr_35, b_23, b_24, b_25, b_26, b_27, b_28, b_29, b_30, b_31, b_32, b_33, b_34⟩ := wg_12 hWF Tu
  refine py_get (C := RX12) (T := TX12) (N := 54) (k := 25) (v := .int v_11) G0 hw in_X12_most_X12 rfl hr_35 (by decide) (by decide +kernel) rfl dX12_most_1 ?_
  refine lv_if_eq (tgt := 16) G0.1 G0.2.1 dX12_most_4 (by decide) (fun c_36 => ?_) (fun c_36 => ?_)
  · skip
    have tc_36 := ti_eq c_36
    refine lv_iconst (v := (-1)) G0.1 G0.2.1 dX12_most_16 (by decide) ?_
    exact py_iret G0 hr rfl hlk hw ⟨rfl, rfl⟩ dX12_most_17
  · skip
    have tc_36 := ti_ne c_36
    refine lv_iload_n G0.1 G0.2.1 dX12_most_7 rfl (lv_at hl 1 rfl) ?_
    refine lv_iconst (v := 0) G0.1 G0.2.1 dX12_most_8 (by decide) ?_
    refine lv_iconst (v := 1) G0.1 G0.2.1 dX12_most_9 (by decide) ?_
    refine py_calli hw (va_runS (As := [.int a, .int 0, .int 1]) (rest := []) G0 (c_X12_in l E G L f s.heap.size a 0 1 hG hWF) (va_cwS 3 G0.2.2.2.2 g_X12_most_X12_in_232 rfl rfl rfl (by decide +kernel) ⟨(Nat.le_of_ble_eq_true rfl), (Nat.le_of_ble_eq_true rfl)⟩) (py_preS hw) rfl rfl hl.1 rfl (lv_room (Nat.le_of_ble_eq_true rfl)) dX12_most_10 ⟨(Nat.le_of_ble_eq_true rfl), (Nat.le_of_ble_eq_true rfl)⟩) (fun r_41 L_37 f_38 H_39 locs hp_40 hw => ?_)
    obtain ⟨b_44, en_42, en_43, rfl, rfl⟩ := hp_40
    have en_42 : r_41.toInt ≠ 0 → (0 : Int) ≤ a.toInt ∧ a.toInt ≤ (1 : Int) := en_42
    have en_43 : r_41.toInt = 0 → a.toInt < (0 : Int) ∨ (1 : Int) < a.toInt := en_43
    refine lv_if_ne (tgt := 18) G0.1 G0.2.1 dX12_most_13 (by decide) (fun c_45 => ?_) (fun c_45 => ?_)
    · skip
      have tc_45 := ti_ne c_45
      refine lv_iconst (v := 0) G0.1 G0.2.1 dX12_most_18 (by decide) ?_
      refine lv_istore_n (lv' := [(2, .int 0), (0, .ref u), (1, .int a)]) G0.1 G0.2.1 dX12_most_19 rfl hl (by decide) rfl (fun ls hl => ?_)
      refine lv_aload_n G0.1 G0.2.1 dX12_most_20 rfl (lv_at hl 1 rfl) ?_
      refine py_calli hw (va_runV (As := []) (rest := []) G0 (c_X12_waiters l E G L f H_39.size u hG hWF Tu) (cwV 0 G0.2.2.2.2 g_X12_most_X12_waiters_414 rfl rfl rfl (by decide +kernel) ⟨(Nat.le_of_ble_eq_true rfl), (Nat.le_of_ble_eq_true rfl)⟩) (py_preV hw (C := RX12) (T := TX12) (N := 54) rfl hr_35) rfl rfl hl.1 rfl (lv_room (Nat.le_of_ble_eq_true rfl)) dX12_most_21 ⟨(Nat.le_of_ble_eq_true rfl), (Nat.le_of_ble_eq_true rfl)⟩) (fun r_50 L_46 f_47 H_48 locs hp_49 hw => ?_)
      obtain ⟨b_51, rfl, rfl⟩ := hp_49
      refine lv_istore_n (lv' := [(3, .int r_50), (2, .int 0), (0, .ref u), (1, .int a)]) G0.1 G0.2.1 dX12_most_24 rfl hl (by decide) rfl (fun ls hl => ?_)
      refine lv_iconst (v := 1) G0.1 G0.2.1 dX12_most_25 (by decide) ?_
      refine lv_istore (lv' := [(4, .int 1), (3, .int r_50), (2, .int 0), (0, .ref u), (1, .int a)]) G0.1 G0.2.1 dX12_most_26 hl (by decide) rfl (fun ls hl => ?_)
      have lo_28 : ∀ n_28 : Nat, ∀ (v_52 : Int32) (v_53 : Int32) (H_j28 : Heap) (locs : List Loc) (ls : Array Slot), (2147483647 - v_52.toInt).toNat = n_28 → (1 ≤ v_52.toInt ∧ v_52.toInt ≤ 2147483647) → py_W E (va_A (va_pl L f) s.heap.size) s L f H_j28 locs → lv_has ls 5 [(4, .int v_52), (3, .int r_50), (2, .int v_53), (0, .ref u), (1, .int a)] → W p l e (headSpec w_X12_most ({ frames := 5, cells := 0, slots := 0, locals := 110 })).room s m ([.ref u, .int a] : List Value).toArray below meth c H_j28 locs 0 0 (MQ below (py_Qi E L f s.heap.size (fun _ L1 f1 => L = L1 ∧ f = f1)) ([.ref u, .int a] : List Value).toArray s 0 0 (va_A (va_pl L f) s.heap.size)) (F0 m 28 ls []) := by
        intro n_28
        induction n_28 using Nat.strongRecOn with
        | _ n_28 ih_28 =>
          intro v_52 v_53 H_j28 locs ls hn_28 bv_52 hw hl
          refine lv_iload G0.1 G0.2.1 dX12_most_28 (lv_at hl 0 rfl) ?_
          refine lv_iload_n G0.1 G0.2.1 dX12_most_30 rfl (lv_at hl 1 rfl) ?_
          refine lv_icmp_gt (tgt := 77) G0.1 G0.2.1 dX12_most_31 (by decide) (fun c_54 => ?_) (fun c_54 => ?_)
          · skip
            have tc_54 := ti_lt c_54
            refine lv_iload_n G0.1 G0.2.1 dX12_most_77 rfl (lv_at hl 4 rfl) ?_
            have jn_89 : ∀ (v_55 : Int32) (H_j89 : Heap) (locs : List Loc) (ls : Array Slot), py_W E (va_A (va_pl L f) s.heap.size) s L f H_j89 locs → lv_has ls 5 [(4, .int v_52), (3, .int r_50), (2, .int v_53), (0, .ref u), (1, .int a)] → W p l e (headSpec w_X12_most ({ frames := 5, cells := 0, slots := 0, locals := 110 })).room s m ([.ref u, .int a] : List Value).toArray below meth c H_j89 locs 0 0 (MQ below (py_Qi E L f s.heap.size (fun _ L1 f1 => L = L1 ∧ f = f1)) ([.ref u, .int a] : List Value).toArray s 0 0 (va_A (va_pl L f) s.heap.size)) (F0 m 89 ls [.int v_55]) := by
              intro v_55 H_j89 locs ls hw hl
              exact py_iret G0 hr rfl hlk hw ⟨rfl, rfl⟩ dX12_most_89
            refine lv_if_ne (tgt := 88) G0.1 G0.2.1 dX12_most_78 (by decide) (fun c_56 => ?_) (fun c_56 => ?_)
            · skip
              have tc_56 := ti_ne c_56
              refine lv_iload_n G0.1 G0.2.1 dX12_most_88 rfl (lv_at hl 2 rfl) ?_
              exact jn_89 v_53 _ _ ls hw (lv_sub hl [0, 1, 2, 3, 4] rfl)
            · skip
              have tc_56 := ti_eq c_56
              refine lv_iload_n G0.1 G0.2.1 dX12_most_81 rfl (lv_at hl 2 rfl) ?_
              refine py_calli hw (va_runS (As := [.int v_53]) (rest := []) G0 (c_J6_bitCount_0f7a4 l E G L f H_j28.size v_53 hG hWF) (va_cwS 1 G0.2.2.2.2 g_X12_most_J6_bitCount_0f7a4_391 rfl rfl rfl (by decide +kernel) ⟨(Nat.le_of_ble_eq_true rfl), (Nat.le_of_ble_eq_true rfl)⟩) (py_preS hw) rfl rfl hl.1 rfl (lv_room (Nat.le_of_ble_eq_true rfl)) dX12_most_82 ⟨(Nat.le_of_ble_eq_true rfl), (Nat.le_of_ble_eq_true rfl)⟩) (fun r_61 L_57 f_58 H_59 locs hp_60 hw => ?_)
              obtain ⟨rfl, rfl⟩ := hp_60
              have br_61 := wf_free r_61
              refine lv_goto (tgt := 89) G0.1 G0.2.1 dX12_most_85 (by decide) ?_
              exact jn_89 r_61 _ _ ls hw (lv_sub hl [0, 1, 2, 3, 4] rfl)
          · skip
            have tc_54 := ti_nlt c_54
            refine lv_iload G0.1 G0.2.1 dX12_most_34 (lv_at hl 0 rfl) ?_
            refine lv_iload_n G0.1 G0.2.1 dX12_most_36 rfl (lv_at hl 1 rfl) ?_
            refine lv_iconst (v := (-1)) G0.1 G0.2.1 dX12_most_37 (by decide) ?_
            refine lv_ixor G0.1 G0.2.1 dX12_most_38 ?_
            refine lv_topi (fun x_62 ex_62 => ?_)
            refine lv_iand G0.1 G0.2.1 dX12_most_39 ?_
            refine lv_topi (fun x_63 ex_63 => ?_)
            have jn_70 : ∀ (v_64 : Int32) (H_j70 : Heap) (locs : List Loc) (ls : Array Slot), py_W E (va_A (va_pl L f) s.heap.size) s L f H_j70 locs → lv_has ls 5 [(4, .int v_52), (3, .int r_50), (2, .int v_53), (0, .ref u), (1, .int a)] → W p l e (headSpec w_X12_most ({ frames := 5, cells := 0, slots := 0, locals := 110 })).room s m ([.ref u, .int a] : List Value).toArray below meth c H_j70 locs 0 0 (MQ below (py_Qi E L f s.heap.size (fun _ L1 f1 => L = L1 ∧ f = f1)) ([.ref u, .int a] : List Value).toArray s 0 0 (va_A (va_pl L f) s.heap.size)) (F0 m 70 ls [.int v_64]) := by
              intro v_64 H_j70 locs ls hw hl
              refine lv_istore_n (lv' := [(2, .int v_64), (4, .int v_52), (3, .int r_50), (0, .ref u), (1, .int a)]) G0.1 G0.2.1 dX12_most_70 rfl hl (by decide) rfl (fun ls hl => ?_)
              obtain ⟨x_65, ex_65⟩ : ∃ y : Int32, y = v_52 + 1 := ⟨_, rfl⟩
              first | have tx_65 := ti_add ex_65 (by omega) (by omega) | skip
              refine lv_iinc (v := x_65) (lv' := [(4, .int x_65), (2, .int v_64), (3, .int r_50), (0, .ref u), (1, .int a)]) G0.1 G0.2.1 dX12_most_71 hl (k := 1) rfl (show _ + (1 : Int32) = _ from ex_65.symm) (by decide) rfl (fun ls hl => ?_)
              refine lv_goto (tgt := 28) G0.1 G0.2.1 dX12_most_74 (by decide) ?_
              exact ih_28 ((2147483647 - x_65.toInt).toNat) (by omega) x_65 v_64 _ _ ls rfl ⟨by omega, by omega⟩ hw (lv_sub hl [0, 2, 1, 3, 4] rfl)
            refine lv_if_ne (tgt := 69) G0.1 G0.2.1 dX12_most_40 (by decide) (fun c_66 => ?_) (fun c_66 => ?_)
            · skip
              have tc_66 := ti_ne c_66
              refine lv_iload_n G0.1 G0.2.1 dX12_most_69 rfl (lv_at hl 2 rfl) ?_
              exact jn_70 v_53 _ _ ls hw (lv_sub hl [0, 1, 2, 3, 4] rfl)
            · skip
              have tc_66 := ti_eq c_66
              refine lv_iload G0.1 G0.2.1 dX12_most_43 (lv_at hl 0 rfl) ?_
              refine py_calli hw (va_runS (As := [.int v_52]) (rest := []) G0 (c_J6_bitCount_0f7a4 l E G L f H_j28.size v_52 hG hWF) (va_cwS 1 G0.2.2.2.2 g_X12_most_J6_bitCount_0f7a4_391 rfl rfl rfl (by decide +kernel) ⟨(Nat.le_of_ble_eq_true rfl), (Nat.le_of_ble_eq_true rfl)⟩) (py_preS hw) rfl rfl hl.1 rfl (lv_room (Nat.le_of_ble_eq_true rfl)) dX12_most_45 ⟨(Nat.le_of_ble_eq_true rfl), (Nat.le_of_ble_eq_true rfl)⟩) (fun r_71 L_67 f_68 H_69 locs hp_70 hw => ?_)
              obtain ⟨rfl, rfl⟩ := hp_70
              have br_71 := wf_free r_71
              refine lv_iload_n G0.1 G0.2.1 dX12_most_48 rfl (lv_at hl 2 rfl) ?_
              refine py_calli hw (va_runS (As := [.int v_53]) (rest := [.int r_71]) G0 (c_J6_bitCount_0f7a4 l E G L f H_69.size v_53 hG hWF) (va_cwS 1 G0.2.2.2.2 g_X12_most_J6_bitCount_0f7a4_391 rfl rfl rfl (by decide +kernel) ⟨(Nat.le_of_ble_eq_true rfl), (Nat.le_of_ble_eq_true rfl)⟩) (py_preS hw) rfl rfl hl.1 rfl (lv_room (Nat.le_of_ble_eq_true rfl)) dX12_most_49 ⟨(Nat.le_of_ble_eq_true rfl), (Nat.le_of_ble_eq_true rfl)⟩) (fun r_76 L_72 f_73 H_74 locs hp_75 hw => ?_)
              obtain ⟨rfl, rfl⟩ := hp_75
              have br_76 := wf_free r_76
              refine lv_icmp_le (tgt := 69) G0.1 G0.2.1 dX12_most_52 (by decide) (fun c_77 => ?_) (fun c_77 => ?_)
              · skip
                have tc_77 := ti_le c_77
                refine lv_iload_n G0.1 G0.2.1 dX12_most_69 rfl (lv_at hl 2 rfl) ?_
                exact jn_70 v_53 _ _ ls hw (lv_sub hl [0, 1, 2, 3, 4] rfl)
              · skip
                have tc_77 := ti_nle c_77
                refine lv_aload_n G0.1 G0.2.1 dX12_most_55 rfl (lv_at hl 3 rfl) ?_
                refine lv_iload G0.1 G0.2.1 dX12_most_56 (lv_at hl 0 rfl) ?_
                refine py_calli hw (va_runV (As := [.int v_52]) (rest := []) G0 (c_X12_canGo l E G L f H_74.size u v_52 hG hWF Tu) (cwV 1 G0.2.2.2.2 g_X12_most_X12_canGo_417 rfl rfl rfl (by decide +kernel) ⟨(Nat.le_of_ble_eq_true rfl), (Nat.le_of_ble_eq_true rfl)⟩) (py_preV hw (C := RX12) (T := TX12) (N := 54) rfl hr_35) rfl rfl hl.1 rfl (lv_room (Nat.le_of_ble_eq_true rfl)) dX12_most_58 ⟨(Nat.le_of_ble_eq_true rfl), (Nat.le_of_ble_eq_true rfl)⟩) (fun r_82 L_78 f_79 H_80 locs hp_81 hw => ?_)
                obtain ⟨b_83, rfl, rfl⟩ := hp_81
                refine lv_if_eq (tgt := 69) G0.1 G0.2.1 dX12_most_61 (by decide) (fun c_84 => ?_) (fun c_84 => ?_)
                · skip
                  have tc_84 := ti_eq c_84
                  refine lv_iload_n G0.1 G0.2.1 dX12_most_69 rfl (lv_at hl 2 rfl) ?_
                  exact jn_70 v_53 _ _ ls hw (lv_sub hl [0, 1, 2, 3, 4] rfl)
                · skip
                  have tc_84 := ti_ne c_84
                  refine lv_iload G0.1 G0.2.1 dX12_most_64 (lv_at hl 0 rfl) ?_
                  refine lv_goto (tgt := 70) G0.1 G0.2.1 dX12_most_66 (by decide) ?_
                  exact jn_70 v_52 _ _ ls hw (lv_sub hl [0, 1, 2, 3, 4] rfl)
      exact lo_28 _ 1 0 _ _ ls rfl ⟨by omega, by omega⟩ hw (lv_sub hl [0, 1, 2, 3, 4] rfl)
    · skip
      have tc_45 := ti_eq c_45
      refine lv_iconst (v := (-1)) G0.1 G0.2.1 dX12_most_16 (by decide) ?_
      exact py_iret G0 hr rfl hlk hw ⟨rfl, rfl⟩ dX12_most_17

def w_X12_needs : List Cond := .code yX12_needs cX12_needs 4 (some .int) :: ([Cond.methodLink RX12 347 yX12_isFamily, Cond.instanceMethod yX12_isFamily, Cond.selects RX12 yX12_isFamily yX12_isFamily, Cond.initialized RX12, Cond.methodLink RX12 382 yX12_wants, Cond.instanceMethod yX12_wants, Cond.selects RX12 yX12_wants yX12_wants, Cond.fieldLink RX12 302 "HeadYearModel" "levels" "I", Cond.fieldLink RX12 290 "HeadYearModel" "families" "I", Cond.fieldLink RX12 98 "HeadYearModel" "far" "[I", Cond.methodLink RX12 287 yX12_of, Cond.instanceMethod yX12_of, Cond.selects RX12 yX12_of yX12_of, Cond.methodLink RX12 351 yX12_want, Cond.instanceMethod yX12_want, Cond.selects RX12 yX12_want yX12_want, Cond.methodLink RX12 333 yX12_empties, Cond.instanceMethod yX12_empties, Cond.selects RX12 yX12_empties yX12_empties] ++ (u_ws RX12 TX12 54 ++ (w_X12_isFamily ++ (w_X12_wants ++ (w_X12_of ++ (w_X12_want ++ (w_X12_empties ++ ([]))))))))
theorem in_X12_needs_X12 : ∀ w ∈ u_ws RX12 TX12 54, w ∈ w_X12_needs := fun _ h => List.mem_cons_of_mem _ (List.mem_append_right _ (List.mem_append_left _ h))
theorem gg_X12_needs_X12_isFamily : GoodIn w_X12_needs w_X12_isFamily := goodIn_sub (fun _ h => List.mem_cons_of_mem _ (List.mem_append_right _ (List.mem_append_right _ (List.mem_append_left _ h)))) (by decide +kernel)
theorem gg_X12_needs_X12_wants : GoodIn w_X12_needs w_X12_wants := goodIn_sub (fun _ h => List.mem_cons_of_mem _ (List.mem_append_right _ (List.mem_append_right _ (List.mem_append_right _ (List.mem_append_left _ h))))) (by decide +kernel)
theorem gg_X12_needs_X12_of : GoodIn w_X12_needs w_X12_of := goodIn_sub (fun _ h => List.mem_cons_of_mem _ (List.mem_append_right _ (List.mem_append_right _ (List.mem_append_right _ (List.mem_append_right _ (List.mem_append_left _ h)))))) (by decide +kernel)
theorem gg_X12_needs_X12_want : GoodIn w_X12_needs w_X12_want := goodIn_sub (fun _ h => List.mem_cons_of_mem _ (List.mem_append_right _ (List.mem_append_right _ (List.mem_append_right _ (List.mem_append_right _ (List.mem_append_right _ (List.mem_append_left _ h))))))) (by decide +kernel)
theorem gg_X12_needs_X12_empties : GoodIn w_X12_needs w_X12_empties := goodIn_sub (fun _ h => List.mem_cons_of_mem _ (List.mem_append_right _ (List.mem_append_right _ (List.mem_append_right _ (List.mem_append_right _ (List.mem_append_right _ (List.mem_append_right _ (List.mem_append_left _ h)))))))) (by decide +kernel)
theorem g_X12_needs_X12_empties_333 : GoodIn w_X12_needs (wsV RX12 333 RX12 yX12_empties w_X12_empties) := goodIn_app (goodIn_of _ (by decide +kernel)) gg_X12_needs_X12_empties
theorem g_X12_needs_X12_isFamily_347 : GoodIn w_X12_needs (wsV RX12 347 RX12 yX12_isFamily w_X12_isFamily) := goodIn_app (goodIn_of _ (by decide +kernel)) gg_X12_needs_X12_isFamily
theorem g_X12_needs_X12_of_287 : GoodIn w_X12_needs (wsV RX12 287 RX12 yX12_of w_X12_of) := goodIn_app (goodIn_of _ (by decide +kernel)) gg_X12_needs_X12_of
theorem g_X12_needs_X12_want_351 : GoodIn w_X12_needs (wsV RX12 351 RX12 yX12_want w_X12_want) := goodIn_app (goodIn_of _ (by decide +kernel)) gg_X12_needs_X12_want
theorem g_X12_needs_X12_wants_382 : GoodIn w_X12_needs (wsV RX12 382 RX12 yX12_wants w_X12_wants) := goodIn_app (goodIn_of _ (by decide +kernel)) gg_X12_needs_X12_wants
set_option maxHeartbeats 4000000 in
set_option maxRecDepth 100000 in
theorem c_X12_needs (l : Launch) (E : py_E) (G : wf_G) (L : List Nat) (f : py_F) (sz : Nat) (u : Nat) (a : Int32) (hG : GT G) (hWF : WF E G L f) (Tu : G.1 u = 13) : Met l yX12_needs w_X12_needs ({ frames := 4, cells := 0, slots := 0, locals := 91 }) (py_Pc E [.ref u, .int a] L f sz) (py_Qi E L f sz (fun _ L1 f1 => WF E G L1 f1 ∧ KP G [66] false f f1 ∧ FK [] f f1 u)) 0 0 (va_A (va_pl L f) sz) := by
  refine Met.ofW (cc := cX12_needs) (maxL := 4) (ret := (some .int)) (by decide) rfl ?_
  intro p e s m args below meth c s₁ B hml hv
  obtain ⟨rfl, rfl, hw⟩ := py_start hv
  have G0 : CallFix p m c cX12_needs 4 s _ w_X12_needs RX12 := ⟨B.exec, B.bytes, hml, findClass_of_methodNamed B.named, atoms_spec (ws := w_X12_needs) B.pre⟩
  have hr := B.returns
  have hlk := B.notSynchronized
  have kcm1 : (-1 : Int32).toInt = -1 := rfl
  have kc0 : (0 : Int32).toInt = 0 := rfl
  have kc1 : (1 : Int32).toInt = 1 := rfl
  have hl := lv_entry ([.ref u, .int a]) (n := 4) (Nat.le_of_ble_eq_true rfl)
  rw [lg_entry_eq]
  generalize (lg_sl ([.ref u, .int a]) ++ List.replicate (4 - (lg_sl ([.ref u, .int a])).length) Slot.unset).toArray = ls at hl ⊢
  have hl : lv_has ls 4 [(0, .ref u), (1, .int a)] := hl
  have hFK : FK [] f f u := FK.refl
  have hKP : KP G [66] false f f := KP.refl
  refine lv_aload_n G0.1 G0.2.1 dX12_needs_0 rfl (lv_at hl 0 rfl) ?_
  refine lv_iload_n G0.1 G0.2.1 dX12_needs_1 rfl (lv_at hl 1 rfl) ?_
  obtain ⟨v_1, v_2, v_3, v_4, v_5, v_6, v_7, v_8, v_9, v_10, v_11, v_12, y_13, v_14, v_15, v_16, v_17, v_18, y_19, v_20, y_21, v_22, hr_35, b_23, b_24, b_25, b_26, b_27, b_28, b_29, b_30, b_31, b_32, b_33, b_34⟩ := wg_12 hWF Tu
  refine py_calli hw (va_runV (As := [.int a]) (rest := []) G0 (c_X12_isFamily l E G L f s.heap.size u a hG hWF Tu) (cwV 1 G0.2.2.2.2 g_X12_needs_X12_isFamily_347 rfl rfl rfl (by decide +kernel) ⟨(Nat.le_of_ble_eq_true rfl), (Nat.le_of_ble_eq_true rfl)⟩) (py_preV hw (C := RX12) (T := TX12) (N := 54) rfl hr_35) rfl rfl hl.1 rfl (lv_room (Nat.le_of_ble_eq_true rfl)) dX12_needs_2 ⟨(Nat.le_of_ble_eq_true rfl), (Nat.le_of_ble_eq_true rfl)⟩) (fun r_40 L_36 f_37 H_38 locs hp_39 hw => ?_)
  obtain ⟨b_42, en_41, rfl, rfl⟩ := hp_39
  refine lv_if_eq (tgt := 16) G0.1 G0.2.1 dX12_needs_5 (by decide) (fun c_43 => ?_) (fun c_43 => ?_)
  · skip
    have tc_43 := ti_eq c_43
    refine lv_iconst (v := (-1)) G0.1 G0.2.1 dX12_needs_16 (by decide) ?_
    exact py_iret G0 hr rfl hlk hw ⟨hWF, hKP, hFK⟩ dX12_needs_17
  · skip
    have tc_43 := ti_ne c_43
    refine lv_aload_n G0.1 G0.2.1 dX12_needs_8 rfl (lv_at hl 0 rfl) ?_
    refine lv_iload_n G0.1 G0.2.1 dX12_needs_9 rfl (lv_at hl 1 rfl) ?_
    refine py_calli hw (va_runV (As := [.int a]) (rest := []) G0 (c_X12_wants l E G L f H_38.size u a hG hWF Tu ⟨by omega, by omega⟩) (cwV 1 G0.2.2.2.2 g_X12_needs_X12_wants_382 rfl rfl rfl (by decide +kernel) ⟨(Nat.le_of_ble_eq_true rfl), (Nat.le_of_ble_eq_true rfl)⟩) (py_preV hw (C := RX12) (T := TX12) (N := 54) rfl hr_35) rfl rfl hl.1 rfl (lv_room (Nat.le_of_ble_eq_true rfl)) dX12_needs_10 ⟨(Nat.le_of_ble_eq_true rfl), (Nat.le_of_ble_eq_true rfl)⟩) (fun r_48 L_44 f_45 H_46 locs hp_47 hw => ?_)
    obtain ⟨b_52, en_49, en_50, en_51, rfl, rfl⟩ := hp_47
    refine lv_if_ne (tgt := 18) G0.1 G0.2.1 dX12_needs_13 (by decide) (fun c_53 => ?_) (fun c_53 => ?_)
    · skip
      have tc_53 := ti_ne c_53
      refine lv_iconst (v := 0) G0.1 G0.2.1 dX12_needs_18 (by decide) ?_
      refine lv_istore_n (lv' := [(2, .int 0), (0, .ref u), (1, .int a)]) G0.1 G0.2.1 dX12_needs_19 rfl hl (by decide) rfl (fun ls hl => ?_)
      have lo_20 : ∀ n_20 : Nat, ∀ (v_54 : Int32) (L_j20 : List Nat) (f_j20 : py_F) (H_j20 : Heap) (locs : List Loc) (ls : Array Slot), (2147483647 - v_54.toInt).toNat = n_20 → (0 ≤ v_54.toInt ∧ v_54.toInt ≤ 2147483647) → WF E G L_j20 f_j20 → KP G [66] false f f_j20 → FK [] f f_j20 u → py_W E (va_A (va_pl L f) s.heap.size) s L_j20 f_j20 H_j20 locs → lv_has ls 4 [(2, .int v_54), (0, .ref u), (1, .int a)] → W p l e (headSpec w_X12_needs ({ frames := 4, cells := 0, slots := 0, locals := 91 })).room s m ([.ref u, .int a] : List Value).toArray below meth c H_j20 locs 0 0 (MQ below (py_Qi E L f s.heap.size (fun _ L1 f1 => WF E G L1 f1 ∧ KP G [66] false f f1 ∧ FK [] f f1 u)) ([.ref u, .int a] : List Value).toArray s 0 0 (va_A (va_pl L f) s.heap.size)) (F0 m 20 ls []) := by
        intro n_20
        induction n_20 using Nat.strongRecOn with
        | _ n_20 ih_20 =>
          intro v_54 L_j20 f_j20 H_j20 locs ls hn_20 bv_54 hWF hKP hFK hw hl
          refine lv_iload_n G0.1 G0.2.1 dX12_needs_20 rfl (lv_at hl 0 rfl) ?_
          refine lv_aload_n G0.1 G0.2.1 dX12_needs_21 rfl (lv_at hl 1 rfl) ?_
          obtain ⟨v_55, v_56, v_57, v_58, v_59, v_60, v_61, v_62, v_63, v_64, v_65, v_66, y_67, v_68, v_69, v_70, v_71, v_72, y_73, v_74, y_75, v_76, hr_89, b_77, b_78, b_79, b_80, b_81, b_82, b_83, b_84, b_85, b_86, b_87, b_88⟩ := wg_12 hWF Tu
          refine py_get (C := RX12) (T := TX12) (N := 54) (k := 24) (v := .int v_64) G0 hw in_X12_needs_X12 rfl hr_89 (by decide) (by decide +kernel) rfl dX12_needs_22 ?_
          refine lv_icmp_ge (tgt := 54) G0.1 G0.2.1 dX12_needs_25 (by decide) (fun c_90 => ?_) (fun c_90 => ?_)
          · skip
            have tc_90 := ti_le c_90
            refine lv_iconst (v := 0) G0.1 G0.2.1 dX12_needs_54 (by decide) ?_
            refine lv_istore_n (lv' := [(2, .int 0), (0, .ref u), (1, .int a)]) G0.1 G0.2.1 dX12_needs_55 rfl hl (by decide) rfl (fun ls hl => ?_)
            have lo_56 : ∀ n_56 : Nat, ∀ (v_91 : Int32) (L_j56 : List Nat) (f_j56 : py_F) (H_j56 : Heap) (locs : List Loc) (ls : Array Slot), (2147483647 - v_91.toInt).toNat = n_56 → (0 ≤ v_91.toInt ∧ v_91.toInt ≤ 2147483647) → WF E G L_j56 f_j56 → KP G [66] false f f_j56 → FK [] f f_j56 u → py_W E (va_A (va_pl L f) s.heap.size) s L_j56 f_j56 H_j56 locs → lv_has ls 4 [(2, .int v_91), (0, .ref u), (1, .int a)] → W p l e (headSpec w_X12_needs ({ frames := 4, cells := 0, slots := 0, locals := 91 })).room s m ([.ref u, .int a] : List Value).toArray below meth c H_j56 locs 0 0 (MQ below (py_Qi E L f s.heap.size (fun _ L1 f1 => WF E G L1 f1 ∧ KP G [66] false f f1 ∧ FK [] f f1 u)) ([.ref u, .int a] : List Value).toArray s 0 0 (va_A (va_pl L f) s.heap.size)) (F0 m 56 ls []) := by
              intro n_56
              induction n_56 using Nat.strongRecOn with
              | _ n_56 ih_56 =>
                intro v_91 L_j56 f_j56 H_j56 locs ls hn_56 bv_91 hWF hKP hFK hw hl
                refine lv_iload_n G0.1 G0.2.1 dX12_needs_56 rfl (lv_at hl 0 rfl) ?_
                refine lv_aload_n G0.1 G0.2.1 dX12_needs_57 rfl (lv_at hl 1 rfl) ?_
                obtain ⟨v_92, v_93, v_94, v_95, v_96, v_97, v_98, v_99, v_100, v_101, v_102, v_103, y_104, v_105, v_106, v_107, v_108, v_109, y_110, v_111, y_112, v_113, hr_126, b_114, b_115, b_116, b_117, b_118, b_119, b_120, b_121, b_122, b_123, b_124, b_125⟩ := wg_12 hWF Tu
                refine py_get (C := RX12) (T := TX12) (N := 54) (k := 24) (v := .int v_101) G0 hw in_X12_needs_X12 rfl hr_126 (by decide) (by decide +kernel) rfl dX12_needs_58 ?_
                refine lv_icmp_gt (tgt := 182) G0.1 G0.2.1 dX12_needs_61 (by decide) (fun c_127 => ?_) (fun c_127 => ?_)
                · skip
                  have tc_127 := ti_lt c_127
                  refine lv_iconst (v := (-1)) G0.1 G0.2.1 dX12_needs_182 (by decide) ?_
                  exact py_iret G0 hr rfl hlk hw ⟨hWF, hKP, hFK⟩ dX12_needs_183
                · skip
                  have tc_127 := ti_nlt c_127
                  refine lv_iconst (v := 0) G0.1 G0.2.1 dX12_needs_64 (by decide) ?_
                  refine lv_istore_n (lv' := [(3, .int 0), (2, .int v_91), (0, .ref u), (1, .int a)]) G0.1 G0.2.1 dX12_needs_65 rfl hl (by decide) rfl (fun ls hl => ?_)
                  have lo_66 : ∀ n_66 : Nat, ∀ (v_128 : Int32) (H_j66 : Heap) (locs : List Loc) (ls : Array Slot), (2147483647 - v_128.toInt).toNat = n_66 → (0 ≤ v_128.toInt ∧ v_128.toInt ≤ 2147483647) → py_W E (va_A (va_pl L f) s.heap.size) s L_j56 f_j56 H_j66 locs → lv_has ls 4 [(3, .int v_128), (2, .int v_91), (0, .ref u), (1, .int a)] → W p l e (headSpec w_X12_needs ({ frames := 4, cells := 0, slots := 0, locals := 91 })).room s m ([.ref u, .int a] : List Value).toArray below meth c H_j66 locs 0 0 (MQ below (py_Qi E L f s.heap.size (fun _ L1 f1 => WF E G L1 f1 ∧ KP G [66] false f f1 ∧ FK [] f f1 u)) ([.ref u, .int a] : List Value).toArray s 0 0 (va_A (va_pl L f) s.heap.size)) (F0 m 66 ls []) := by
                    intro n_66
                    induction n_66 using Nat.strongRecOn with
                    | _ n_66 ih_66 =>
                      intro v_128 H_j66 locs ls hn_66 bv_128 hw hl
                      refine lv_iload_n G0.1 G0.2.1 dX12_needs_66 rfl (lv_at hl 0 rfl) ?_
                      refine lv_aload_n G0.1 G0.2.1 dX12_needs_67 rfl (lv_at hl 2 rfl) ?_
                      refine py_get (C := RX12) (T := TX12) (N := 54) (k := 24) (v := .int v_101) G0 hw in_X12_needs_X12 rfl hr_126 (by decide) (by decide +kernel) rfl dX12_needs_68 ?_
                      refine lv_icmp_ge (tgt := 110) G0.1 G0.2.1 dX12_needs_71 (by decide) (fun c_129 => ?_) (fun c_129 => ?_)
                      · skip
                        have tc_129 := ti_le c_129
                        refine lv_iconst (v := 0) G0.1 G0.2.1 dX12_needs_110 (by decide) ?_
                        refine lv_istore_n (lv' := [(3, .int 0), (2, .int v_91), (0, .ref u), (1, .int a)]) G0.1 G0.2.1 dX12_needs_111 rfl hl (by decide) rfl (fun ls hl => ?_)
                        have lo_112 : ∀ n_112 : Nat, ∀ (v_130 : Int32) (L_j112 : List Nat) (f_j112 : py_F) (H_j112 : Heap) (locs : List Loc) (ls : Array Slot), (2147483647 - v_130.toInt).toNat = n_112 → (0 ≤ v_130.toInt ∧ v_130.toInt ≤ 2147483647) → WF E G L_j112 f_j112 → KP G [66] false f f_j112 → FK [] f f_j112 u → py_W E (va_A (va_pl L f) s.heap.size) s L_j112 f_j112 H_j112 locs → lv_has ls 4 [(3, .int v_130), (2, .int v_91), (0, .ref u), (1, .int a)] → W p l e (headSpec w_X12_needs ({ frames := 4, cells := 0, slots := 0, locals := 91 })).room s m ([.ref u, .int a] : List Value).toArray below meth c H_j112 locs 0 0 (MQ below (py_Qi E L f s.heap.size (fun _ L1 f1 => WF E G L1 f1 ∧ KP G [66] false f f1 ∧ FK [] f f1 u)) ([.ref u, .int a] : List Value).toArray s 0 0 (va_A (va_pl L f) s.heap.size)) (F0 m 112 ls []) := by
                          intro n_112
                          induction n_112 using Nat.strongRecOn with
                          | _ n_112 ih_112 =>
                            intro v_130 L_j112 f_j112 H_j112 locs ls hn_112 bv_130 hWF hKP hFK hw hl
                            refine lv_iload_n G0.1 G0.2.1 dX12_needs_112 rfl (lv_at hl 0 rfl) ?_
                            refine lv_aload_n G0.1 G0.2.1 dX12_needs_113 rfl (lv_at hl 2 rfl) ?_
                            obtain ⟨v_131, v_132, v_133, v_134, v_135, v_136, v_137, v_138, v_139, v_140, v_141, v_142, y_143, v_144, v_145, v_146, v_147, v_148, y_149, v_150, y_151, v_152, hr_165, b_153, b_154, b_155, b_156, b_157, b_158, b_159, b_160, b_161, b_162, b_163, b_164⟩ := wg_12 hWF Tu
                            refine py_get (C := RX12) (T := TX12) (N := 54) (k := 25) (v := .int v_141) G0 hw in_X12_needs_X12 rfl hr_165 (by decide) (by decide +kernel) rfl dX12_needs_114 ?_
                            refine lv_icmp_ge (tgt := 176) G0.1 G0.2.1 dX12_needs_117 (by decide) (fun c_166 => ?_) (fun c_166 => ?_)
                            · skip
                              have tc_166 := ti_le c_166
                              obtain ⟨x_167, ex_167⟩ : ∃ y : Int32, y = v_91 + 1 := ⟨_, rfl⟩
                              first | have tx_167 := ti_add ex_167 (by omega) (by omega) | skip
                              refine lv_iinc (v := x_167) (lv' := [(2, .int x_167), (3, .int v_130), (0, .ref u), (1, .int a)]) G0.1 G0.2.1 dX12_needs_176 hl (k := 1) rfl (show _ + (1 : Int32) = _ from ex_167.symm) (by decide) rfl (fun ls hl => ?_)
                              refine lv_goto (tgt := 56) G0.1 G0.2.1 dX12_needs_179 (by decide) ?_
                              exact ih_56 ((2147483647 - x_167.toInt).toNat) (by omega) x_167 L_j112 f_j112 _ _ ls rfl ⟨by omega, by omega⟩ hWF hKP hFK hw (lv_sub hl [0, 2, 3] rfl)
                            · skip
                              have tc_166 := ti_nle c_166
                              refine lv_aload_n G0.1 G0.2.1 dX12_needs_120 rfl (lv_at hl 2 rfl) ?_
                              refine lv_iload_n G0.1 G0.2.1 dX12_needs_121 rfl (lv_at hl 0 rfl) ?_
                              refine py_calli hw (va_runV (As := [.int v_130]) (rest := []) G0 (c_X12_wants l E G L_j112 f_j112 H_j112.size u v_130 hG hWF Tu ⟨by omega, by omega⟩) (cwV 1 G0.2.2.2.2 g_X12_needs_X12_wants_382 rfl rfl rfl (by decide +kernel) ⟨(Nat.le_of_ble_eq_true rfl), (Nat.le_of_ble_eq_true rfl)⟩) (py_preV hw (C := RX12) (T := TX12) (N := 54) rfl hr_165) rfl rfl hl.1 rfl (lv_room (Nat.le_of_ble_eq_true rfl)) dX12_needs_122 ⟨(Nat.le_of_ble_eq_true rfl), (Nat.le_of_ble_eq_true rfl)⟩) (fun r_172 L_168 f_169 H_170 locs hp_171 hw => ?_)
                              obtain ⟨b_176, en_173, en_174, en_175, rfl, rfl⟩ := hp_171
                              have jn_170 : ∀ (L_j170 : List Nat) (f_j170 : py_F) (H_j170 : Heap) (locs : List Loc) (ls : Array Slot), WF E G L_j170 f_j170 → KP G [66] false f f_j170 → FK [] f f_j170 u → py_W E (va_A (va_pl L f) s.heap.size) s L_j170 f_j170 H_j170 locs → lv_has ls 4 [(3, .int v_130), (2, .int v_91), (0, .ref u), (1, .int a)] → W p l e (headSpec w_X12_needs ({ frames := 4, cells := 0, slots := 0, locals := 91 })).room s m ([.ref u, .int a] : List Value).toArray below meth c H_j170 locs 0 0 (MQ below (py_Qi E L f s.heap.size (fun _ L1 f1 => WF E G L1 f1 ∧ KP G [66] false f f1 ∧ FK [] f f1 u)) ([.ref u, .int a] : List Value).toArray s 0 0 (va_A (va_pl L f) s.heap.size)) (F0 m 170 ls []) := by
                                intro L_j170 f_j170 H_j170 locs ls hWF hKP hFK hw hl
                                obtain ⟨x_177, ex_177⟩ : ∃ y : Int32, y = v_130 + 1 := ⟨_, rfl⟩
                                first | have tx_177 := ti_add ex_177 (by omega) (by omega) | skip
                                refine lv_iinc (v := x_177) (lv' := [(3, .int x_177), (2, .int v_91), (0, .ref u), (1, .int a)]) G0.1 G0.2.1 dX12_needs_170 hl (k := 0) rfl (show _ + (1 : Int32) = _ from ex_177.symm) (by decide) rfl (fun ls hl => ?_)
                                refine lv_goto (tgt := 112) G0.1 G0.2.1 dX12_needs_173 (by decide) ?_
                                exact ih_112 ((2147483647 - x_177.toInt).toNat) (by omega) x_177 L_j170 f_j170 _ _ ls rfl ⟨by omega, by omega⟩ hWF hKP hFK hw (lv_sub hl [0, 1, 2, 3] rfl)
                              refine lv_if_eq (tgt := 170) G0.1 G0.2.1 dX12_needs_125 (by decide) (fun c_178 => ?_) (fun c_178 => ?_)
                              · skip
                                have tc_178 := ti_eq c_178
                                exact jn_170 L_j112 f_j112 _ _ ls hWF hKP hFK hw (lv_sub hl [0, 1, 2, 3] rfl)
                              · skip
                                have tc_178 := ti_ne c_178
                                refine lv_aload_n G0.1 G0.2.1 dX12_needs_128 rfl (lv_at hl 2 rfl) ?_
                                refine py_get (C := RX12) (T := TX12) (N := 54) (k := 44) (v := .ref (G.2 u 44)) G0 hw in_X12_needs_X12 rfl hr_165 (by decide) (by decide +kernel) rfl dX12_needs_129 ?_
                                refine lv_aload_n G0.1 G0.2.1 dX12_needs_132 rfl (lv_at hl 2 rfl) ?_
                                refine lv_iload_n G0.1 G0.2.1 dX12_needs_133 rfl (lv_at hl 0 rfl) ?_
                                refine lv_iconst (v := 1) G0.1 G0.2.1 dX12_needs_134 (by decide) ?_
                                refine py_calli hw (va_runV (As := [.int v_130, .int 1]) (rest := [.ref (G.2 u 44)]) G0 (c_X12_of l E G L_j112 f_j112 H_170.size u v_130 1 hG hWF Tu ⟨by omega, by omega⟩ ⟨by omega, by omega⟩) (cwV 2 G0.2.2.2.2 g_X12_needs_X12_of_287 rfl rfl rfl (by decide +kernel) ⟨(Nat.le_of_ble_eq_true rfl), (Nat.le_of_ble_eq_true rfl)⟩) (py_preV hw (C := RX12) (T := TX12) (N := 54) rfl hr_165) rfl rfl hl.1 rfl (lv_room (Nat.le_of_ble_eq_true rfl)) dX12_needs_135 ⟨(Nat.le_of_ble_eq_true rfl), (Nat.le_of_ble_eq_true rfl)⟩) (fun r_183 L_179 f_180 H_181 locs hp_182 hw => ?_)
                                obtain ⟨en_184, en_185, rfl, rfl⟩ := hp_182
                                have en_184 : r_183.toInt = nw f_j112 G u v_130.toInt (1 : Int) := en_184
                                have en_185 : ((1 : Int) = 0 → 0 ≤ r_183.toInt ∧ r_183.toInt ≤ 20) ∧ ((1 : Int) = 1 → -1 ≤ r_183.toInt ∧ r_183.toInt ≤ 7) := en_185
                                have br_183 := wf_free r_183
                                obtain ⟨g_186, ha_187, hi_188⟩ := wf_arr (n := 8) (lo := (-2147483648)) (hi := 2147483647) hWF (wt12_44 hG Tu) (by decide) (fun _ => rfl)
                                have rg_189 : vp_in r_183 8 := ti_in (by omega) (by omega)
                                refine py_iald G0 hw ha_187 rg_189 dX12_needs_138 ?_
                                refine lv_topi (fun x_190 ex_190 => ?_)
                                have bx_190 := wf_free x_190
                                refine lv_iload_n G0.1 G0.2.1 dX12_needs_139 rfl (lv_at hl 1 rfl) ?_
                                refine lv_icmp_ne (tgt := 170) G0.1 G0.2.1 dX12_needs_140 (by decide) (fun c_191 => ?_) (fun c_191 => ?_)
                                · skip
                                  have tc_191 := ti_ne c_191
                                  exact jn_170 L_j112 f_j112 _ _ ls hWF hKP hFK hw (lv_sub hl [0, 1, 2, 3] rfl)
                                · skip
                                  have tc_191 := ti_eq c_191
                                  refine lv_aload_n G0.1 G0.2.1 dX12_needs_143 rfl (lv_at hl 2 rfl) ?_
                                  refine py_get (C := RX12) (T := TX12) (N := 54) (k := 44) (v := .ref (G.2 u 44)) G0 hw in_X12_needs_X12 rfl hr_165 (by decide) (by decide +kernel) rfl dX12_needs_144 ?_
                                  refine lv_aload_n G0.1 G0.2.1 dX12_needs_147 rfl (lv_at hl 2 rfl) ?_
                                  refine lv_iload_n G0.1 G0.2.1 dX12_needs_148 rfl (lv_at hl 0 rfl) ?_
                                  refine py_calli hw (va_runV (As := [.int v_130]) (rest := [.ref (G.2 u 44)]) G0 (c_X12_want l E G L_j112 f_j112 H_181.size u v_130 hG hWF Tu ⟨by omega, by omega⟩) (cwV 1 G0.2.2.2.2 g_X12_needs_X12_want_351 rfl rfl rfl (by decide +kernel) ⟨(Nat.le_of_ble_eq_true rfl), (Nat.le_of_ble_eq_true rfl)⟩) (py_preV hw (C := RX12) (T := TX12) (N := 54) rfl hr_165) rfl rfl hl.1 rfl (lv_room (Nat.le_of_ble_eq_true rfl)) dX12_needs_149 ⟨(Nat.le_of_ble_eq_true rfl), (Nat.le_of_ble_eq_true rfl)⟩) (fun r_196 L_192 f_193 H_194 locs hp_195 hw => ?_)
                                  obtain ⟨b_199, en_197, en_198, rfl, rfl⟩ := hp_195
                                  have rg_200 : vp_in r_196 8 := ti_in (by omega) (by omega)
                                  refine py_iald G0 hw ha_187 rg_200 dX12_needs_152 ?_
                                  refine lv_topi (fun x_201 ex_201 => ?_)
                                  have bx_201 := wf_free x_201
                                  refine lv_iconst (v := (-1)) G0.1 G0.2.1 dX12_needs_153 (by decide) ?_
                                  refine lv_icmp_ne (tgt := 170) G0.1 G0.2.1 dX12_needs_154 (by decide) (fun c_202 => ?_) (fun c_202 => ?_)
                                  · skip
                                    have tc_202 := ti_ne c_202
                                    exact jn_170 L_j112 f_j112 _ _ ls hWF hKP hFK hw (lv_sub hl [0, 1, 2, 3] rfl)
                                  · skip
                                    have tc_202 := ti_eq c_202
                                    refine lv_aload_n G0.1 G0.2.1 dX12_needs_157 rfl (lv_at hl 2 rfl) ?_
                                    refine py_get (C := RX12) (T := TX12) (N := 54) (k := 44) (v := .ref (G.2 u 44)) G0 hw in_X12_needs_X12 rfl hr_165 (by decide) (by decide +kernel) rfl dX12_needs_158 ?_
                                    refine lv_aload_n G0.1 G0.2.1 dX12_needs_161 rfl (lv_at hl 2 rfl) ?_
                                    refine lv_iload_n G0.1 G0.2.1 dX12_needs_162 rfl (lv_at hl 0 rfl) ?_
                                    refine py_calli hw (va_runV (As := [.int v_130]) (rest := [.ref (G.2 u 44)]) G0 (c_X12_want l E G L_j112 f_j112 H_194.size u v_130 hG hWF Tu ⟨by omega, by omega⟩) (cwV 1 G0.2.2.2.2 g_X12_needs_X12_want_351 rfl rfl rfl (by decide +kernel) ⟨(Nat.le_of_ble_eq_true rfl), (Nat.le_of_ble_eq_true rfl)⟩) (py_preV hw (C := RX12) (T := TX12) (N := 54) rfl hr_165) rfl rfl hl.1 rfl (lv_room (Nat.le_of_ble_eq_true rfl)) dX12_needs_163 ⟨(Nat.le_of_ble_eq_true rfl), (Nat.le_of_ble_eq_true rfl)⟩) (fun r_207 L_203 f_204 H_205 locs hp_206 hw => ?_)
                                    obtain ⟨b_210, en_208, en_209, rfl, rfl⟩ := hp_206
                                    refine lv_iload_n G0.1 G0.2.1 dX12_needs_166 rfl (lv_at hl 1 rfl) ?_
                                    refine lv_iconst (v := 1) G0.1 G0.2.1 dX12_needs_167 (by decide) ?_
                                    refine lv_iadd G0.1 G0.2.1 dX12_needs_168 ?_
                                    refine lv_topi (fun x_211 ex_211 => ?_)
                                    first | have tx_211 := ti_add ex_211 (by omega) (by omega) | skip
                                    have rg_212 : vp_in r_207 8 := ti_in (by omega) (by omega)
                                    refine py_iast G0 hw ha_187 rg_212 dX12_needs_169 (fun f_213 H_214 locs h_215 x_216 hw => ?_)
                                    have hFK := hFK.same ((x_216 _ (hWF _ (by rw [Tu]; decide)).1 (wf_ne Tu (wt12_44 hG Tu) (by decide))).2)
                                    have hKP := hKP.upd hWF x_216 (wt12_44 hG Tu) (Or.inl (by decide))
                                    have hi_217 := wf_inu (k := (r_207 : Int32).toNatClampNeg) (x := x_211) hi_188 (wf_free x_211).1 (wf_free x_211).2
                                    have hWF := wf_upd hWF h_215 x_216 (by rw [(wt12_44 hG Tu)]; exact ⟨_, rfl, hi_217⟩)
                                    have hr_165 := hr_165.ext x_216 (py_ne_arr hr_165 ha_187)
                                    exact jn_170 L_j112 f_213 _ _ ls hWF hKP hFK hw (lv_sub hl [0, 1, 2, 3] rfl)
                        exact lo_112 _ 0 L_j56 f_j56 _ _ ls rfl ⟨by omega, by omega⟩ hWF hKP hFK hw (lv_sub hl [0, 1, 2, 3] rfl)
                      · skip
                        have tc_129 := ti_nle c_129
                        refine lv_aload_n G0.1 G0.2.1 dX12_needs_74 rfl (lv_at hl 2 rfl) ?_
                        refine py_get (C := RX12) (T := TX12) (N := 54) (k := 44) (v := .ref (G.2 u 44)) G0 hw in_X12_needs_X12 rfl hr_126 (by decide) (by decide +kernel) rfl dX12_needs_75 ?_
                        refine lv_iload_n G0.1 G0.2.1 dX12_needs_78 rfl (lv_at hl 0 rfl) ?_
                        obtain ⟨g_218, ha_219, hi_220⟩ := wf_arr (n := 8) (lo := (-2147483648)) (hi := 2147483647) hWF (wt12_44 hG Tu) (by decide) (fun _ => rfl)
                        have rg_221 : vp_in v_128 8 := ti_in (by omega) (by omega)
                        refine py_iald G0 hw ha_219 rg_221 dX12_needs_79 ?_
                        refine lv_topi (fun x_222 ex_222 => ?_)
                        have bx_222 := wf_free x_222
                        refine lv_iload_n G0.1 G0.2.1 dX12_needs_80 rfl (lv_at hl 1 rfl) ?_
                        refine lv_icmp_ne (tgt := 104) G0.1 G0.2.1 dX12_needs_81 (by decide) (fun c_223 => ?_) (fun c_223 => ?_)
                        · skip
                          have tc_223 := ti_ne c_223
                          obtain ⟨x_224, ex_224⟩ : ∃ y : Int32, y = v_128 + 1 := ⟨_, rfl⟩
                          first | have tx_224 := ti_add ex_224 (by omega) (by omega) | skip
                          refine lv_iinc (v := x_224) (lv' := [(3, .int x_224), (2, .int v_91), (0, .ref u), (1, .int a)]) G0.1 G0.2.1 dX12_needs_104 hl (k := 0) rfl (show _ + (1 : Int32) = _ from ex_224.symm) (by decide) rfl (fun ls hl => ?_)
                          refine lv_goto (tgt := 66) G0.1 G0.2.1 dX12_needs_107 (by decide) ?_
                          exact ih_66 ((2147483647 - x_224.toInt).toNat) (by omega) x_224 _ _ ls rfl ⟨by omega, by omega⟩ hw (lv_sub hl [0, 1, 2, 3] rfl)
                        · skip
                          have tc_223 := ti_eq c_223
                          refine lv_aload_n G0.1 G0.2.1 dX12_needs_84 rfl (lv_at hl 2 rfl) ?_
                          refine lv_iload_n G0.1 G0.2.1 dX12_needs_85 rfl (lv_at hl 0 rfl) ?_
                          refine py_calli hw (va_runV (As := [.int v_128]) (rest := []) G0 (c_X12_empties l E G L_j56 f_j56 H_j66.size u v_128 hG hWF Tu ⟨by omega, by omega⟩) (cwV 1 G0.2.2.2.2 g_X12_needs_X12_empties_333 rfl rfl rfl (by decide +kernel) ⟨(Nat.le_of_ble_eq_true rfl), (Nat.le_of_ble_eq_true rfl)⟩) (py_preV hw (C := RX12) (T := TX12) (N := 54) rfl hr_126) rfl rfl hl.1 rfl (lv_room (Nat.le_of_ble_eq_true rfl)) dX12_needs_86 ⟨(Nat.le_of_ble_eq_true rfl), (Nat.le_of_ble_eq_true rfl)⟩) (fun r_229 L_225 f_226 H_227 locs hp_228 hw => ?_)
                          obtain ⟨en_230, en_231, en_232, rfl, rfl⟩ := hp_228
                          have br_229 := wf_free r_229
                          refine lv_if_gt (tgt := 102) G0.1 G0.2.1 dX12_needs_89 (by decide) (fun c_233 => ?_) (fun c_233 => ?_)
                          · skip
                            have tc_233 := ti_lt c_233
                            refine lv_iload_n G0.1 G0.2.1 dX12_needs_102 rfl (lv_at hl 1 rfl) ?_
                            exact py_iret G0 hr rfl hlk hw ⟨hWF, hKP, hFK⟩ dX12_needs_103
                          · skip
                            have tc_233 := ti_nlt c_233
                            refine lv_iload_n G0.1 G0.2.1 dX12_needs_92 rfl (lv_at hl 0 rfl) ?_
                            refine lv_aload_n G0.1 G0.2.1 dX12_needs_93 rfl (lv_at hl 2 rfl) ?_
                            refine lv_iload_n G0.1 G0.2.1 dX12_needs_94 rfl (lv_at hl 3 rfl) ?_
                            refine lv_iconst (v := 1) G0.1 G0.2.1 dX12_needs_95 (by decide) ?_
                            refine py_calli hw (va_runV (As := [.int a, .int 1]) (rest := [.int v_128]) G0 (c_X12_of l E G L_j56 f_j56 H_227.size u a 1 hG hWF Tu ⟨by omega, by omega⟩ ⟨by omega, by omega⟩) (cwV 2 G0.2.2.2.2 g_X12_needs_X12_of_287 rfl rfl rfl (by decide +kernel) ⟨(Nat.le_of_ble_eq_true rfl), (Nat.le_of_ble_eq_true rfl)⟩) (py_preV hw (C := RX12) (T := TX12) (N := 54) rfl hr_126) rfl rfl hl.1 rfl (lv_room (Nat.le_of_ble_eq_true rfl)) dX12_needs_96 ⟨(Nat.le_of_ble_eq_true rfl), (Nat.le_of_ble_eq_true rfl)⟩) (fun r_238 L_234 f_235 H_236 locs hp_237 hw => ?_)
                            obtain ⟨en_239, en_240, rfl, rfl⟩ := hp_237
                            have en_239 : r_238.toInt = nw f_j56 G u a.toInt (1 : Int) := en_239
                            have en_240 : ((1 : Int) = 0 → 0 ≤ r_238.toInt ∧ r_238.toInt ≤ 20) ∧ ((1 : Int) = 1 → -1 ≤ r_238.toInt ∧ r_238.toInt ≤ 7) := en_240
                            have br_238 := wf_free r_238
                            refine lv_icmp_ne (tgt := 104) G0.1 G0.2.1 dX12_needs_99 (by decide) (fun c_241 => ?_) (fun c_241 => ?_)
                            · skip
                              have tc_241 := ti_ne c_241
                              obtain ⟨x_242, ex_242⟩ : ∃ y : Int32, y = v_128 + 1 := ⟨_, rfl⟩
                              first | have tx_242 := ti_add ex_242 (by omega) (by omega) | skip
                              refine lv_iinc (v := x_242) (lv' := [(3, .int x_242), (2, .int v_91), (0, .ref u), (1, .int a)]) G0.1 G0.2.1 dX12_needs_104 hl (k := 0) rfl (show _ + (1 : Int32) = _ from ex_242.symm) (by decide) rfl (fun ls hl => ?_)
                              refine lv_goto (tgt := 66) G0.1 G0.2.1 dX12_needs_107 (by decide) ?_
                              exact ih_66 ((2147483647 - x_242.toInt).toNat) (by omega) x_242 _ _ ls rfl ⟨by omega, by omega⟩ hw (lv_sub hl [0, 1, 2, 3] rfl)
                            · skip
                              have tc_241 := ti_eq c_241
                              refine lv_iload_n G0.1 G0.2.1 dX12_needs_102 rfl (lv_at hl 1 rfl) ?_
                              exact py_iret G0 hr rfl hlk hw ⟨hWF, hKP, hFK⟩ dX12_needs_103
                  exact lo_66 _ 0 _ _ ls rfl ⟨by omega, by omega⟩ hw (lv_sub hl [0, 1, 2, 3] rfl)
            exact lo_56 _ 0 L_j20 f_j20 _ _ ls rfl ⟨by omega, by omega⟩ hWF hKP hFK hw (lv_sub hl [0, 1, 2] rfl)
          · skip
            have tc_90 := ti_nle c_90
            refine lv_aload_n G0.1 G0.2.1 dX12_needs_28 rfl (lv_at hl 1 rfl) ?_
            refine py_get (C := RX12) (T := TX12) (N := 54) (k := 44) (v := .ref (G.2 u 44)) G0 hw in_X12_needs_X12 rfl hr_89 (by decide) (by decide +kernel) rfl dX12_needs_29 ?_
            refine lv_iload_n G0.1 G0.2.1 dX12_needs_32 rfl (lv_at hl 0 rfl) ?_
            refine lv_iload_n G0.1 G0.2.1 dX12_needs_33 rfl (lv_at hl 0 rfl) ?_
            refine lv_aload_n G0.1 G0.2.1 dX12_needs_34 rfl (lv_at hl 1 rfl) ?_
            refine lv_iload_n G0.1 G0.2.1 dX12_needs_35 rfl (lv_at hl 2 rfl) ?_
            refine py_calli hw (va_runV (As := [.int a]) (rest := [.int v_54, .int v_54, .ref (G.2 u 44)]) G0 (c_X12_want l E G L_j20 f_j20 H_j20.size u a hG hWF Tu ⟨by omega, by omega⟩) (cwV 1 G0.2.2.2.2 g_X12_needs_X12_want_351 rfl rfl rfl (by decide +kernel) ⟨(Nat.le_of_ble_eq_true rfl), (Nat.le_of_ble_eq_true rfl)⟩) (py_preV hw (C := RX12) (T := TX12) (N := 54) rfl hr_89) rfl rfl hl.1 rfl (lv_room (Nat.le_of_ble_eq_true rfl)) dX12_needs_36 ⟨(Nat.le_of_ble_eq_true rfl), (Nat.le_of_ble_eq_true rfl)⟩) (fun r_247 L_243 f_244 H_245 locs hp_246 hw => ?_)
            obtain ⟨b_250, en_248, en_249, rfl, rfl⟩ := hp_246
            have jn_47 : ∀ (v_251 : Int32) (H_j47 : Heap) (locs : List Loc) (ls : Array Slot), ((-1) ≤ v_251.toInt ∧ v_251.toInt ≤ 0) → py_W E (va_A (va_pl L f) s.heap.size) s L_j20 f_j20 H_j47 locs → lv_has ls 4 [(2, .int v_54), (0, .ref u), (1, .int a)] → W p l e (headSpec w_X12_needs ({ frames := 4, cells := 0, slots := 0, locals := 91 })).room s m ([.ref u, .int a] : List Value).toArray below meth c H_j47 locs 0 0 (MQ below (py_Qi E L f s.heap.size (fun _ L1 f1 => WF E G L1 f1 ∧ KP G [66] false f f1 ∧ FK [] f f1 u)) ([.ref u, .int a] : List Value).toArray s 0 0 (va_A (va_pl L f) s.heap.size)) (F0 m 47 ls [.int v_251, .int v_54, .ref (G.2 u 44)]) := by
              intro v_251 H_j47 locs ls bv_251 hw hl
              obtain ⟨g_252, ha_253, hi_254⟩ := wf_arr (n := 8) (lo := (-2147483648)) (hi := 2147483647) hWF (wt12_44 hG Tu) (by decide) (fun _ => rfl)
              have rg_255 : vp_in v_54 8 := ti_in (by omega) (by omega)
              refine py_iast G0 hw ha_253 rg_255 dX12_needs_47 (fun f_256 H_257 locs h_258 x_259 hw => ?_)
              have hFK := hFK.same ((x_259 _ (hWF _ (by rw [Tu]; decide)).1 (wf_ne Tu (wt12_44 hG Tu) (by decide))).2)
              have hKP := hKP.upd hWF x_259 (wt12_44 hG Tu) (Or.inl (by decide))
              have hi_260 := wf_inu (k := (v_54 : Int32).toNatClampNeg) (x := v_251) hi_254 (wf_free v_251).1 (wf_free v_251).2
              have hWF := wf_upd hWF h_258 x_259 (by rw [(wt12_44 hG Tu)]; exact ⟨_, rfl, hi_260⟩)
              have hr_89 := hr_89.ext x_259 (py_ne_arr hr_89 ha_253)
              obtain ⟨x_261, ex_261⟩ : ∃ y : Int32, y = v_54 + 1 := ⟨_, rfl⟩
              first | have tx_261 := ti_add ex_261 (by omega) (by omega) | skip
              refine lv_iinc (v := x_261) (lv' := [(2, .int x_261), (0, .ref u), (1, .int a)]) G0.1 G0.2.1 dX12_needs_48 hl (k := 0) rfl (show _ + (1 : Int32) = _ from ex_261.symm) (by decide) rfl (fun ls hl => ?_)
              refine lv_goto (tgt := 20) G0.1 G0.2.1 dX12_needs_51 (by decide) ?_
              exact ih_20 ((2147483647 - x_261.toInt).toNat) (by omega) x_261 L_j20 f_256 _ _ ls rfl ⟨by omega, by omega⟩ hWF hKP hFK hw (lv_sub hl [0, 1, 2] rfl)
            refine lv_icmp_ne (tgt := 46) G0.1 G0.2.1 dX12_needs_39 (by decide) (fun c_262 => ?_) (fun c_262 => ?_)
            · skip
              have tc_262 := ti_ne c_262
              refine lv_iconst (v := (-1)) G0.1 G0.2.1 dX12_needs_46 (by decide) ?_
              exact jn_47 (-1) _ _ ls ⟨by omega, by omega⟩ hw (lv_sub hl [0, 1, 2] rfl)
            · skip
              have tc_262 := ti_eq c_262
              refine lv_iconst (v := 0) G0.1 G0.2.1 dX12_needs_42 (by decide) ?_
              refine lv_goto (tgt := 47) G0.1 G0.2.1 dX12_needs_43 (by decide) ?_
              exact jn_47 0 _ _ ls ⟨by omega, by omega⟩ hw (lv_sub hl [0, 1, 2] rfl)
      exact lo_20 _ 0 L f _ _ ls rfl ⟨by omega, by omega⟩ hWF hKP hFK hw (lv_sub hl [0, 1, 2] rfl)
    · skip
      have tc_53 := ti_eq c_53
      refine lv_iconst (v := (-1)) G0.1 G0.2.1 dX12_needs_16 (by decide) ?_
      exact py_iret G0 hr rfl hlk hw ⟨hWF, hKP, hFK⟩ dX12_needs_17
