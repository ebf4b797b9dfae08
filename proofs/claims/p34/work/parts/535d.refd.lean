theorem dX12_back_0 : decode cX12_back 0 = .ok (.aload_n 0, 1) := by decide +kernel
theorem dX12_back_1 : decode cX12_back 1 = .ok (.getfield 315, 3) := by decide +kernel
theorem dX12_back_4 : decode cX12_back 4 = .ok (.ifCond .ne 5, 3) := by decide +kernel
theorem dX12_back_7 : decode cX12_back 7 = .ok (.iconst (-1), 1) := by decide +kernel
theorem dX12_back_8 : decode cX12_back 8 = .ok (.ireturn, 1) := by decide +kernel
theorem dX12_back_9 : decode cX12_back 9 = .ok (.aload_n 0, 1) := by decide +kernel
theorem dX12_back_10 : decode cX12_back 10 = .ok (.getfield 61, 3) := by decide +kernel
theorem dX12_back_13 : decode cX12_back 13 = .ok (.aload_n 0, 1) := by decide +kernel
theorem dX12_back_14 : decode cX12_back 14 = .ok (.getfield 55, 3) := by decide +kernel
theorem dX12_back_17 : decode cX12_back 17 = .ok (.invokestatic 437, 3) := by decide +kernel
theorem dX12_back_20 : decode cX12_back 20 = .ok (.iconst 0, 1) := by decide +kernel
theorem dX12_back_21 : decode cX12_back 21 = .ok (.istore_n 1, 1) := by decide +kernel
theorem dX12_back_22 : decode cX12_back 22 = .ok (.iload_n 1, 1) := by decide +kernel
theorem dX12_back_23 : decode cX12_back 23 = .ok (.sipush 600, 3) := by decide +kernel
theorem dX12_back_26 : decode cX12_back 26 = .ok (.if_icmp .ge 33, 3) := by decide +kernel
theorem dX12_back_29 : decode cX12_back 29 = .ok (.aload_n 0, 1) := by decide +kernel
theorem dX12_back_30 : decode cX12_back 30 = .ok (.getfield 83, 3) := by decide +kernel
theorem dX12_back_33 : decode cX12_back 33 = .ok (.iload_n 1, 1) := by decide +kernel
theorem dX12_back_34 : decode cX12_back 34 = .ok (.aload_n 0, 1) := by decide +kernel
theorem dX12_back_35 : decode cX12_back 35 = .ok (.getfield 111, 3) := by decide +kernel
theorem dX12_back_38 : decode cX12_back 38 = .ok (.iload_n 1, 1) := by decide +kernel
theorem dX12_back_39 : decode cX12_back 39 = .ok (.iaload, 1) := by decide +kernel
theorem dX12_back_40 : decode cX12_back 40 = .ok (.iastore, 1) := by decide +kernel
theorem dX12_back_41 : decode cX12_back 41 = .ok (.aload_n 0, 1) := by decide +kernel
theorem dX12_back_42 : decode cX12_back 42 = .ok (.getfield 86, 3) := by decide +kernel
theorem dX12_back_45 : decode cX12_back 45 = .ok (.iload_n 1, 1) := by decide +kernel
theorem dX12_back_46 : decode cX12_back 46 = .ok (.aload_n 0, 1) := by decide +kernel
theorem dX12_back_47 : decode cX12_back 47 = .ok (.getfield 114, 3) := by decide +kernel
theorem dX12_back_50 : decode cX12_back 50 = .ok (.iload_n 1, 1) := by decide +kernel
theorem dX12_back_51 : decode cX12_back 51 = .ok (.iaload, 1) := by decide +kernel
theorem dX12_back_52 : decode cX12_back 52 = .ok (.iastore, 1) := by decide +kernel
theorem dX12_back_53 : decode cX12_back 53 = .ok (.iinc 1 1, 3) := by decide +kernel
theorem dX12_back_56 : decode cX12_back 56 = .ok (.goto (-34), 3) := by decide +kernel
theorem dX12_back_59 : decode cX12_back 59 = .ok (.aload_n 0, 1) := by decide +kernel
theorem dX12_back_60 : decode cX12_back 60 = .ok (.aload_n 0, 1) := by decide +kernel
theorem dX12_back_61 : decode cX12_back 61 = .ok (.getfield 457, 3) := by decide +kernel
theorem dX12_back_64 : decode cX12_back 64 = .ok (.putfield 309, 3) := by decide +kernel
theorem dX12_back_67 : decode cX12_back 67 = .ok (.aload_n 0, 1) := by decide +kernel
theorem dX12_back_68 : decode cX12_back 68 = .ok (.iconst 0, 1) := by decide +kernel
theorem dX12_back_69 : decode cX12_back 69 = .ok (.putfield 312, 3) := by decide +kernel
theorem dX12_back_72 : decode cX12_back 72 = .ok (.aload_n 0, 1) := by decide +kernel
theorem dX12_back_73 : decode cX12_back 73 = .ok (.aload_n 0, 1) := by decide +kernel
theorem dX12_back_74 : decode cX12_back 74 = .ok (.getfield 460, 3) := by decide +kernel
theorem dX12_back_77 : decode cX12_back 77 = .ok (.putfield 357, 3) := by decide +kernel
theorem dX12_back_80 : decode cX12_back 80 = .ok (.aload_n 0, 1) := by decide +kernel
theorem dX12_back_81 : decode cX12_back 81 = .ok (.getfield 309, 3) := by decide +kernel
theorem dX12_back_84 : decode cX12_back 84 = .ok (.ireturn, 1) := by decide +kernel
theorem dX12_climb_0 : decode cX12_climb 0 = .ok (.aload_n 0, 1) := by decide +kernel
theorem dX12_climb_1 : decode cX12_climb 1 = .ok (.iload_n 1, 1) := by decide +kernel
theorem dX12_climb_2 : decode cX12_climb 2 = .ok (.invokevirtual 347, 3) := by decide +kernel
theorem dX12_climb_5 : decode cX12_climb 5 = .ok (.ifCond .eq 12, 3) := by decide +kernel
theorem dX12_climb_8 : decode cX12_climb 8 = .ok (.iload_n 2, 1) := by decide +kernel
theorem dX12_climb_9 : decode cX12_climb 9 = .ok (.iconst 0, 1) := by decide +kernel
theorem dX12_climb_10 : decode cX12_climb 10 = .ok (.iconst 1, 1) := by decide +kernel
theorem dX12_climb_11 : decode cX12_climb 11 = .ok (.invokestatic 232, 3) := by decide +kernel
theorem dX12_climb_14 : decode cX12_climb 14 = .ok (.ifCond .ne 7, 3) := by decide +kernel
theorem dX12_climb_17 : decode cX12_climb 17 = .ok (.ldc_w 350, 3) := by decide +kernel
theorem dX12_climb_20 : decode cX12_climb 20 = .ok (.ireturn, 1) := by decide +kernel
theorem dX12_climb_21 : decode cX12_climb 21 = .ok (.iconst 0, 1) := by decide +kernel
theorem dX12_climb_22 : decode cX12_climb 22 = .ok (.istore_n 3, 1) := by decide +kernel
theorem dX12_climb_23 : decode cX12_climb 23 = .ok (.iconst 0, 1) := by decide +kernel
theorem dX12_climb_24 : decode cX12_climb 24 = .ok (.istore 4, 2) := by decide +kernel
theorem dX12_climb_26 : decode cX12_climb 26 = .ok (.iconst 0, 1) := by decide +kernel
theorem dX12_climb_27 : decode cX12_climb 27 = .ok (.istore 5, 2) := by decide +kernel
theorem dX12_climb_29 : decode cX12_climb 29 = .ok (.iload 5, 2) := by decide +kernel
theorem dX12_climb_31 : decode cX12_climb 31 = .ok (.aload_n 0, 1) := by decide +kernel
theorem dX12_climb_32 : decode cX12_climb 32 = .ok (.getfield 309, 3) := by decide +kernel
theorem dX12_climb_35 : decode cX12_climb 35 = .ok (.if_icmp .ge 89, 3) := by decide +kernel
theorem dX12_climb_38 : decode cX12_climb 38 = .ok (.iload 5, 2) := by decide +kernel
theorem dX12_climb_40 : decode cX12_climb 40 = .ok (.iconst 1, 1) := by decide +kernel
theorem dX12_climb_41 : decode cX12_climb 41 = .ok (.iadd, 1) := by decide +kernel
theorem dX12_climb_42 : decode cX12_climb 42 = .ok (.istore 6, 2) := by decide +kernel
theorem dX12_climb_44 : decode cX12_climb 44 = .ok (.iload 6, 2) := by decide +kernel
theorem dX12_climb_46 : decode cX12_climb 46 = .ok (.aload_n 0, 1) := by decide +kernel
theorem dX12_climb_47 : decode cX12_climb 47 = .ok (.getfield 309, 3) := by decide +kernel
theorem dX12_climb_50 : decode cX12_climb 50 = .ok (.if_icmp .ge 68, 3) := by decide +kernel
theorem dX12_climb_53 : decode cX12_climb 53 = .ok (.aload_n 0, 1) := by decide +kernel
theorem dX12_climb_54 : decode cX12_climb 54 = .ok (.getfield 83, 3) := by decide +kernel
theorem dX12_climb_57 : decode cX12_climb 57 = .ok (.bipush 10, 2) := by decide +kernel
theorem dX12_climb_59 : decode cX12_climb 59 = .ok (.iload 5, 2) := by decide +kernel
theorem dX12_climb_61 : decode cX12_climb 61 = .ok (.imul, 1) := by decide +kernel
theorem dX12_climb_62 : decode cX12_climb 62 = .ok (.iload_n 1, 1) := by decide +kernel
theorem dX12_climb_63 : decode cX12_climb 63 = .ok (.iadd, 1) := by decide +kernel
theorem dX12_climb_64 : decode cX12_climb 64 = .ok (.iaload, 1) := by decide +kernel
theorem dX12_climb_65 : decode cX12_climb 65 = .ok (.istore 7, 2) := by decide +kernel
theorem dX12_climb_67 : decode cX12_climb 67 = .ok (.aload_n 0, 1) := by decide +kernel
theorem dX12_climb_68 : decode cX12_climb 68 = .ok (.getfield 83, 3) := by decide +kernel
theorem dX12_climb_71 : decode cX12_climb 71 = .ok (.bipush 10, 2) := by decide +kernel
theorem dX12_climb_73 : decode cX12_climb 73 = .ok (.iload 6, 2) := by decide +kernel
theorem dX12_climb_75 : decode cX12_climb 75 = .ok (.imul, 1) := by decide +kernel
theorem dX12_climb_76 : decode cX12_climb 76 = .ok (.iload_n 1, 1) := by decide +kernel
theorem dX12_climb_77 : decode cX12_climb 77 = .ok (.iadd, 1) := by decide +kernel
theorem dX12_climb_78 : decode cX12_climb 78 = .ok (.iaload, 1) := by decide +kernel
theorem dX12_climb_79 : decode cX12_climb 79 = .ok (.istore 8, 2) := by decide +kernel
theorem dX12_climb_81 : decode cX12_climb 81 = .ok (.iload 7, 2) := by decide +kernel
theorem dX12_climb_83 : decode cX12_climb 83 = .ok (.iconst (-1), 1) := by decide +kernel
theorem dX12_climb_84 : decode cX12_climb 84 = .ok (.if_icmp .eq 28, 3) := by decide +kernel
theorem dX12_climb_87 : decode cX12_climb 87 = .ok (.iload 8, 2) := by decide +kernel
theorem dX12_climb_89 : decode cX12_climb 89 = .ok (.iconst (-1), 1) := by decide +kernel
theorem dX12_climb_90 : decode cX12_climb 90 = .ok (.if_icmp .eq 22, 3) := by decide +kernel
theorem dX12_climb_93 : decode cX12_climb 93 = .ok (.iload 8, 2) := by decide +kernel
theorem dX12_climb_95 : decode cX12_climb 95 = .ok (.iload 7, 2) := by decide +kernel
theorem dX12_climb_97 : decode cX12_climb 97 = .ok (.isub, 1) := by decide +kernel
theorem dX12_climb_98 : decode cX12_climb 98 = .ok (.iload_n 3, 1) := by decide +kernel
theorem dX12_climb_99 : decode cX12_climb 99 = .ok (.if_icmp .le 13, 3) := by decide +kernel
theorem dX12_climb_102 : decode cX12_climb 102 = .ok (.iload 8, 2) := by decide +kernel
theorem dX12_climb_104 : decode cX12_climb 104 = .ok (.iload 7, 2) := by decide +kernel
theorem dX12_climb_106 : decode cX12_climb 106 = .ok (.isub, 1) := by decide +kernel
theorem dX12_climb_107 : decode cX12_climb 107 = .ok (.istore_n 3, 1) := by decide +kernel
theorem dX12_climb_108 : decode cX12_climb 108 = .ok (.iload 5, 2) := by decide +kernel
theorem dX12_climb_110 : decode cX12_climb 110 = .ok (.istore 4, 2) := by decide +kernel
theorem dX12_climb_112 : decode cX12_climb 112 = .ok (.iinc 6 1, 3) := by decide +kernel
theorem dX12_climb_115 : decode cX12_climb 115 = .ok (.goto (-71), 3) := by decide +kernel
theorem dX12_climb_118 : decode cX12_climb 118 = .ok (.iinc 5 1, 3) := by decide +kernel
theorem dX12_climb_121 : decode cX12_climb 121 = .ok (.goto (-92), 3) := by decide +kernel
theorem dX12_climb_124 : decode cX12_climb 124 = .ok (.iload_n 2, 1) := by decide +kernel
theorem dX12_climb_125 : decode cX12_climb 125 = .ok (.ifCond .ne 7, 3) := by decide +kernel
theorem dX12_climb_128 : decode cX12_climb 128 = .ok (.iload_n 3, 1) := by decide +kernel
theorem dX12_climb_129 : decode cX12_climb 129 = .ok (.goto 16, 3) := by decide +kernel
theorem dX12_climb_132 : decode cX12_climb 132 = .ok (.aload_n 0, 1) := by decide +kernel
theorem dX12_climb_133 : decode cX12_climb 133 = .ok (.getfield 309, 3) := by decide +kernel
theorem dX12_climb_136 : decode cX12_climb 136 = .ok (.ifCond .ne 7, 3) := by decide +kernel
theorem dX12_climb_139 : decode cX12_climb 139 = .ok (.iconst (-1), 1) := by decide +kernel
theorem dX12_climb_140 : decode cX12_climb 140 = .ok (.goto 5, 3) := by decide +kernel
theorem dX12_climb_143 : decode cX12_climb 143 = .ok (.iload 4, 2) := by decide +kernel
theorem dX12_climb_145 : decode cX12_climb 145 = .ok (.ireturn, 1) := by decide +kernel
theorem dX12_diary_0 : decode cX12_diary 0 = .ok (.aload_n 0, 1) := by decide +kernel
theorem dX12_diary_1 : decode cX12_diary 1 = .ok (.iload_n 1, 1) := by decide +kernel
theorem dX12_diary_2 : decode cX12_diary 2 = .ok (.invokevirtual 347, 3) := by decide +kernel
theorem dX12_diary_5 : decode cX12_diary 5 = .ok (.ifCond .eq 26, 3) := by decide +kernel
theorem dX12_diary_8 : decode cX12_diary 8 = .ok (.iload_n 2, 1) := by decide +kernel
theorem dX12_diary_9 : decode cX12_diary 9 = .ok (.iconst 0, 1) := by decide +kernel
theorem dX12_diary_10 : decode cX12_diary 10 = .ok (.aload_n 0, 1) := by decide +kernel
theorem dX12_diary_11 : decode cX12_diary 11 = .ok (.getfield 309, 3) := by decide +kernel
theorem dX12_diary_14 : decode cX12_diary 14 = .ok (.iconst 1, 1) := by decide +kernel
theorem dX12_diary_15 : decode cX12_diary 15 = .ok (.isub, 1) := by decide +kernel
theorem dX12_diary_16 : decode cX12_diary 16 = .ok (.invokestatic 232, 3) := by decide +kernel
theorem dX12_diary_19 : decode cX12_diary 19 = .ok (.ifCond .eq 12, 3) := by decide +kernel
theorem dX12_diary_22 : decode cX12_diary 22 = .ok (.iload_n 3, 1) := by decide +kernel
theorem dX12_diary_23 : decode cX12_diary 23 = .ok (.iconst 0, 1) := by decide +kernel
theorem dX12_diary_24 : decode cX12_diary 24 = .ok (.iconst 1, 1) := by decide +kernel
theorem dX12_diary_25 : decode cX12_diary 25 = .ok (.invokestatic 232, 3) := by decide +kernel
theorem dX12_diary_28 : decode cX12_diary 28 = .ok (.ifCond .ne 7, 3) := by decide +kernel
theorem dX12_diary_31 : decode cX12_diary 31 = .ok (.ldc_w 350, 3) := by decide +kernel
theorem dX12_diary_34 : decode cX12_diary 34 = .ok (.ireturn, 1) := by decide +kernel
theorem dX12_diary_35 : decode cX12_diary 35 = .ok (.iload_n 3, 1) := by decide +kernel
theorem dX12_diary_36 : decode cX12_diary 36 = .ok (.ifCond .ne 17, 3) := by decide +kernel
theorem dX12_diary_39 : decode cX12_diary 39 = .ok (.aload_n 0, 1) := by decide +kernel
theorem dX12_diary_40 : decode cX12_diary 40 = .ok (.getfield 83, 3) := by decide +kernel
theorem dX12_diary_43 : decode cX12_diary 43 = .ok (.bipush 10, 2) := by decide +kernel
theorem dX12_diary_45 : decode cX12_diary 45 = .ok (.iload_n 2, 1) := by decide +kernel
theorem dX12_diary_46 : decode cX12_diary 46 = .ok (.imul, 1) := by decide +kernel
theorem dX12_diary_47 : decode cX12_diary 47 = .ok (.iload_n 1, 1) := by decide +kernel
theorem dX12_diary_48 : decode cX12_diary 48 = .ok (.iadd, 1) := by decide +kernel
theorem dX12_diary_49 : decode cX12_diary 49 = .ok (.iaload, 1) := by decide +kernel
theorem dX12_diary_50 : decode cX12_diary 50 = .ok (.goto 14, 3) := by decide +kernel
theorem dX12_diary_53 : decode cX12_diary 53 = .ok (.aload_n 0, 1) := by decide +kernel
theorem dX12_diary_54 : decode cX12_diary 54 = .ok (.getfield 86, 3) := by decide +kernel
theorem dX12_diary_57 : decode cX12_diary 57 = .ok (.bipush 10, 2) := by decide +kernel
theorem dX12_diary_59 : decode cX12_diary 59 = .ok (.iload_n 2, 1) := by decide +kernel
theorem dX12_diary_60 : decode cX12_diary 60 = .ok (.imul, 1) := by decide +kernel
theorem dX12_diary_61 : decode cX12_diary 61 = .ok (.iload_n 1, 1) := by decide +kernel
theorem dX12_diary_62 : decode cX12_diary 62 = .ok (.iadd, 1) := by decide +kernel
theorem dX12_diary_63 : decode cX12_diary 63 = .ok (.iaload, 1) := by decide +kernel
theorem dX12_diary_64 : decode cX12_diary 64 = .ok (.ireturn, 1) := by decide +kernel
theorem dX12_full_0 : decode cX12_full 0 = .ok (.aload_n 0, 1) := by decide +kernel
theorem dX12_full_1 : decode cX12_full 1 = .ok (.getfield 290, 3) := by decide +kernel
theorem dX12_full_4 : decode cX12_full 4 = .ok (.ifCond .ne 5, 3) := by decide +kernel
theorem dX12_full_7 : decode cX12_full 7 = .ok (.iconst (-1), 1) := by decide +kernel
theorem dX12_full_8 : decode cX12_full 8 = .ok (.ireturn, 1) := by decide +kernel
theorem dX12_full_9 : decode cX12_full 9 = .ok (.iconst 0, 1) := by decide +kernel
theorem dX12_full_10 : decode cX12_full 10 = .ok (.istore_n 1, 1) := by decide +kernel
theorem dX12_full_11 : decode cX12_full 11 = .ok (.iconst 0, 1) := by decide +kernel
theorem dX12_full_12 : decode cX12_full 12 = .ok (.istore_n 2, 1) := by decide +kernel
theorem dX12_full_13 : decode cX12_full 13 = .ok (.iload_n 2, 1) := by decide +kernel
theorem dX12_full_14 : decode cX12_full 14 = .ok (.aload_n 0, 1) := by decide +kernel
theorem dX12_full_15 : decode cX12_full 15 = .ok (.getfield 302, 3) := by decide +kernel
theorem dX12_full_18 : decode cX12_full 18 = .ok (.if_icmp .ge 27, 3) := by decide +kernel
theorem dX12_full_21 : decode cX12_full 21 = .ok (.iload_n 1, 1) := by decide +kernel
theorem dX12_full_22 : decode cX12_full 22 = .ok (.aload_n 0, 1) := by decide +kernel
theorem dX12_full_23 : decode cX12_full 23 = .ok (.iload_n 2, 1) := by decide +kernel
theorem dX12_full_24 : decode cX12_full 24 = .ok (.invokevirtual 333, 3) := by decide +kernel
theorem dX12_full_27 : decode cX12_full 27 = .ok (.ifCond .ne 9, 3) := by decide +kernel
theorem dX12_full_30 : decode cX12_full 30 = .ok (.iconst 1, 1) := by decide +kernel
theorem dX12_full_31 : decode cX12_full 31 = .ok (.iload_n 2, 1) := by decide +kernel
theorem dX12_full_32 : decode cX12_full 32 = .ok (.ishl, 1) := by decide +kernel
theorem dX12_full_33 : decode cX12_full 33 = .ok (.goto 4, 3) := by decide +kernel
theorem dX12_full_36 : decode cX12_full 36 = .ok (.iconst 0, 1) := by decide +kernel
theorem dX12_full_37 : decode cX12_full 37 = .ok (.ior, 1) := by decide +kernel
theorem dX12_full_38 : decode cX12_full 38 = .ok (.istore_n 1, 1) := by decide +kernel
theorem dX12_full_39 : decode cX12_full 39 = .ok (.iinc 2 1, 3) := by decide +kernel
theorem dX12_full_42 : decode cX12_full 42 = .ok (.goto (-29), 3) := by decide +kernel
theorem dX12_full_45 : decode cX12_full 45 = .ok (.iload_n 1, 1) := by decide +kernel
theorem dX12_full_46 : decode cX12_full 46 = .ok (.ireturn, 1) := by decide +kernel
theorem dX12_hungry_0 : decode cX12_hungry 0 = .ok (.aload_n 0, 1) := by decide +kernel
theorem dX12_hungry_1 : decode cX12_hungry 1 = .ok (.getfield 290, 3) := by decide +kernel
theorem dX12_hungry_4 : decode cX12_hungry 4 = .ok (.ifCond .eq 12, 3) := by decide +kernel
theorem dX12_hungry_7 : decode cX12_hungry 7 = .ok (.iload_n 1, 1) := by decide +kernel
theorem dX12_hungry_8 : decode cX12_hungry 8 = .ok (.iconst 0, 1) := by decide +kernel
theorem dX12_hungry_9 : decode cX12_hungry 9 = .ok (.iconst 1, 1) := by decide +kernel
theorem dX12_hungry_10 : decode cX12_hungry 10 = .ok (.invokestatic 232, 3) := by decide +kernel
theorem dX12_hungry_13 : decode cX12_hungry 13 = .ok (.ifCond .ne 5, 3) := by decide +kernel
theorem dX12_hungry_16 : decode cX12_hungry 16 = .ok (.iconst (-1), 1) := by decide +kernel
theorem dX12_hungry_17 : decode cX12_hungry 17 = .ok (.ireturn, 1) := by decide +kernel
theorem dX12_hungry_18 : decode cX12_hungry 18 = .ok (.iconst 0, 1) := by decide +kernel
theorem dX12_hungry_19 : decode cX12_hungry 19 = .ok (.istore_n 2, 1) := by decide +kernel
theorem dX12_hungry_20 : decode cX12_hungry 20 = .ok (.iconst 0, 1) := by decide +kernel
theorem dX12_hungry_21 : decode cX12_hungry 21 = .ok (.istore_n 3, 1) := by decide +kernel
theorem dX12_hungry_22 : decode cX12_hungry 22 = .ok (.iconst 0, 1) := by decide +kernel
theorem dX12_hungry_23 : decode cX12_hungry 23 = .ok (.istore 4, 2) := by decide +kernel
theorem dX12_hungry_25 : decode cX12_hungry 25 = .ok (.iload 4, 2) := by decide +kernel
theorem dX12_hungry_27 : decode cX12_hungry 27 = .ok (.aload_n 0, 1) := by decide +kernel
theorem dX12_hungry_28 : decode cX12_hungry 28 = .ok (.getfield 302, 3) := by decide +kernel
theorem dX12_hungry_31 : decode cX12_hungry 31 = .ok (.if_icmp .ge 38, 3) := by decide +kernel
theorem dX12_hungry_34 : decode cX12_hungry 34 = .ok (.iload_n 2, 1) := by decide +kernel
theorem dX12_hungry_35 : decode cX12_hungry 35 = .ok (.aload_n 0, 1) := by decide +kernel
theorem dX12_hungry_36 : decode cX12_hungry 36 = .ok (.iload 4, 2) := by decide +kernel
theorem dX12_hungry_38 : decode cX12_hungry 38 = .ok (.invokevirtual 336, 3) := by decide +kernel
theorem dX12_hungry_41 : decode cX12_hungry 41 = .ok (.ifCond .le 10, 3) := by decide +kernel
theorem dX12_hungry_44 : decode cX12_hungry 44 = .ok (.iconst 1, 1) := by decide +kernel
theorem dX12_hungry_45 : decode cX12_hungry 45 = .ok (.iload 4, 2) := by decide +kernel
theorem dX12_hungry_47 : decode cX12_hungry 47 = .ok (.ishl, 1) := by decide +kernel
theorem dX12_hungry_48 : decode cX12_hungry 48 = .ok (.goto 4, 3) := by decide +kernel
theorem dX12_hungry_51 : decode cX12_hungry 51 = .ok (.iconst 0, 1) := by decide +kernel
theorem dX12_hungry_52 : decode cX12_hungry 52 = .ok (.ior, 1) := by decide +kernel
theorem dX12_hungry_53 : decode cX12_hungry 53 = .ok (.istore_n 2, 1) := by decide +kernel
theorem dX12_hungry_54 : decode cX12_hungry 54 = .ok (.iload_n 3, 1) := by decide +kernel
theorem dX12_hungry_55 : decode cX12_hungry 55 = .ok (.aload_n 0, 1) := by decide +kernel
theorem dX12_hungry_56 : decode cX12_hungry 56 = .ok (.iload 4, 2) := by decide +kernel
theorem dX12_hungry_58 : decode cX12_hungry 58 = .ok (.invokevirtual 336, 3) := by decide +kernel
theorem dX12_hungry_61 : decode cX12_hungry 61 = .ok (.iadd, 1) := by decide +kernel
theorem dX12_hungry_62 : decode cX12_hungry 62 = .ok (.istore_n 3, 1) := by decide +kernel
theorem dX12_hungry_63 : decode cX12_hungry 63 = .ok (.iinc 4 1, 3) := by decide +kernel
theorem dX12_hungry_66 : decode cX12_hungry 66 = .ok (.goto (-41), 3) := by decide +kernel
theorem dX12_hungry_69 : decode cX12_hungry 69 = .ok (.iload_n 1, 1) := by decide +kernel
theorem dX12_hungry_70 : decode cX12_hungry 70 = .ok (.ifCond .ne 7, 3) := by decide +kernel
theorem dX12_hungry_73 : decode cX12_hungry 73 = .ok (.iload_n 2, 1) := by decide +kernel
theorem dX12_hungry_74 : decode cX12_hungry 74 = .ok (.goto 4, 3) := by decide +kernel
theorem dX12_hungry_77 : decode cX12_hungry 77 = .ok (.iload_n 3, 1) := by decide +kernel
theorem dX12_hungry_78 : decode cX12_hungry 78 = .ok (.ireturn, 1) := by decide +kernel
theorem dX12_image_0 : decode cX12_image 0 = .ok (.aload_n 0, 1) := by decide +kernel
theorem dX12_image_1 : decode cX12_image 1 = .ok (.getfield 290, 3) := by decide +kernel
theorem dX12_image_4 : decode cX12_image 4 = .ok (.ifCond .ne 5, 3) := by decide +kernel
theorem dX12_image_7 : decode cX12_image 7 = .ok (.iconst (-1), 1) := by decide +kernel
theorem dX12_image_8 : decode cX12_image 8 = .ok (.ireturn, 1) := by decide +kernel
theorem dX12_image_9 : decode cX12_image 9 = .ok (.aload_n 0, 1) := by decide +kernel
theorem dX12_image_10 : decode cX12_image 10 = .ok (.getfield 55, 3) := by decide +kernel
theorem dX12_image_13 : decode cX12_image 13 = .ok (.aload_n 0, 1) := by decide +kernel
theorem dX12_image_14 : decode cX12_image 14 = .ok (.getfield 61, 3) := by decide +kernel
theorem dX12_image_17 : decode cX12_image 17 = .ok (.invokestatic 437, 3) := by decide +kernel
theorem dX12_image_20 : decode cX12_image 20 = .ok (.iconst 0, 1) := by decide +kernel
theorem dX12_image_21 : decode cX12_image 21 = .ok (.istore_n 1, 1) := by decide +kernel
theorem dX12_image_22 : decode cX12_image 22 = .ok (.iload_n 1, 1) := by decide +kernel
theorem dX12_image_23 : decode cX12_image 23 = .ok (.sipush 600, 3) := by decide +kernel
theorem dX12_image_26 : decode cX12_image 26 = .ok (.if_icmp .ge 33, 3) := by decide +kernel
theorem dX12_image_29 : decode cX12_image 29 = .ok (.aload_n 0, 1) := by decide +kernel
theorem dX12_image_30 : decode cX12_image 30 = .ok (.getfield 111, 3) := by decide +kernel
theorem dX12_image_33 : decode cX12_image 33 = .ok (.iload_n 1, 1) := by decide +kernel
theorem dX12_image_34 : decode cX12_image 34 = .ok (.aload_n 0, 1) := by decide +kernel
theorem dX12_image_35 : decode cX12_image 35 = .ok (.getfield 83, 3) := by decide +kernel
theorem dX12_image_38 : decode cX12_image 38 = .ok (.iload_n 1, 1) := by decide +kernel
theorem dX12_image_39 : decode cX12_image 39 = .ok (.iaload, 1) := by decide +kernel
theorem dX12_image_40 : decode cX12_image 40 = .ok (.iastore, 1) := by decide +kernel
theorem dX12_image_41 : decode cX12_image 41 = .ok (.aload_n 0, 1) := by decide +kernel
theorem dX12_image_42 : decode cX12_image 42 = .ok (.getfield 114, 3) := by decide +kernel
theorem dX12_image_45 : decode cX12_image 45 = .ok (.iload_n 1, 1) := by decide +kernel
theorem dX12_image_46 : decode cX12_image 46 = .ok (.aload_n 0, 1) := by decide +kernel
theorem dX12_image_47 : decode cX12_image 47 = .ok (.getfield 86, 3) := by decide +kernel
theorem dX12_image_50 : decode cX12_image 50 = .ok (.iload_n 1, 1) := by decide +kernel
theorem dX12_image_51 : decode cX12_image 51 = .ok (.iaload, 1) := by decide +kernel
theorem dX12_image_52 : decode cX12_image 52 = .ok (.iastore, 1) := by decide +kernel
theorem dX12_image_53 : decode cX12_image 53 = .ok (.iinc 1 1, 3) := by decide +kernel
theorem dX12_image_56 : decode cX12_image 56 = .ok (.goto (-34), 3) := by decide +kernel
theorem dX12_image_59 : decode cX12_image 59 = .ok (.aload_n 0, 1) := by decide +kernel
theorem dX12_image_60 : decode cX12_image 60 = .ok (.aload_n 0, 1) := by decide +kernel
theorem dX12_image_61 : decode cX12_image 61 = .ok (.getfield 309, 3) := by decide +kernel
theorem dX12_image_64 : decode cX12_image 64 = .ok (.putfield 457, 3) := by decide +kernel
theorem dX12_image_67 : decode cX12_image 67 = .ok (.aload_n 0, 1) := by decide +kernel
theorem dX12_image_68 : decode cX12_image 68 = .ok (.aload_n 0, 1) := by decide +kernel
theorem dX12_image_69 : decode cX12_image 69 = .ok (.getfield 357, 3) := by decide +kernel
theorem dX12_image_72 : decode cX12_image 72 = .ok (.putfield 460, 3) := by decide +kernel
theorem dX12_image_75 : decode cX12_image 75 = .ok (.aload_n 0, 1) := by decide +kernel
theorem dX12_image_76 : decode cX12_image 76 = .ok (.iconst 1, 1) := by decide +kernel
theorem dX12_image_77 : decode cX12_image 77 = .ok (.putfield 315, 3) := by decide +kernel
theorem dX12_image_80 : decode cX12_image 80 = .ok (.aload_n 0, 1) := by decide +kernel
theorem dX12_image_81 : decode cX12_image 81 = .ok (.getfield 309, 3) := by decide +kernel
theorem dX12_image_84 : decode cX12_image 84 = .ok (.ireturn, 1) := by decide +kernel
theorem dX12_leanest_0 : decode cX12_leanest 0 = .ok (.aload_n 0, 1) := by decide +kernel
theorem dX12_leanest_1 : decode cX12_leanest 1 = .ok (.getfield 309, 3) := by decide +kernel
theorem dX12_leanest_4 : decode cX12_leanest 4 = .ok (.ifCond .eq 12, 3) := by decide +kernel
theorem dX12_leanest_7 : decode cX12_leanest 7 = .ok (.iload_n 1, 1) := by decide +kernel
theorem dX12_leanest_8 : decode cX12_leanest 8 = .ok (.iconst 0, 1) := by decide +kernel
theorem dX12_leanest_9 : decode cX12_leanest 9 = .ok (.iconst 1, 1) := by decide +kernel
theorem dX12_leanest_10 : decode cX12_leanest 10 = .ok (.invokestatic 232, 3) := by decide +kernel
theorem dX12_leanest_13 : decode cX12_leanest 13 = .ok (.ifCond .ne 5, 3) := by decide +kernel
theorem dX12_leanest_16 : decode cX12_leanest 16 = .ok (.iconst (-1), 1) := by decide +kernel
theorem dX12_leanest_17 : decode cX12_leanest 17 = .ok (.ireturn, 1) := by decide +kernel
theorem dX12_leanest_18 : decode cX12_leanest 18 = .ok (.iconst 0, 1) := by decide +kernel
theorem dX12_leanest_19 : decode cX12_leanest 19 = .ok (.istore_n 2, 1) := by decide +kernel
theorem dX12_leanest_20 : decode cX12_leanest 20 = .ok (.iconst 1, 1) := by decide +kernel
theorem dX12_leanest_21 : decode cX12_leanest 21 = .ok (.istore_n 3, 1) := by decide +kernel
theorem dX12_leanest_22 : decode cX12_leanest 22 = .ok (.iload_n 3, 1) := by decide +kernel
theorem dX12_leanest_23 : decode cX12_leanest 23 = .ok (.aload_n 0, 1) := by decide +kernel
theorem dX12_leanest_24 : decode cX12_leanest 24 = .ok (.getfield 309, 3) := by decide +kernel
theorem dX12_leanest_27 : decode cX12_leanest 27 = .ok (.if_icmp .ge 28, 3) := by decide +kernel
theorem dX12_leanest_30 : decode cX12_leanest 30 = .ok (.aload_n 0, 1) := by decide +kernel
theorem dX12_leanest_31 : decode cX12_leanest 31 = .ok (.iload_n 3, 1) := by decide +kernel
theorem dX12_leanest_32 : decode cX12_leanest 32 = .ok (.invokevirtual 448, 3) := by decide +kernel
theorem dX12_leanest_35 : decode cX12_leanest 35 = .ok (.aload_n 0, 1) := by decide +kernel
theorem dX12_leanest_36 : decode cX12_leanest 36 = .ok (.iload_n 2, 1) := by decide +kernel
theorem dX12_leanest_37 : decode cX12_leanest 37 = .ok (.invokevirtual 448, 3) := by decide +kernel
theorem dX12_leanest_40 : decode cX12_leanest 40 = .ok (.if_icmp .ge 7, 3) := by decide +kernel
theorem dX12_leanest_43 : decode cX12_leanest 43 = .ok (.iload_n 3, 1) := by decide +kernel
theorem dX12_leanest_44 : decode cX12_leanest 44 = .ok (.goto 4, 3) := by decide +kernel
theorem dX12_leanest_47 : decode cX12_leanest 47 = .ok (.iload_n 2, 1) := by decide +kernel
theorem dX12_leanest_48 : decode cX12_leanest 48 = .ok (.istore_n 2, 1) := by decide +kernel
theorem dX12_leanest_49 : decode cX12_leanest 49 = .ok (.iinc 3 1, 3) := by decide +kernel
theorem dX12_leanest_52 : decode cX12_leanest 52 = .ok (.goto (-30), 3) := by decide +kernel
theorem dX12_leanest_55 : decode cX12_leanest 55 = .ok (.iload_n 1, 1) := by decide +kernel
theorem dX12_leanest_56 : decode cX12_leanest 56 = .ok (.ifCond .ne 7, 3) := by decide +kernel
theorem dX12_leanest_59 : decode cX12_leanest 59 = .ok (.iload_n 2, 1) := by decide +kernel
theorem dX12_leanest_60 : decode cX12_leanest 60 = .ok (.goto 8, 3) := by decide +kernel
theorem dX12_leanest_63 : decode cX12_leanest 63 = .ok (.aload_n 0, 1) := by decide +kernel
theorem dX12_leanest_64 : decode cX12_leanest 64 = .ok (.iload_n 2, 1) := by decide +kernel
theorem dX12_leanest_65 : decode cX12_leanest 65 = .ok (.invokevirtual 448, 3) := by decide +kernel
theorem dX12_leanest_68 : decode cX12_leanest 68 = .ok (.ireturn, 1) := by decide +kernel
theorem dX12_leap_0 : decode cX12_leap 0 = .ok (.aload_n 0, 1) := by decide +kernel
theorem dX12_leap_1 : decode cX12_leap 1 = .ok (.iload_n 1, 1) := by decide +kernel
theorem dX12_leap_2 : decode cX12_leap 2 = .ok (.invokevirtual 347, 3) := by decide +kernel
theorem dX12_leap_5 : decode cX12_leap 5 = .ok (.ifCond .ne 7, 3) := by decide +kernel
theorem dX12_leap_8 : decode cX12_leap 8 = .ok (.ldc_w 350, 3) := by decide +kernel
theorem dX12_leap_11 : decode cX12_leap 11 = .ok (.ireturn, 1) := by decide +kernel
theorem dX12_leap_12 : decode cX12_leap 12 = .ok (.iconst 0, 1) := by decide +kernel
theorem dX12_leap_13 : decode cX12_leap 13 = .ok (.istore_n 2, 1) := by decide +kernel
theorem dX12_leap_14 : decode cX12_leap 14 = .ok (.iconst 1, 1) := by decide +kernel
theorem dX12_leap_15 : decode cX12_leap 15 = .ok (.istore_n 3, 1) := by decide +kernel
theorem dX12_leap_16 : decode cX12_leap 16 = .ok (.iload_n 3, 1) := by decide +kernel
theorem dX12_leap_17 : decode cX12_leap 17 = .ok (.aload_n 0, 1) := by decide +kernel
theorem dX12_leap_18 : decode cX12_leap 18 = .ok (.getfield 309, 3) := by decide +kernel
theorem dX12_leap_21 : decode cX12_leap 21 = .ok (.if_icmp .ge 66, 3) := by decide +kernel
theorem dX12_leap_24 : decode cX12_leap 24 = .ok (.aload_n 0, 1) := by decide +kernel
theorem dX12_leap_25 : decode cX12_leap 25 = .ok (.getfield 83, 3) := by decide +kernel
theorem dX12_leap_28 : decode cX12_leap 28 = .ok (.bipush 10, 2) := by decide +kernel
theorem dX12_leap_30 : decode cX12_leap 30 = .ok (.iload_n 3, 1) := by decide +kernel
theorem dX12_leap_31 : decode cX12_leap 31 = .ok (.iconst 1, 1) := by decide +kernel
theorem dX12_leap_32 : decode cX12_leap 32 = .ok (.isub, 1) := by decide +kernel
theorem dX12_leap_33 : decode cX12_leap 33 = .ok (.imul, 1) := by decide +kernel
theorem dX12_leap_34 : decode cX12_leap 34 = .ok (.iload_n 1, 1) := by decide +kernel
theorem dX12_leap_35 : decode cX12_leap 35 = .ok (.iadd, 1) := by decide +kernel
theorem dX12_leap_36 : decode cX12_leap 36 = .ok (.iaload, 1) := by decide +kernel
theorem dX12_leap_37 : decode cX12_leap 37 = .ok (.istore 4, 2) := by decide +kernel
theorem dX12_leap_39 : decode cX12_leap 39 = .ok (.aload_n 0, 1) := by decide +kernel
theorem dX12_leap_40 : decode cX12_leap 40 = .ok (.getfield 83, 3) := by decide +kernel
theorem dX12_leap_43 : decode cX12_leap 43 = .ok (.bipush 10, 2) := by decide +kernel
theorem dX12_leap_45 : decode cX12_leap 45 = .ok (.iload_n 3, 1) := by decide +kernel
theorem dX12_leap_46 : decode cX12_leap 46 = .ok (.imul, 1) := by decide +kernel
theorem dX12_leap_47 : decode cX12_leap 47 = .ok (.iload_n 1, 1) := by decide +kernel
theorem dX12_leap_48 : decode cX12_leap 48 = .ok (.iadd, 1) := by decide +kernel
theorem dX12_leap_49 : decode cX12_leap 49 = .ok (.iaload, 1) := by decide +kernel
theorem dX12_leap_50 : decode cX12_leap 50 = .ok (.istore 5, 2) := by decide +kernel
theorem dX12_leap_52 : decode cX12_leap 52 = .ok (.iload 4, 2) := by decide +kernel
theorem dX12_leap_54 : decode cX12_leap 54 = .ok (.iconst (-1), 1) := by decide +kernel
theorem dX12_leap_55 : decode cX12_leap 55 = .ok (.if_icmp .eq 24, 3) := by decide +kernel
theorem dX12_leap_58 : decode cX12_leap 58 = .ok (.iload 5, 2) := by decide +kernel
theorem dX12_leap_60 : decode cX12_leap 60 = .ok (.iconst (-1), 1) := by decide +kernel
theorem dX12_leap_61 : decode cX12_leap 61 = .ok (.if_icmp .eq 18, 3) := by decide +kernel
theorem dX12_leap_64 : decode cX12_leap 64 = .ok (.iload_n 2, 1) := by decide +kernel
theorem dX12_leap_65 : decode cX12_leap 65 = .ok (.iload 5, 2) := by decide +kernel
theorem dX12_leap_67 : decode cX12_leap 67 = .ok (.iload 4, 2) := by decide +kernel
theorem dX12_leap_69 : decode cX12_leap 69 = .ok (.isub, 1) := by decide +kernel
theorem dX12_leap_70 : decode cX12_leap 70 = .ok (.invokestatic 411, 3) := by decide +kernel
theorem dX12_leap_73 : decode cX12_leap 73 = .ok (.invokestatic 328, 3) := by decide +kernel
theorem dX12_leap_76 : decode cX12_leap 76 = .ok (.goto 4, 3) := by decide +kernel
theorem dX12_leap_79 : decode cX12_leap 79 = .ok (.iload_n 2, 1) := by decide +kernel
theorem dX12_leap_80 : decode cX12_leap 80 = .ok (.istore_n 2, 1) := by decide +kernel
theorem dX12_leap_81 : decode cX12_leap 81 = .ok (.iinc 3 1, 3) := by decide +kernel
theorem dX12_leap_84 : decode cX12_leap 84 = .ok (.goto (-68), 3) := by decide +kernel
theorem dX12_leap_87 : decode cX12_leap 87 = .ok (.iload_n 2, 1) := by decide +kernel
theorem dX12_leap_88 : decode cX12_leap 88 = .ok (.ireturn, 1) := by decide +kernel
theorem dX12_met_0 : decode cX12_met 0 = .ok (.aload_n 0, 1) := by decide +kernel
theorem dX12_met_1 : decode cX12_met 1 = .ok (.iload_n 1, 1) := by decide +kernel
theorem dX12_met_2 : decode cX12_met 2 = .ok (.invokevirtual 347, 3) := by decide +kernel
theorem dX12_met_5 : decode cX12_met 5 = .ok (.ifCond .eq 25, 3) := by decide +kernel
theorem dX12_met_8 : decode cX12_met 8 = .ok (.aload_n 0, 1) := by decide +kernel
theorem dX12_met_9 : decode cX12_met 9 = .ok (.iload_n 2, 1) := by decide +kernel
theorem dX12_met_10 : decode cX12_met 10 = .ok (.invokevirtual 347, 3) := by decide +kernel
theorem dX12_met_13 : decode cX12_met 13 = .ok (.ifCond .eq 17, 3) := by decide +kernel
theorem dX12_met_16 : decode cX12_met 16 = .ok (.iload_n 1, 1) := by decide +kernel
theorem dX12_met_17 : decode cX12_met 17 = .ok (.iload_n 2, 1) := by decide +kernel
theorem dX12_met_18 : decode cX12_met 18 = .ok (.if_icmp .eq 12, 3) := by decide +kernel
theorem dX12_met_21 : decode cX12_met 21 = .ok (.iload_n 3, 1) := by decide +kernel
theorem dX12_met_22 : decode cX12_met 22 = .ok (.iconst 0, 1) := by decide +kernel
theorem dX12_met_23 : decode cX12_met 23 = .ok (.iconst 1, 1) := by decide +kernel
theorem dX12_met_24 : decode cX12_met 24 = .ok (.invokestatic 232, 3) := by decide +kernel
theorem dX12_met_27 : decode cX12_met 27 = .ok (.ifCond .ne 7, 3) := by decide +kernel
theorem dX12_met_30 : decode cX12_met 30 = .ok (.ldc_w 350, 3) := by decide +kernel
theorem dX12_met_33 : decode cX12_met 33 = .ok (.ireturn, 1) := by decide +kernel
theorem dX12_met_34 : decode cX12_met 34 = .ok (.iconst 0, 1) := by decide +kernel
theorem dX12_met_35 : decode cX12_met 35 = .ok (.istore 4, 2) := by decide +kernel
theorem dX12_met_37 : decode cX12_met 37 = .ok (.iconst (-1), 1) := by decide +kernel
theorem dX12_met_38 : decode cX12_met 38 = .ok (.istore 5, 2) := by decide +kernel
theorem dX12_met_40 : decode cX12_met 40 = .ok (.iconst 0, 1) := by decide +kernel
theorem dX12_met_41 : decode cX12_met 41 = .ok (.istore 6, 2) := by decide +kernel
theorem dX12_met_43 : decode cX12_met 43 = .ok (.iload 6, 2) := by decide +kernel
theorem dX12_met_45 : decode cX12_met 45 = .ok (.aload_n 0, 1) := by decide +kernel
theorem dX12_met_46 : decode cX12_met 46 = .ok (.getfield 309, 3) := by decide +kernel
theorem dX12_met_49 : decode cX12_met 49 = .ok (.if_icmp .ge 59, 3) := by decide +kernel
theorem dX12_met_52 : decode cX12_met 52 = .ok (.aload_n 0, 1) := by decide +kernel
theorem dX12_met_53 : decode cX12_met 53 = .ok (.getfield 83, 3) := by decide +kernel
theorem dX12_met_56 : decode cX12_met 56 = .ok (.bipush 10, 2) := by decide +kernel
theorem dX12_met_58 : decode cX12_met 58 = .ok (.iload 6, 2) := by decide +kernel
theorem dX12_met_60 : decode cX12_met 60 = .ok (.imul, 1) := by decide +kernel
theorem dX12_met_61 : decode cX12_met 61 = .ok (.iload_n 1, 1) := by decide +kernel
theorem dX12_met_62 : decode cX12_met 62 = .ok (.iadd, 1) := by decide +kernel
theorem dX12_met_63 : decode cX12_met 63 = .ok (.iaload, 1) := by decide +kernel
theorem dX12_met_64 : decode cX12_met 64 = .ok (.iconst (-1), 1) := by decide +kernel
theorem dX12_met_65 : decode cX12_met 65 = .ok (.if_icmp .eq 37, 3) := by decide +kernel
theorem dX12_met_68 : decode cX12_met 68 = .ok (.aload_n 0, 1) := by decide +kernel
theorem dX12_met_69 : decode cX12_met 69 = .ok (.getfield 83, 3) := by decide +kernel
theorem dX12_met_72 : decode cX12_met 72 = .ok (.bipush 10, 2) := by decide +kernel
theorem dX12_met_74 : decode cX12_met 74 = .ok (.iload 6, 2) := by decide +kernel
theorem dX12_met_76 : decode cX12_met 76 = .ok (.imul, 1) := by decide +kernel
theorem dX12_met_77 : decode cX12_met 77 = .ok (.iload_n 1, 1) := by decide +kernel
theorem dX12_met_78 : decode cX12_met 78 = .ok (.iadd, 1) := by decide +kernel
theorem dX12_met_79 : decode cX12_met 79 = .ok (.iaload, 1) := by decide +kernel
theorem dX12_met_80 : decode cX12_met 80 = .ok (.aload_n 0, 1) := by decide +kernel
theorem dX12_met_81 : decode cX12_met 81 = .ok (.getfield 83, 3) := by decide +kernel
theorem dX12_met_84 : decode cX12_met 84 = .ok (.bipush 10, 2) := by decide +kernel
theorem dX12_met_86 : decode cX12_met 86 = .ok (.iload 6, 2) := by decide +kernel
theorem dX12_met_88 : decode cX12_met 88 = .ok (.imul, 1) := by decide +kernel
theorem dX12_met_89 : decode cX12_met 89 = .ok (.iload_n 2, 1) := by decide +kernel
theorem dX12_met_90 : decode cX12_met 90 = .ok (.iadd, 1) := by decide +kernel
theorem dX12_met_91 : decode cX12_met 91 = .ok (.iaload, 1) := by decide +kernel
theorem dX12_met_92 : decode cX12_met 92 = .ok (.if_icmp .ne 10, 3) := by decide +kernel
theorem dX12_met_95 : decode cX12_met 95 = .ok (.iinc 4 1, 3) := by decide +kernel
theorem dX12_met_98 : decode cX12_met 98 = .ok (.iload 6, 2) := by decide +kernel
theorem dX12_met_100 : decode cX12_met 100 = .ok (.istore 5, 2) := by decide +kernel
theorem dX12_met_102 : decode cX12_met 102 = .ok (.iinc 6 1, 3) := by decide +kernel
theorem dX12_met_105 : decode cX12_met 105 = .ok (.goto (-62), 3) := by decide +kernel
theorem dX12_met_108 : decode cX12_met 108 = .ok (.iload_n 3, 1) := by decide +kernel
theorem dX12_met_109 : decode cX12_met 109 = .ok (.ifCond .ne 8, 3) := by decide +kernel
theorem dX12_met_112 : decode cX12_met 112 = .ok (.iload 4, 2) := by decide +kernel
theorem dX12_met_114 : decode cX12_met 114 = .ok (.goto 5, 3) := by decide +kernel
theorem dX12_met_117 : decode cX12_met 117 = .ok (.iload 5, 2) := by decide +kernel
theorem dX12_met_119 : decode cX12_met 119 = .ok (.ireturn, 1) := by decide +kernel
theorem dX12_rank_0 : decode cX12_rank 0 = .ok (.iconst 0, 1) := by decide +kernel
theorem dX12_rank_1 : decode cX12_rank 1 = .ok (.istore_n 2, 1) := by decide +kernel
theorem dX12_rank_2 : decode cX12_rank 2 = .ok (.iload_n 2, 1) := by decide +kernel
theorem dX12_rank_3 : decode cX12_rank 3 = .ok (.aload_n 0, 1) := by decide +kernel
theorem dX12_rank_4 : decode cX12_rank 4 = .ok (.getfield 290, 3) := by decide +kernel
theorem dX12_rank_7 : decode cX12_rank 7 = .ok (.if_icmp .ge 82, 3) := by decide +kernel
theorem dX12_rank_10 : decode cX12_rank 10 = .ok (.iconst 0, 1) := by decide +kernel
theorem dX12_rank_11 : decode cX12_rank 11 = .ok (.istore_n 3, 1) := by decide +kernel
theorem dX12_rank_12 : decode cX12_rank 12 = .ok (.iconst 0, 1) := by decide +kernel
theorem dX12_rank_13 : decode cX12_rank 13 = .ok (.istore 4, 2) := by decide +kernel
theorem dX12_rank_15 : decode cX12_rank 15 = .ok (.iload 4, 2) := by decide +kernel
theorem dX12_rank_17 : decode cX12_rank 17 = .ok (.aload_n 0, 1) := by decide +kernel
theorem dX12_rank_18 : decode cX12_rank 18 = .ok (.getfield 290, 3) := by decide +kernel
theorem dX12_rank_21 : decode cX12_rank 21 = .ok (.if_icmp .ge 55, 3) := by decide +kernel
theorem dX12_rank_24 : decode cX12_rank 24 = .ok (.iload_n 3, 1) := by decide +kernel
theorem dX12_rank_25 : decode cX12_rank 25 = .ok (.aload_n 0, 1) := by decide +kernel
theorem dX12_rank_26 : decode cX12_rank 26 = .ok (.iload 4, 2) := by decide +kernel
theorem dX12_rank_28 : decode cX12_rank 28 = .ok (.iconst 0, 1) := by decide +kernel
theorem dX12_rank_29 : decode cX12_rank 29 = .ok (.invokevirtual 287, 3) := by decide +kernel
theorem dX12_rank_32 : decode cX12_rank 32 = .ok (.aload_n 0, 1) := by decide +kernel
theorem dX12_rank_33 : decode cX12_rank 33 = .ok (.iload_n 2, 1) := by decide +kernel
theorem dX12_rank_34 : decode cX12_rank 34 = .ok (.iconst 0, 1) := by decide +kernel
theorem dX12_rank_35 : decode cX12_rank 35 = .ok (.invokevirtual 287, 3) := by decide +kernel
theorem dX12_rank_38 : decode cX12_rank 38 = .ok (.if_icmp .gt 25, 3) := by decide +kernel
theorem dX12_rank_41 : decode cX12_rank 41 = .ok (.aload_n 0, 1) := by decide +kernel
theorem dX12_rank_42 : decode cX12_rank 42 = .ok (.iload 4, 2) := by decide +kernel
theorem dX12_rank_44 : decode cX12_rank 44 = .ok (.iconst 0, 1) := by decide +kernel
theorem dX12_rank_45 : decode cX12_rank 45 = .ok (.invokevirtual 287, 3) := by decide +kernel
theorem dX12_rank_48 : decode cX12_rank 48 = .ok (.aload_n 0, 1) := by decide +kernel
theorem dX12_rank_49 : decode cX12_rank 49 = .ok (.iload_n 2, 1) := by decide +kernel
theorem dX12_rank_50 : decode cX12_rank 50 = .ok (.iconst 0, 1) := by decide +kernel
theorem dX12_rank_51 : decode cX12_rank 51 = .ok (.invokevirtual 287, 3) := by decide +kernel
theorem dX12_rank_54 : decode cX12_rank 54 = .ok (.if_icmp .ne 13, 3) := by decide +kernel
theorem dX12_rank_57 : decode cX12_rank 57 = .ok (.iload 4, 2) := by decide +kernel
theorem dX12_rank_59 : decode cX12_rank 59 = .ok (.iload_n 2, 1) := by decide +kernel
theorem dX12_rank_60 : decode cX12_rank 60 = .ok (.if_icmp .ge 7, 3) := by decide +kernel
theorem dX12_rank_63 : decode cX12_rank 63 = .ok (.iconst 1, 1) := by decide +kernel
theorem dX12_rank_64 : decode cX12_rank 64 = .ok (.goto 4, 3) := by decide +kernel
theorem dX12_rank_67 : decode cX12_rank 67 = .ok (.iconst 0, 1) := by decide +kernel
theorem dX12_rank_68 : decode cX12_rank 68 = .ok (.iadd, 1) := by decide +kernel
theorem dX12_rank_69 : decode cX12_rank 69 = .ok (.istore_n 3, 1) := by decide +kernel
theorem dX12_rank_70 : decode cX12_rank 70 = .ok (.iinc 4 1, 3) := by decide +kernel
theorem dX12_rank_73 : decode cX12_rank 73 = .ok (.goto (-58), 3) := by decide +kernel
theorem dX12_rank_76 : decode cX12_rank 76 = .ok (.iload_n 3, 1) := by decide +kernel
theorem dX12_rank_77 : decode cX12_rank 77 = .ok (.iload_n 1, 1) := by decide +kernel
theorem dX12_rank_78 : decode cX12_rank 78 = .ok (.if_icmp .ne 5, 3) := by decide +kernel
theorem dX12_rank_81 : decode cX12_rank 81 = .ok (.iload_n 2, 1) := by decide +kernel
theorem dX12_rank_82 : decode cX12_rank 82 = .ok (.ireturn, 1) := by decide +kernel
theorem dX12_rank_83 : decode cX12_rank 83 = .ok (.iinc 2 1, 3) := by decide +kernel
theorem dX12_rank_86 : decode cX12_rank 86 = .ok (.goto (-84), 3) := by decide +kernel
theorem dX12_rank_89 : decode cX12_rank 89 = .ok (.iconst (-1), 1) := by decide +kernel
theorem dX12_rank_90 : decode cX12_rank 90 = .ok (.ireturn, 1) := by decide +kernel
def w_X12_diary : List Cond := .code yX12_diary cX12_diary 4 (some .int) :: ([Cond.methodLink RX12 347 yX12_isFamily, Cond.instanceMethod yX12_isFamily, Cond.selects RX12 yX12_isFamily yX12_isFamily, Cond.initialized RX12, Cond.constant RX12 350 (-1000000), Cond.fieldLink RX12 309 "HeadYearModel" "years" "I", Cond.methodLink RX12 232 yX12_in, Cond.static yX12_in, Cond.fieldLink RX12 86 "HeadYearModel" "diaryHeads" "[I", Cond.fieldLink RX12 83 "HeadYearModel" "diaryLevel" "[I"] ++ (u_ws RX12 TX12 54 ++ (w_X12_isFamily ++ (w_X12_in ++ ([])))))
theorem in_X12_diary_X12 : ∀ w ∈ u_ws RX12 TX12 54, w ∈ w_X12_diary := fun _ h => List.mem_cons_of_mem _ (List.mem_append_right _ (List.mem_append_left _ h))
theorem gg_X12_diary_X12_isFamily : GoodIn w_X12_diary w_X12_isFamily := goodIn_sub (fun _ h => List.mem_cons_of_mem _ (List.mem_append_right _ (List.mem_append_right _ (List.mem_append_left _ h)))) (by decide +kernel)
theorem gg_X12_diary_X12_in : GoodIn w_X12_diary w_X12_in := goodIn_sub (fun _ h => List.mem_cons_of_mem _ (List.mem_append_right _ (List.mem_append_right _ (List.mem_append_right _ (List.mem_append_left _ h))))) (by decide +kernel)
theorem g_X12_diary_X12_in_232 : GoodIn w_X12_diary (va_wsS RX12 232 yX12_in w_X12_in) := goodIn_app (goodIn_of _ (by decide +kernel)) gg_X12_diary_X12_in
theorem g_X12_diary_X12_isFamily_347 : GoodIn w_X12_diary (wsV RX12 347 RX12 yX12_isFamily w_X12_isFamily) := goodIn_app (goodIn_of _ (by decide +kernel)) gg_X12_diary_X12_isFamily
set_option maxHeartbeats 4000000 in
set_option maxRecDepth 100000 in
theorem c_X12_diary (l : Launch) (E : py_E) (G : wf_G) (L : List Nat) (f : py_F) (sz : Nat) (u : Nat) (a : Int32) (b : Int32) (q : Int32) (hG : GT G) (hWF : WF E G L f) (Tu : G.1 u = 13) : Met l yX12_diary w_X12_diary ({ frames := 2, cells := 0, slots := 0, locals := 43 }) (py_Pc E [.ref u, .int a, .int b, .int q] L f sz) (py_Qi E L f sz (fun _ L1 f1 => L = L1 ∧ f = f1)) 0 0 (va_A (va_pl L f) sz) := by
  refine Met.ofW (cc := cX12_diary) (maxL := 4) (ret := (some .int)) (by decide) rfl ?_
  intro p e s m args below meth c s₁ B hml hv
  obtain ⟨rfl, rfl, hw⟩ := py_start hv
  have G0 : CallFix p m c cX12_diary 4 s _ w_X12_diary RX12 := ⟨B.exec, B.bytes, hml, findClass_of_methodNamed B.named, atoms_spec (ws := w_X12_diary) B.pre⟩
  have hr := B.returns
  have hlk := B.notSynchronized
  have kcm1000000 : (-1000000 : Int32).toInt = -1000000 := rfl
  have kcm1 : (-1 : Int32).toInt = -1 := rfl
  have kc0 : (0 : Int32).toInt = 0 := rfl
  have kc1 : (1 : Int32).toInt = 1 := rfl
  have kc10 : (10 : Int32).toInt = 10 := rfl
  have hl := lv_entry ([.ref u, .int a, .int b, .int q]) (n := 4) (Nat.le_of_ble_eq_true rfl)
  rw [lg_entry_eq]
  generalize (lg_sl ([.ref u, .int a, .int b, .int q]) ++ List.replicate (4 - (lg_sl ([.ref u, .int a, .int b, .int q])).length) Slot.unset).toArray = ls at hl ⊢
  have hl : lv_has ls 4 [(0, .ref u), (1, .int a), (2, .int b), (3, .int q)] := hl
  refine lv_aload_n G0.1 G0.2.1 dX12_diary_0 rfl (lv_at hl 0 rfl) ?_
  refine lv_iload_n G0.1 G0.2.1 dX12_diary_1 rfl (lv_at hl 1 rfl) ?_
  obtain ⟨v_1, v_2, v_3, v_4, v_5, v_6, v_7, v_8, v_9, v_10, v_11, v_12, y_13, v_14, v_15, v_16, v_17, v_18, y_19, v_20, y_21, v_22, hr_35, b_23, b_24, b_25, b_26, b_27, b_28, b_29, b_30, b_31, b_32, b_33, b_34⟩ := wg_12 hWF Tu
  refine py_calli hw (va_runV (As := [.int a]) (rest := []) G0 (c_X12_isFamily l E G L f s.heap.size u a hG hWF Tu) (cwV 1 G0.2.2.2.2 g_X12_diary_X12_isFamily_347 rfl rfl rfl (by decide +kernel) ⟨(Nat.le_of_ble_eq_true rfl), (Nat.le_of_ble_eq_true rfl)⟩) (py_preV hw (C := RX12) (T := TX12) (N := 54) rfl hr_35) rfl rfl hl.1 rfl (lv_room (Nat.le_of_ble_eq_true rfl)) dX12_diary_2 ⟨(Nat.le_of_ble_eq_true rfl), (Nat.le_of_ble_eq_true rfl)⟩) (fun r_40 L_36 f_37 H_38 locs hp_39 hw => ?_)
  obtain ⟨b_42, en_41, rfl, rfl⟩ := hp_39
  refine lv_if_eq (tgt := 31) G0.1 G0.2.1 dX12_diary_5 (by decide) (fun c_43 => ?_) (fun c_43 => ?_)
  · skip
    have tc_43 := ti_eq c_43
    clear en_41
    refine lv_ldcw (v := (-1000000)) G0.1 G0.2.1 G0.2.2.2.1 (G0.2.2.2.2 (Cond.constant RX12 350 (-1000000)) (by decide +kernel)) dX12_diary_31 ?_
    exact py_iret G0 hr rfl hlk hw ⟨rfl, rfl⟩ dX12_diary_34
  · skip
    have tc_43 := ti_ne c_43
    replace en_41 := en_41 (by omega)
    refine lv_iload_n G0.1 G0.2.1 dX12_diary_8 rfl (lv_at hl 2 rfl) ?_
    refine lv_iconst (v := 0) G0.1 G0.2.1 dX12_diary_9 (by decide) ?_
    refine lv_aload_n G0.1 G0.2.1 dX12_diary_10 rfl (lv_at hl 0 rfl) ?_
    refine py_get (C := RX12) (T := TX12) (N := 54) (k := 29) (v := .int v_12) G0 hw in_X12_diary_X12 rfl hr_35 (by decide) (by decide +kernel) rfl dX12_diary_11 ?_
    refine lv_iconst (v := 1) G0.1 G0.2.1 dX12_diary_14 (by decide) ?_
    refine lv_isub G0.1 G0.2.1 dX12_diary_15 ?_
    refine lv_topi (fun x_44 ex_44 => ?_)
    first | have tx_44 := ti_sub ex_44 (by omega -splitDisjunctions) (by omega -splitDisjunctions) | skip
    refine py_calli hw (va_runS (As := [.int b, .int 0, .int x_44]) (rest := []) G0 (c_X12_in l E G L f H_38.size b 0 x_44 hG hWF) (va_cwS 3 G0.2.2.2.2 g_X12_diary_X12_in_232 rfl rfl rfl (by decide +kernel) ⟨(Nat.le_of_ble_eq_true rfl), (Nat.le_of_ble_eq_true rfl)⟩) (py_preS hw) rfl rfl hl.1 rfl (lv_room (Nat.le_of_ble_eq_true rfl)) dX12_diary_16 ⟨(Nat.le_of_ble_eq_true rfl), (Nat.le_of_ble_eq_true rfl)⟩) (fun r_49 L_45 f_46 H_47 locs hp_48 hw => ?_)
    obtain ⟨b_52, en_50, en_51, rfl, rfl⟩ := hp_48
    have en_50 : r_49.toInt ≠ 0 → (0 : Int) ≤ b.toInt ∧ b.toInt ≤ x_44.toInt := en_50
    have en_51 : r_49.toInt = 0 → b.toInt < (0 : Int) ∨ x_44.toInt < b.toInt := en_51
    refine lv_if_eq (tgt := 31) G0.1 G0.2.1 dX12_diary_19 (by decide) (fun c_53 => ?_) (fun c_53 => ?_)
    · skip
      have tc_53 := ti_eq c_53
      clear en_50
      replace en_51 := en_51 (by omega)
      refine lv_ldcw (v := (-1000000)) G0.1 G0.2.1 G0.2.2.2.1 (G0.2.2.2.2 (Cond.constant RX12 350 (-1000000)) (by decide +kernel)) dX12_diary_31 ?_
      exact py_iret G0 hr rfl hlk hw ⟨rfl, rfl⟩ dX12_diary_34
    · skip
      have tc_53 := ti_ne c_53
      replace en_50 := en_50 (by omega)
      clear en_51
      refine lv_iload_n G0.1 G0.2.1 dX12_diary_22 rfl (lv_at hl 3 rfl) ?_
      refine lv_iconst (v := 0) G0.1 G0.2.1 dX12_diary_23 (by decide) ?_
      refine lv_iconst (v := 1) G0.1 G0.2.1 dX12_diary_24 (by decide) ?_
      refine py_calli hw (va_runS (As := [.int q, .int 0, .int 1]) (rest := []) G0 (c_X12_in l E G L f H_47.size q 0 1 hG hWF) (va_cwS 3 G0.2.2.2.2 g_X12_diary_X12_in_232 rfl rfl rfl (by decide +kernel) ⟨(Nat.le_of_ble_eq_true rfl), (Nat.le_of_ble_eq_true rfl)⟩) (py_preS hw) rfl rfl hl.1 rfl (lv_room (Nat.le_of_ble_eq_true rfl)) dX12_diary_25 ⟨(Nat.le_of_ble_eq_true rfl), (Nat.le_of_ble_eq_true rfl)⟩) (fun r_58 L_54 f_55 H_56 locs hp_57 hw => ?_)
      obtain ⟨b_61, en_59, en_60, rfl, rfl⟩ := hp_57
      have en_59 : r_58.toInt ≠ 0 → (0 : Int) ≤ q.toInt ∧ q.toInt ≤ (1 : Int) := en_59
      have en_60 : r_58.toInt = 0 → q.toInt < (0 : Int) ∨ (1 : Int) < q.toInt := en_60
      refine lv_if_ne (tgt := 35) G0.1 G0.2.1 dX12_diary_28 (by decide) (fun c_62 => ?_) (fun c_62 => ?_)
      · skip
        have tc_62 := ti_ne c_62
        replace en_59 := en_59 (by omega)
        clear en_60
        refine lv_iload_n G0.1 G0.2.1 dX12_diary_35 rfl (lv_at hl 3 rfl) ?_
        have jn_64 : ∀ (v_63 : Int32) (H_j64 : Heap) (locs : List Loc) (ls : Array Slot), py_W E (va_A (va_pl L f) s.heap.size) s L f H_j64 locs → lv_has ls 4 [(0, .ref u), (1, .int a), (2, .int b), (3, .int q)] → W p l e (headSpec w_X12_diary ({ frames := 2, cells := 0, slots := 0, locals := 43 })).room s m ([.ref u, .int a, .int b, .int q] : List Value).toArray below meth c H_j64 locs 0 0 (MQ below (py_Qi E L f s.heap.size (fun _ L1 f1 => L = L1 ∧ f = f1)) ([.ref u, .int a, .int b, .int q] : List Value).toArray s 0 0 (va_A (va_pl L f) s.heap.size)) (F0 m 64 ls [.int v_63]) := by
          intro v_63 H_j64 locs ls hw hl
          exact py_iret G0 hr rfl hlk hw ⟨rfl, rfl⟩ dX12_diary_64
        refine lv_if_ne (tgt := 53) G0.1 G0.2.1 dX12_diary_36 (by decide) (fun c_64 => ?_) (fun c_64 => ?_)
        · skip
          have tc_64 := ti_ne c_64
          refine lv_aload_n G0.1 G0.2.1 dX12_diary_53 rfl (lv_at hl 0 rfl) ?_
          refine py_get (C := RX12) (T := TX12) (N := 54) (k := 39) (v := .ref (G.2 u 39)) G0 hw in_X12_diary_X12 rfl hr_35 (by decide) (by decide +kernel) rfl dX12_diary_54 ?_
          refine lv_bipush (v := 10) G0.1 G0.2.1 dX12_diary_57 (by decide) ?_
          refine lv_iload_n G0.1 G0.2.1 dX12_diary_59 rfl (lv_at hl 2 rfl) ?_
          refine lv_imul G0.1 G0.2.1 dX12_diary_60 ?_
          refine lv_topi (fun x_65 ex_65 => ?_)
          first | have tx_65 := ti_muld ex_65 kc10 (by omega -splitDisjunctions) (by omega -splitDisjunctions) | skip
          refine lv_iload_n G0.1 G0.2.1 dX12_diary_61 rfl (lv_at hl 1 rfl) ?_
          refine lv_iadd G0.1 G0.2.1 dX12_diary_62 ?_
          refine lv_topi (fun x_66 ex_66 => ?_)
          first | have tx_66 := ti_add ex_66 (by omega -splitDisjunctions) (by omega -splitDisjunctions) | skip
          obtain ⟨g_67, ha_68, hi_69⟩ := wf_arr (n := 600) (lo := (-2147483648)) (hi := 2147483647) hWF (wt12_39 hG Tu) (by decide) (fun _ => rfl)
          have rg_70 : vp_in x_66 600 := ti_in (by omega) (by omega)
          refine py_iald G0 hw ha_68 rg_70 dX12_diary_63 ?_
          refine lv_topi (fun x_71 ex_71 => ?_)
          have bx_71 := wf_free x_71
          exact jn_64 x_71 _ _ ls hw (lv_sub hl [0, 1, 2, 3] rfl)
        · skip
          have tc_64 := ti_eq c_64
          refine lv_aload_n G0.1 G0.2.1 dX12_diary_39 rfl (lv_at hl 0 rfl) ?_
          refine py_get (C := RX12) (T := TX12) (N := 54) (k := 38) (v := .ref (G.2 u 38)) G0 hw in_X12_diary_X12 rfl hr_35 (by decide) (by decide +kernel) rfl dX12_diary_40 ?_
          refine lv_bipush (v := 10) G0.1 G0.2.1 dX12_diary_43 (by decide) ?_
          refine lv_iload_n G0.1 G0.2.1 dX12_diary_45 rfl (lv_at hl 2 rfl) ?_
          refine lv_imul G0.1 G0.2.1 dX12_diary_46 ?_
          refine lv_topi (fun x_72 ex_72 => ?_)
          first | have tx_72 := ti_muld ex_72 kc10 (by omega -splitDisjunctions) (by omega -splitDisjunctions) | skip
          refine lv_iload_n G0.1 G0.2.1 dX12_diary_47 rfl (lv_at hl 1 rfl) ?_
          refine lv_iadd G0.1 G0.2.1 dX12_diary_48 ?_
          refine lv_topi (fun x_73 ex_73 => ?_)
          first | have tx_73 := ti_add ex_73 (by omega -splitDisjunctions) (by omega -splitDisjunctions) | skip
          obtain ⟨g_74, ha_75, hi_76⟩ := wf_arr (n := 600) (lo := (-2147483648)) (hi := 2147483647) hWF (wt12_38 hG Tu) (by decide) (fun _ => rfl)
          have rg_77 : vp_in x_73 600 := ti_in (by omega) (by omega)
          refine py_iald G0 hw ha_75 rg_77 dX12_diary_49 ?_
          refine lv_topi (fun x_78 ex_78 => ?_)
          have bx_78 := wf_free x_78
          refine lv_goto (tgt := 64) G0.1 G0.2.1 dX12_diary_50 (by decide) ?_
          exact jn_64 x_78 _ _ ls hw (lv_sub hl [0, 1, 2, 3] rfl)
      · skip
        have tc_62 := ti_eq c_62
        clear en_59
        replace en_60 := en_60 (by omega)
        refine lv_ldcw (v := (-1000000)) G0.1 G0.2.1 G0.2.2.2.1 (G0.2.2.2.2 (Cond.constant RX12 350 (-1000000)) (by decide +kernel)) dX12_diary_31 ?_
        exact py_iret G0 hr rfl hlk hw ⟨rfl, rfl⟩ dX12_diary_34

def w_X12_climb : List Cond := .code yX12_climb cX12_climb 9 (some .int) :: ([Cond.methodLink RX12 347 yX12_isFamily, Cond.instanceMethod yX12_isFamily, Cond.selects RX12 yX12_isFamily yX12_isFamily, Cond.initialized RX12, Cond.constant RX12 350 (-1000000), Cond.methodLink RX12 232 yX12_in, Cond.static yX12_in, Cond.fieldLink RX12 309 "HeadYearModel" "years" "I", Cond.fieldLink RX12 83 "HeadYearModel" "diaryLevel" "[I"] ++ (u_ws RX12 TX12 54 ++ (w_X12_isFamily ++ (w_X12_in ++ ([])))))
theorem in_X12_climb_X12 : ∀ w ∈ u_ws RX12 TX12 54, w ∈ w_X12_climb := fun _ h => List.mem_cons_of_mem _ (List.mem_append_right _ (List.mem_append_left _ h))
theorem gg_X12_climb_X12_isFamily : GoodIn w_X12_climb w_X12_isFamily := goodIn_sub (fun _ h => List.mem_cons_of_mem _ (List.mem_append_right _ (List.mem_append_right _ (List.mem_append_left _ h)))) (by decide +kernel)
theorem gg_X12_climb_X12_in : GoodIn w_X12_climb w_X12_in := goodIn_sub (fun _ h => List.mem_cons_of_mem _ (List.mem_append_right _ (List.mem_append_right _ (List.mem_append_right _ (List.mem_append_left _ h))))) (by decide +kernel)
theorem g_X12_climb_X12_in_232 : GoodIn w_X12_climb (va_wsS RX12 232 yX12_in w_X12_in) := goodIn_app (goodIn_of _ (by decide +kernel)) gg_X12_climb_X12_in
theorem g_X12_climb_X12_isFamily_347 : GoodIn w_X12_climb (wsV RX12 347 RX12 yX12_isFamily w_X12_isFamily) := goodIn_app (goodIn_of _ (by decide +kernel)) gg_X12_climb_X12_isFamily
set_option maxHeartbeats 4000000 in
set_option maxRecDepth 100000 in
theorem c_X12_climb (l : Launch) (E : py_E) (G : wf_G) (L : List Nat) (f : py_F) (sz : Nat) (u : Nat) (a : Int32) (b : Int32) (hG : GT G) (hWF : WF E G L f) (Tu : G.1 u = 13) : Met l yX12_climb w_X12_climb ({ frames := 2, cells := 0, slots := 0, locals := 43 }) (py_Pc E [.ref u, .int a, .int b] L f sz) (py_Qi E L f sz (fun _ L1 f1 => L = L1 ∧ f = f1)) 0 0 (va_A (va_pl L f) sz) := by
  refine Met.ofW (cc := cX12_climb) (maxL := 9) (ret := (some .int)) (by decide) rfl ?_
  intro p e s m args below meth c s₁ B hml hv
  obtain ⟨rfl, rfl, hw⟩ := py_start hv
  have G0 : CallFix p m c cX12_climb 9 s _ w_X12_climb RX12 := ⟨B.exec, B.bytes, hml, findClass_of_methodNamed B.named, atoms_spec (ws := w_X12_climb) B.pre⟩
  have hr := B.returns
  have hlk := B.notSynchronized
  have kcm1000000 : (-1000000 : Int32).toInt = -1000000 := rfl
  have kcm1 : (-1 : Int32).toInt = -1 := rfl
  have kc0 : (0 : Int32).toInt = 0 := rfl
  have kc1 : (1 : Int32).toInt = 1 := rfl
  have kc10 : (10 : Int32).toInt = 10 := rfl
  have hl := lv_entry ([.ref u, .int a, .int b]) (n := 9) (Nat.le_of_ble_eq_true rfl)
  rw [lg_entry_eq]
  generalize (lg_sl ([.ref u, .int a, .int b]) ++ List.replicate (9 - (lg_sl ([.ref u, .int a, .int b])).length) Slot.unset).toArray = ls at hl ⊢
  have hl : lv_has ls 9 [(0, .ref u), (1, .int a), (2, .int b)] := hl
  refine lv_aload_n G0.1 G0.2.1 dX12_climb_0 rfl (lv_at hl 0 rfl) ?_
  refine lv_iload_n G0.1 G0.2.1 dX12_climb_1 rfl (lv_at hl 1 rfl) ?_
  obtain ⟨v_1, v_2, v_3, v_4, v_5, v_6, v_7, v_8, v_9, v_10, v_11, v_12, y_13, v_14, v_15, v_16, v_17, v_18, y_19, v_20, y_21, v_22, hr_35, b_23, b_24, b_25, b_26, b_27, b_28, b_29, b_30, b_31, b_32, b_33, b_34⟩ := wg_12 hWF Tu
  refine py_calli hw (va_runV (As := [.int a]) (rest := []) G0 (c_X12_isFamily l E G L f s.heap.size u a hG hWF Tu) (cwV 1 G0.2.2.2.2 g_X12_climb_X12_isFamily_347 rfl rfl rfl (by decide +kernel) ⟨(Nat.le_of_ble_eq_true rfl), (Nat.le_of_ble_eq_true rfl)⟩) (py_preV hw (C := RX12) (T := TX12) (N := 54) rfl hr_35) rfl rfl hl.1 rfl (lv_room (Nat.le_of_ble_eq_true rfl)) dX12_climb_2 ⟨(Nat.le_of_ble_eq_true rfl), (Nat.le_of_ble_eq_true rfl)⟩) (fun r_40 L_36 f_37 H_38 locs hp_39 hw => ?_)
  obtain ⟨b_42, en_41, rfl, rfl⟩ := hp_39
  refine lv_if_eq (tgt := 17) G0.1 G0.2.1 dX12_climb_5 (by decide) (fun c_43 => ?_) (fun c_43 => ?_)
  · skip
    have tc_43 := ti_eq c_43
    clear en_41
    refine lv_ldcw (v := (-1000000)) G0.1 G0.2.1 G0.2.2.2.1 (G0.2.2.2.2 (Cond.constant RX12 350 (-1000000)) (by decide +kernel)) dX12_climb_17 ?_
    exact py_iret G0 hr rfl hlk hw ⟨rfl, rfl⟩ dX12_climb_20
  · skip
    have tc_43 := ti_ne c_43
    replace en_41 := en_41 (by omega)
    refine lv_iload_n G0.1 G0.2.1 dX12_climb_8 rfl (lv_at hl 2 rfl) ?_
    refine lv_iconst (v := 0) G0.1 G0.2.1 dX12_climb_9 (by decide) ?_
    refine lv_iconst (v := 1) G0.1 G0.2.1 dX12_climb_10 (by decide) ?_
    refine py_calli hw (va_runS (As := [.int b, .int 0, .int 1]) (rest := []) G0 (c_X12_in l E G L f H_38.size b 0 1 hG hWF) (va_cwS 3 G0.2.2.2.2 g_X12_climb_X12_in_232 rfl rfl rfl (by decide +kernel) ⟨(Nat.le_of_ble_eq_true rfl), (Nat.le_of_ble_eq_true rfl)⟩) (py_preS hw) rfl rfl hl.1 rfl (lv_room (Nat.le_of_ble_eq_true rfl)) dX12_climb_11 ⟨(Nat.le_of_ble_eq_true rfl), (Nat.le_of_ble_eq_true rfl)⟩) (fun r_48 L_44 f_45 H_46 locs hp_47 hw => ?_)
    obtain ⟨b_51, en_49, en_50, rfl, rfl⟩ := hp_47
    have en_49 : r_48.toInt ≠ 0 → (0 : Int) ≤ b.toInt ∧ b.toInt ≤ (1 : Int) := en_49
    have en_50 : r_48.toInt = 0 → b.toInt < (0 : Int) ∨ (1 : Int) < b.toInt := en_50
    refine lv_if_ne (tgt := 21) G0.1 G0.2.1 dX12_climb_14 (by decide) (fun c_52 => ?_) (fun c_52 => ?_)
    · skip
      have tc_52 := ti_ne c_52
      replace en_49 := en_49 (by omega)
      clear en_50
      refine lv_iconst (v := 0) G0.1 G0.2.1 dX12_climb_21 (by decide) ?_
      refine lv_istore_n (lv' := [(3, .int 0), (0, .ref u), (1, .int a), (2, .int b)]) G0.1 G0.2.1 dX12_climb_22 rfl hl (by decide) rfl (fun ls hl => ?_)
      refine lv_iconst (v := 0) G0.1 G0.2.1 dX12_climb_23 (by decide) ?_
      refine lv_istore (lv' := [(4, .int 0), (3, .int 0), (0, .ref u), (1, .int a), (2, .int b)]) G0.1 G0.2.1 dX12_climb_24 hl (by decide) rfl (fun ls hl => ?_)
      refine lv_iconst (v := 0) G0.1 G0.2.1 dX12_climb_26 (by decide) ?_
      refine lv_istore (lv' := [(5, .int 0), (4, .int 0), (3, .int 0), (0, .ref u), (1, .int a), (2, .int b)]) G0.1 G0.2.1 dX12_climb_27 hl (by decide) rfl (fun ls hl => ?_)
      have lo_29 : ∀ n_29 : Nat, ∀ (v_53 : Int32) (v_54 : Int32) (v_55 : Int32) (H_j29 : Heap) (locs : List Loc) (ls : Array Slot), (2147483647 - v_53.toInt).toNat = n_29 → (0 ≤ v_53.toInt ∧ v_53.toInt ≤ 2147483647) → py_W E (va_A (va_pl L f) s.heap.size) s L f H_j29 locs → lv_has ls 9 [(5, .int v_53), (4, .int v_54), (3, .int v_55), (0, .ref u), (1, .int a), (2, .int b)] → W p l e (headSpec w_X12_climb ({ frames := 2, cells := 0, slots := 0, locals := 43 })).room s m ([.ref u, .int a, .int b] : List Value).toArray below meth c H_j29 locs 0 0 (MQ below (py_Qi E L f s.heap.size (fun _ L1 f1 => L = L1 ∧ f = f1)) ([.ref u, .int a, .int b] : List Value).toArray s 0 0 (va_A (va_pl L f) s.heap.size)) (F0 m 29 ls []) := by
        intro n_29
        induction n_29 using Nat.strongRecOn with
        | _ n_29 ih_29 =>
          intro v_53 v_54 v_55 H_j29 locs ls hn_29 bv_53 hw hl
          refine lv_iload G0.1 G0.2.1 dX12_climb_29 (lv_at hl 0 rfl) ?_
          refine lv_aload_n G0.1 G0.2.1 dX12_climb_31 rfl (lv_at hl 3 rfl) ?_
          refine py_get (C := RX12) (T := TX12) (N := 54) (k := 29) (v := .int v_12) G0 hw in_X12_climb_X12 rfl hr_35 (by decide) (by decide +kernel) rfl dX12_climb_32 ?_
          refine lv_icmp_ge (tgt := 124) G0.1 G0.2.1 dX12_climb_35 (by decide) (fun c_56 => ?_) (fun c_56 => ?_)
          · skip
            have tc_56 := ti_le c_56
            refine lv_iload_n G0.1 G0.2.1 dX12_climb_124 rfl (lv_at hl 5 rfl) ?_
            have jn_145 : ∀ (v_57 : Int32) (H_j145 : Heap) (locs : List Loc) (ls : Array Slot), py_W E (va_A (va_pl L f) s.heap.size) s L f H_j145 locs → lv_has ls 9 [(5, .int v_53), (4, .int v_54), (3, .int v_55), (0, .ref u), (1, .int a), (2, .int b)] → W p l e (headSpec w_X12_climb ({ frames := 2, cells := 0, slots := 0, locals := 43 })).room s m ([.ref u, .int a, .int b] : List Value).toArray below meth c H_j145 locs 0 0 (MQ below (py_Qi E L f s.heap.size (fun _ L1 f1 => L = L1 ∧ f = f1)) ([.ref u, .int a, .int b] : List Value).toArray s 0 0 (va_A (va_pl L f) s.heap.size)) (F0 m 145 ls [.int v_57]) := by
              intro v_57 H_j145 locs ls hw hl
              exact py_iret G0 hr rfl hlk hw ⟨rfl, rfl⟩ dX12_climb_145
            refine lv_if_ne (tgt := 132) G0.1 G0.2.1 dX12_climb_125 (by decide) (fun c_58 => ?_) (fun c_58 => ?_)
            · skip
              have tc_58 := ti_ne c_58
              refine lv_aload_n G0.1 G0.2.1 dX12_climb_132 rfl (lv_at hl 3 rfl) ?_
              refine py_get (C := RX12) (T := TX12) (N := 54) (k := 29) (v := .int v_12) G0 hw in_X12_climb_X12 rfl hr_35 (by decide) (by decide +kernel) rfl dX12_climb_133 ?_
              refine lv_if_ne (tgt := 143) G0.1 G0.2.1 dX12_climb_136 (by decide) (fun c_59 => ?_) (fun c_59 => ?_)
              · skip
                have tc_59 := ti_ne c_59
                refine lv_iload G0.1 G0.2.1 dX12_climb_143 (lv_at hl 1 rfl) ?_
                exact jn_145 v_54 _ _ ls hw (lv_sub hl [0, 1, 2, 3, 4, 5] rfl)
              · skip
                have tc_59 := ti_eq c_59
                refine lv_iconst (v := (-1)) G0.1 G0.2.1 dX12_climb_139 (by decide) ?_
                refine lv_goto (tgt := 145) G0.1 G0.2.1 dX12_climb_140 (by decide) ?_
                exact jn_145 (-1) _ _ ls hw (lv_sub hl [0, 1, 2, 3, 4, 5] rfl)
            · skip
              have tc_58 := ti_eq c_58
              refine lv_iload_n G0.1 G0.2.1 dX12_climb_128 rfl (lv_at hl 2 rfl) ?_
              refine lv_goto (tgt := 145) G0.1 G0.2.1 dX12_climb_129 (by decide) ?_
              exact jn_145 v_55 _ _ ls hw (lv_sub hl [0, 1, 2, 3, 4, 5] rfl)
          · skip
            have tc_56 := ti_nle c_56
            refine lv_iload G0.1 G0.2.1 dX12_climb_38 (lv_at hl 0 rfl) ?_
            refine lv_iconst (v := 1) G0.1 G0.2.1 dX12_climb_40 (by decide) ?_
            refine lv_iadd G0.1 G0.2.1 dX12_climb_41 ?_
            refine lv_topi (fun x_60 ex_60 => ?_)
            first | have tx_60 := ti_add ex_60 (by omega -splitDisjunctions) (by omega -splitDisjunctions) | skip
            refine lv_istore (lv' := [(6, .int x_60), (5, .int v_53), (4, .int v_54), (3, .int v_55), (0, .ref u), (1, .int a), (2, .int b)]) G0.1 G0.2.1 dX12_climb_42 hl (by decide) rfl (fun ls hl => ?_)
            have lo_44 : ∀ n_44 : Nat, ∀ (v_61 : Int32) (v_62 : Int32) (v_63 : Int32) (H_j44 : Heap) (locs : List Loc) (ls : Array Slot), (2147483647 - v_61.toInt).toNat = n_44 → (0 ≤ v_61.toInt ∧ v_61.toInt ≤ 2147483647) → py_W E (va_A (va_pl L f) s.heap.size) s L f H_j44 locs → lv_has ls 9 [(6, .int v_61), (5, .int v_53), (4, .int v_62), (3, .int v_63), (0, .ref u), (1, .int a), (2, .int b)] → W p l e (headSpec w_X12_climb ({ frames := 2, cells := 0, slots := 0, locals := 43 })).room s m ([.ref u, .int a, .int b] : List Value).toArray below meth c H_j44 locs 0 0 (MQ below (py_Qi E L f s.heap.size (fun _ L1 f1 => L = L1 ∧ f = f1)) ([.ref u, .int a, .int b] : List Value).toArray s 0 0 (va_A (va_pl L f) s.heap.size)) (F0 m 44 ls []) := by
              intro n_44
              induction n_44 using Nat.strongRecOn with
              | _ n_44 ih_44 =>
                intro v_61 v_62 v_63 H_j44 locs ls hn_44 bv_61 hw hl
                refine lv_iload G0.1 G0.2.1 dX12_climb_44 (lv_at hl 0 rfl) ?_
                refine lv_aload_n G0.1 G0.2.1 dX12_climb_46 rfl (lv_at hl 4 rfl) ?_
                refine py_get (C := RX12) (T := TX12) (N := 54) (k := 29) (v := .int v_12) G0 hw in_X12_climb_X12 rfl hr_35 (by decide) (by decide +kernel) rfl dX12_climb_47 ?_
                refine lv_icmp_ge (tgt := 118) G0.1 G0.2.1 dX12_climb_50 (by decide) (fun c_64 => ?_) (fun c_64 => ?_)
                · skip
                  have tc_64 := ti_le c_64
                  obtain ⟨x_65, ex_65⟩ : ∃ y : Int32, y = v_53 + 1 := ⟨_, rfl⟩
                  first | have tx_65 := ti_add ex_65 (by omega -splitDisjunctions) (by omega -splitDisjunctions) | skip
                  refine lv_iinc (v := x_65) (lv' := [(5, .int x_65), (6, .int v_61), (4, .int v_62), (3, .int v_63), (0, .ref u), (1, .int a), (2, .int b)]) G0.1 G0.2.1 dX12_climb_118 hl (k := 1) rfl (show _ + (1 : Int32) = _ from ex_65.symm) (by decide) rfl (fun ls hl => ?_)
                  refine lv_goto (tgt := 29) G0.1 G0.2.1 dX12_climb_121 (by decide) ?_
                  exact ih_29 ((2147483647 - x_65.toInt).toNat) (by omega) x_65 v_62 v_63 _ _ ls rfl ⟨by omega, by omega⟩ hw (lv_sub hl [0, 2, 3, 4, 5, 6] rfl)
                · skip
                  have tc_64 := ti_nle c_64
                  refine lv_aload_n G0.1 G0.2.1 dX12_climb_53 rfl (lv_at hl 4 rfl) ?_
                  refine py_get (C := RX12) (T := TX12) (N := 54) (k := 38) (v := .ref (G.2 u 38)) G0 hw in_X12_climb_X12 rfl hr_35 (by decide) (by decide +kernel) rfl dX12_climb_54 ?_
                  refine lv_bipush (v := 10) G0.1 G0.2.1 dX12_climb_57 (by decide) ?_
                  refine lv_iload G0.1 G0.2.1 dX12_climb_59 (lv_at hl 1 rfl) ?_
                  refine lv_imul G0.1 G0.2.1 dX12_climb_61 ?_
                  refine lv_topi (fun x_66 ex_66 => ?_)
                  first | have tx_66 := ti_muld ex_66 kc10 (by omega -splitDisjunctions) (by omega -splitDisjunctions) | skip
                  refine lv_iload_n G0.1 G0.2.1 dX12_climb_62 rfl (lv_at hl 5 rfl) ?_
                  refine lv_iadd G0.1 G0.2.1 dX12_climb_63 ?_
                  refine lv_topi (fun x_67 ex_67 => ?_)
                  first | have tx_67 := ti_add ex_67 (by omega -splitDisjunctions) (by omega -splitDisjunctions) | skip
                  obtain ⟨g_68, ha_69, hi_70⟩ := wf_arr (n := 600) (lo := (-2147483648)) (hi := 2147483647) hWF (wt12_38 hG Tu) (by decide) (fun _ => rfl)
                  have rg_71 : vp_in x_67 600 := ti_in (by omega) (by omega)
                  refine py_iald G0 hw ha_69 rg_71 dX12_climb_64 ?_
                  refine lv_topi (fun x_72 ex_72 => ?_)
                  have bx_72 := wf_free x_72
                  refine lv_istore (lv' := [(7, .int x_72), (6, .int v_61), (5, .int v_53), (4, .int v_62), (3, .int v_63), (0, .ref u), (1, .int a), (2, .int b)]) G0.1 G0.2.1 dX12_climb_65 hl (by decide) rfl (fun ls hl => ?_)
                  refine lv_aload_n G0.1 G0.2.1 dX12_climb_67 rfl (lv_at hl 5 rfl) ?_
                  refine py_get (C := RX12) (T := TX12) (N := 54) (k := 38) (v := .ref (G.2 u 38)) G0 hw in_X12_climb_X12 rfl hr_35 (by decide) (by decide +kernel) rfl dX12_climb_68 ?_
                  refine lv_bipush (v := 10) G0.1 G0.2.1 dX12_climb_71 (by decide) ?_
                  refine lv_iload G0.1 G0.2.1 dX12_climb_73 (lv_at hl 1 rfl) ?_
                  refine lv_imul G0.1 G0.2.1 dX12_climb_75 ?_
                  refine lv_topi (fun x_73 ex_73 => ?_)
                  first | have tx_73 := ti_muld ex_73 kc10 (by omega -splitDisjunctions) (by omega -splitDisjunctions) | skip
                  refine lv_iload_n G0.1 G0.2.1 dX12_climb_76 rfl (lv_at hl 6 rfl) ?_
                  refine lv_iadd G0.1 G0.2.1 dX12_climb_77 ?_
                  refine lv_topi (fun x_74 ex_74 => ?_)
                  first | have tx_74 := ti_add ex_74 (by omega -splitDisjunctions) (by omega -splitDisjunctions) | skip
                  have rg_75 : vp_in x_74 600 := ti_in (by omega) (by omega)
                  refine py_iald G0 hw ha_69 rg_75 dX12_climb_78 ?_
                  refine lv_topi (fun x_76 ex_76 => ?_)
                  have bx_76 := wf_free x_76
                  refine lv_istore (lv' := [(8, .int x_76), (7, .int x_72), (6, .int v_61), (5, .int v_53), (4, .int v_62), (3, .int v_63), (0, .ref u), (1, .int a), (2, .int b)]) G0.1 G0.2.1 dX12_climb_79 hl (by decide) rfl (fun ls hl => ?_)
                  refine lv_iload G0.1 G0.2.1 dX12_climb_81 (lv_at hl 1 rfl) ?_
                  refine lv_iconst (v := (-1)) G0.1 G0.2.1 dX12_climb_83 (by decide) ?_
                  have jn_112 : ∀ (v_77 : Int32) (v_78 : Int32) (H_j112 : Heap) (locs : List Loc) (ls : Array Slot), py_W E (va_A (va_pl L f) s.heap.size) s L f H_j112 locs → lv_has ls 9 [(8, .int x_76), (7, .int x_72), (6, .int v_61), (5, .int v_53), (4, .int v_77), (3, .int v_78), (0, .ref u), (1, .int a), (2, .int b)] → W p l e (headSpec w_X12_climb ({ frames := 2, cells := 0, slots := 0, locals := 43 })).room s m ([.ref u, .int a, .int b] : List Value).toArray below meth c H_j112 locs 0 0 (MQ below (py_Qi E L f s.heap.size (fun _ L1 f1 => L = L1 ∧ f = f1)) ([.ref u, .int a, .int b] : List Value).toArray s 0 0 (va_A (va_pl L f) s.heap.size)) (F0 m 112 ls []) := by
                    intro v_77 v_78 H_j112 locs ls hw hl
                    obtain ⟨x_79, ex_79⟩ : ∃ y : Int32, y = v_61 + 1 := ⟨_, rfl⟩
                    first | have tx_79 := ti_add ex_79 (by omega -splitDisjunctions) (by omega -splitDisjunctions) | skip
                    refine lv_iinc (v := x_79) (lv' := [(6, .int x_79), (8, .int x_76), (7, .int x_72), (5, .int v_53), (4, .int v_77), (3, .int v_78), (0, .ref u), (1, .int a), (2, .int b)]) G0.1 G0.2.1 dX12_climb_112 hl (k := 2) rfl (show _ + (1 : Int32) = _ from ex_79.symm) (by decide) rfl (fun ls hl => ?_)
                    refine lv_goto (tgt := 44) G0.1 G0.2.1 dX12_climb_115 (by decide) ?_
                    exact ih_44 ((2147483647 - x_79.toInt).toNat) (by omega) x_79 v_77 v_78 _ _ ls rfl ⟨by omega, by omega⟩ hw (lv_sub hl [0, 3, 4, 5, 6, 7, 8] rfl)
                  refine lv_icmp_eq (tgt := 112) G0.1 G0.2.1 dX12_climb_84 (by decide) (fun c_80 => ?_) (fun c_80 => ?_)
                  · skip
                    have tc_80 := ti_eq c_80
                    exact jn_112 v_62 v_63 _ _ ls hw (lv_sub hl [0, 1, 2, 3, 4, 5, 6, 7, 8] rfl)
                  · skip
                    have tc_80 := ti_ne c_80
                    refine lv_iload G0.1 G0.2.1 dX12_climb_87 (lv_at hl 0 rfl) ?_
                    refine lv_iconst (v := (-1)) G0.1 G0.2.1 dX12_climb_89 (by decide) ?_
                    refine lv_icmp_eq (tgt := 112) G0.1 G0.2.1 dX12_climb_90 (by decide) (fun c_81 => ?_) (fun c_81 => ?_)
                    · skip
                      have tc_81 := ti_eq c_81
                      exact jn_112 v_62 v_63 _ _ ls hw (lv_sub hl [0, 1, 2, 3, 4, 5, 6, 7, 8] rfl)
                    · skip
                      have tc_81 := ti_ne c_81
                      refine lv_iload G0.1 G0.2.1 dX12_climb_93 (lv_at hl 0 rfl) ?_
                      refine lv_iload G0.1 G0.2.1 dX12_climb_95 (lv_at hl 1 rfl) ?_
                      refine lv_isub G0.1 G0.2.1 dX12_climb_97 ?_
                      refine lv_topi (fun x_82 ex_82 => ?_)
                      first | have tx_82 := ti_sub ex_82 (by omega -splitDisjunctions) (by omega -splitDisjunctions) | skip
                      refine lv_iload_n G0.1 G0.2.1 dX12_climb_98 rfl (lv_at hl 5 rfl) ?_
                      refine lv_icmp_le (tgt := 112) G0.1 G0.2.1 dX12_climb_99 (by decide) (fun c_83 => ?_) (fun c_83 => ?_)
                      · skip
                        have tc_83 := ti_le c_83
                        exact jn_112 v_62 v_63 _ _ ls hw (lv_sub hl [0, 1, 2, 3, 4, 5, 6, 7, 8] rfl)
                      · skip
                        have tc_83 := ti_nle c_83
                        refine lv_iload G0.1 G0.2.1 dX12_climb_102 (lv_at hl 0 rfl) ?_
                        refine lv_iload G0.1 G0.2.1 dX12_climb_104 (lv_at hl 1 rfl) ?_
                        refine lv_isub G0.1 G0.2.1 dX12_climb_106 ?_
                        refine lv_topi (fun x_84 ex_84 => ?_)
                        first | have tx_84 := ti_sub ex_84 (by omega -splitDisjunctions) (by omega -splitDisjunctions) | skip
                        refine lv_istore_n (lv' := [(3, .int x_84), (8, .int x_76), (7, .int x_72), (6, .int v_61), (5, .int v_53), (4, .int v_62), (0, .ref u), (1, .int a), (2, .int b)]) G0.1 G0.2.1 dX12_climb_107 rfl hl (by decide) rfl (fun ls hl => ?_)
                        refine lv_iload G0.1 G0.2.1 dX12_climb_108 (lv_at hl 4 rfl) ?_
                        refine lv_istore (lv' := [(4, .int v_53), (3, .int x_84), (8, .int x_76), (7, .int x_72), (6, .int v_61), (5, .int v_53), (0, .ref u), (1, .int a), (2, .int b)]) G0.1 G0.2.1 dX12_climb_110 hl (by decide) rfl (fun ls hl => ?_)
                        exact jn_112 v_53 x_84 _ _ ls hw (lv_sub hl [2, 3, 4, 5, 0, 1, 6, 7, 8] rfl)
            exact lo_44 _ x_60 v_54 v_55 _ _ ls rfl ⟨by omega, by omega⟩ hw (lv_sub hl [0, 1, 2, 3, 4, 5, 6] rfl)
      exact lo_29 _ 0 0 0 _ _ ls rfl ⟨by omega, by omega⟩ hw (lv_sub hl [0, 1, 2, 3, 4, 5] rfl)
    · skip
      have tc_52 := ti_eq c_52
      clear en_49
      replace en_50 := en_50 (by omega)
      refine lv_ldcw (v := (-1000000)) G0.1 G0.2.1 G0.2.2.2.1 (G0.2.2.2.2 (Cond.constant RX12 350 (-1000000)) (by decide +kernel)) dX12_climb_17 ?_
      exact py_iret G0 hr rfl hlk hw ⟨rfl, rfl⟩ dX12_climb_20

def w_X12_full : List Cond := .code yX12_full cX12_full 3 (some .int) :: ([Cond.fieldLink RX12 290 "HeadYearModel" "families" "I", Cond.fieldLink RX12 302 "HeadYearModel" "levels" "I", Cond.methodLink RX12 333 yX12_empties, Cond.instanceMethod yX12_empties, Cond.selects RX12 yX12_empties yX12_empties, Cond.initialized RX12] ++ (u_ws RX12 TX12 54 ++ (w_X12_empties ++ ([]))))
theorem in_X12_full_X12 : ∀ w ∈ u_ws RX12 TX12 54, w ∈ w_X12_full := fun _ h => List.mem_cons_of_mem _ (List.mem_append_right _ (List.mem_append_left _ h))
theorem gg_X12_full_X12_empties : GoodIn w_X12_full w_X12_empties := goodIn_sub (fun _ h => List.mem_cons_of_mem _ (List.mem_append_right _ (List.mem_append_right _ (List.mem_append_left _ h)))) (by decide +kernel)
theorem g_X12_full_X12_empties_333 : GoodIn w_X12_full (wsV RX12 333 RX12 yX12_empties w_X12_empties) := goodIn_app (goodIn_of _ (by decide +kernel)) gg_X12_full_X12_empties
set_option maxHeartbeats 4000000 in
set_option maxRecDepth 100000 in
theorem c_X12_full (l : Launch) (E : py_E) (G : wf_G) (L : List Nat) (f : py_F) (sz : Nat) (u : Nat) (hG : GT G) (hWF : WF E G L f) (Tu : G.1 u = 13) : Met l yX12_full w_X12_full ({ frames := 4, cells := 0, slots := 0, locals := 91 }) (py_Pc E [.ref u] L f sz) (py_Qi E L f sz (fun _ L1 f1 => L = L1 ∧ f = f1)) 0 0 (va_A (va_pl L f) sz) := by
  refine Met.ofW (cc := cX12_full) (maxL := 3) (ret := (some .int)) (by decide) rfl ?_
  intro p e s m args below meth c s₁ B hml hv
  obtain ⟨rfl, rfl, hw⟩ := py_start hv
  have G0 : CallFix p m c cX12_full 3 s _ w_X12_full RX12 := ⟨B.exec, B.bytes, hml, findClass_of_methodNamed B.named, atoms_spec (ws := w_X12_full) B.pre⟩
  have hr := B.returns
  have hlk := B.notSynchronized
  have kcm1 : (-1 : Int32).toInt = -1 := rfl
  have kc0 : (0 : Int32).toInt = 0 := rfl
  have kc1 : (1 : Int32).toInt = 1 := rfl
  have hl := lv_entry ([.ref u]) (n := 3) (Nat.le_of_ble_eq_true rfl)
  rw [lg_entry_eq]
  generalize (lg_sl ([.ref u]) ++ List.replicate (3 - (lg_sl ([.ref u])).length) Slot.unset).toArray = ls at hl ⊢
  have hl : lv_has ls 3 [(0, .ref u)] := hl
  refine lv_aload_n G0.1 G0.2.1 dX12_full_0 rfl (lv_at hl 0 rfl) ?_
  obtain ⟨v_1, v_2, v_3, v_4, v_5, v_6, v_7, v_8, v_9, v_10, v_11, v_12, y_13, v_14, v_15, v_16, v_17, v_18, y_19, v_20, y_21, v_22, hr_35, b_23, b_24, b_25, b_26, b_27, b_28, b_29, b_30, b_31, b_32, b_33, b_34⟩ := wg_12 hWF Tu
  refine py_get (C := RX12) (T := TX12) (N := 54) (k := 25) (v := .int v_11) G0 hw in_X12_full_X12 rfl hr_35 (by decide) (by decide +kernel) rfl dX12_full_1 ?_
  refine lv_if_ne (tgt := 9) G0.1 G0.2.1 dX12_full_4 (by decide) (fun c_36 => ?_) (fun c_36 => ?_)
  · skip
    have tc_36 := ti_ne c_36
    refine lv_iconst (v := 0) G0.1 G0.2.1 dX12_full_9 (by decide) ?_
    refine lv_istore_n (lv' := [(1, .int 0), (0, .ref u)]) G0.1 G0.2.1 dX12_full_10 rfl hl (by decide) rfl (fun ls hl => ?_)
    refine lv_iconst (v := 0) G0.1 G0.2.1 dX12_full_11 (by decide) ?_
    refine lv_istore_n (lv' := [(2, .int 0), (1, .int 0), (0, .ref u)]) G0.1 G0.2.1 dX12_full_12 rfl hl (by decide) rfl (fun ls hl => ?_)
    have lo_13 : ∀ n_13 : Nat, ∀ (v_37 : Int32) (v_38 : Int32) (H_j13 : Heap) (locs : List Loc) (ls : Array Slot), (2147483647 - v_37.toInt).toNat = n_13 → (0 ≤ v_37.toInt ∧ v_37.toInt ≤ 2147483647) → py_W E (va_A (va_pl L f) s.heap.size) s L f H_j13 locs → lv_has ls 3 [(2, .int v_37), (1, .int v_38), (0, .ref u)] → W p l e (headSpec w_X12_full ({ frames := 4, cells := 0, slots := 0, locals := 91 })).room s m ([.ref u] : List Value).toArray below meth c H_j13 locs 0 0 (MQ below (py_Qi E L f s.heap.size (fun _ L1 f1 => L = L1 ∧ f = f1)) ([.ref u] : List Value).toArray s 0 0 (va_A (va_pl L f) s.heap.size)) (F0 m 13 ls []) := by
      intro n_13
      induction n_13 using Nat.strongRecOn with
      | _ n_13 ih_13 =>
        intro v_37 v_38 H_j13 locs ls hn_13 bv_37 hw hl
        refine lv_iload_n G0.1 G0.2.1 dX12_full_13 rfl (lv_at hl 0 rfl) ?_
        refine lv_aload_n G0.1 G0.2.1 dX12_full_14 rfl (lv_at hl 2 rfl) ?_
        refine py_get (C := RX12) (T := TX12) (N := 54) (k := 24) (v := .int v_10) G0 hw in_X12_full_X12 rfl hr_35 (by decide) (by decide +kernel) rfl dX12_full_15 ?_
        refine lv_icmp_ge (tgt := 45) G0.1 G0.2.1 dX12_full_18 (by decide) (fun c_39 => ?_) (fun c_39 => ?_)
        · skip
          have tc_39 := ti_le c_39
          refine lv_iload_n G0.1 G0.2.1 dX12_full_45 rfl (lv_at hl 1 rfl) ?_
          exact py_iret G0 hr rfl hlk hw ⟨rfl, rfl⟩ dX12_full_46
        · skip
          have tc_39 := ti_nle c_39
          refine lv_iload_n G0.1 G0.2.1 dX12_full_21 rfl (lv_at hl 1 rfl) ?_
          refine lv_aload_n G0.1 G0.2.1 dX12_full_22 rfl (lv_at hl 2 rfl) ?_
          refine lv_iload_n G0.1 G0.2.1 dX12_full_23 rfl (lv_at hl 0 rfl) ?_
          refine py_calli hw (va_runV (As := [.int v_37]) (rest := [.int v_38]) G0 (c_X12_empties l E G L f H_j13.size u v_37 hG hWF Tu ⟨by omega, by omega⟩) (cwV 1 G0.2.2.2.2 g_X12_full_X12_empties_333 rfl rfl rfl (by decide +kernel) ⟨(Nat.le_of_ble_eq_true rfl), (Nat.le_of_ble_eq_true rfl)⟩) (py_preV hw (C := RX12) (T := TX12) (N := 54) rfl hr_35) rfl rfl hl.1 rfl (lv_room (Nat.le_of_ble_eq_true rfl)) dX12_full_24 ⟨(Nat.le_of_ble_eq_true rfl), (Nat.le_of_ble_eq_true rfl)⟩) (fun r_44 L_40 f_41 H_42 locs hp_43 hw => ?_)
          obtain ⟨en_45, en_46, en_47, rfl, rfl⟩ := hp_43
          have br_44 := wf_free r_44
          have jn_37 : ∀ (v_48 : Int32) (H_j37 : Heap) (locs : List Loc) (ls : Array Slot), py_W E (va_A (va_pl L f) s.heap.size) s L f H_j37 locs → lv_has ls 3 [(2, .int v_37), (1, .int v_38), (0, .ref u)] → W p l e (headSpec w_X12_full ({ frames := 4, cells := 0, slots := 0, locals := 91 })).room s m ([.ref u] : List Value).toArray below meth c H_j37 locs 0 0 (MQ below (py_Qi E L f s.heap.size (fun _ L1 f1 => L = L1 ∧ f = f1)) ([.ref u] : List Value).toArray s 0 0 (va_A (va_pl L f) s.heap.size)) (F0 m 37 ls [.int v_48, .int v_38]) := by
            intro v_48 H_j37 locs ls hw hl
            refine lv_ior G0.1 G0.2.1 dX12_full_37 ?_
            refine lv_topi (fun x_49 ex_49 => ?_)
            refine lv_istore_n (lv' := [(1, .int x_49), (2, .int v_37), (0, .ref u)]) G0.1 G0.2.1 dX12_full_38 rfl hl (by decide) rfl (fun ls hl => ?_)
            obtain ⟨x_50, ex_50⟩ : ∃ y : Int32, y = v_37 + 1 := ⟨_, rfl⟩
            first | have tx_50 := ti_add ex_50 (by omega -splitDisjunctions) (by omega -splitDisjunctions) | skip
            refine lv_iinc (v := x_50) (lv' := [(2, .int x_50), (1, .int x_49), (0, .ref u)]) G0.1 G0.2.1 dX12_full_39 hl (k := 1) rfl (show _ + (1 : Int32) = _ from ex_50.symm) (by decide) rfl (fun ls hl => ?_)
            refine lv_goto (tgt := 13) G0.1 G0.2.1 dX12_full_42 (by decide) ?_
            exact ih_13 ((2147483647 - x_50.toInt).toNat) (by omega) x_50 x_49 _ _ ls rfl ⟨by omega, by omega⟩ hw (lv_sub hl [0, 1, 2] rfl)
          refine lv_if_ne (tgt := 36) G0.1 G0.2.1 dX12_full_27 (by decide) (fun c_51 => ?_) (fun c_51 => ?_)
          · skip
            have tc_51 := ti_ne c_51
            refine lv_iconst (v := 0) G0.1 G0.2.1 dX12_full_36 (by decide) ?_
            exact jn_37 0 _ _ ls hw (lv_sub hl [0, 1, 2] rfl)
          · skip
            have tc_51 := ti_eq c_51
            refine lv_iconst (v := 1) G0.1 G0.2.1 dX12_full_30 (by decide) ?_
            refine lv_iload_n G0.1 G0.2.1 dX12_full_31 rfl (lv_at hl 0 rfl) ?_
            refine lv_ishl G0.1 G0.2.1 dX12_full_32 ?_
            refine lv_topi (fun x_52 ex_52 => ?_)
            refine lv_goto (tgt := 37) G0.1 G0.2.1 dX12_full_33 (by decide) ?_
            exact jn_37 x_52 _ _ ls hw (lv_sub hl [0, 1, 2] rfl)
    exact lo_13 _ 0 0 _ _ ls rfl ⟨by omega, by omega⟩ hw (lv_sub hl [0, 1, 2] rfl)
  · skip
    have tc_36 := ti_eq c_36
    refine lv_iconst (v := (-1)) G0.1 G0.2.1 dX12_full_7 (by decide) ?_
    exact py_iret G0 hr rfl hlk hw ⟨rfl, rfl⟩ dX12_full_8

def w_X12_hungry : List Cond := .code yX12_hungry cX12_hungry 5 (some .int) :: ([Cond.fieldLink RX12 290 "HeadYearModel" "families" "I", Cond.methodLink RX12 232 yX12_in, Cond.static yX12_in, Cond.initialized RX12, Cond.fieldLink RX12 302 "HeadYearModel" "levels" "I", Cond.methodLink RX12 336 yX12_lackAt, Cond.instanceMethod yX12_lackAt, Cond.selects RX12 yX12_lackAt yX12_lackAt] ++ (u_ws RX12 TX12 54 ++ (w_X12_in ++ (w_X12_lackAt ++ ([])))))
theorem in_X12_hungry_X12 : ∀ w ∈ u_ws RX12 TX12 54, w ∈ w_X12_hungry := fun _ h => List.mem_cons_of_mem _ (List.mem_append_right _ (List.mem_append_left _ h))
theorem gg_X12_hungry_X12_in : GoodIn w_X12_hungry w_X12_in := goodIn_sub (fun _ h => List.mem_cons_of_mem _ (List.mem_append_right _ (List.mem_append_right _ (List.mem_append_left _ h)))) (by decide +kernel)
theorem gg_X12_hungry_X12_lackAt : GoodIn w_X12_hungry w_X12_lackAt := goodIn_sub (fun _ h => List.mem_cons_of_mem _ (List.mem_append_right _ (List.mem_append_right _ (List.mem_append_right _ (List.mem_append_left _ h))))) (by decide +kernel)
theorem g_X12_hungry_X12_in_232 : GoodIn w_X12_hungry (va_wsS RX12 232 yX12_in w_X12_in) := goodIn_app (goodIn_of _ (by decide +kernel)) gg_X12_hungry_X12_in
theorem g_X12_hungry_X12_lackAt_336 : GoodIn w_X12_hungry (wsV RX12 336 RX12 yX12_lackAt w_X12_lackAt) := goodIn_app (goodIn_of _ (by decide +kernel)) gg_X12_hungry_X12_lackAt
set_option maxHeartbeats 4000000 in
set_option maxRecDepth 100000 in
theorem c_X12_hungry (l : Launch) (E : py_E) (G : wf_G) (L : List Nat) (f : py_F) (sz : Nat) (u : Nat) (a : Int32) (hG : GT G) (hWF : WF E G L f) (Tu : G.1 u = 13) : Met l yX12_hungry w_X12_hungry ({ frames := 3, cells := 0, slots := 0, locals := 66 }) (py_Pc E [.ref u, .int a] L f sz) (py_Qi E L f sz (fun _ L1 f1 => L = L1 ∧ f = f1)) 0 0 (va_A (va_pl L f) sz) := by
  refine Met.ofW (cc := cX12_hungry) (maxL := 5) (ret := (some .int)) (by decide) rfl ?_
  intro p e s m args below meth c s₁ B hml hv
  obtain ⟨rfl, rfl, hw⟩ := py_start hv
  have G0 : CallFix p m c cX12_hungry 5 s _ w_X12_hungry RX12 := ⟨B.exec, B.bytes, hml, findClass_of_methodNamed B.named, atoms_spec (ws := w_X12_hungry) B.pre⟩
  have hr := B.returns
  have hlk := B.notSynchronized
  have kcm1 : (-1 : Int32).toInt = -1 := rfl
  have kc0 : (0 : Int32).toInt = 0 := rfl
  have kc1 : (1 : Int32).toInt = 1 := rfl
  have hl := lv_entry ([.ref u, .int a]) (n := 5) (Nat.le_of_ble_eq_true rfl)
  rw [lg_entry_eq]
  generalize (lg_sl ([.ref u, .int a]) ++ List.replicate (5 - (lg_sl ([.ref u, .int a])).length) Slot.unset).toArray = ls at hl ⊢
  have hl : lv_has ls 5 [(0, .ref u), (1, .int a)] := hl
  refine lv_aload_n G0.1 G0.2.1 dX12_hungry_0 rfl (lv_at hl 0 rfl) ?_
  obtain ⟨v_1, v_2, v_3, v_4, v_5, v_6, v_7, v_8, v_9, v_10, v_11, v_12, y_13, v_14, v_15, v_16, v_17, v_18, y_19, v_20, y_21, v_22, hr_35, b_23, b_24, b_25, b_26, b_27, b_28, b_29, b_30, b_31, b_32, b_33, b_34⟩ := wg_12 hWF Tu
  refine py_get (C := RX12) (T := TX12) (N := 54) (k := 25) (v := .int v_11) G0 hw in_X12_hungry_X12 rfl hr_35 (by decide) (by decide +kernel) rfl dX12_hungry_1 ?_
  refine lv_if_eq (tgt := 16) G0.1 G0.2.1 dX12_hungry_4 (by decide) (fun c_36 => ?_) (fun c_36 => ?_)
  · skip
    have tc_36 := ti_eq c_36
    refine lv_iconst (v := (-1)) G0.1 G0.2.1 dX12_hungry_16 (by decide) ?_
    exact py_iret G0 hr rfl hlk hw ⟨rfl, rfl⟩ dX12_hungry_17
  · skip
    have tc_36 := ti_ne c_36
    refine lv_iload_n G0.1 G0.2.1 dX12_hungry_7 rfl (lv_at hl 1 rfl) ?_
    refine lv_iconst (v := 0) G0.1 G0.2.1 dX12_hungry_8 (by decide) ?_
    refine lv_iconst (v := 1) G0.1 G0.2.1 dX12_hungry_9 (by decide) ?_
    refine py_calli hw (va_runS (As := [.int a, .int 0, .int 1]) (rest := []) G0 (c_X12_in l E G L f s.heap.size a 0 1 hG hWF) (va_cwS 3 G0.2.2.2.2 g_X12_hungry_X12_in_232 rfl rfl rfl (by decide +kernel) ⟨(Nat.le_of_ble_eq_true rfl), (Nat.le_of_ble_eq_true rfl)⟩) (py_preS hw) rfl rfl hl.1 rfl (lv_room (Nat.le_of_ble_eq_true rfl)) dX12_hungry_10 ⟨(Nat.le_of_ble_eq_true rfl), (Nat.le_of_ble_eq_true rfl)⟩) (fun r_41 L_37 f_38 H_39 locs hp_40 hw => ?_)
    obtain ⟨b_44, en_42, en_43, rfl, rfl⟩ := hp_40
    have en_42 : r_41.toInt ≠ 0 → (0 : Int) ≤ a.toInt ∧ a.toInt ≤ (1 : Int) := en_42
    have en_43 : r_41.toInt = 0 → a.toInt < (0 : Int) ∨ (1 : Int) < a.toInt := en_43
    refine lv_if_ne (tgt := 18) G0.1 G0.2.1 dX12_hungry_13 (by decide) (fun c_45 => ?_) (fun c_45 => ?_)
    · skip
      have tc_45 := ti_ne c_45
      replace en_42 := en_42 (by omega)
      clear en_43
      refine lv_iconst (v := 0) G0.1 G0.2.1 dX12_hungry_18 (by decide) ?_
      refine lv_istore_n (lv' := [(2, .int 0), (0, .ref u), (1, .int a)]) G0.1 G0.2.1 dX12_hungry_19 rfl hl (by decide) rfl (fun ls hl => ?_)
      refine lv_iconst (v := 0) G0.1 G0.2.1 dX12_hungry_20 (by decide) ?_
      refine lv_istore_n (lv' := [(3, .int 0), (2, .int 0), (0, .ref u), (1, .int a)]) G0.1 G0.2.1 dX12_hungry_21 rfl hl (by decide) rfl (fun ls hl => ?_)
      refine lv_iconst (v := 0) G0.1 G0.2.1 dX12_hungry_22 (by decide) ?_
      refine lv_istore (lv' := [(4, .int 0), (3, .int 0), (2, .int 0), (0, .ref u), (1, .int a)]) G0.1 G0.2.1 dX12_hungry_23 hl (by decide) rfl (fun ls hl => ?_)
      have lo_25 : ∀ n_25 : Nat, ∀ (v_46 : Int32) (v_47 : Int32) (v_48 : Int32) (H_j25 : Heap) (locs : List Loc) (ls : Array Slot), (2147483647 - v_46.toInt).toNat = n_25 → (0 ≤ v_46.toInt ∧ v_46.toInt ≤ 2147483647) → py_W E (va_A (va_pl L f) s.heap.size) s L f H_j25 locs → lv_has ls 5 [(4, .int v_46), (3, .int v_47), (2, .int v_48), (0, .ref u), (1, .int a)] → W p l e (headSpec w_X12_hungry ({ frames := 3, cells := 0, slots := 0, locals := 66 })).room s m ([.ref u, .int a] : List Value).toArray below meth c H_j25 locs 0 0 (MQ below (py_Qi E L f s.heap.size (fun _ L1 f1 => L = L1 ∧ f = f1)) ([.ref u, .int a] : List Value).toArray s 0 0 (va_A (va_pl L f) s.heap.size)) (F0 m 25 ls []) := by
        intro n_25
        induction n_25 using Nat.strongRecOn with
        | _ n_25 ih_25 =>
          intro v_46 v_47 v_48 H_j25 locs ls hn_25 bv_46 hw hl
          refine lv_iload G0.1 G0.2.1 dX12_hungry_25 (lv_at hl 0 rfl) ?_
          refine lv_aload_n G0.1 G0.2.1 dX12_hungry_27 rfl (lv_at hl 3 rfl) ?_
          refine py_get (C := RX12) (T := TX12) (N := 54) (k := 24) (v := .int v_10) G0 hw in_X12_hungry_X12 rfl hr_35 (by decide) (by decide +kernel) rfl dX12_hungry_28 ?_
          refine lv_icmp_ge (tgt := 69) G0.1 G0.2.1 dX12_hungry_31 (by decide) (fun c_49 => ?_) (fun c_49 => ?_)
          · skip
            have tc_49 := ti_le c_49
            refine lv_iload_n G0.1 G0.2.1 dX12_hungry_69 rfl (lv_at hl 4 rfl) ?_
            have jn_78 : ∀ (v_50 : Int32) (H_j78 : Heap) (locs : List Loc) (ls : Array Slot), py_W E (va_A (va_pl L f) s.heap.size) s L f H_j78 locs → lv_has ls 5 [(4, .int v_46), (3, .int v_47), (2, .int v_48), (0, .ref u), (1, .int a)] → W p l e (headSpec w_X12_hungry ({ frames := 3, cells := 0, slots := 0, locals := 66 })).room s m ([.ref u, .int a] : List Value).toArray below meth c H_j78 locs 0 0 (MQ below (py_Qi E L f s.heap.size (fun _ L1 f1 => L = L1 ∧ f = f1)) ([.ref u, .int a] : List Value).toArray s 0 0 (va_A (va_pl L f) s.heap.size)) (F0 m 78 ls [.int v_50]) := by
              intro v_50 H_j78 locs ls hw hl
              exact py_iret G0 hr rfl hlk hw ⟨rfl, rfl⟩ dX12_hungry_78
            refine lv_if_ne (tgt := 77) G0.1 G0.2.1 dX12_hungry_70 (by decide) (fun c_51 => ?_) (fun c_51 => ?_)
            · skip
              have tc_51 := ti_ne c_51
              refine lv_iload_n G0.1 G0.2.1 dX12_hungry_77 rfl (lv_at hl 1 rfl) ?_
              exact jn_78 v_47 _ _ ls hw (lv_sub hl [0, 1, 2, 3, 4] rfl)
            · skip
              have tc_51 := ti_eq c_51
              refine lv_iload_n G0.1 G0.2.1 dX12_hungry_73 rfl (lv_at hl 2 rfl) ?_
              refine lv_goto (tgt := 78) G0.1 G0.2.1 dX12_hungry_74 (by decide) ?_
              exact jn_78 v_48 _ _ ls hw (lv_sub hl [0, 1, 2, 3, 4] rfl)
          · skip
            have tc_49 := ti_nle c_49
            refine lv_iload_n G0.1 G0.2.1 dX12_hungry_34 rfl (lv_at hl 2 rfl) ?_
            refine lv_aload_n G0.1 G0.2.1 dX12_hungry_35 rfl (lv_at hl 3 rfl) ?_
            refine lv_iload G0.1 G0.2.1 dX12_hungry_36 (lv_at hl 0 rfl) ?_
            refine py_calli hw (va_runV (As := [.int v_46]) (rest := [.int v_48]) G0 (c_X12_lackAt l E G L f H_j25.size u v_46 hG hWF Tu ⟨by omega, by omega⟩) (cwV 1 G0.2.2.2.2 g_X12_hungry_X12_lackAt_336 rfl rfl rfl (by decide +kernel) ⟨(Nat.le_of_ble_eq_true rfl), (Nat.le_of_ble_eq_true rfl)⟩) (py_preV hw (C := RX12) (T := TX12) (N := 54) rfl hr_35) rfl rfl hl.1 rfl (lv_room (Nat.le_of_ble_eq_true rfl)) dX12_hungry_38 ⟨(Nat.le_of_ble_eq_true rfl), (Nat.le_of_ble_eq_true rfl)⟩) (fun r_56 L_52 f_53 H_54 locs hp_55 hw => ?_)
            obtain ⟨rfl, rfl⟩ := hp_55
            have br_56 := wf_free r_56
            have jn_52 : ∀ (v_57 : Int32) (H_j52 : Heap) (locs : List Loc) (ls : Array Slot), py_W E (va_A (va_pl L f) s.heap.size) s L f H_j52 locs → lv_has ls 5 [(4, .int v_46), (3, .int v_47), (2, .int v_48), (0, .ref u), (1, .int a)] → W p l e (headSpec w_X12_hungry ({ frames := 3, cells := 0, slots := 0, locals := 66 })).room s m ([.ref u, .int a] : List Value).toArray below meth c H_j52 locs 0 0 (MQ below (py_Qi E L f s.heap.size (fun _ L1 f1 => L = L1 ∧ f = f1)) ([.ref u, .int a] : List Value).toArray s 0 0 (va_A (va_pl L f) s.heap.size)) (F0 m 52 ls [.int v_57, .int v_48]) := by
              intro v_57 H_j52 locs ls hw hl
              refine lv_ior G0.1 G0.2.1 dX12_hungry_52 ?_
              refine lv_topi (fun x_58 ex_58 => ?_)
              refine lv_istore_n (lv' := [(2, .int x_58), (4, .int v_46), (3, .int v_47), (0, .ref u), (1, .int a)]) G0.1 G0.2.1 dX12_hungry_53 rfl hl (by decide) rfl (fun ls hl => ?_)
              refine lv_iload_n G0.1 G0.2.1 dX12_hungry_54 rfl (lv_at hl 2 rfl) ?_
              refine lv_aload_n G0.1 G0.2.1 dX12_hungry_55 rfl (lv_at hl 3 rfl) ?_
              refine lv_iload G0.1 G0.2.1 dX12_hungry_56 (lv_at hl 1 rfl) ?_
              refine py_calli hw (va_runV (As := [.int v_46]) (rest := [.int v_47]) G0 (c_X12_lackAt l E G L f H_j52.size u v_46 hG hWF Tu ⟨by omega, by omega⟩) (cwV 1 G0.2.2.2.2 g_X12_hungry_X12_lackAt_336 rfl rfl rfl (by decide +kernel) ⟨(Nat.le_of_ble_eq_true rfl), (Nat.le_of_ble_eq_true rfl)⟩) (py_preV hw (C := RX12) (T := TX12) (N := 54) rfl hr_35) rfl rfl hl.1 rfl (lv_room (Nat.le_of_ble_eq_true rfl)) dX12_hungry_58 ⟨(Nat.le_of_ble_eq_true rfl), (Nat.le_of_ble_eq_true rfl)⟩) (fun r_63 L_59 f_60 H_61 locs hp_62 hw => ?_)
              obtain ⟨rfl, rfl⟩ := hp_62
              have br_63 := wf_free r_63
              refine lv_iadd G0.1 G0.2.1 dX12_hungry_61 ?_
              refine lv_topi (fun x_64 ex_64 => ?_)
              first | have tx_64 := ti_add ex_64 (by omega -splitDisjunctions) (by omega -splitDisjunctions) | skip
              refine lv_istore_n (lv' := [(3, .int x_64), (2, .int x_58), (4, .int v_46), (0, .ref u), (1, .int a)]) G0.1 G0.2.1 dX12_hungry_62 rfl hl (by decide) rfl (fun ls hl => ?_)
              obtain ⟨x_65, ex_65⟩ : ∃ y : Int32, y = v_46 + 1 := ⟨_, rfl⟩
              first | have tx_65 := ti_add ex_65 (by omega -splitDisjunctions) (by omega -splitDisjunctions) | skip
              refine lv_iinc (v := x_65) (lv' := [(4, .int x_65), (3, .int x_64), (2, .int x_58), (0, .ref u), (1, .int a)]) G0.1 G0.2.1 dX12_hungry_63 hl (k := 2) rfl (show _ + (1 : Int32) = _ from ex_65.symm) (by decide) rfl (fun ls hl => ?_)
              refine lv_goto (tgt := 25) G0.1 G0.2.1 dX12_hungry_66 (by decide) ?_
              exact ih_25 ((2147483647 - x_65.toInt).toNat) (by omega) x_65 x_64 x_58 _ _ ls rfl ⟨by omega, by omega⟩ hw (lv_sub hl [0, 1, 2, 3, 4] rfl)
            refine lv_if_le (tgt := 51) G0.1 G0.2.1 dX12_hungry_41 (by decide) (fun c_66 => ?_) (fun c_66 => ?_)
            · skip
              have tc_66 := ti_le c_66
              refine lv_iconst (v := 0) G0.1 G0.2.1 dX12_hungry_51 (by decide) ?_
              exact jn_52 0 _ _ ls hw (lv_sub hl [0, 1, 2, 3, 4] rfl)
            · skip
              have tc_66 := ti_nle c_66
              refine lv_iconst (v := 1) G0.1 G0.2.1 dX12_hungry_44 (by decide) ?_
              refine lv_iload G0.1 G0.2.1 dX12_hungry_45 (lv_at hl 0 rfl) ?_
              refine lv_ishl G0.1 G0.2.1 dX12_hungry_47 ?_
              refine lv_topi (fun x_67 ex_67 => ?_)
              refine lv_goto (tgt := 52) G0.1 G0.2.1 dX12_hungry_48 (by decide) ?_
              exact jn_52 x_67 _ _ ls hw (lv_sub hl [0, 1, 2, 3, 4] rfl)
      exact lo_25 _ 0 0 0 _ _ ls rfl ⟨by omega, by omega⟩ hw (lv_sub hl [0, 1, 2, 3, 4] rfl)
    · skip
      have tc_45 := ti_eq c_45
      clear en_42
      replace en_43 := en_43 (by omega)
      refine lv_iconst (v := (-1)) G0.1 G0.2.1 dX12_hungry_16 (by decide) ?_
      exact py_iret G0 hr rfl hlk hw ⟨rfl, rfl⟩ dX12_hungry_17

def w_X12_rank : List Cond := .code yX12_rank cX12_rank 5 (some .int) :: ([Cond.fieldLink RX12 290 "HeadYearModel" "families" "I", Cond.methodLink RX12 287 yX12_of, Cond.instanceMethod yX12_of, Cond.selects RX12 yX12_of yX12_of, Cond.initialized RX12] ++ (u_ws RX12 TX12 54 ++ (w_X12_of ++ ([]))))
theorem in_X12_rank_X12 : ∀ w ∈ u_ws RX12 TX12 54, w ∈ w_X12_rank := fun _ h => List.mem_cons_of_mem _ (List.mem_append_right _ (List.mem_append_left _ h))
theorem gg_X12_rank_X12_of : GoodIn w_X12_rank w_X12_of := goodIn_sub (fun _ h => List.mem_cons_of_mem _ (List.mem_append_right _ (List.mem_append_right _ (List.mem_append_left _ h)))) (by decide +kernel)
theorem g_X12_rank_X12_of_287 : GoodIn w_X12_rank (wsV RX12 287 RX12 yX12_of w_X12_of) := goodIn_app (goodIn_of _ (by decide +kernel)) gg_X12_rank_X12_of
set_option maxHeartbeats 4000000 in
set_option maxRecDepth 100000 in
theorem c_X12_rank (l : Launch) (E : py_E) (G : wf_G) (L : List Nat) (f : py_F) (sz : Nat) (u : Nat) (a : Int32) (hG : GT G) (hWF : WF E G L f) (Tu : G.1 u = 13) : Met l yX12_rank w_X12_rank ({ frames := 1, cells := 0, slots := 0, locals := 22 }) (py_Pc E [.ref u, .int a] L f sz) (py_Qi E L f sz (fun _ L1 f1 => L = L1 ∧ f = f1)) 0 0 (va_A (va_pl L f) sz) := by
  refine Met.ofW (cc := cX12_rank) (maxL := 5) (ret := (some .int)) (by decide) rfl ?_
  intro p e s m args below meth c s₁ B hml hv
  obtain ⟨rfl, rfl, hw⟩ := py_start hv
  have G0 : CallFix p m c cX12_rank 5 s _ w_X12_rank RX12 := ⟨B.exec, B.bytes, hml, findClass_of_methodNamed B.named, atoms_spec (ws := w_X12_rank) B.pre⟩
  have hr := B.returns
  have hlk := B.notSynchronized
  have kcm1 : (-1 : Int32).toInt = -1 := rfl
  have kc0 : (0 : Int32).toInt = 0 := rfl
  have kc1 : (1 : Int32).toInt = 1 := rfl
  have hl := lv_entry ([.ref u, .int a]) (n := 5) (Nat.le_of_ble_eq_true rfl)
  rw [lg_entry_eq]
  generalize (lg_sl ([.ref u, .int a]) ++ List.replicate (5 - (lg_sl ([.ref u, .int a])).length) Slot.unset).toArray = ls at hl ⊢
  have hl : lv_has ls 5 [(0, .ref u), (1, .int a)] := hl
  refine lv_iconst (v := 0) G0.1 G0.2.1 dX12_rank_0 (by decide) ?_
  refine lv_istore_n (lv' := [(2, .int 0), (0, .ref u), (1, .int a)]) G0.1 G0.2.1 dX12_rank_1 rfl hl (by decide) rfl (fun ls hl => ?_)
  have lo_2 : ∀ n_2 : Nat, ∀ (v_1 : Int32) (H_j2 : Heap) (locs : List Loc) (ls : Array Slot), (2147483647 - v_1.toInt).toNat = n_2 → (0 ≤ v_1.toInt ∧ v_1.toInt ≤ 2147483647) → py_W E (va_A (va_pl L f) s.heap.size) s L f H_j2 locs → lv_has ls 5 [(2, .int v_1), (0, .ref u), (1, .int a)] → W p l e (headSpec w_X12_rank ({ frames := 1, cells := 0, slots := 0, locals := 22 })).room s m ([.ref u, .int a] : List Value).toArray below meth c H_j2 locs 0 0 (MQ below (py_Qi E L f s.heap.size (fun _ L1 f1 => L = L1 ∧ f = f1)) ([.ref u, .int a] : List Value).toArray s 0 0 (va_A (va_pl L f) s.heap.size)) (F0 m 2 ls []) := by
    intro n_2
    induction n_2 using Nat.strongRecOn with
    | _ n_2 ih_2 =>
      intro v_1 H_j2 locs ls hn_2 bv_1 hw hl
      refine lv_iload_n G0.1 G0.2.1 dX12_rank_2 rfl (lv_at hl 0 rfl) ?_
      refine lv_aload_n G0.1 G0.2.1 dX12_rank_3 rfl (lv_at hl 1 rfl) ?_
      obtain ⟨v_2, v_3, v_4, v_5, v_6, v_7, v_8, v_9, v_10, v_11, v_12, v_13, y_14, v_15, v_16, v_17, v_18, v_19, y_20, v_21, y_22, v_23, hr_36, b_24, b_25, b_26, b_27, b_28, b_29, b_30, b_31, b_32, b_33, b_34, b_35⟩ := wg_12 hWF Tu
      refine py_get (C := RX12) (T := TX12) (N := 54) (k := 25) (v := .int v_12) G0 hw in_X12_rank_X12 rfl hr_36 (by decide) (by decide +kernel) rfl dX12_rank_4 ?_
      refine lv_icmp_ge (tgt := 89) G0.1 G0.2.1 dX12_rank_7 (by decide) (fun c_37 => ?_) (fun c_37 => ?_)
      · skip
        have tc_37 := ti_le c_37
        refine lv_iconst (v := (-1)) G0.1 G0.2.1 dX12_rank_89 (by decide) ?_
        exact py_iret G0 hr rfl hlk hw ⟨rfl, rfl⟩ dX12_rank_90
      · skip
        have tc_37 := ti_nle c_37
        refine lv_iconst (v := 0) G0.1 G0.2.1 dX12_rank_10 (by decide) ?_
        refine lv_istore_n (lv' := [(3, .int 0), (2, .int v_1), (0, .ref u), (1, .int a)]) G0.1 G0.2.1 dX12_rank_11 rfl hl (by decide) rfl (fun ls hl => ?_)
        refine lv_iconst (v := 0) G0.1 G0.2.1 dX12_rank_12 (by decide) ?_
        refine lv_istore (lv' := [(4, .int 0), (3, .int 0), (2, .int v_1), (0, .ref u), (1, .int a)]) G0.1 G0.2.1 dX12_rank_13 hl (by decide) rfl (fun ls hl => ?_)
        have lo_15 : ∀ n_15 : Nat, ∀ (v_38 : Int32) (v_39 : Int32) (H_j15 : Heap) (locs : List Loc) (ls : Array Slot), (2147483647 - v_38.toInt).toNat = n_15 → (0 ≤ v_38.toInt ∧ v_38.toInt ≤ 2147483647) → py_W E (va_A (va_pl L f) s.heap.size) s L f H_j15 locs → lv_has ls 5 [(4, .int v_38), (3, .int v_39), (2, .int v_1), (0, .ref u), (1, .int a)] → W p l e (headSpec w_X12_rank ({ frames := 1, cells := 0, slots := 0, locals := 22 })).room s m ([.ref u, .int a] : List Value).toArray below meth c H_j15 locs 0 0 (MQ below (py_Qi E L f s.heap.size (fun _ L1 f1 => L = L1 ∧ f = f1)) ([.ref u, .int a] : List Value).toArray s 0 0 (va_A (va_pl L f) s.heap.size)) (F0 m 15 ls []) := by
          intro n_15
          induction n_15 using Nat.strongRecOn with
          | _ n_15 ih_15 =>
            intro v_38 v_39 H_j15 locs ls hn_15 bv_38 hw hl
            refine lv_iload G0.1 G0.2.1 dX12_rank_15 (lv_at hl 0 rfl) ?_
            refine lv_aload_n G0.1 G0.2.1 dX12_rank_17 rfl (lv_at hl 3 rfl) ?_
            refine py_get (C := RX12) (T := TX12) (N := 54) (k := 25) (v := .int v_12) G0 hw in_X12_rank_X12 rfl hr_36 (by decide) (by decide +kernel) rfl dX12_rank_18 ?_
            refine lv_icmp_ge (tgt := 76) G0.1 G0.2.1 dX12_rank_21 (by decide) (fun c_40 => ?_) (fun c_40 => ?_)
            · skip
              have tc_40 := ti_le c_40
              refine lv_iload_n G0.1 G0.2.1 dX12_rank_76 rfl (lv_at hl 1 rfl) ?_
              refine lv_iload_n G0.1 G0.2.1 dX12_rank_77 rfl (lv_at hl 4 rfl) ?_
              refine lv_icmp_ne (tgt := 83) G0.1 G0.2.1 dX12_rank_78 (by decide) (fun c_41 => ?_) (fun c_41 => ?_)
              · skip
                have tc_41 := ti_ne c_41
                obtain ⟨x_42, ex_42⟩ : ∃ y : Int32, y = v_1 + 1 := ⟨_, rfl⟩
                first | have tx_42 := ti_add ex_42 (by omega -splitDisjunctions) (by omega -splitDisjunctions) | skip
                refine lv_iinc (v := x_42) (lv' := [(2, .int x_42), (4, .int v_38), (3, .int v_39), (0, .ref u), (1, .int a)]) G0.1 G0.2.1 dX12_rank_83 hl (k := 2) rfl (show _ + (1 : Int32) = _ from ex_42.symm) (by decide) rfl (fun ls hl => ?_)
                refine lv_goto (tgt := 2) G0.1 G0.2.1 dX12_rank_86 (by decide) ?_
                exact ih_2 ((2147483647 - x_42.toInt).toNat) (by omega) x_42 _ _ ls rfl ⟨by omega, by omega⟩ hw (lv_sub hl [0, 3, 4] rfl)
              · skip
                have tc_41 := ti_eq c_41
                refine lv_iload_n G0.1 G0.2.1 dX12_rank_81 rfl (lv_at hl 2 rfl) ?_
                exact py_iret G0 hr rfl hlk hw ⟨rfl, rfl⟩ dX12_rank_82
            · skip
              have tc_40 := ti_nle c_40
              refine lv_iload_n G0.1 G0.2.1 dX12_rank_24 rfl (lv_at hl 1 rfl) ?_
              refine lv_aload_n G0.1 G0.2.1 dX12_rank_25 rfl (lv_at hl 3 rfl) ?_
              refine lv_iload G0.1 G0.2.1 dX12_rank_26 (lv_at hl 0 rfl) ?_
              refine lv_iconst (v := 0) G0.1 G0.2.1 dX12_rank_28 (by decide) ?_
              refine py_calli hw (va_runV (As := [.int v_38, .int 0]) (rest := [.int v_39]) G0 (c_X12_of l E G L f H_j15.size u v_38 0 hG hWF Tu ⟨by omega, by omega⟩ ⟨by omega, by omega⟩) (cwV 2 G0.2.2.2.2 g_X12_rank_X12_of_287 rfl rfl rfl (by decide +kernel) ⟨(Nat.le_of_ble_eq_true rfl), (Nat.le_of_ble_eq_true rfl)⟩) (py_preV hw (C := RX12) (T := TX12) (N := 54) rfl hr_36) rfl rfl hl.1 rfl (lv_room (Nat.le_of_ble_eq_true rfl)) dX12_rank_29 ⟨(Nat.le_of_ble_eq_true rfl), (Nat.le_of_ble_eq_true rfl)⟩) (fun r_47 L_43 f_44 H_45 locs hp_46 hw => ?_)
              obtain ⟨en_48, en_49, rfl, rfl⟩ := hp_46
              have en_48 : r_47.toInt = nw f G u v_38.toInt (0 : Int) := en_48
              have en_49 : ((0 : Int) = 0 → 0 ≤ r_47.toInt ∧ r_47.toInt ≤ 20) ∧ ((0 : Int) = 1 → -1 ≤ r_47.toInt ∧ r_47.toInt ≤ 7) := en_49
              have br_47 := wf_free r_47
              refine lv_aload_n G0.1 G0.2.1 dX12_rank_32 rfl (lv_at hl 3 rfl) ?_
              refine lv_iload_n G0.1 G0.2.1 dX12_rank_33 rfl (lv_at hl 2 rfl) ?_
              refine lv_iconst (v := 0) G0.1 G0.2.1 dX12_rank_34 (by decide) ?_
              refine py_calli hw (va_runV (As := [.int v_1, .int 0]) (rest := [.int r_47, .int v_39]) G0 (c_X12_of l E G L f H_45.size u v_1 0 hG hWF Tu ⟨by omega, by omega⟩ ⟨by omega, by omega⟩) (cwV 2 G0.2.2.2.2 g_X12_rank_X12_of_287 rfl rfl rfl (by decide +kernel) ⟨(Nat.le_of_ble_eq_true rfl), (Nat.le_of_ble_eq_true rfl)⟩) (py_preV hw (C := RX12) (T := TX12) (N := 54) rfl hr_36) rfl rfl hl.1 rfl (lv_room (Nat.le_of_ble_eq_true rfl)) dX12_rank_35 ⟨(Nat.le_of_ble_eq_true rfl), (Nat.le_of_ble_eq_true rfl)⟩) (fun r_54 L_50 f_51 H_52 locs hp_53 hw => ?_)
              obtain ⟨en_55, en_56, rfl, rfl⟩ := hp_53
              have en_55 : r_54.toInt = nw f G u v_1.toInt (0 : Int) := en_55
              have en_56 : ((0 : Int) = 0 → 0 ≤ r_54.toInt ∧ r_54.toInt ≤ 20) ∧ ((0 : Int) = 1 → -1 ≤ r_54.toInt ∧ r_54.toInt ≤ 7) := en_56
              have br_54 := wf_free r_54
              have jn_68 : ∀ (v_57 : Int32) (H_j68 : Heap) (locs : List Loc) (ls : Array Slot), (0 ≤ v_57.toInt ∧ v_57.toInt ≤ 1) → py_W E (va_A (va_pl L f) s.heap.size) s L f H_j68 locs → lv_has ls 5 [(4, .int v_38), (3, .int v_39), (2, .int v_1), (0, .ref u), (1, .int a)] → W p l e (headSpec w_X12_rank ({ frames := 1, cells := 0, slots := 0, locals := 22 })).room s m ([.ref u, .int a] : List Value).toArray below meth c H_j68 locs 0 0 (MQ below (py_Qi E L f s.heap.size (fun _ L1 f1 => L = L1 ∧ f = f1)) ([.ref u, .int a] : List Value).toArray s 0 0 (va_A (va_pl L f) s.heap.size)) (F0 m 68 ls [.int v_57, .int v_39]) := by
                intro v_57 H_j68 locs ls bv_57 hw hl
                refine lv_iadd G0.1 G0.2.1 dX12_rank_68 ?_
                refine lv_topi (fun x_58 ex_58 => ?_)
                first | have tx_58 := ti_add ex_58 (by omega -splitDisjunctions) (by omega -splitDisjunctions) | skip
                refine lv_istore_n (lv' := [(3, .int x_58), (4, .int v_38), (2, .int v_1), (0, .ref u), (1, .int a)]) G0.1 G0.2.1 dX12_rank_69 rfl hl (by decide) rfl (fun ls hl => ?_)
                obtain ⟨x_59, ex_59⟩ : ∃ y : Int32, y = v_38 + 1 := ⟨_, rfl⟩
                first | have tx_59 := ti_add ex_59 (by omega -splitDisjunctions) (by omega -splitDisjunctions) | skip
                refine lv_iinc (v := x_59) (lv' := [(4, .int x_59), (3, .int x_58), (2, .int v_1), (0, .ref u), (1, .int a)]) G0.1 G0.2.1 dX12_rank_70 hl (k := 1) rfl (show _ + (1 : Int32) = _ from ex_59.symm) (by decide) rfl (fun ls hl => ?_)
                refine lv_goto (tgt := 15) G0.1 G0.2.1 dX12_rank_73 (by decide) ?_
                exact ih_15 ((2147483647 - x_59.toInt).toNat) (by omega) x_59 x_58 _ _ ls rfl ⟨by omega, by omega⟩ hw (lv_sub hl [0, 1, 2, 3, 4] rfl)
              refine lv_icmp_gt (tgt := 63) G0.1 G0.2.1 dX12_rank_38 (by decide) (fun c_60 => ?_) (fun c_60 => ?_)
              · skip
                have tc_60 := ti_lt c_60
                refine lv_iconst (v := 1) G0.1 G0.2.1 dX12_rank_63 (by decide) ?_
                refine lv_goto (tgt := 68) G0.1 G0.2.1 dX12_rank_64 (by decide) ?_
                exact jn_68 1 _ _ ls ⟨by omega, by omega⟩ hw (lv_sub hl [0, 1, 2, 3, 4] rfl)
              · skip
                have tc_60 := ti_nlt c_60
                refine lv_aload_n G0.1 G0.2.1 dX12_rank_41 rfl (lv_at hl 3 rfl) ?_
                refine lv_iload G0.1 G0.2.1 dX12_rank_42 (lv_at hl 0 rfl) ?_
                refine lv_iconst (v := 0) G0.1 G0.2.1 dX12_rank_44 (by decide) ?_
                refine py_calli hw (va_runV (As := [.int v_38, .int 0]) (rest := [.int v_39]) G0 (c_X12_of l E G L f H_52.size u v_38 0 hG hWF Tu ⟨by omega, by omega⟩ ⟨by omega, by omega⟩) (cwV 2 G0.2.2.2.2 g_X12_rank_X12_of_287 rfl rfl rfl (by decide +kernel) ⟨(Nat.le_of_ble_eq_true rfl), (Nat.le_of_ble_eq_true rfl)⟩) (py_preV hw (C := RX12) (T := TX12) (N := 54) rfl hr_36) rfl rfl hl.1 rfl (lv_room (Nat.le_of_ble_eq_true rfl)) dX12_rank_45 ⟨(Nat.le_of_ble_eq_true rfl), (Nat.le_of_ble_eq_true rfl)⟩) (fun r_65 L_61 f_62 H_63 locs hp_64 hw => ?_)
                obtain ⟨en_66, en_67, rfl, rfl⟩ := hp_64
                have en_66 : r_65.toInt = nw f G u v_38.toInt (0 : Int) := en_66
                have en_67 : ((0 : Int) = 0 → 0 ≤ r_65.toInt ∧ r_65.toInt ≤ 20) ∧ ((0 : Int) = 1 → -1 ≤ r_65.toInt ∧ r_65.toInt ≤ 7) := en_67
                have br_65 := wf_free r_65
                refine lv_aload_n G0.1 G0.2.1 dX12_rank_48 rfl (lv_at hl 3 rfl) ?_
                refine lv_iload_n G0.1 G0.2.1 dX12_rank_49 rfl (lv_at hl 2 rfl) ?_
                refine lv_iconst (v := 0) G0.1 G0.2.1 dX12_rank_50 (by decide) ?_
                refine py_calli hw (va_runV (As := [.int v_1, .int 0]) (rest := [.int r_65, .int v_39]) G0 (c_X12_of l E G L f H_63.size u v_1 0 hG hWF Tu ⟨by omega, by omega⟩ ⟨by omega, by omega⟩) (cwV 2 G0.2.2.2.2 g_X12_rank_X12_of_287 rfl rfl rfl (by decide +kernel) ⟨(Nat.le_of_ble_eq_true rfl), (Nat.le_of_ble_eq_true rfl)⟩) (py_preV hw (C := RX12) (T := TX12) (N := 54) rfl hr_36) rfl rfl hl.1 rfl (lv_room (Nat.le_of_ble_eq_true rfl)) dX12_rank_51 ⟨(Nat.le_of_ble_eq_true rfl), (Nat.le_of_ble_eq_true rfl)⟩) (fun r_72 L_68 f_69 H_70 locs hp_71 hw => ?_)
                obtain ⟨en_73, en_74, rfl, rfl⟩ := hp_71
                have en_73 : r_72.toInt = nw f G u v_1.toInt (0 : Int) := en_73
                have en_74 : ((0 : Int) = 0 → 0 ≤ r_72.toInt ∧ r_72.toInt ≤ 20) ∧ ((0 : Int) = 1 → -1 ≤ r_72.toInt ∧ r_72.toInt ≤ 7) := en_74
                have br_72 := wf_free r_72
                refine lv_icmp_ne (tgt := 67) G0.1 G0.2.1 dX12_rank_54 (by decide) (fun c_75 => ?_) (fun c_75 => ?_)
                · skip
                  have tc_75 := ti_ne c_75
                  refine lv_iconst (v := 0) G0.1 G0.2.1 dX12_rank_67 (by decide) ?_
                  exact jn_68 0 _ _ ls ⟨by omega, by omega⟩ hw (lv_sub hl [0, 1, 2, 3, 4] rfl)
                · skip
                  have tc_75 := ti_eq c_75
                  refine lv_iload G0.1 G0.2.1 dX12_rank_57 (lv_at hl 0 rfl) ?_
                  refine lv_iload_n G0.1 G0.2.1 dX12_rank_59 rfl (lv_at hl 2 rfl) ?_
                  refine lv_icmp_ge (tgt := 67) G0.1 G0.2.1 dX12_rank_60 (by decide) (fun c_76 => ?_) (fun c_76 => ?_)
                  · skip
                    have tc_76 := ti_le c_76
                    refine lv_iconst (v := 0) G0.1 G0.2.1 dX12_rank_67 (by decide) ?_
                    exact jn_68 0 _ _ ls ⟨by omega, by omega⟩ hw (lv_sub hl [0, 1, 2, 3, 4] rfl)
                  · skip
                    have tc_76 := ti_nle c_76
                    refine lv_iconst (v := 1) G0.1 G0.2.1 dX12_rank_63 (by decide) ?_
                    refine lv_goto (tgt := 68) G0.1 G0.2.1 dX12_rank_64 (by decide) ?_
                    exact jn_68 1 _ _ ls ⟨by omega, by omega⟩ hw (lv_sub hl [0, 1, 2, 3, 4] rfl)
        exact lo_15 _ 0 0 _ _ ls rfl ⟨by omega, by omega⟩ hw (lv_sub hl [0, 1, 2, 3, 4] rfl)
  exact lo_2 _ 0 _ _ ls rfl ⟨by omega, by omega⟩ hw (lv_sub hl [0, 1, 2] rfl)

def w_X12_met : List Cond := .code yX12_met cX12_met 7 (some .int) :: ([Cond.methodLink RX12 347 yX12_isFamily, Cond.instanceMethod yX12_isFamily, Cond.selects RX12 yX12_isFamily yX12_isFamily, Cond.initialized RX12, Cond.constant RX12 350 (-1000000), Cond.methodLink RX12 232 yX12_in, Cond.static yX12_in, Cond.fieldLink RX12 309 "HeadYearModel" "years" "I", Cond.fieldLink RX12 83 "HeadYearModel" "diaryLevel" "[I"] ++ (u_ws RX12 TX12 54 ++ (w_X12_isFamily ++ (w_X12_in ++ ([])))))
theorem in_X12_met_X12 : ∀ w ∈ u_ws RX12 TX12 54, w ∈ w_X12_met := fun _ h => List.mem_cons_of_mem _ (List.mem_append_right _ (List.mem_append_left _ h))
theorem gg_X12_met_X12_isFamily : GoodIn w_X12_met w_X12_isFamily := goodIn_sub (fun _ h => List.mem_cons_of_mem _ (List.mem_append_right _ (List.mem_append_right _ (List.mem_append_left _ h)))) (by decide +kernel)
theorem gg_X12_met_X12_in : GoodIn w_X12_met w_X12_in := goodIn_sub (fun _ h => List.mem_cons_of_mem _ (List.mem_append_right _ (List.mem_append_right _ (List.mem_append_right _ (List.mem_append_left _ h))))) (by decide +kernel)
theorem g_X12_met_X12_in_232 : GoodIn w_X12_met (va_wsS RX12 232 yX12_in w_X12_in) := goodIn_app (goodIn_of _ (by decide +kernel)) gg_X12_met_X12_in
theorem g_X12_met_X12_isFamily_347 : GoodIn w_X12_met (wsV RX12 347 RX12 yX12_isFamily w_X12_isFamily) := goodIn_app (goodIn_of _ (by decide +kernel)) gg_X12_met_X12_isFamily
set_option maxHeartbeats 4000000 in
set_option maxRecDepth 100000 in
theorem c_X12_met (l : Launch) (E : py_E) (G : wf_G) (L : List Nat) (f : py_F) (sz : Nat) (u : Nat) (a : Int32) (b : Int32) (q : Int32) (hG : GT G) (hWF : WF E G L f) (Tu : G.1 u = 13) : Met l yX12_met w_X12_met ({ frames := 2, cells := 0, slots := 0, locals := 43 }) (py_Pc E [.ref u, .int a, .int b, .int q] L f sz) (py_Qi E L f sz (fun _ L1 f1 => L = L1 ∧ f = f1)) 0 0 (va_A (va_pl L f) sz) := by
  refine Met.ofW (cc := cX12_met) (maxL := 7) (ret := (some .int)) (by decide) rfl ?_
  intro p e s m args below meth c s₁ B hml hv
  obtain ⟨rfl, rfl, hw⟩ := py_start hv
  have G0 : CallFix p m c cX12_met 7 s _ w_X12_met RX12 := ⟨B.exec, B.bytes, hml, findClass_of_methodNamed B.named, atoms_spec (ws := w_X12_met) B.pre⟩
  have hr := B.returns
  have hlk := B.notSynchronized
  have kcm1000000 : (-1000000 : Int32).toInt = -1000000 := rfl
  have kcm1 : (-1 : Int32).toInt = -1 := rfl
  have kc0 : (0 : Int32).toInt = 0 := rfl
  have kc1 : (1 : Int32).toInt = 1 := rfl
  have kc10 : (10 : Int32).toInt = 10 := rfl
  have hl := lv_entry ([.ref u, .int a, .int b, .int q]) (n := 7) (Nat.le_of_ble_eq_true rfl)
  rw [lg_entry_eq]
  generalize (lg_sl ([.ref u, .int a, .int b, .int q]) ++ List.replicate (7 - (lg_sl ([.ref u, .int a, .int b, .int q])).length) Slot.unset).toArray = ls at hl ⊢
  have hl : lv_has ls 7 [(0, .ref u), (1, .int a), (2, .int b), (3, .int q)] := hl
  refine lv_aload_n G0.1 G0.2.1 dX12_met_0 rfl (lv_at hl 0 rfl) ?_
  refine lv_iload_n G0.1 G0.2.1 dX12_met_1 rfl (lv_at hl 1 rfl) ?_
  obtain ⟨v_1, v_2, v_3, v_4, v_5, v_6, v_7, v_8, v_9, v_10, v_11, v_12, y_13, v_14, v_15, v_16, v_17, v_18, y_19, v_20, y_21, v_22, hr_35, b_23, b_24, b_25, b_26, b_27, b_28, b_29, b_30, b_31, b_32, b_33, b_34⟩ := wg_12 hWF Tu
  refine py_calli hw (va_runV (As := [.int a]) (rest := []) G0 (c_X12_isFamily l E G L f s.heap.size u a hG hWF Tu) (cwV 1 G0.2.2.2.2 g_X12_met_X12_isFamily_347 rfl rfl rfl (by decide +kernel) ⟨(Nat.le_of_ble_eq_true rfl), (Nat.le_of_ble_eq_true rfl)⟩) (py_preV hw (C := RX12) (T := TX12) (N := 54) rfl hr_35) rfl rfl hl.1 rfl (lv_room (Nat.le_of_ble_eq_true rfl)) dX12_met_2 ⟨(Nat.le_of_ble_eq_true rfl), (Nat.le_of_ble_eq_true rfl)⟩) (fun r_40 L_36 f_37 H_38 locs hp_39 hw => ?_)
  obtain ⟨b_42, en_41, rfl, rfl⟩ := hp_39
  refine lv_if_eq (tgt := 30) G0.1 G0.2.1 dX12_met_5 (by decide) (fun c_43 => ?_) (fun c_43 => ?_)
  · skip
    have tc_43 := ti_eq c_43
    clear en_41
    refine lv_ldcw (v := (-1000000)) G0.1 G0.2.1 G0.2.2.2.1 (G0.2.2.2.2 (Cond.constant RX12 350 (-1000000)) (by decide +kernel)) dX12_met_30 ?_
    exact py_iret G0 hr rfl hlk hw ⟨rfl, rfl⟩ dX12_met_33
  · skip
    have tc_43 := ti_ne c_43
    replace en_41 := en_41 (by omega)
    refine lv_aload_n G0.1 G0.2.1 dX12_met_8 rfl (lv_at hl 0 rfl) ?_
    refine lv_iload_n G0.1 G0.2.1 dX12_met_9 rfl (lv_at hl 2 rfl) ?_
    refine py_calli hw (va_runV (As := [.int b]) (rest := []) G0 (c_X12_isFamily l E G L f H_38.size u b hG hWF Tu) (cwV 1 G0.2.2.2.2 g_X12_met_X12_isFamily_347 rfl rfl rfl (by decide +kernel) ⟨(Nat.le_of_ble_eq_true rfl), (Nat.le_of_ble_eq_true rfl)⟩) (py_preV hw (C := RX12) (T := TX12) (N := 54) rfl hr_35) rfl rfl hl.1 rfl (lv_room (Nat.le_of_ble_eq_true rfl)) dX12_met_10 ⟨(Nat.le_of_ble_eq_true rfl), (Nat.le_of_ble_eq_true rfl)⟩) (fun r_48 L_44 f_45 H_46 locs hp_47 hw => ?_)
    obtain ⟨b_50, en_49, rfl, rfl⟩ := hp_47
    refine lv_if_eq (tgt := 30) G0.1 G0.2.1 dX12_met_13 (by decide) (fun c_51 => ?_) (fun c_51 => ?_)
    · skip
      have tc_51 := ti_eq c_51
      clear en_49
      refine lv_ldcw (v := (-1000000)) G0.1 G0.2.1 G0.2.2.2.1 (G0.2.2.2.2 (Cond.constant RX12 350 (-1000000)) (by decide +kernel)) dX12_met_30 ?_
      exact py_iret G0 hr rfl hlk hw ⟨rfl, rfl⟩ dX12_met_33
    · skip
      have tc_51 := ti_ne c_51
      replace en_49 := en_49 (by omega)
      refine lv_iload_n G0.1 G0.2.1 dX12_met_16 rfl (lv_at hl 1 rfl) ?_
      refine lv_iload_n G0.1 G0.2.1 dX12_met_17 rfl (lv_at hl 2 rfl) ?_
      refine lv_icmp_eq (tgt := 30) G0.1 G0.2.1 dX12_met_18 (by decide) (fun c_52 => ?_) (fun c_52 => ?_)
      · skip
        have tc_52 := ti_eq c_52
        refine lv_ldcw (v := (-1000000)) G0.1 G0.2.1 G0.2.2.2.1 (G0.2.2.2.2 (Cond.constant RX12 350 (-1000000)) (by decide +kernel)) dX12_met_30 ?_
        exact py_iret G0 hr rfl hlk hw ⟨rfl, rfl⟩ dX12_met_33
      · skip
        have tc_52 := ti_ne c_52
        refine lv_iload_n G0.1 G0.2.1 dX12_met_21 rfl (lv_at hl 3 rfl) ?_
        refine lv_iconst (v := 0) G0.1 G0.2.1 dX12_met_22 (by decide) ?_
        refine lv_iconst (v := 1) G0.1 G0.2.1 dX12_met_23 (by decide) ?_
        refine py_calli hw (va_runS (As := [.int q, .int 0, .int 1]) (rest := []) G0 (c_X12_in l E G L f H_46.size q 0 1 hG hWF) (va_cwS 3 G0.2.2.2.2 g_X12_met_X12_in_232 rfl rfl rfl (by decide +kernel) ⟨(Nat.le_of_ble_eq_true rfl), (Nat.le_of_ble_eq_true rfl)⟩) (py_preS hw) rfl rfl hl.1 rfl (lv_room (Nat.le_of_ble_eq_true rfl)) dX12_met_24 ⟨(Nat.le_of_ble_eq_true rfl), (Nat.le_of_ble_eq_true rfl)⟩) (fun r_57 L_53 f_54 H_55 locs hp_56 hw => ?_)
        obtain ⟨b_60, en_58, en_59, rfl, rfl⟩ := hp_56
        have en_58 : r_57.toInt ≠ 0 → (0 : Int) ≤ q.toInt ∧ q.toInt ≤ (1 : Int) := en_58
        have en_59 : r_57.toInt = 0 → q.toInt < (0 : Int) ∨ (1 : Int) < q.toInt := en_59
        refine lv_if_ne (tgt := 34) G0.1 G0.2.1 dX12_met_27 (by decide) (fun c_61 => ?_) (fun c_61 => ?_)
        · skip
          have tc_61 := ti_ne c_61
          replace en_58 := en_58 (by omega)
          clear en_59
          refine lv_iconst (v := 0) G0.1 G0.2.1 dX12_met_34 (by decide) ?_
          refine lv_istore (lv' := [(4, .int 0), (0, .ref u), (1, .int a), (2, .int b), (3, .int q)]) G0.1 G0.2.1 dX12_met_35 hl (by decide) rfl (fun ls hl => ?_)
          refine lv_iconst (v := (-1)) G0.1 G0.2.1 dX12_met_37 (by decide) ?_
          refine lv_istore (lv' := [(5, .int (-1)), (4, .int 0), (0, .ref u), (1, .int a), (2, .int b), (3, .int q)]) G0.1 G0.2.1 dX12_met_38 hl (by decide) rfl (fun ls hl => ?_)
          refine lv_iconst (v := 0) G0.1 G0.2.1 dX12_met_40 (by decide) ?_
          refine lv_istore (lv' := [(6, .int 0), (5, .int (-1)), (4, .int 0), (0, .ref u), (1, .int a), (2, .int b), (3, .int q)]) G0.1 G0.2.1 dX12_met_41 hl (by decide) rfl (fun ls hl => ?_)
          have lo_43 : ∀ n_43 : Nat, ∀ (v_62 : Int32) (v_63 : Int32) (v_64 : Int32) (H_j43 : Heap) (locs : List Loc) (ls : Array Slot), (2147483647 - v_62.toInt).toNat = n_43 → (0 ≤ v_62.toInt ∧ v_62.toInt ≤ 2147483647) → py_W E (va_A (va_pl L f) s.heap.size) s L f H_j43 locs → lv_has ls 7 [(6, .int v_62), (5, .int v_63), (4, .int v_64), (0, .ref u), (1, .int a), (2, .int b), (3, .int q)] → W p l e (headSpec w_X12_met ({ frames := 2, cells := 0, slots := 0, locals := 43 })).room s m ([.ref u, .int a, .int b, .int q] : List Value).toArray below meth c H_j43 locs 0 0 (MQ below (py_Qi E L f s.heap.size (fun _ L1 f1 => L = L1 ∧ f = f1)) ([.ref u, .int a, .int b, .int q] : List Value).toArray s 0 0 (va_A (va_pl L f) s.heap.size)) (F0 m 43 ls []) := by
            intro n_43
            induction n_43 using Nat.strongRecOn with
            | _ n_43 ih_43 =>
              intro v_62 v_63 v_64 H_j43 locs ls hn_43 bv_62 hw hl
              refine lv_iload G0.1 G0.2.1 dX12_met_43 (lv_at hl 0 rfl) ?_
              refine lv_aload_n G0.1 G0.2.1 dX12_met_45 rfl (lv_at hl 3 rfl) ?_
              refine py_get (C := RX12) (T := TX12) (N := 54) (k := 29) (v := .int v_12) G0 hw in_X12_met_X12 rfl hr_35 (by decide) (by decide +kernel) rfl dX12_met_46 ?_
              refine lv_icmp_ge (tgt := 108) G0.1 G0.2.1 dX12_met_49 (by decide) (fun c_65 => ?_) (fun c_65 => ?_)
              · skip
                have tc_65 := ti_le c_65
                refine lv_iload_n G0.1 G0.2.1 dX12_met_108 rfl (lv_at hl 6 rfl) ?_
                have jn_119 : ∀ (v_66 : Int32) (H_j119 : Heap) (locs : List Loc) (ls : Array Slot), py_W E (va_A (va_pl L f) s.heap.size) s L f H_j119 locs → lv_has ls 7 [(6, .int v_62), (5, .int v_63), (4, .int v_64), (0, .ref u), (1, .int a), (2, .int b), (3, .int q)] → W p l e (headSpec w_X12_met ({ frames := 2, cells := 0, slots := 0, locals := 43 })).room s m ([.ref u, .int a, .int b, .int q] : List Value).toArray below meth c H_j119 locs 0 0 (MQ below (py_Qi E L f s.heap.size (fun _ L1 f1 => L = L1 ∧ f = f1)) ([.ref u, .int a, .int b, .int q] : List Value).toArray s 0 0 (va_A (va_pl L f) s.heap.size)) (F0 m 119 ls [.int v_66]) := by
                  intro v_66 H_j119 locs ls hw hl
                  exact py_iret G0 hr rfl hlk hw ⟨rfl, rfl⟩ dX12_met_119
                refine lv_if_ne (tgt := 117) G0.1 G0.2.1 dX12_met_109 (by decide) (fun c_67 => ?_) (fun c_67 => ?_)
                · skip
                  have tc_67 := ti_ne c_67
                  refine lv_iload G0.1 G0.2.1 dX12_met_117 (lv_at hl 1 rfl) ?_
                  exact jn_119 v_63 _ _ ls hw (lv_sub hl [0, 1, 2, 3, 4, 5, 6] rfl)
                · skip
                  have tc_67 := ti_eq c_67
                  refine lv_iload G0.1 G0.2.1 dX12_met_112 (lv_at hl 2 rfl) ?_
                  refine lv_goto (tgt := 119) G0.1 G0.2.1 dX12_met_114 (by decide) ?_
                  exact jn_119 v_64 _ _ ls hw (lv_sub hl [0, 1, 2, 3, 4, 5, 6] rfl)
              · skip
                have tc_65 := ti_nle c_65
                refine lv_aload_n G0.1 G0.2.1 dX12_met_52 rfl (lv_at hl 3 rfl) ?_
                refine py_get (C := RX12) (T := TX12) (N := 54) (k := 38) (v := .ref (G.2 u 38)) G0 hw in_X12_met_X12 rfl hr_35 (by decide) (by decide +kernel) rfl dX12_met_53 ?_
                refine lv_bipush (v := 10) G0.1 G0.2.1 dX12_met_56 (by decide) ?_
                refine lv_iload G0.1 G0.2.1 dX12_met_58 (lv_at hl 0 rfl) ?_
                refine lv_imul G0.1 G0.2.1 dX12_met_60 ?_
                refine lv_topi (fun x_68 ex_68 => ?_)
                first | have tx_68 := ti_muld ex_68 kc10 (by omega -splitDisjunctions) (by omega -splitDisjunctions) | skip
                refine lv_iload_n G0.1 G0.2.1 dX12_met_61 rfl (lv_at hl 4 rfl) ?_
                refine lv_iadd G0.1 G0.2.1 dX12_met_62 ?_
                refine lv_topi (fun x_69 ex_69 => ?_)
                first | have tx_69 := ti_add ex_69 (by omega -splitDisjunctions) (by omega -splitDisjunctions) | skip
                obtain ⟨g_70, ha_71, hi_72⟩ := wf_arr (n := 600) (lo := (-2147483648)) (hi := 2147483647) hWF (wt12_38 hG Tu) (by decide) (fun _ => rfl)
                have rg_73 : vp_in x_69 600 := ti_in (by omega) (by omega)
                refine py_iald G0 hw ha_71 rg_73 dX12_met_63 ?_
                refine lv_topi (fun x_74 ex_74 => ?_)
                have bx_74 := wf_free x_74
                refine lv_iconst (v := (-1)) G0.1 G0.2.1 dX12_met_64 (by decide) ?_
                have jn_102 : ∀ (v_75 : Int32) (v_76 : Int32) (H_j102 : Heap) (locs : List Loc) (ls : Array Slot), py_W E (va_A (va_pl L f) s.heap.size) s L f H_j102 locs → lv_has ls 7 [(6, .int v_62), (5, .int v_75), (4, .int v_76), (0, .ref u), (1, .int a), (2, .int b), (3, .int q)] → W p l e (headSpec w_X12_met ({ frames := 2, cells := 0, slots := 0, locals := 43 })).room s m ([.ref u, .int a, .int b, .int q] : List Value).toArray below meth c H_j102 locs 0 0 (MQ below (py_Qi E L f s.heap.size (fun _ L1 f1 => L = L1 ∧ f = f1)) ([.ref u, .int a, .int b, .int q] : List Value).toArray s 0 0 (va_A (va_pl L f) s.heap.size)) (F0 m 102 ls []) := by
                  intro v_75 v_76 H_j102 locs ls hw hl
                  obtain ⟨x_77, ex_77⟩ : ∃ y : Int32, y = v_62 + 1 := ⟨_, rfl⟩
                  first | have tx_77 := ti_add ex_77 (by omega -splitDisjunctions) (by omega -splitDisjunctions) | skip
                  refine lv_iinc (v := x_77) (lv' := [(6, .int x_77), (5, .int v_75), (4, .int v_76), (0, .ref u), (1, .int a), (2, .int b), (3, .int q)]) G0.1 G0.2.1 dX12_met_102 hl (k := 0) rfl (show _ + (1 : Int32) = _ from ex_77.symm) (by decide) rfl (fun ls hl => ?_)
                  refine lv_goto (tgt := 43) G0.1 G0.2.1 dX12_met_105 (by decide) ?_
                  exact ih_43 ((2147483647 - x_77.toInt).toNat) (by omega) x_77 v_75 v_76 _ _ ls rfl ⟨by omega, by omega⟩ hw (lv_sub hl [0, 1, 2, 3, 4, 5, 6] rfl)
                refine lv_icmp_eq (tgt := 102) G0.1 G0.2.1 dX12_met_65 (by decide) (fun c_78 => ?_) (fun c_78 => ?_)
                · skip
                  have tc_78 := ti_eq c_78
                  exact jn_102 v_63 v_64 _ _ ls hw (lv_sub hl [0, 1, 2, 3, 4, 5, 6] rfl)
                · skip
                  have tc_78 := ti_ne c_78
                  refine lv_aload_n G0.1 G0.2.1 dX12_met_68 rfl (lv_at hl 3 rfl) ?_
                  refine py_get (C := RX12) (T := TX12) (N := 54) (k := 38) (v := .ref (G.2 u 38)) G0 hw in_X12_met_X12 rfl hr_35 (by decide) (by decide +kernel) rfl dX12_met_69 ?_
                  refine lv_bipush (v := 10) G0.1 G0.2.1 dX12_met_72 (by decide) ?_
                  refine lv_iload G0.1 G0.2.1 dX12_met_74 (lv_at hl 0 rfl) ?_
                  refine lv_imul G0.1 G0.2.1 dX12_met_76 ?_
                  refine lv_topi (fun x_79 ex_79 => ?_)
                  first | have tx_79 := ti_muld ex_79 kc10 (by omega -splitDisjunctions) (by omega -splitDisjunctions) | skip
                  refine lv_iload_n G0.1 G0.2.1 dX12_met_77 rfl (lv_at hl 4 rfl) ?_
                  refine lv_iadd G0.1 G0.2.1 dX12_met_78 ?_
                  refine lv_topi (fun x_80 ex_80 => ?_)
                  first | have tx_80 := ti_add ex_80 (by omega -splitDisjunctions) (by omega -splitDisjunctions) | skip
                  have rg_81 : vp_in x_80 600 := ti_in (by omega) (by omega)
                  refine py_iald G0 hw ha_71 rg_81 dX12_met_79 ?_
                  refine lv_topi (fun x_82 ex_82 => ?_)
                  have bx_82 := wf_free x_82
                  refine lv_aload_n G0.1 G0.2.1 dX12_met_80 rfl (lv_at hl 3 rfl) ?_
                  refine py_get (C := RX12) (T := TX12) (N := 54) (k := 38) (v := .ref (G.2 u 38)) G0 hw in_X12_met_X12 rfl hr_35 (by decide) (by decide +kernel) rfl dX12_met_81 ?_
                  refine lv_bipush (v := 10) G0.1 G0.2.1 dX12_met_84 (by decide) ?_
                  refine lv_iload G0.1 G0.2.1 dX12_met_86 (lv_at hl 0 rfl) ?_
                  refine lv_imul G0.1 G0.2.1 dX12_met_88 ?_
                  refine lv_topi (fun x_83 ex_83 => ?_)
                  first | have tx_83 := ti_muld ex_83 kc10 (by omega -splitDisjunctions) (by omega -splitDisjunctions) | skip
                  refine lv_iload_n G0.1 G0.2.1 dX12_met_89 rfl (lv_at hl 5 rfl) ?_
                  refine lv_iadd G0.1 G0.2.1 dX12_met_90 ?_
                  refine lv_topi (fun x_84 ex_84 => ?_)
                  first | have tx_84 := ti_add ex_84 (by omega -splitDisjunctions) (by omega -splitDisjunctions) | skip
                  have rg_85 : vp_in x_84 600 := ti_in (by omega) (by omega)
                  refine py_iald G0 hw ha_71 rg_85 dX12_met_91 ?_
                  refine lv_topi (fun x_86 ex_86 => ?_)
                  have bx_86 := wf_free x_86
                  refine lv_icmp_ne (tgt := 102) G0.1 G0.2.1 dX12_met_92 (by decide) (fun c_87 => ?_) (fun c_87 => ?_)
                  · skip
                    have tc_87 := ti_ne c_87
                    exact jn_102 v_63 v_64 _ _ ls hw (lv_sub hl [0, 1, 2, 3, 4, 5, 6] rfl)
                  · skip
                    have tc_87 := ti_eq c_87
                    obtain ⟨x_88, ex_88⟩ : ∃ y : Int32, y = v_64 + 1 := ⟨_, rfl⟩
                    first | have tx_88 := ti_add ex_88 (by omega -splitDisjunctions) (by omega -splitDisjunctions) | skip
                    refine lv_iinc (v := x_88) (lv' := [(4, .int x_88), (6, .int v_62), (5, .int v_63), (0, .ref u), (1, .int a), (2, .int b), (3, .int q)]) G0.1 G0.2.1 dX12_met_95 hl (k := 2) rfl (show _ + (1 : Int32) = _ from ex_88.symm) (by decide) rfl (fun ls hl => ?_)
                    refine lv_iload G0.1 G0.2.1 dX12_met_98 (lv_at hl 1 rfl) ?_
                    refine lv_istore (lv' := [(5, .int v_62), (4, .int x_88), (6, .int v_62), (0, .ref u), (1, .int a), (2, .int b), (3, .int q)]) G0.1 G0.2.1 dX12_met_100 hl (by decide) rfl (fun ls hl => ?_)
                    exact jn_102 v_62 x_88 _ _ ls hw (lv_sub hl [2, 0, 1, 3, 4, 5, 6] rfl)
          exact lo_43 _ 0 (-1) 0 _ _ ls rfl ⟨by omega, by omega⟩ hw (lv_sub hl [0, 1, 2, 3, 4, 5, 6] rfl)
        · skip
          have tc_61 := ti_eq c_61
          clear en_58
          replace en_59 := en_59 (by omega)
          refine lv_ldcw (v := (-1000000)) G0.1 G0.2.1 G0.2.2.2.1 (G0.2.2.2.2 (Cond.constant RX12 350 (-1000000)) (by decide +kernel)) dX12_met_30 ?_
          exact py_iret G0 hr rfl hlk hw ⟨rfl, rfl⟩ dX12_met_33

def w_X12_leap : List Cond := .code yX12_leap cX12_leap 6 (some .int) :: ([Cond.methodLink RX12 347 yX12_isFamily, Cond.instanceMethod yX12_isFamily, Cond.selects RX12 yX12_isFamily yX12_isFamily, Cond.initialized RX12, Cond.fieldLink RX12 309 "HeadYearModel" "years" "I", Cond.fieldLink RX12 83 "HeadYearModel" "diaryLevel" "[I", Cond.methodLink RX12 411 Lib.Math.abs.name, Cond.static Lib.Math.abs.name, Cond.initialized "java/lang/Math", Cond.code Lib.Math.abs.name Lib.Math.abs.code 1 (some .int), Cond.methodLink RX12 328 Lib.Math.max.name, Cond.static Lib.Math.max.name, Cond.code Lib.Math.max.name Lib.Math.max.code 2 (some .int), Cond.constant RX12 350 (-1000000)] ++ (u_ws RX12 TX12 54 ++ (w_X12_isFamily ++ ([]))))
theorem in_X12_leap_X12 : ∀ w ∈ u_ws RX12 TX12 54, w ∈ w_X12_leap := fun _ h => List.mem_cons_of_mem _ (List.mem_append_right _ (List.mem_append_left _ h))
theorem gg_X12_leap_X12_isFamily : GoodIn w_X12_leap w_X12_isFamily := goodIn_sub (fun _ h => List.mem_cons_of_mem _ (List.mem_append_right _ (List.mem_append_right _ (List.mem_append_left _ h)))) (by decide +kernel)
theorem g_X12_leap_X12_isFamily_347 : GoodIn w_X12_leap (wsV RX12 347 RX12 yX12_isFamily w_X12_isFamily) := goodIn_app (goodIn_of _ (by decide +kernel)) gg_X12_leap_X12_isFamily
set_option maxHeartbeats 4000000 in
set_option maxRecDepth 100000 in
theorem c_X12_leap (l : Launch) (E : py_E) (G : wf_G) (L : List Nat) (f : py_F) (sz : Nat) (u : Nat) (a : Int32) (hG : GT G) (hWF : WF E G L f) (Tu : G.1 u = 13) : Met l yX12_leap w_X12_leap ({ frames := 2, cells := 0, slots := 0, locals := 43 }) (py_Pc E [.ref u, .int a] L f sz) (py_Qi E L f sz (fun _ L1 f1 => L = L1 ∧ f = f1)) 0 0 (va_A (va_pl L f) sz) := by
  refine Met.ofW (cc := cX12_leap) (maxL := 6) (ret := (some .int)) (by decide) rfl ?_
  intro p e s m args below meth c s₁ B hml hv
  obtain ⟨rfl, rfl, hw⟩ := py_start hv
  have G0 : CallFix p m c cX12_leap 6 s _ w_X12_leap RX12 := ⟨B.exec, B.bytes, hml, findClass_of_methodNamed B.named, atoms_spec (ws := w_X12_leap) B.pre⟩
  have hr := B.returns
  have hlk := B.notSynchronized
  have kcm1000000 : (-1000000 : Int32).toInt = -1000000 := rfl
  have kcm1 : (-1 : Int32).toInt = -1 := rfl
  have kc0 : (0 : Int32).toInt = 0 := rfl
  have kc1 : (1 : Int32).toInt = 1 := rfl
  have kc10 : (10 : Int32).toInt = 10 := rfl
  have hl := lv_entry ([.ref u, .int a]) (n := 6) (Nat.le_of_ble_eq_true rfl)
  rw [lg_entry_eq]
  generalize (lg_sl ([.ref u, .int a]) ++ List.replicate (6 - (lg_sl ([.ref u, .int a])).length) Slot.unset).toArray = ls at hl ⊢
  have hl : lv_has ls 6 [(0, .ref u), (1, .int a)] := hl
  refine lv_aload_n G0.1 G0.2.1 dX12_leap_0 rfl (lv_at hl 0 rfl) ?_
  refine lv_iload_n G0.1 G0.2.1 dX12_leap_1 rfl (lv_at hl 1 rfl) ?_
  obtain ⟨v_1, v_2, v_3, v_4, v_5, v_6, v_7, v_8, v_9, v_10, v_11, v_12, y_13, v_14, v_15, v_16, v_17, v_18, y_19, v_20, y_21, v_22, hr_35, b_23, b_24, b_25, b_26, b_27, b_28, b_29, b_30, b_31, b_32, b_33, b_34⟩ := wg_12 hWF Tu
  refine py_calli hw (va_runV (As := [.int a]) (rest := []) G0 (c_X12_isFamily l E G L f s.heap.size u a hG hWF Tu) (cwV 1 G0.2.2.2.2 g_X12_leap_X12_isFamily_347 rfl rfl rfl (by decide +kernel) ⟨(Nat.le_of_ble_eq_true rfl), (Nat.le_of_ble_eq_true rfl)⟩) (py_preV hw (C := RX12) (T := TX12) (N := 54) rfl hr_35) rfl rfl hl.1 rfl (lv_room (Nat.le_of_ble_eq_true rfl)) dX12_leap_2 ⟨(Nat.le_of_ble_eq_true rfl), (Nat.le_of_ble_eq_true rfl)⟩) (fun r_40 L_36 f_37 H_38 locs hp_39 hw => ?_)
  obtain ⟨b_42, en_41, rfl, rfl⟩ := hp_39
  refine lv_if_ne (tgt := 12) G0.1 G0.2.1 dX12_leap_5 (by decide) (fun c_43 => ?_) (fun c_43 => ?_)
  · skip
    have tc_43 := ti_ne c_43
    replace en_41 := en_41 (by omega)
    refine lv_iconst (v := 0) G0.1 G0.2.1 dX12_leap_12 (by decide) ?_
    refine lv_istore_n (lv' := [(2, .int 0), (0, .ref u), (1, .int a)]) G0.1 G0.2.1 dX12_leap_13 rfl hl (by decide) rfl (fun ls hl => ?_)
    refine lv_iconst (v := 1) G0.1 G0.2.1 dX12_leap_14 (by decide) ?_
    refine lv_istore_n (lv' := [(3, .int 1), (2, .int 0), (0, .ref u), (1, .int a)]) G0.1 G0.2.1 dX12_leap_15 rfl hl (by decide) rfl (fun ls hl => ?_)
    have lo_16 : ∀ n_16 : Nat, ∀ (v_44 : Int32) (v_45 : Int32) (H_j16 : Heap) (locs : List Loc) (ls : Array Slot), (2147483647 - v_44.toInt).toNat = n_16 → (1 ≤ v_44.toInt ∧ v_44.toInt ≤ 2147483647) → py_W E (va_A (va_pl L f) s.heap.size) s L f H_j16 locs → lv_has ls 6 [(3, .int v_44), (2, .int v_45), (0, .ref u), (1, .int a)] → W p l e (headSpec w_X12_leap ({ frames := 2, cells := 0, slots := 0, locals := 43 })).room s m ([.ref u, .int a] : List Value).toArray below meth c H_j16 locs 0 0 (MQ below (py_Qi E L f s.heap.size (fun _ L1 f1 => L = L1 ∧ f = f1)) ([.ref u, .int a] : List Value).toArray s 0 0 (va_A (va_pl L f) s.heap.size)) (F0 m 16 ls []) := by
      intro n_16
      induction n_16 using Nat.strongRecOn with
      | _ n_16 ih_16 =>
        intro v_44 v_45 H_j16 locs ls hn_16 bv_44 hw hl
        refine lv_iload_n G0.1 G0.2.1 dX12_leap_16 rfl (lv_at hl 0 rfl) ?_
        refine lv_aload_n G0.1 G0.2.1 dX12_leap_17 rfl (lv_at hl 2 rfl) ?_
        refine py_get (C := RX12) (T := TX12) (N := 54) (k := 29) (v := .int v_12) G0 hw in_X12_leap_X12 rfl hr_35 (by decide) (by decide +kernel) rfl dX12_leap_18 ?_
        refine lv_icmp_ge (tgt := 87) G0.1 G0.2.1 dX12_leap_21 (by decide) (fun c_46 => ?_) (fun c_46 => ?_)
        · skip
          have tc_46 := ti_le c_46
          refine lv_iload_n G0.1 G0.2.1 dX12_leap_87 rfl (lv_at hl 1 rfl) ?_
          exact py_iret G0 hr rfl hlk hw ⟨rfl, rfl⟩ dX12_leap_88
        · skip
          have tc_46 := ti_nle c_46
          refine lv_aload_n G0.1 G0.2.1 dX12_leap_24 rfl (lv_at hl 2 rfl) ?_
          refine py_get (C := RX12) (T := TX12) (N := 54) (k := 38) (v := .ref (G.2 u 38)) G0 hw in_X12_leap_X12 rfl hr_35 (by decide) (by decide +kernel) rfl dX12_leap_25 ?_
          refine lv_bipush (v := 10) G0.1 G0.2.1 dX12_leap_28 (by decide) ?_
          refine lv_iload_n G0.1 G0.2.1 dX12_leap_30 rfl (lv_at hl 0 rfl) ?_
          refine lv_iconst (v := 1) G0.1 G0.2.1 dX12_leap_31 (by decide) ?_
          refine lv_isub G0.1 G0.2.1 dX12_leap_32 ?_
          refine lv_topi (fun x_47 ex_47 => ?_)
          first | have tx_47 := ti_sub ex_47 (by omega -splitDisjunctions) (by omega -splitDisjunctions) | skip
          refine lv_imul G0.1 G0.2.1 dX12_leap_33 ?_
          refine lv_topi (fun x_48 ex_48 => ?_)
          first | have tx_48 := ti_muld ex_48 kc10 (by omega -splitDisjunctions) (by omega -splitDisjunctions) | skip
          refine lv_iload_n G0.1 G0.2.1 dX12_leap_34 rfl (lv_at hl 3 rfl) ?_
          refine lv_iadd G0.1 G0.2.1 dX12_leap_35 ?_
          refine lv_topi (fun x_49 ex_49 => ?_)
          first | have tx_49 := ti_add ex_49 (by omega -splitDisjunctions) (by omega -splitDisjunctions) | skip
          obtain ⟨g_50, ha_51, hi_52⟩ := wf_arr (n := 600) (lo := (-2147483648)) (hi := 2147483647) hWF (wt12_38 hG Tu) (by decide) (fun _ => rfl)
          have rg_53 : vp_in x_49 600 := ti_in (by omega) (by omega)
          refine py_iald G0 hw ha_51 rg_53 dX12_leap_36 ?_
          refine lv_topi (fun x_54 ex_54 => ?_)
          have bx_54 := wf_free x_54
          refine lv_istore (lv' := [(4, .int x_54), (3, .int v_44), (2, .int v_45), (0, .ref u), (1, .int a)]) G0.1 G0.2.1 dX12_leap_37 hl (by decide) rfl (fun ls hl => ?_)
          refine lv_aload_n G0.1 G0.2.1 dX12_leap_39 rfl (lv_at hl 3 rfl) ?_
          refine py_get (C := RX12) (T := TX12) (N := 54) (k := 38) (v := .ref (G.2 u 38)) G0 hw in_X12_leap_X12 rfl hr_35 (by decide) (by decide +kernel) rfl dX12_leap_40 ?_
          refine lv_bipush (v := 10) G0.1 G0.2.1 dX12_leap_43 (by decide) ?_
          refine lv_iload_n G0.1 G0.2.1 dX12_leap_45 rfl (lv_at hl 1 rfl) ?_
          refine lv_imul G0.1 G0.2.1 dX12_leap_46 ?_
          refine lv_topi (fun x_55 ex_55 => ?_)
          first | have tx_55 := ti_muld ex_55 kc10 (by omega -splitDisjunctions) (by omega -splitDisjunctions) | skip
          refine lv_iload_n G0.1 G0.2.1 dX12_leap_47 rfl (lv_at hl 4 rfl) ?_
          refine lv_iadd G0.1 G0.2.1 dX12_leap_48 ?_
          refine lv_topi (fun x_56 ex_56 => ?_)
          first | have tx_56 := ti_add ex_56 (by omega -splitDisjunctions) (by omega -splitDisjunctions) | skip
          have rg_57 : vp_in x_56 600 := ti_in (by omega) (by omega)
          refine py_iald G0 hw ha_51 rg_57 dX12_leap_49 ?_
          refine lv_topi (fun x_58 ex_58 => ?_)
          have bx_58 := wf_free x_58
          refine lv_istore (lv' := [(5, .int x_58), (4, .int x_54), (3, .int v_44), (2, .int v_45), (0, .ref u), (1, .int a)]) G0.1 G0.2.1 dX12_leap_50 hl (by decide) rfl (fun ls hl => ?_)
          refine lv_iload G0.1 G0.2.1 dX12_leap_52 (lv_at hl 1 rfl) ?_
          refine lv_iconst (v := (-1)) G0.1 G0.2.1 dX12_leap_54 (by decide) ?_
          have jn_80 : ∀ (v_59 : Int32) (H_j80 : Heap) (locs : List Loc) (ls : Array Slot), py_W E (va_A (va_pl L f) s.heap.size) s L f H_j80 locs → lv_has ls 6 [(5, .int x_58), (4, .int x_54), (3, .int v_44), (2, .int v_45), (0, .ref u), (1, .int a)] → W p l e (headSpec w_X12_leap ({ frames := 2, cells := 0, slots := 0, locals := 43 })).room s m ([.ref u, .int a] : List Value).toArray below meth c H_j80 locs 0 0 (MQ below (py_Qi E L f s.heap.size (fun _ L1 f1 => L = L1 ∧ f = f1)) ([.ref u, .int a] : List Value).toArray s 0 0 (va_A (va_pl L f) s.heap.size)) (F0 m 80 ls [.int v_59]) := by
            intro v_59 H_j80 locs ls hw hl
            refine lv_istore_n (lv' := [(2, .int v_59), (5, .int x_58), (4, .int x_54), (3, .int v_44), (0, .ref u), (1, .int a)]) G0.1 G0.2.1 dX12_leap_80 rfl hl (by decide) rfl (fun ls hl => ?_)
            obtain ⟨x_60, ex_60⟩ : ∃ y : Int32, y = v_44 + 1 := ⟨_, rfl⟩
            first | have tx_60 := ti_add ex_60 (by omega -splitDisjunctions) (by omega -splitDisjunctions) | skip
            refine lv_iinc (v := x_60) (lv' := [(3, .int x_60), (2, .int v_59), (5, .int x_58), (4, .int x_54), (0, .ref u), (1, .int a)]) G0.1 G0.2.1 dX12_leap_81 hl (k := 3) rfl (show _ + (1 : Int32) = _ from ex_60.symm) (by decide) rfl (fun ls hl => ?_)
            refine lv_goto (tgt := 16) G0.1 G0.2.1 dX12_leap_84 (by decide) ?_
            exact ih_16 ((2147483647 - x_60.toInt).toNat) (by omega) x_60 v_59 _ _ ls rfl ⟨by omega, by omega⟩ hw (lv_sub hl [0, 1, 4, 5] rfl)
          refine lv_icmp_eq (tgt := 79) G0.1 G0.2.1 dX12_leap_55 (by decide) (fun c_61 => ?_) (fun c_61 => ?_)
          · skip
            have tc_61 := ti_eq c_61
            refine lv_iload_n G0.1 G0.2.1 dX12_leap_79 rfl (lv_at hl 3 rfl) ?_
            exact jn_80 v_45 _ _ ls hw (lv_sub hl [0, 1, 2, 3, 4, 5] rfl)
          · skip
            have tc_61 := ti_ne c_61
            refine lv_iload G0.1 G0.2.1 dX12_leap_58 (lv_at hl 0 rfl) ?_
            refine lv_iconst (v := (-1)) G0.1 G0.2.1 dX12_leap_60 (by decide) ?_
            refine lv_icmp_eq (tgt := 79) G0.1 G0.2.1 dX12_leap_61 (by decide) (fun c_62 => ?_) (fun c_62 => ?_)
            · skip
              have tc_62 := ti_eq c_62
              refine lv_iload_n G0.1 G0.2.1 dX12_leap_79 rfl (lv_at hl 3 rfl) ?_
              exact jn_80 v_45 _ _ ls hw (lv_sub hl [0, 1, 2, 3, 4, 5] rfl)
            · skip
              have tc_62 := ti_ne c_62
              refine lv_iload_n G0.1 G0.2.1 dX12_leap_64 rfl (lv_at hl 3 rfl) ?_
              refine lv_iload G0.1 G0.2.1 dX12_leap_65 (lv_at hl 0 rfl) ?_
              refine lv_iload G0.1 G0.2.1 dX12_leap_67 (lv_at hl 1 rfl) ?_
              refine lv_isub G0.1 G0.2.1 dX12_leap_69 ?_
              refine lv_topi (fun x_63 ex_63 => ?_)
              first | have tx_63 := ti_sub ex_63 (by omega -splitDisjunctions) (by omega -splitDisjunctions) | skip
              refine va_mabs G0.1 G0.2.1 (by rw [G0.2.2.1, hl.1]) G0.2.2.2.1 (G0.2.2.2.2 (Cond.methodLink RX12 411 Lib.Math.abs.name) (by decide +kernel)) (G0.2.2.2.2 (Cond.static Lib.Math.abs.name) (by decide +kernel)) (G0.2.2.2.2 (Cond.initialized "java/lang/Math") (by decide +kernel)) (G0.2.2.2.2 (Cond.code Lib.Math.abs.name Lib.Math.abs.code 1 (some .int)) (by decide +kernel)) (Nat.le_of_ble_eq_true rfl) (Nat.le_of_ble_eq_true rfl) (Nat.le_of_ble_eq_true rfl) (Nat.le_of_ble_eq_true rfl) dX12_leap_70 ?_
              refine lv_topi (fun x_64 ex_64 => ?_)
              refine va_mmax G0.1 G0.2.1 (by rw [G0.2.2.1, hl.1]) G0.2.2.2.1 (G0.2.2.2.2 (Cond.methodLink RX12 328 Lib.Math.max.name) (by decide +kernel)) (G0.2.2.2.2 (Cond.static Lib.Math.max.name) (by decide +kernel)) (G0.2.2.2.2 (Cond.initialized "java/lang/Math") (by decide +kernel)) (G0.2.2.2.2 (Cond.code Lib.Math.max.name Lib.Math.max.code 2 (some .int)) (by decide +kernel)) (Nat.le_of_ble_eq_true rfl) (Nat.le_of_ble_eq_true rfl) (Nat.le_of_ble_eq_true rfl) (Nat.le_of_ble_eq_true rfl) dX12_leap_73 ?_
              refine lv_topi (fun x_65 ex_65 => ?_)
              have tx_65 := ti_max ex_65
              refine lv_goto (tgt := 80) G0.1 G0.2.1 dX12_leap_76 (by decide) ?_
              exact jn_80 x_65 _ _ ls hw (lv_sub hl [0, 1, 2, 3, 4, 5] rfl)
    exact lo_16 _ 1 0 _ _ ls rfl ⟨by omega, by omega⟩ hw (lv_sub hl [0, 1, 2, 3] rfl)
  · skip
    have tc_43 := ti_eq c_43
    clear en_41
    refine lv_ldcw (v := (-1000000)) G0.1 G0.2.1 G0.2.2.2.1 (G0.2.2.2.2 (Cond.constant RX12 350 (-1000000)) (by decide +kernel)) dX12_leap_8 ?_
    exact py_iret G0 hr rfl hlk hw ⟨rfl, rfl⟩ dX12_leap_11

def w_X12_leanest : List Cond := .code yX12_leanest cX12_leanest 4 (some .int) :: ([Cond.fieldLink RX12 309 "HeadYearModel" "years" "I", Cond.methodLink RX12 232 yX12_in, Cond.static yX12_in, Cond.initialized RX12, Cond.methodLink RX12 448 yX12_headsIn, Cond.instanceMethod yX12_headsIn, Cond.selects RX12 yX12_headsIn yX12_headsIn] ++ (u_ws RX12 TX12 54 ++ (w_X12_in ++ (w_X12_headsIn ++ ([])))))
theorem in_X12_leanest_X12 : ∀ w ∈ u_ws RX12 TX12 54, w ∈ w_X12_leanest := fun _ h => List.mem_cons_of_mem _ (List.mem_append_right _ (List.mem_append_left _ h))
theorem gg_X12_leanest_X12_in : GoodIn w_X12_leanest w_X12_in := goodIn_sub (fun _ h => List.mem_cons_of_mem _ (List.mem_append_right _ (List.mem_append_right _ (List.mem_append_left _ h)))) (by decide +kernel)
theorem gg_X12_leanest_X12_headsIn : GoodIn w_X12_leanest w_X12_headsIn := goodIn_sub (fun _ h => List.mem_cons_of_mem _ (List.mem_append_right _ (List.mem_append_right _ (List.mem_append_right _ (List.mem_append_left _ h))))) (by decide +kernel)
theorem g_X12_leanest_X12_headsIn_448 : GoodIn w_X12_leanest (wsV RX12 448 RX12 yX12_headsIn w_X12_headsIn) := goodIn_app (goodIn_of _ (by decide +kernel)) gg_X12_leanest_X12_headsIn
theorem g_X12_leanest_X12_in_232 : GoodIn w_X12_leanest (va_wsS RX12 232 yX12_in w_X12_in) := goodIn_app (goodIn_of _ (by decide +kernel)) gg_X12_leanest_X12_in
set_option maxHeartbeats 4000000 in
set_option maxRecDepth 100000 in
theorem c_X12_leanest (l : Launch) (E : py_E) (G : wf_G) (L : List Nat) (f : py_F) (sz : Nat) (u : Nat) (a : Int32) (hG : GT G) (hWF : WF E G L f) (Tu : G.1 u = 13) : Met l yX12_leanest w_X12_leanest ({ frames := 1, cells := 0, slots := 0, locals := 23 }) (py_Pc E [.ref u, .int a] L f sz) (py_Qi E L f sz (fun _ L1 f1 => L = L1 ∧ f = f1)) 0 0 (va_A (va_pl L f) sz) := by
  refine Met.ofW (cc := cX12_leanest) (maxL := 4) (ret := (some .int)) (by decide) rfl ?_
  intro p e s m args below meth c s₁ B hml hv
  obtain ⟨rfl, rfl, hw⟩ := py_start hv
  have G0 : CallFix p m c cX12_leanest 4 s _ w_X12_leanest RX12 := ⟨B.exec, B.bytes, hml, findClass_of_methodNamed B.named, atoms_spec (ws := w_X12_leanest) B.pre⟩
  have hr := B.returns
  have hlk := B.notSynchronized
  have kcm1 : (-1 : Int32).toInt = -1 := rfl
  have kc0 : (0 : Int32).toInt = 0 := rfl
  have kc1 : (1 : Int32).toInt = 1 := rfl
  have hl := lv_entry ([.ref u, .int a]) (n := 4) (Nat.le_of_ble_eq_true rfl)
  rw [lg_entry_eq]
  generalize (lg_sl ([.ref u, .int a]) ++ List.replicate (4 - (lg_sl ([.ref u, .int a])).length) Slot.unset).toArray = ls at hl ⊢
  have hl : lv_has ls 4 [(0, .ref u), (1, .int a)] := hl
  refine lv_aload_n G0.1 G0.2.1 dX12_leanest_0 rfl (lv_at hl 0 rfl) ?_
  obtain ⟨v_1, v_2, v_3, v_4, v_5, v_6, v_7, v_8, v_9, v_10, v_11, v_12, y_13, v_14, v_15, v_16, v_17, v_18, y_19, v_20, y_21, v_22, hr_35, b_23, b_24, b_25, b_26, b_27, b_28, b_29, b_30, b_31, b_32, b_33, b_34⟩ := wg_12 hWF Tu
  refine py_get (C := RX12) (T := TX12) (N := 54) (k := 29) (v := .int v_12) G0 hw in_X12_leanest_X12 rfl hr_35 (by decide) (by decide +kernel) rfl dX12_leanest_1 ?_
  refine lv_if_eq (tgt := 16) G0.1 G0.2.1 dX12_leanest_4 (by decide) (fun c_36 => ?_) (fun c_36 => ?_)
  · skip
    have tc_36 := ti_eq c_36
    refine lv_iconst (v := (-1)) G0.1 G0.2.1 dX12_leanest_16 (by decide) ?_
    exact py_iret G0 hr rfl hlk hw ⟨rfl, rfl⟩ dX12_leanest_17
  · skip
    have tc_36 := ti_ne c_36
    refine lv_iload_n G0.1 G0.2.1 dX12_leanest_7 rfl (lv_at hl 1 rfl) ?_
    refine lv_iconst (v := 0) G0.1 G0.2.1 dX12_leanest_8 (by decide) ?_
    refine lv_iconst (v := 1) G0.1 G0.2.1 dX12_leanest_9 (by decide) ?_
    refine py_calli hw (va_runS (As := [.int a, .int 0, .int 1]) (rest := []) G0 (c_X12_in l E G L f s.heap.size a 0 1 hG hWF) (va_cwS 3 G0.2.2.2.2 g_X12_leanest_X12_in_232 rfl rfl rfl (by decide +kernel) ⟨(Nat.le_of_ble_eq_true rfl), (Nat.le_of_ble_eq_true rfl)⟩) (py_preS hw) rfl rfl hl.1 rfl (lv_room (Nat.le_of_ble_eq_true rfl)) dX12_leanest_10 ⟨(Nat.le_of_ble_eq_true rfl), (Nat.le_of_ble_eq_true rfl)⟩) (fun r_41 L_37 f_38 H_39 locs hp_40 hw => ?_)
    obtain ⟨b_44, en_42, en_43, rfl, rfl⟩ := hp_40
    have en_42 : r_41.toInt ≠ 0 → (0 : Int) ≤ a.toInt ∧ a.toInt ≤ (1 : Int) := en_42
    have en_43 : r_41.toInt = 0 → a.toInt < (0 : Int) ∨ (1 : Int) < a.toInt := en_43
    refine lv_if_ne (tgt := 18) G0.1 G0.2.1 dX12_leanest_13 (by decide) (fun c_45 => ?_) (fun c_45 => ?_)
    · skip
      have tc_45 := ti_ne c_45
      replace en_42 := en_42 (by omega)
      clear en_43
      refine lv_iconst (v := 0) G0.1 G0.2.1 dX12_leanest_18 (by decide) ?_
      refine lv_istore_n (lv' := [(2, .int 0), (0, .ref u), (1, .int a)]) G0.1 G0.2.1 dX12_leanest_19 rfl hl (by decide) rfl (fun ls hl => ?_)
      refine lv_iconst (v := 1) G0.1 G0.2.1 dX12_leanest_20 (by decide) ?_
      refine lv_istore_n (lv' := [(3, .int 1), (2, .int 0), (0, .ref u), (1, .int a)]) G0.1 G0.2.1 dX12_leanest_21 rfl hl (by decide) rfl (fun ls hl => ?_)
      have lo_22 : ∀ n_22 : Nat, ∀ (v_46 : Int32) (v_47 : Int32) (H_j22 : Heap) (locs : List Loc) (ls : Array Slot), (2147483647 - v_46.toInt).toNat = n_22 → (1 ≤ v_46.toInt ∧ v_46.toInt ≤ 2147483647) → (0 ≤ v_47.toInt ∧ v_47.toInt ≤ 59) → py_W E (va_A (va_pl L f) s.heap.size) s L f H_j22 locs → lv_has ls 4 [(3, .int v_46), (2, .int v_47), (0, .ref u), (1, .int a)] → W p l e (headSpec w_X12_leanest ({ frames := 1, cells := 0, slots := 0, locals := 23 })).room s m ([.ref u, .int a] : List Value).toArray below meth c H_j22 locs 0 0 (MQ below (py_Qi E L f s.heap.size (fun _ L1 f1 => L = L1 ∧ f = f1)) ([.ref u, .int a] : List Value).toArray s 0 0 (va_A (va_pl L f) s.heap.size)) (F0 m 22 ls []) := by
        intro n_22
        induction n_22 using Nat.strongRecOn with
        | _ n_22 ih_22 =>
          intro v_46 v_47 H_j22 locs ls hn_22 bv_46 bv_47 hw hl
          refine lv_iload_n G0.1 G0.2.1 dX12_leanest_22 rfl (lv_at hl 0 rfl) ?_
          refine lv_aload_n G0.1 G0.2.1 dX12_leanest_23 rfl (lv_at hl 2 rfl) ?_
          refine py_get (C := RX12) (T := TX12) (N := 54) (k := 29) (v := .int v_12) G0 hw in_X12_leanest_X12 rfl hr_35 (by decide) (by decide +kernel) rfl dX12_leanest_24 ?_
          refine lv_icmp_ge (tgt := 55) G0.1 G0.2.1 dX12_leanest_27 (by decide) (fun c_48 => ?_) (fun c_48 => ?_)
          · skip
            have tc_48 := ti_le c_48
            refine lv_iload_n G0.1 G0.2.1 dX12_leanest_55 rfl (lv_at hl 3 rfl) ?_
            refine lv_if_ne (tgt := 63) G0.1 G0.2.1 dX12_leanest_56 (by decide) (fun c_49 => ?_) (fun c_49 => ?_)
            · skip
              have tc_49 := ti_ne c_49
              refine lv_aload_n G0.1 G0.2.1 dX12_leanest_63 rfl (lv_at hl 2 rfl) ?_
              refine lv_iload_n G0.1 G0.2.1 dX12_leanest_64 rfl (lv_at hl 1 rfl) ?_
              refine py_calli hw (va_runV (As := [.int v_47]) (rest := []) G0 (c_X12_headsIn l E G L f H_j22.size u v_47 hG hWF Tu ⟨by omega, by omega⟩) (cwV 1 G0.2.2.2.2 g_X12_leanest_X12_headsIn_448 rfl rfl rfl (by decide +kernel) ⟨(Nat.le_of_ble_eq_true rfl), (Nat.le_of_ble_eq_true rfl)⟩) (py_preV hw (C := RX12) (T := TX12) (N := 54) rfl hr_35) rfl rfl hl.1 rfl (lv_room (Nat.le_of_ble_eq_true rfl)) dX12_leanest_65 ⟨(Nat.le_of_ble_eq_true rfl), (Nat.le_of_ble_eq_true rfl)⟩) (fun r_54 L_50 f_51 H_52 locs hp_53 hw => ?_)
              obtain ⟨rfl, rfl⟩ := hp_53
              have br_54 := wf_free r_54
              exact py_iret G0 hr rfl hlk hw ⟨rfl, rfl⟩ dX12_leanest_68
            · skip
              have tc_49 := ti_eq c_49
              refine lv_iload_n G0.1 G0.2.1 dX12_leanest_59 rfl (lv_at hl 1 rfl) ?_
              refine lv_goto (tgt := 68) G0.1 G0.2.1 dX12_leanest_60 (by decide) ?_
              exact py_iret G0 hr rfl hlk hw ⟨rfl, rfl⟩ dX12_leanest_68
          · skip
            have tc_48 := ti_nle c_48
            refine lv_aload_n G0.1 G0.2.1 dX12_leanest_30 rfl (lv_at hl 2 rfl) ?_
            refine lv_iload_n G0.1 G0.2.1 dX12_leanest_31 rfl (lv_at hl 0 rfl) ?_
            refine py_calli hw (va_runV (As := [.int v_46]) (rest := []) G0 (c_X12_headsIn l E G L f H_j22.size u v_46 hG hWF Tu ⟨by omega, by omega⟩) (cwV 1 G0.2.2.2.2 g_X12_leanest_X12_headsIn_448 rfl rfl rfl (by decide +kernel) ⟨(Nat.le_of_ble_eq_true rfl), (Nat.le_of_ble_eq_true rfl)⟩) (py_preV hw (C := RX12) (T := TX12) (N := 54) rfl hr_35) rfl rfl hl.1 rfl (lv_room (Nat.le_of_ble_eq_true rfl)) dX12_leanest_32 ⟨(Nat.le_of_ble_eq_true rfl), (Nat.le_of_ble_eq_true rfl)⟩) (fun r_59 L_55 f_56 H_57 locs hp_58 hw => ?_)
            obtain ⟨rfl, rfl⟩ := hp_58
            have br_59 := wf_free r_59
            refine lv_aload_n G0.1 G0.2.1 dX12_leanest_35 rfl (lv_at hl 2 rfl) ?_
            refine lv_iload_n G0.1 G0.2.1 dX12_leanest_36 rfl (lv_at hl 1 rfl) ?_
            refine py_calli hw (va_runV (As := [.int v_47]) (rest := [.int r_59]) G0 (c_X12_headsIn l E G L f H_57.size u v_47 hG hWF Tu ⟨by omega, by omega⟩) (cwV 1 G0.2.2.2.2 g_X12_leanest_X12_headsIn_448 rfl rfl rfl (by decide +kernel) ⟨(Nat.le_of_ble_eq_true rfl), (Nat.le_of_ble_eq_true rfl)⟩) (py_preV hw (C := RX12) (T := TX12) (N := 54) rfl hr_35) rfl rfl hl.1 rfl (lv_room (Nat.le_of_ble_eq_true rfl)) dX12_leanest_37 ⟨(Nat.le_of_ble_eq_true rfl), (Nat.le_of_ble_eq_true rfl)⟩) (fun r_64 L_60 f_61 H_62 locs hp_63 hw => ?_)
            obtain ⟨rfl, rfl⟩ := hp_63
            have br_64 := wf_free r_64
            refine lv_icmp_ge (tgt := 47) G0.1 G0.2.1 dX12_leanest_40 (by decide) (fun c_65 => ?_) (fun c_65 => ?_)
            · skip
              have tc_65 := ti_le c_65
              refine lv_iload_n G0.1 G0.2.1 dX12_leanest_47 rfl (lv_at hl 1 rfl) ?_
              refine lv_istore_n (lv' := [(2, .int v_47), (3, .int v_46), (0, .ref u), (1, .int a)]) G0.1 G0.2.1 dX12_leanest_48 rfl hl (by decide) rfl (fun ls hl => ?_)
              obtain ⟨x_66, ex_66⟩ : ∃ y : Int32, y = v_46 + 1 := ⟨_, rfl⟩
              first | have tx_66 := ti_add ex_66 (by omega -splitDisjunctions) (by omega -splitDisjunctions) | skip
              refine lv_iinc (v := x_66) (lv' := [(3, .int x_66), (2, .int v_47), (0, .ref u), (1, .int a)]) G0.1 G0.2.1 dX12_leanest_49 hl (k := 1) rfl (show _ + (1 : Int32) = _ from ex_66.symm) (by decide) rfl (fun ls hl => ?_)
              refine lv_goto (tgt := 22) G0.1 G0.2.1 dX12_leanest_52 (by decide) ?_
              exact ih_22 ((2147483647 - x_66.toInt).toNat) (by omega) x_66 v_47 _ _ ls rfl ⟨by omega, by omega⟩ ⟨by omega, by omega⟩ hw (lv_sub hl [0, 1, 2, 3] rfl)
            · skip
              have tc_65 := ti_nle c_65
              refine lv_iload_n G0.1 G0.2.1 dX12_leanest_43 rfl (lv_at hl 0 rfl) ?_
              refine lv_goto (tgt := 48) G0.1 G0.2.1 dX12_leanest_44 (by decide) ?_
              refine lv_istore_n (lv' := [(2, .int v_46), (3, .int v_46), (0, .ref u), (1, .int a)]) G0.1 G0.2.1 dX12_leanest_48 rfl hl (by decide) rfl (fun ls hl => ?_)
              obtain ⟨x_67, ex_67⟩ : ∃ y : Int32, y = v_46 + 1 := ⟨_, rfl⟩
              first | have tx_67 := ti_add ex_67 (by omega -splitDisjunctions) (by omega -splitDisjunctions) | skip
              refine lv_iinc (v := x_67) (lv' := [(3, .int x_67), (2, .int v_46), (0, .ref u), (1, .int a)]) G0.1 G0.2.1 dX12_leanest_49 hl (k := 1) rfl (show _ + (1 : Int32) = _ from ex_67.symm) (by decide) rfl (fun ls hl => ?_)
              refine lv_goto (tgt := 22) G0.1 G0.2.1 dX12_leanest_52 (by decide) ?_
              exact ih_22 ((2147483647 - x_67.toInt).toNat) (by omega) x_67 v_46 _ _ ls rfl ⟨by omega, by omega⟩ ⟨by omega, by omega⟩ hw (lv_sub hl [0, 1, 2, 3] rfl)
      exact lo_22 _ 1 0 _ _ ls rfl ⟨by omega, by omega⟩ ⟨by omega, by omega⟩ hw (lv_sub hl [0, 1, 2, 3] rfl)
    · skip
      have tc_45 := ti_eq c_45
      clear en_42
      replace en_43 := en_43 (by omega)
      refine lv_iconst (v := (-1)) G0.1 G0.2.1 dX12_leanest_16 (by decide) ?_
      exact py_iret G0 hr rfl hlk hw ⟨rfl, rfl⟩ dX12_leanest_17

def w_X12_image : List Cond := .code yX12_image cX12_image 2 (some .int) :: ([Cond.fieldLink RX12 290 "HeadYearModel" "families" "I", Cond.fieldLink RX12 55 "HeadYearModel" "now" "[I", Cond.fieldLink RX12 61 "HeadYearModel" "image" "[I", Cond.methodLink RX12 437 yX12_copy, Cond.static yX12_copy, Cond.initialized RX12, Cond.fieldLink RX12 309 "HeadYearModel" "years" "I", Cond.fieldLink RX12 457 "HeadYearModel" "imageYears" "I", Cond.fieldLink RX12 357 "HeadYearModel" "draws" "J", Cond.fieldLink RX12 460 "HeadYearModel" "imageDraws" "J", Cond.fieldLink RX12 315 "HeadYearModel" "hasImage" "Z", Cond.fieldLink RX12 111 "HeadYearModel" "imageLevel" "[I", Cond.fieldLink RX12 83 "HeadYearModel" "diaryLevel" "[I", Cond.fieldLink RX12 114 "HeadYearModel" "imageHeads" "[I", Cond.fieldLink RX12 86 "HeadYearModel" "diaryHeads" "[I"] ++ (u_ws RX12 TX12 54 ++ (w_X12_copy ++ ([]))))
theorem in_X12_image_X12 : ∀ w ∈ u_ws RX12 TX12 54, w ∈ w_X12_image := fun _ h => List.mem_cons_of_mem _ (List.mem_append_right _ (List.mem_append_left _ h))
theorem gg_X12_image_X12_copy : GoodIn w_X12_image w_X12_copy := goodIn_sub (fun _ h => List.mem_cons_of_mem _ (List.mem_append_right _ (List.mem_append_right _ (List.mem_append_left _ h)))) (by decide +kernel)
theorem g_X12_image_X12_copy_437 : GoodIn w_X12_image (va_wsS RX12 437 yX12_copy w_X12_copy) := goodIn_app (goodIn_of _ (by decide +kernel)) gg_X12_image_X12_copy
set_option maxHeartbeats 4000000 in
set_option maxRecDepth 100000 in
theorem c_X12_image (l : Launch) (E : py_E) (G : wf_G) (L : List Nat) (f : py_F) (sz : Nat) (u : Nat) (hG : GT G) (hWF : WF E G L f) (Tu : G.1 u = 13) : Met l yX12_image w_X12_image ({ frames := 1, cells := 0, slots := 0, locals := 22 }) (py_Pc E [.ref u] L f sz) (py_Qi E L f sz (fun r L1 f1 => ((mi f u 25 = 0 ∧ r.toInt = -1 ∧ mi f1 u 51 = mi f u 51 ∧ mi f1 u 53 = mi f u 53) ∨ (mi f u 25 ≠ 0 ∧ r.toInt = mi f u 29 ∧ mi f1 u 51 = mi f u 29 ∧ mi f1 u 53 = 1)) ∧ WF E G L1 f1 ∧ KP G [57, 70, 71, 13] false f f1 ∧ FK [51, 52, 53] f f1 u)) 0 0 (va_A (va_pl L f) sz) := by
  refine Met.ofW (cc := cX12_image) (maxL := 2) (ret := (some .int)) (by decide) rfl ?_
  intro p e s m args below meth c s₁ B hml hv
  obtain ⟨rfl, rfl, hw⟩ := py_start hv
  have G0 : CallFix p m c cX12_image 2 s _ w_X12_image RX12 := ⟨B.exec, B.bytes, hml, findClass_of_methodNamed B.named, atoms_spec (ws := w_X12_image) B.pre⟩
  have hr := B.returns
  have hlk := B.notSynchronized
  have kcm1 : (-1 : Int32).toInt = -1 := rfl
  have kc0 : (0 : Int32).toInt = 0 := rfl
  have kc1 : (1 : Int32).toInt = 1 := rfl
  have kc600 : (600 : Int32).toInt = 600 := rfl
  have hl := lv_entry ([.ref u]) (n := 2) (Nat.le_of_ble_eq_true rfl)
  rw [lg_entry_eq]
  generalize (lg_sl ([.ref u]) ++ List.replicate (2 - (lg_sl ([.ref u])).length) Slot.unset).toArray = ls at hl ⊢
  have hl : lv_has ls 2 [(0, .ref u)] := hl
  have hFK : FK [51, 52, 53] f f u := FK.refl
  have hKP : KP G [57, 70, 71, 13] false f f := KP.refl
  refine lv_aload_n G0.1 G0.2.1 dX12_image_0 rfl (lv_at hl 0 rfl) ?_
  obtain ⟨v_1, v_2, v_3, v_4, v_5, v_6, v_7, v_8, v_9, v_10, v_11, v_12, y_13, v_14, v_15, v_16, v_17, v_18, y_19, v_20, y_21, v_22, hr_35, b_23, b_24, b_25, b_26, b_27, b_28, b_29, b_30, b_31, b_32, b_33, b_34⟩ := wg_12 hWF Tu
  have tq_36 := mi_row hr_35 25 rfl
  have tq_37 := mi_row hr_35 29 rfl
  have tq_38 := mi_row hr_35 51 rfl
  have tq_39 := mi_row hr_35 53 rfl
  refine py_get (C := RX12) (T := TX12) (N := 54) (k := 25) (v := .int v_11) G0 hw in_X12_image_X12 rfl hr_35 (by decide) (by decide +kernel) rfl dX12_image_1 ?_
  refine lv_if_ne (tgt := 9) G0.1 G0.2.1 dX12_image_4 (by decide) (fun c_40 => ?_) (fun c_40 => ?_)
  · skip
    have tc_40 := ti_ne c_40
    refine lv_aload_n G0.1 G0.2.1 dX12_image_9 rfl (lv_at hl 0 rfl) ?_
    refine py_get (C := RX12) (T := TX12) (N := 54) (k := 26) (v := .ref (G.2 u 26)) G0 hw in_X12_image_X12 rfl hr_35 (by decide) (by decide +kernel) rfl dX12_image_10 ?_
    refine lv_aload_n G0.1 G0.2.1 dX12_image_13 rfl (lv_at hl 0 rfl) ?_
    refine py_get (C := RX12) (T := TX12) (N := 54) (k := 28) (v := .ref (G.2 u 28)) G0 hw in_X12_image_X12 rfl hr_35 (by decide) (by decide +kernel) rfl dX12_image_14 ?_
    refine py_callv hw (va_runS (As := [.ref (G.2 u 26), .ref (G.2 u 28)]) (rest := []) G0 (c_X12_copy55_57 l E G L f s.heap.size (G.2 u 26) (G.2 u 28) hG hWF (wt12_26 hG Tu) (wt12_28 hG Tu)) (va_cwS 2 G0.2.2.2.2 g_X12_image_X12_copy_437 rfl rfl rfl (by decide +kernel) ⟨(Nat.le_of_ble_eq_true rfl), (Nat.le_of_ble_eq_true rfl)⟩) (py_preS hw) rfl rfl hl.1 rfl (lv_room (Nat.le_of_ble_eq_true rfl)) dX12_image_17 ⟨(Nat.le_of_ble_eq_true rfl), (Nat.le_of_ble_eq_true rfl)⟩) (fun L_41 f_42 H_43 locs hp_44 hw => ?_)
    obtain ⟨hWF, kp_46⟩ := hp_44
    have hFK := hFK.same (kp_f kp_46 Tu (by decide) (by decide) (fun _ => by decide))
    have hKP := hKP.trans kp_46 (by decide) (by decide)
    have hr_35 := kp_at kp_46 hWF Tu (by decide) (by decide) (by decide) hr_35
    have tq_47 := mi_row hr_35 25 rfl
    have tq_48 := mi_row hr_35 29 rfl
    have tq_49 := mi_row hr_35 51 rfl
    have tq_50 := mi_row hr_35 53 rfl
    refine lv_iconst (v := 0) G0.1 G0.2.1 dX12_image_20 (by decide) ?_
    refine lv_istore_n (lv' := [(1, .int 0), (0, .ref u)]) G0.1 G0.2.1 dX12_image_21 rfl hl (by decide) rfl (fun ls hl => ?_)
    have lo_22 : ∀ n_22 : Nat, ∀ (v_51 : Int32) (L_j22 : List Nat) (f_j22 : py_F) (H_j22 : Heap) (locs : List Loc) (ls : Array Slot), (2147483647 - v_51.toInt).toNat = n_22 → (0 ≤ v_51.toInt ∧ v_51.toInt ≤ 2147483647) → WF E G L_j22 f_j22 → KP G [57, 70, 71, 13] false f f_j22 → FK [51, 52, 53] f f_j22 u → py_W E (va_A (va_pl L f) s.heap.size) s L_j22 f_j22 H_j22 locs → lv_has ls 2 [(1, .int v_51), (0, .ref u)] → W p l e (headSpec w_X12_image ({ frames := 1, cells := 0, slots := 0, locals := 22 })).room s m ([.ref u] : List Value).toArray below meth c H_j22 locs 0 0 (MQ below (py_Qi E L f s.heap.size (fun r L1 f1 => ((mi f u 25 = 0 ∧ r.toInt = -1 ∧ mi f1 u 51 = mi f u 51 ∧ mi f1 u 53 = mi f u 53) ∨ (mi f u 25 ≠ 0 ∧ r.toInt = mi f u 29 ∧ mi f1 u 51 = mi f u 29 ∧ mi f1 u 53 = 1)) ∧ WF E G L1 f1 ∧ KP G [57, 70, 71, 13] false f f1 ∧ FK [51, 52, 53] f f1 u)) ([.ref u] : List Value).toArray s 0 0 (va_A (va_pl L f) s.heap.size)) (F0 m 22 ls []) := by
      intro n_22
      induction n_22 using Nat.strongRecOn with
      | _ n_22 ih_22 =>
        intro v_51 L_j22 f_j22 H_j22 locs ls hn_22 bv_51 hWF hKP hFK hw hl
        refine lv_iload_n G0.1 G0.2.1 dX12_image_22 rfl (lv_at hl 0 rfl) ?_
        refine lv_sipush (v := 600) G0.1 G0.2.1 dX12_image_23 (by decide) ?_
        refine lv_icmp_ge (tgt := 59) G0.1 G0.2.1 dX12_image_26 (by decide) (fun c_52 => ?_) (fun c_52 => ?_)
        · skip
          have tc_52 := ti_le c_52
          have hy5 := fk_mi hFK 25 (by decide) (by decide)
          have hy9 := fk_mi hFK 29 (by decide) (by decide)
          refine lv_aload_n G0.1 G0.2.1 dX12_image_59 rfl (lv_at hl 1 rfl) ?_
          refine lv_aload_n G0.1 G0.2.1 dX12_image_60 rfl (lv_at hl 1 rfl) ?_
          obtain ⟨v_53, v_54, v_55, v_56, v_57, v_58, v_59, v_60, v_61, v_62, v_63, v_64, y_65, v_66, v_67, v_68, v_69, v_70, y_71, v_72, y_73, v_74, hr_87, b_75, b_76, b_77, b_78, b_79, b_80, b_81, b_82, b_83, b_84, b_85, b_86⟩ := wg_12 hWF Tu
          have tq_88 := mi_row hr_87 25 rfl
          have tq_89 := mi_row hr_87 29 rfl
          have tq_90 := mi_row hr_87 51 rfl
          have tq_91 := mi_row hr_87 53 rfl
          refine py_get (C := RX12) (T := TX12) (N := 54) (k := 29) (v := .int v_64) G0 hw in_X12_image_X12 rfl hr_87 (by decide) (by decide +kernel) rfl dX12_image_61 ?_
          refine py_put (C := RX12) (T := TX12) (N := 54) (k := 51) (v := .int v_64) (fs' := [.int v_53, .ref (G.2 u 1), .int v_54, .int v_55, .int v_56, .int v_57, .ref (G.2 u 6), .ref (G.2 u 7), .ref (G.2 u 8), .ref (G.2 u 9), .ref (G.2 u 10), .ref (G.2 u 11), .ref (G.2 u 12), .int v_58, .int v_59, .ref (G.2 u 15), .ref (G.2 u 16), .ref (G.2 u 17), .ref (G.2 u 18), .int v_60, .int v_61, .ref (G.2 u 21), .ref (G.2 u 22), .ref (G.2 u 23), .int v_62, .int v_63, .ref (G.2 u 26), .ref (G.2 u 27), .ref (G.2 u 28), .int v_64, .long y_65, .int v_66, .int v_67, .int v_68, .int v_69, .ref (G.2 u 35), .ref (G.2 u 36), .ref (G.2 u 37), .ref (G.2 u 38), .ref (G.2 u 39), .ref (G.2 u 40), .ref (G.2 u 41), .ref (G.2 u 42), .int v_70, .ref (G.2 u 44), .ref (G.2 u 45), .ref (G.2 u 46), .ref (G.2 u 47), .long y_71, .ref (G.2 u 49), .ref (G.2 u 50), .int v_64, .long y_73, .int v_74]) (ty0 := tyX12) G0 hw tyX12_ok nmX12 in_X12_image_X12 rfl hr_87 (by decide) (by decide +kernel) rfl rfl rfl rfl (Nat.le_of_ble_eq_true rfl) rfl dX12_image_64 (fun f_92 H_93 locs h_94 x_95 hw => ?_)
          have hFK := hFK.put hr_87 h_94 51 (by decide) rfl
          have hKP := hKP.upd hWF x_95 Tu (Or.inl (by decide))
          have hWF := wf_upd hWF h_94 x_95 (by rw [Tu]; exact ⟨v_53, v_54, v_55, v_56, v_57, v_58, v_59, v_60, v_61, v_62, v_63, v_64, y_65, v_66, v_67, v_68, v_69, v_70, y_71, v_64, y_73, v_74, rfl, ⟨by omega, by omega⟩, ⟨by omega, by omega⟩, ⟨by omega, by omega⟩, ⟨by omega, by omega⟩, ⟨by omega, by omega⟩, ⟨by omega, by omega⟩, ⟨by omega, by omega⟩, ⟨by omega, by omega⟩, ⟨by omega, by omega⟩, ⟨by omega, by omega⟩, ⟨by omega, by omega⟩, ⟨by omega, by omega⟩⟩)
          have tq_96 := mi_row h_94 25 rfl
          have tq_97 := mi_row h_94 29 rfl
          have tq_98 := mi_row h_94 51 rfl
          have tq_99 := mi_row h_94 53 rfl
          refine lv_aload_n G0.1 G0.2.1 dX12_image_67 rfl (lv_at hl 1 rfl) ?_
          refine lv_aload_n G0.1 G0.2.1 dX12_image_68 rfl (lv_at hl 1 rfl) ?_
          refine py_get (C := RX12) (T := TX12) (N := 54) (k := 30) (v := .long y_65) G0 hw in_X12_image_X12 rfl h_94 (by decide) (by decide +kernel) rfl dX12_image_69 ?_
          refine py_put (C := RX12) (T := TX12) (N := 54) (k := 52) (v := .long y_65) (fs' := [.int v_53, .ref (G.2 u 1), .int v_54, .int v_55, .int v_56, .int v_57, .ref (G.2 u 6), .ref (G.2 u 7), .ref (G.2 u 8), .ref (G.2 u 9), .ref (G.2 u 10), .ref (G.2 u 11), .ref (G.2 u 12), .int v_58, .int v_59, .ref (G.2 u 15), .ref (G.2 u 16), .ref (G.2 u 17), .ref (G.2 u 18), .int v_60, .int v_61, .ref (G.2 u 21), .ref (G.2 u 22), .ref (G.2 u 23), .int v_62, .int v_63, .ref (G.2 u 26), .ref (G.2 u 27), .ref (G.2 u 28), .int v_64, .long y_65, .int v_66, .int v_67, .int v_68, .int v_69, .ref (G.2 u 35), .ref (G.2 u 36), .ref (G.2 u 37), .ref (G.2 u 38), .ref (G.2 u 39), .ref (G.2 u 40), .ref (G.2 u 41), .ref (G.2 u 42), .int v_70, .ref (G.2 u 44), .ref (G.2 u 45), .ref (G.2 u 46), .ref (G.2 u 47), .long y_71, .ref (G.2 u 49), .ref (G.2 u 50), .int v_64, .long y_65, .int v_74]) (ty0 := tyX12) G0 hw tyX12_ok nmX12 in_X12_image_X12 rfl h_94 (by decide) (by decide +kernel) rfl rfl rfl rfl (Nat.le_of_ble_eq_true rfl) rfl dX12_image_72 (fun f_100 H_101 locs h_102 x_103 hw => ?_)
          have hFK := hFK.put h_94 h_102 52 (by decide) rfl
          have hKP := hKP.upd hWF x_103 Tu (Or.inl (by decide))
          have hWF := wf_upd hWF h_102 x_103 (by rw [Tu]; exact ⟨v_53, v_54, v_55, v_56, v_57, v_58, v_59, v_60, v_61, v_62, v_63, v_64, y_65, v_66, v_67, v_68, v_69, v_70, y_71, v_64, y_65, v_74, rfl, ⟨by omega, by omega⟩, ⟨by omega, by omega⟩, ⟨by omega, by omega⟩, ⟨by omega, by omega⟩, ⟨by omega, by omega⟩, ⟨by omega, by omega⟩, ⟨by omega, by omega⟩, ⟨by omega, by omega⟩, ⟨by omega, by omega⟩, ⟨by omega, by omega⟩, ⟨by omega, by omega⟩, ⟨by omega, by omega⟩⟩)
          have tq_104 := mi_row h_102 25 rfl
          have tq_105 := mi_row h_102 29 rfl
          have tq_106 := mi_row h_102 51 rfl
          have tq_107 := mi_row h_102 53 rfl
          refine lv_aload_n G0.1 G0.2.1 dX12_image_75 rfl (lv_at hl 1 rfl) ?_
          refine lv_iconst (v := 1) G0.1 G0.2.1 dX12_image_76 (by decide) ?_
          refine py_put (C := RX12) (T := TX12) (N := 54) (k := 53) (v := .int 1) (fs' := [.int v_53, .ref (G.2 u 1), .int v_54, .int v_55, .int v_56, .int v_57, .ref (G.2 u 6), .ref (G.2 u 7), .ref (G.2 u 8), .ref (G.2 u 9), .ref (G.2 u 10), .ref (G.2 u 11), .ref (G.2 u 12), .int v_58, .int v_59, .ref (G.2 u 15), .ref (G.2 u 16), .ref (G.2 u 17), .ref (G.2 u 18), .int v_60, .int v_61, .ref (G.2 u 21), .ref (G.2 u 22), .ref (G.2 u 23), .int v_62, .int v_63, .ref (G.2 u 26), .ref (G.2 u 27), .ref (G.2 u 28), .int v_64, .long y_65, .int v_66, .int v_67, .int v_68, .int v_69, .ref (G.2 u 35), .ref (G.2 u 36), .ref (G.2 u 37), .ref (G.2 u 38), .ref (G.2 u 39), .ref (G.2 u 40), .ref (G.2 u 41), .ref (G.2 u 42), .int v_70, .ref (G.2 u 44), .ref (G.2 u 45), .ref (G.2 u 46), .ref (G.2 u 47), .long y_71, .ref (G.2 u 49), .ref (G.2 u 50), .int v_64, .long y_65, .int 1]) (ty0 := tyX12) G0 hw tyX12_ok nmX12 in_X12_image_X12 rfl h_102 (by decide) (by decide +kernel) rfl rfl rfl rfl (Nat.le_of_ble_eq_true rfl) rfl dX12_image_77 (fun f_108 H_109 locs h_110 x_111 hw => ?_)
          have hFK := hFK.put h_102 h_110 53 (by decide) rfl
          have hKP := hKP.upd hWF x_111 Tu (Or.inl (by decide))
          have hWF := wf_upd hWF h_110 x_111 (by rw [Tu]; exact ⟨v_53, v_54, v_55, v_56, v_57, v_58, v_59, v_60, v_61, v_62, v_63, v_64, y_65, v_66, v_67, v_68, v_69, v_70, y_71, v_64, y_65, 1, rfl, ⟨by omega, by omega⟩, ⟨by omega, by omega⟩, ⟨by omega, by omega⟩, ⟨by omega, by omega⟩, ⟨by omega, by omega⟩, ⟨by omega, by omega⟩, ⟨by omega, by omega⟩, ⟨by omega, by omega⟩, ⟨by omega, by omega⟩, ⟨by omega, by omega⟩, ⟨by omega, by omega⟩, ⟨by omega, by omega⟩⟩)
          have tq_112 := mi_row h_110 25 rfl
          have tq_113 := mi_row h_110 29 rfl
          have tq_114 := mi_row h_110 51 rfl
          have tq_115 := mi_row h_110 53 rfl
          refine lv_aload_n G0.1 G0.2.1 dX12_image_80 rfl (lv_at hl 1 rfl) ?_
          refine py_get (C := RX12) (T := TX12) (N := 54) (k := 29) (v := .int v_64) G0 hw in_X12_image_X12 rfl h_110 (by decide) (by decide +kernel) rfl dX12_image_81 ?_
          exact py_iret G0 hr rfl hlk hw ⟨(by first | omega | (intro q; omega)), hWF, hKP, hFK⟩ dX12_image_84
        · skip
          have tc_52 := ti_nle c_52
          refine lv_aload_n G0.1 G0.2.1 dX12_image_29 rfl (lv_at hl 1 rfl) ?_
          obtain ⟨v_116, v_117, v_118, v_119, v_120, v_121, v_122, v_123, v_124, v_125, v_126, v_127, y_128, v_129, v_130, v_131, v_132, v_133, y_134, v_135, y_136, v_137, hr_150, b_138, b_139, b_140, b_141, b_142, b_143, b_144, b_145, b_146, b_147, b_148, b_149⟩ := wg_12 hWF Tu
          have tq_151 := mi_row hr_150 25 rfl
          have tq_152 := mi_row hr_150 29 rfl
          have tq_153 := mi_row hr_150 51 rfl
          have tq_154 := mi_row hr_150 53 rfl
          refine py_get (C := RX12) (T := TX12) (N := 54) (k := 49) (v := .ref (G.2 u 49)) G0 hw in_X12_image_X12 rfl hr_150 (by decide) (by decide +kernel) rfl dX12_image_30 ?_
          refine lv_iload_n G0.1 G0.2.1 dX12_image_33 rfl (lv_at hl 0 rfl) ?_
          refine lv_aload_n G0.1 G0.2.1 dX12_image_34 rfl (lv_at hl 1 rfl) ?_
          refine py_get (C := RX12) (T := TX12) (N := 54) (k := 38) (v := .ref (G.2 u 38)) G0 hw in_X12_image_X12 rfl hr_150 (by decide) (by decide +kernel) rfl dX12_image_35 ?_
          refine lv_iload_n G0.1 G0.2.1 dX12_image_38 rfl (lv_at hl 0 rfl) ?_
          obtain ⟨g_155, ha_156, hi_157⟩ := wf_arr (n := 600) (lo := (-2147483648)) (hi := 2147483647) hWF (wt12_38 hG Tu) (by decide) (fun _ => rfl)
          have rg_158 : vp_in v_51 600 := ti_in (by omega) (by omega)
          refine py_iald G0 hw ha_156 rg_158 dX12_image_39 ?_
          refine lv_topi (fun x_159 ex_159 => ?_)
          have bx_159 := wf_free x_159
          obtain ⟨g_160, ha_161, hi_162⟩ := wf_arr (n := 600) (lo := (-2147483648)) (hi := 2147483647) hWF (wt12_49 hG Tu) (by decide) (fun _ => rfl)
          have rg_163 : vp_in v_51 600 := ti_in (by omega) (by omega)
          refine py_iast G0 hw ha_161 rg_163 dX12_image_40 (fun f_164 H_165 locs h_166 x_167 hw => ?_)
          have hFK := hFK.same ((x_167 _ (hWF _ (by rw [Tu]; decide)).1 (wf_ne Tu (wt12_49 hG Tu) (by decide))).2)
          have hKP := hKP.upd hWF x_167 (wt12_49 hG Tu) (Or.inl (by decide))
          have hi_168 := wf_inu (k := (v_51 : Int32).toNatClampNeg) (x := x_159) hi_162 (wf_free x_159).1 (wf_free x_159).2
          have hWF := wf_upd hWF h_166 x_167 (by rw [(wt12_49 hG Tu)]; exact ⟨_, rfl, hi_168⟩)
          have hr_150 := hr_150.ext x_167 (py_ne_arr hr_150 ha_161)
          have tq_169 := mi_row hr_150 25 rfl
          have tq_170 := mi_row hr_150 29 rfl
          have tq_171 := mi_row hr_150 51 rfl
          have tq_172 := mi_row hr_150 53 rfl
          have ha_156 := ha_156.ext x_167 (wf_ne (wt12_38 hG Tu) (wt12_49 hG Tu) (by decide))
          refine lv_aload_n G0.1 G0.2.1 dX12_image_41 rfl (lv_at hl 1 rfl) ?_
          refine py_get (C := RX12) (T := TX12) (N := 54) (k := 50) (v := .ref (G.2 u 50)) G0 hw in_X12_image_X12 rfl hr_150 (by decide) (by decide +kernel) rfl dX12_image_42 ?_
          refine lv_iload_n G0.1 G0.2.1 dX12_image_45 rfl (lv_at hl 0 rfl) ?_
          refine lv_aload_n G0.1 G0.2.1 dX12_image_46 rfl (lv_at hl 1 rfl) ?_
          refine py_get (C := RX12) (T := TX12) (N := 54) (k := 39) (v := .ref (G.2 u 39)) G0 hw in_X12_image_X12 rfl hr_150 (by decide) (by decide +kernel) rfl dX12_image_47 ?_
          refine lv_iload_n G0.1 G0.2.1 dX12_image_50 rfl (lv_at hl 0 rfl) ?_
          obtain ⟨g_173, ha_174, hi_175⟩ := wf_arr (n := 600) (lo := (-2147483648)) (hi := 2147483647) hWF (wt12_39 hG Tu) (by decide) (fun _ => rfl)
          have rg_176 : vp_in v_51 600 := ti_in (by omega) (by omega)
          refine py_iald G0 hw ha_174 rg_176 dX12_image_51 ?_
          refine lv_topi (fun x_177 ex_177 => ?_)
          have bx_177 := wf_free x_177
          obtain ⟨g_178, ha_179, hi_180⟩ := wf_arr (n := 600) (lo := (-2147483648)) (hi := 2147483647) hWF (wt12_50 hG Tu) (by decide) (fun _ => rfl)
          have rg_181 : vp_in v_51 600 := ti_in (by omega) (by omega)
          refine py_iast G0 hw ha_179 rg_181 dX12_image_52 (fun f_182 H_183 locs h_184 x_185 hw => ?_)
          have hFK := hFK.same ((x_185 _ (hWF _ (by rw [Tu]; decide)).1 (wf_ne Tu (wt12_50 hG Tu) (by decide))).2)
          have hKP := hKP.upd hWF x_185 (wt12_50 hG Tu) (Or.inl (by decide))
          have hi_186 := wf_inu (k := (v_51 : Int32).toNatClampNeg) (x := x_177) hi_180 (wf_free x_177).1 (wf_free x_177).2
          have hWF := wf_upd hWF h_184 x_185 (by rw [(wt12_50 hG Tu)]; exact ⟨_, rfl, hi_186⟩)
          have hr_150 := hr_150.ext x_185 (py_ne_arr hr_150 ha_179)
          have tq_187 := mi_row hr_150 25 rfl
          have tq_188 := mi_row hr_150 29 rfl
          have tq_189 := mi_row hr_150 51 rfl
          have tq_190 := mi_row hr_150 53 rfl
          have h_166 := h_166.ext x_185 (wf_ne (wt12_49 hG Tu) (wt12_50 hG Tu) (by decide))
          have ha_156 := ha_156.ext x_185 (wf_ne (wt12_38 hG Tu) (wt12_50 hG Tu) (by decide))
          have ha_174 := ha_174.ext x_185 (wf_ne (wt12_39 hG Tu) (wt12_50 hG Tu) (by decide))
          obtain ⟨x_191, ex_191⟩ : ∃ y : Int32, y = v_51 + 1 := ⟨_, rfl⟩
          first | have tx_191 := ti_add ex_191 (by omega -splitDisjunctions) (by omega -splitDisjunctions) | skip
          refine lv_iinc (v := x_191) (lv' := [(1, .int x_191), (0, .ref u)]) G0.1 G0.2.1 dX12_image_53 hl (k := 0) rfl (show _ + (1 : Int32) = _ from ex_191.symm) (by decide) rfl (fun ls hl => ?_)
          refine lv_goto (tgt := 22) G0.1 G0.2.1 dX12_image_56 (by decide) ?_
          exact ih_22 ((2147483647 - x_191.toInt).toNat) (by omega) x_191 L_j22 f_182 _ _ ls rfl ⟨by omega, by omega⟩ hWF hKP hFK hw (lv_sub hl [0, 1] rfl)
    exact lo_22 _ 0 L_41 f_42 _ _ ls rfl ⟨by omega, by omega⟩ hWF hKP hFK hw (lv_sub hl [0, 1] rfl)
  · skip
    have tc_40 := ti_eq c_40
    refine lv_iconst (v := (-1)) G0.1 G0.2.1 dX12_image_7 (by decide) ?_
    exact py_iret G0 hr rfl hlk hw ⟨(by first | omega | (intro q; omega)), hWF, hKP, hFK⟩ dX12_image_8

def w_X12_back : List Cond := .code yX12_back cX12_back 2 (some .int) :: ([Cond.fieldLink RX12 315 "HeadYearModel" "hasImage" "Z", Cond.fieldLink RX12 61 "HeadYearModel" "image" "[I", Cond.fieldLink RX12 55 "HeadYearModel" "now" "[I", Cond.methodLink RX12 437 yX12_copy, Cond.static yX12_copy, Cond.initialized RX12, Cond.fieldLink RX12 457 "HeadYearModel" "imageYears" "I", Cond.fieldLink RX12 309 "HeadYearModel" "years" "I", Cond.fieldLink RX12 312 "HeadYearModel" "buys" "I", Cond.fieldLink RX12 460 "HeadYearModel" "imageDraws" "J", Cond.fieldLink RX12 357 "HeadYearModel" "draws" "J", Cond.fieldLink RX12 83 "HeadYearModel" "diaryLevel" "[I", Cond.fieldLink RX12 111 "HeadYearModel" "imageLevel" "[I", Cond.fieldLink RX12 86 "HeadYearModel" "diaryHeads" "[I", Cond.fieldLink RX12 114 "HeadYearModel" "imageHeads" "[I"] ++ (u_ws RX12 TX12 54 ++ (w_X12_copy ++ ([]))))
theorem in_X12_back_X12 : ∀ w ∈ u_ws RX12 TX12 54, w ∈ w_X12_back := fun _ h => List.mem_cons_of_mem _ (List.mem_append_right _ (List.mem_append_left _ h))
theorem gg_X12_back_X12_copy : GoodIn w_X12_back w_X12_copy := goodIn_sub (fun _ h => List.mem_cons_of_mem _ (List.mem_append_right _ (List.mem_append_right _ (List.mem_append_left _ h)))) (by decide +kernel)
theorem g_X12_back_X12_copy_437 : GoodIn w_X12_back (va_wsS RX12 437 yX12_copy w_X12_copy) := goodIn_app (goodIn_of _ (by decide +kernel)) gg_X12_back_X12_copy
set_option maxHeartbeats 4000000 in
set_option maxRecDepth 100000 in
theorem c_X12_back (l : Launch) (E : py_E) (G : wf_G) (L : List Nat) (f : py_F) (sz : Nat) (u : Nat) (hG : GT G) (hWF : WF E G L f) (Tu : G.1 u = 13) : Met l yX12_back w_X12_back ({ frames := 1, cells := 0, slots := 0, locals := 22 }) (py_Pc E [.ref u] L f sz) (py_Qi E L f sz (fun r L1 f1 => ((mi f u 53 = 0 ∧ r.toInt = -1 ∧ mi f1 u 29 = mi f u 29) ∨ (mi f u 53 ≠ 0 ∧ r.toInt = mi f u 51 ∧ mi f1 u 29 = mi f u 51)) ∧ WF E G L1 f1 ∧ KP G [55, 61, 62, 13] false f f1 ∧ FK [29, 30, 43] f f1 u)) 0 0 (va_A (va_pl L f) sz) := by
  refine Met.ofW (cc := cX12_back) (maxL := 2) (ret := (some .int)) (by decide) rfl ?_
  intro p e s m args below meth c s₁ B hml hv
  obtain ⟨rfl, rfl, hw⟩ := py_start hv
  have G0 : CallFix p m c cX12_back 2 s _ w_X12_back RX12 := ⟨B.exec, B.bytes, hml, findClass_of_methodNamed B.named, atoms_spec (ws := w_X12_back) B.pre⟩
  have hr := B.returns
  have hlk := B.notSynchronized
  have kcm1 : (-1 : Int32).toInt = -1 := rfl
  have kc0 : (0 : Int32).toInt = 0 := rfl
  have kc1 : (1 : Int32).toInt = 1 := rfl
  have kc600 : (600 : Int32).toInt = 600 := rfl
  have hl := lv_entry ([.ref u]) (n := 2) (Nat.le_of_ble_eq_true rfl)
  rw [lg_entry_eq]
  generalize (lg_sl ([.ref u]) ++ List.replicate (2 - (lg_sl ([.ref u])).length) Slot.unset).toArray = ls at hl ⊢
  have hl : lv_has ls 2 [(0, .ref u)] := hl
  have hFK : FK [29, 30, 43] f f u := FK.refl
  have hKP : KP G [55, 61, 62, 13] false f f := KP.refl
  refine lv_aload_n G0.1 G0.2.1 dX12_back_0 rfl (lv_at hl 0 rfl) ?_
  obtain ⟨v_1, v_2, v_3, v_4, v_5, v_6, v_7, v_8, v_9, v_10, v_11, v_12, y_13, v_14, v_15, v_16, v_17, v_18, y_19, v_20, y_21, v_22, hr_35, b_23, b_24, b_25, b_26, b_27, b_28, b_29, b_30, b_31, b_32, b_33, b_34⟩ := wg_12 hWF Tu
  have tq_36 := mi_row hr_35 29 rfl
  have tq_37 := mi_row hr_35 51 rfl
  have tq_38 := mi_row hr_35 53 rfl
  refine py_get (C := RX12) (T := TX12) (N := 54) (k := 53) (v := .int v_22) G0 hw in_X12_back_X12 rfl hr_35 (by decide) (by decide +kernel) rfl dX12_back_1 ?_
  refine lv_if_ne (tgt := 9) G0.1 G0.2.1 dX12_back_4 (by decide) (fun c_39 => ?_) (fun c_39 => ?_)
  · skip
    have tc_39 := ti_ne c_39
    refine lv_aload_n G0.1 G0.2.1 dX12_back_9 rfl (lv_at hl 0 rfl) ?_
    refine py_get (C := RX12) (T := TX12) (N := 54) (k := 28) (v := .ref (G.2 u 28)) G0 hw in_X12_back_X12 rfl hr_35 (by decide) (by decide +kernel) rfl dX12_back_10 ?_
    refine lv_aload_n G0.1 G0.2.1 dX12_back_13 rfl (lv_at hl 0 rfl) ?_
    refine py_get (C := RX12) (T := TX12) (N := 54) (k := 26) (v := .ref (G.2 u 26)) G0 hw in_X12_back_X12 rfl hr_35 (by decide) (by decide +kernel) rfl dX12_back_14 ?_
    refine py_callv hw (va_runS (As := [.ref (G.2 u 28), .ref (G.2 u 26)]) (rest := []) G0 (c_X12_copy57_55 l E G L f s.heap.size (G.2 u 28) (G.2 u 26) hG hWF (wt12_28 hG Tu) (wt12_26 hG Tu)) (va_cwS 2 G0.2.2.2.2 g_X12_back_X12_copy_437 rfl rfl rfl (by decide +kernel) ⟨(Nat.le_of_ble_eq_true rfl), (Nat.le_of_ble_eq_true rfl)⟩) (py_preS hw) rfl rfl hl.1 rfl (lv_room (Nat.le_of_ble_eq_true rfl)) dX12_back_17 ⟨(Nat.le_of_ble_eq_true rfl), (Nat.le_of_ble_eq_true rfl)⟩) (fun L_40 f_41 H_42 locs hp_43 hw => ?_)
    obtain ⟨hWF, kp_45⟩ := hp_43
    have hFK := hFK.same (kp_f kp_45 Tu (by decide) (by decide) (fun _ => by decide))
    have hKP := hKP.trans kp_45 (by decide) (by decide)
    have hr_35 := kp_at kp_45 hWF Tu (by decide) (by decide) (by decide) hr_35
    have tq_46 := mi_row hr_35 29 rfl
    have tq_47 := mi_row hr_35 51 rfl
    have tq_48 := mi_row hr_35 53 rfl
    refine lv_iconst (v := 0) G0.1 G0.2.1 dX12_back_20 (by decide) ?_
    refine lv_istore_n (lv' := [(1, .int 0), (0, .ref u)]) G0.1 G0.2.1 dX12_back_21 rfl hl (by decide) rfl (fun ls hl => ?_)
    have lo_22 : ∀ n_22 : Nat, ∀ (v_49 : Int32) (L_j22 : List Nat) (f_j22 : py_F) (H_j22 : Heap) (locs : List Loc) (ls : Array Slot), (2147483647 - v_49.toInt).toNat = n_22 → (0 ≤ v_49.toInt ∧ v_49.toInt ≤ 2147483647) → WF E G L_j22 f_j22 → KP G [55, 61, 62, 13] false f f_j22 → FK [29, 30, 43] f f_j22 u → py_W E (va_A (va_pl L f) s.heap.size) s L_j22 f_j22 H_j22 locs → lv_has ls 2 [(1, .int v_49), (0, .ref u)] → W p l e (headSpec w_X12_back ({ frames := 1, cells := 0, slots := 0, locals := 22 })).room s m ([.ref u] : List Value).toArray below meth c H_j22 locs 0 0 (MQ below (py_Qi E L f s.heap.size (fun r L1 f1 => ((mi f u 53 = 0 ∧ r.toInt = -1 ∧ mi f1 u 29 = mi f u 29) ∨ (mi f u 53 ≠ 0 ∧ r.toInt = mi f u 51 ∧ mi f1 u 29 = mi f u 51)) ∧ WF E G L1 f1 ∧ KP G [55, 61, 62, 13] false f f1 ∧ FK [29, 30, 43] f f1 u)) ([.ref u] : List Value).toArray s 0 0 (va_A (va_pl L f) s.heap.size)) (F0 m 22 ls []) := by
      intro n_22
      induction n_22 using Nat.strongRecOn with
      | _ n_22 ih_22 =>
        intro v_49 L_j22 f_j22 H_j22 locs ls hn_22 bv_49 hWF hKP hFK hw hl
        refine lv_iload_n G0.1 G0.2.1 dX12_back_22 rfl (lv_at hl 0 rfl) ?_
        refine lv_sipush (v := 600) G0.1 G0.2.1 dX12_back_23 (by decide) ?_
        refine lv_icmp_ge (tgt := 59) G0.1 G0.2.1 dX12_back_26 (by decide) (fun c_50 => ?_) (fun c_50 => ?_)
        · skip
          have tc_50 := ti_le c_50
          have hy1 := fk_mi hFK 51 (by decide) (by decide)
          have hy3 := fk_mi hFK 53 (by decide) (by decide)
          refine lv_aload_n G0.1 G0.2.1 dX12_back_59 rfl (lv_at hl 1 rfl) ?_
          refine lv_aload_n G0.1 G0.2.1 dX12_back_60 rfl (lv_at hl 1 rfl) ?_
          obtain ⟨v_51, v_52, v_53, v_54, v_55, v_56, v_57, v_58, v_59, v_60, v_61, v_62, y_63, v_64, v_65, v_66, v_67, v_68, y_69, v_70, y_71, v_72, hr_85, b_73, b_74, b_75, b_76, b_77, b_78, b_79, b_80, b_81, b_82, b_83, b_84⟩ := wg_12 hWF Tu
          have tq_86 := mi_row hr_85 29 rfl
          have tq_87 := mi_row hr_85 51 rfl
          have tq_88 := mi_row hr_85 53 rfl
          refine py_get (C := RX12) (T := TX12) (N := 54) (k := 51) (v := .int v_70) G0 hw in_X12_back_X12 rfl hr_85 (by decide) (by decide +kernel) rfl dX12_back_61 ?_
          refine py_put (C := RX12) (T := TX12) (N := 54) (k := 29) (v := .int v_70) (fs' := [.int v_51, .ref (G.2 u 1), .int v_52, .int v_53, .int v_54, .int v_55, .ref (G.2 u 6), .ref (G.2 u 7), .ref (G.2 u 8), .ref (G.2 u 9), .ref (G.2 u 10), .ref (G.2 u 11), .ref (G.2 u 12), .int v_56, .int v_57, .ref (G.2 u 15), .ref (G.2 u 16), .ref (G.2 u 17), .ref (G.2 u 18), .int v_58, .int v_59, .ref (G.2 u 21), .ref (G.2 u 22), .ref (G.2 u 23), .int v_60, .int v_61, .ref (G.2 u 26), .ref (G.2 u 27), .ref (G.2 u 28), .int v_70, .long y_63, .int v_64, .int v_65, .int v_66, .int v_67, .ref (G.2 u 35), .ref (G.2 u 36), .ref (G.2 u 37), .ref (G.2 u 38), .ref (G.2 u 39), .ref (G.2 u 40), .ref (G.2 u 41), .ref (G.2 u 42), .int v_68, .ref (G.2 u 44), .ref (G.2 u 45), .ref (G.2 u 46), .ref (G.2 u 47), .long y_69, .ref (G.2 u 49), .ref (G.2 u 50), .int v_70, .long y_71, .int v_72]) (ty0 := tyX12) G0 hw tyX12_ok nmX12 in_X12_back_X12 rfl hr_85 (by decide) (by decide +kernel) rfl rfl rfl rfl (Nat.le_of_ble_eq_true rfl) rfl dX12_back_64 (fun f_89 H_90 locs h_91 x_92 hw => ?_)
          have hFK := hFK.put hr_85 h_91 29 (by decide) rfl
          have hKP := hKP.upd hWF x_92 Tu (Or.inl (by decide))
          have hWF := wf_upd hWF h_91 x_92 (by rw [Tu]; exact ⟨v_51, v_52, v_53, v_54, v_55, v_56, v_57, v_58, v_59, v_60, v_61, v_70, y_63, v_64, v_65, v_66, v_67, v_68, y_69, v_70, y_71, v_72, rfl, ⟨by omega, by omega⟩, ⟨by omega, by omega⟩, ⟨by omega, by omega⟩, ⟨by omega, by omega⟩, ⟨by omega, by omega⟩, ⟨by omega, by omega⟩, ⟨by omega, by omega⟩, ⟨by omega, by omega⟩, ⟨by omega, by omega⟩, ⟨by omega, by omega⟩, ⟨by omega, by omega⟩, ⟨by omega, by omega⟩⟩)
          have tq_93 := mi_row h_91 29 rfl
          have tq_94 := mi_row h_91 51 rfl
          have tq_95 := mi_row h_91 53 rfl
          refine lv_aload_n G0.1 G0.2.1 dX12_back_67 rfl (lv_at hl 1 rfl) ?_
          refine lv_iconst (v := 0) G0.1 G0.2.1 dX12_back_68 (by decide) ?_
          refine py_put (C := RX12) (T := TX12) (N := 54) (k := 43) (v := .int 0) (fs' := [.int v_51, .ref (G.2 u 1), .int v_52, .int v_53, .int v_54, .int v_55, .ref (G.2 u 6), .ref (G.2 u 7), .ref (G.2 u 8), .ref (G.2 u 9), .ref (G.2 u 10), .ref (G.2 u 11), .ref (G.2 u 12), .int v_56, .int v_57, .ref (G.2 u 15), .ref (G.2 u 16), .ref (G.2 u 17), .ref (G.2 u 18), .int v_58, .int v_59, .ref (G.2 u 21), .ref (G.2 u 22), .ref (G.2 u 23), .int v_60, .int v_61, .ref (G.2 u 26), .ref (G.2 u 27), .ref (G.2 u 28), .int v_70, .long y_63, .int v_64, .int v_65, .int v_66, .int v_67, .ref (G.2 u 35), .ref (G.2 u 36), .ref (G.2 u 37), .ref (G.2 u 38), .ref (G.2 u 39), .ref (G.2 u 40), .ref (G.2 u 41), .ref (G.2 u 42), .int 0, .ref (G.2 u 44), .ref (G.2 u 45), .ref (G.2 u 46), .ref (G.2 u 47), .long y_69, .ref (G.2 u 49), .ref (G.2 u 50), .int v_70, .long y_71, .int v_72]) (ty0 := tyX12) G0 hw tyX12_ok nmX12 in_X12_back_X12 rfl h_91 (by decide) (by decide +kernel) rfl rfl rfl rfl (Nat.le_of_ble_eq_true rfl) rfl dX12_back_69 (fun f_96 H_97 locs h_98 x_99 hw => ?_)
          have hFK := hFK.put h_91 h_98 43 (by decide) rfl
          have hKP := hKP.upd hWF x_99 Tu (Or.inl (by decide))
          have hWF := wf_upd hWF h_98 x_99 (by rw [Tu]; exact ⟨v_51, v_52, v_53, v_54, v_55, v_56, v_57, v_58, v_59, v_60, v_61, v_70, y_63, v_64, v_65, v_66, v_67, 0, y_69, v_70, y_71, v_72, rfl, ⟨by omega, by omega⟩, ⟨by omega, by omega⟩, ⟨by omega, by omega⟩, ⟨by omega, by omega⟩, ⟨by omega, by omega⟩, ⟨by omega, by omega⟩, ⟨by omega, by omega⟩, ⟨by omega, by omega⟩, ⟨by omega, by omega⟩, ⟨by omega, by omega⟩, ⟨by omega, by omega⟩, ⟨by omega, by omega⟩⟩)
          have tq_100 := mi_row h_98 29 rfl
          have tq_101 := mi_row h_98 51 rfl
          have tq_102 := mi_row h_98 53 rfl
          refine lv_aload_n G0.1 G0.2.1 dX12_back_72 rfl (lv_at hl 1 rfl) ?_
          refine lv_aload_n G0.1 G0.2.1 dX12_back_73 rfl (lv_at hl 1 rfl) ?_
          refine py_get (C := RX12) (T := TX12) (N := 54) (k := 52) (v := .long y_71) G0 hw in_X12_back_X12 rfl h_98 (by decide) (by decide +kernel) rfl dX12_back_74 ?_
          refine py_put (C := RX12) (T := TX12) (N := 54) (k := 30) (v := .long y_71) (fs' := [.int v_51, .ref (G.2 u 1), .int v_52, .int v_53, .int v_54, .int v_55, .ref (G.2 u 6), .ref (G.2 u 7), .ref (G.2 u 8), .ref (G.2 u 9), .ref (G.2 u 10), .ref (G.2 u 11), .ref (G.2 u 12), .int v_56, .int v_57, .ref (G.2 u 15), .ref (G.2 u 16), .ref (G.2 u 17), .ref (G.2 u 18), .int v_58, .int v_59, .ref (G.2 u 21), .ref (G.2 u 22), .ref (G.2 u 23), .int v_60, .int v_61, .ref (G.2 u 26), .ref (G.2 u 27), .ref (G.2 u 28), .int v_70, .long y_71, .int v_64, .int v_65, .int v_66, .int v_67, .ref (G.2 u 35), .ref (G.2 u 36), .ref (G.2 u 37), .ref (G.2 u 38), .ref (G.2 u 39), .ref (G.2 u 40), .ref (G.2 u 41), .ref (G.2 u 42), .int 0, .ref (G.2 u 44), .ref (G.2 u 45), .ref (G.2 u 46), .ref (G.2 u 47), .long y_69, .ref (G.2 u 49), .ref (G.2 u 50), .int v_70, .long y_71, .int v_72]) (ty0 := tyX12) G0 hw tyX12_ok nmX12 in_X12_back_X12 rfl h_98 (by decide) (by decide +kernel) rfl rfl rfl rfl (Nat.le_of_ble_eq_true rfl) rfl dX12_back_77 (fun f_103 H_104 locs h_105 x_106 hw => ?_)
          have hFK := hFK.put h_98 h_105 30 (by decide) rfl
          have hKP := hKP.upd hWF x_106 Tu (Or.inl (by decide))
          have hWF := wf_upd hWF h_105 x_106 (by rw [Tu]; exact ⟨v_51, v_52, v_53, v_54, v_55, v_56, v_57, v_58, v_59, v_60, v_61, v_70, y_71, v_64, v_65, v_66, v_67, 0, y_69, v_70, y_71, v_72, rfl, ⟨by omega, by omega⟩, ⟨by omega, by omega⟩, ⟨by omega, by omega⟩, ⟨by omega, by omega⟩, ⟨by omega, by omega⟩, ⟨by omega, by omega⟩, ⟨by omega, by omega⟩, ⟨by omega, by omega⟩, ⟨by omega, by omega⟩, ⟨by omega, by omega⟩, ⟨by omega, by omega⟩, ⟨by omega, by omega⟩⟩)
          have tq_107 := mi_row h_105 29 rfl
          have tq_108 := mi_row h_105 51 rfl
          have tq_109 := mi_row h_105 53 rfl
          refine lv_aload_n G0.1 G0.2.1 dX12_back_80 rfl (lv_at hl 1 rfl) ?_
          refine py_get (C := RX12) (T := TX12) (N := 54) (k := 29) (v := .int v_70) G0 hw in_X12_back_X12 rfl h_105 (by decide) (by decide +kernel) rfl dX12_back_81 ?_
          exact py_iret G0 hr rfl hlk hw ⟨(by first | omega | (intro q; omega)), hWF, hKP, hFK⟩ dX12_back_84
        · skip
          have tc_50 := ti_nle c_50
          refine lv_aload_n G0.1 G0.2.1 dX12_back_29 rfl (lv_at hl 1 rfl) ?_
          obtain ⟨v_110, v_111, v_112, v_113, v_114, v_115, v_116, v_117, v_118, v_119, v_120, v_121, y_122, v_123, v_124, v_125, v_126, v_127, y_128, v_129, y_130, v_131, hr_144, b_132, b_133, b_134, b_135, b_136, b_137, b_138, b_139, b_140, b_141, b_142, b_143⟩ := wg_12 hWF Tu
          have tq_145 := mi_row hr_144 29 rfl
          have tq_146 := mi_row hr_144 51 rfl
          have tq_147 := mi_row hr_144 53 rfl
          refine py_get (C := RX12) (T := TX12) (N := 54) (k := 38) (v := .ref (G.2 u 38)) G0 hw in_X12_back_X12 rfl hr_144 (by decide) (by decide +kernel) rfl dX12_back_30 ?_
          refine lv_iload_n G0.1 G0.2.1 dX12_back_33 rfl (lv_at hl 0 rfl) ?_
          refine lv_aload_n G0.1 G0.2.1 dX12_back_34 rfl (lv_at hl 1 rfl) ?_
          refine py_get (C := RX12) (T := TX12) (N := 54) (k := 49) (v := .ref (G.2 u 49)) G0 hw in_X12_back_X12 rfl hr_144 (by decide) (by decide +kernel) rfl dX12_back_35 ?_
          refine lv_iload_n G0.1 G0.2.1 dX12_back_38 rfl (lv_at hl 0 rfl) ?_
          obtain ⟨g_148, ha_149, hi_150⟩ := wf_arr (n := 600) (lo := (-2147483648)) (hi := 2147483647) hWF (wt12_49 hG Tu) (by decide) (fun _ => rfl)
          have rg_151 : vp_in v_49 600 := ti_in (by omega) (by omega)
          refine py_iald G0 hw ha_149 rg_151 dX12_back_39 ?_
          refine lv_topi (fun x_152 ex_152 => ?_)
          have bx_152 := wf_free x_152
          obtain ⟨g_153, ha_154, hi_155⟩ := wf_arr (n := 600) (lo := (-2147483648)) (hi := 2147483647) hWF (wt12_38 hG Tu) (by decide) (fun _ => rfl)
          have rg_156 : vp_in v_49 600 := ti_in (by omega) (by omega)
          refine py_iast G0 hw ha_154 rg_156 dX12_back_40 (fun f_157 H_158 locs h_159 x_160 hw => ?_)
          have hFK := hFK.same ((x_160 _ (hWF _ (by rw [Tu]; decide)).1 (wf_ne Tu (wt12_38 hG Tu) (by decide))).2)
          have hKP := hKP.upd hWF x_160 (wt12_38 hG Tu) (Or.inl (by decide))
          have hi_161 := wf_inu (k := (v_49 : Int32).toNatClampNeg) (x := x_152) hi_155 (wf_free x_152).1 (wf_free x_152).2
          have hWF := wf_upd hWF h_159 x_160 (by rw [(wt12_38 hG Tu)]; exact ⟨_, rfl, hi_161⟩)
          have hr_144 := hr_144.ext x_160 (py_ne_arr hr_144 ha_154)
          have tq_162 := mi_row hr_144 29 rfl
          have tq_163 := mi_row hr_144 51 rfl
          have tq_164 := mi_row hr_144 53 rfl
          have ha_149 := ha_149.ext x_160 (wf_ne (wt12_49 hG Tu) (wt12_38 hG Tu) (by decide))
          refine lv_aload_n G0.1 G0.2.1 dX12_back_41 rfl (lv_at hl 1 rfl) ?_
          refine py_get (C := RX12) (T := TX12) (N := 54) (k := 39) (v := .ref (G.2 u 39)) G0 hw in_X12_back_X12 rfl hr_144 (by decide) (by decide +kernel) rfl dX12_back_42 ?_
          refine lv_iload_n G0.1 G0.2.1 dX12_back_45 rfl (lv_at hl 0 rfl) ?_
          refine lv_aload_n G0.1 G0.2.1 dX12_back_46 rfl (lv_at hl 1 rfl) ?_
          refine py_get (C := RX12) (T := TX12) (N := 54) (k := 50) (v := .ref (G.2 u 50)) G0 hw in_X12_back_X12 rfl hr_144 (by decide) (by decide +kernel) rfl dX12_back_47 ?_
          refine lv_iload_n G0.1 G0.2.1 dX12_back_50 rfl (lv_at hl 0 rfl) ?_
          obtain ⟨g_165, ha_166, hi_167⟩ := wf_arr (n := 600) (lo := (-2147483648)) (hi := 2147483647) hWF (wt12_50 hG Tu) (by decide) (fun _ => rfl)
          have rg_168 : vp_in v_49 600 := ti_in (by omega) (by omega)
          refine py_iald G0 hw ha_166 rg_168 dX12_back_51 ?_
          refine lv_topi (fun x_169 ex_169 => ?_)
          have bx_169 := wf_free x_169
          obtain ⟨g_170, ha_171, hi_172⟩ := wf_arr (n := 600) (lo := (-2147483648)) (hi := 2147483647) hWF (wt12_39 hG Tu) (by decide) (fun _ => rfl)
          have rg_173 : vp_in v_49 600 := ti_in (by omega) (by omega)
          refine py_iast G0 hw ha_171 rg_173 dX12_back_52 (fun f_174 H_175 locs h_176 x_177 hw => ?_)
          have hFK := hFK.same ((x_177 _ (hWF _ (by rw [Tu]; decide)).1 (wf_ne Tu (wt12_39 hG Tu) (by decide))).2)
          have hKP := hKP.upd hWF x_177 (wt12_39 hG Tu) (Or.inl (by decide))
          have hi_178 := wf_inu (k := (v_49 : Int32).toNatClampNeg) (x := x_169) hi_172 (wf_free x_169).1 (wf_free x_169).2
          have hWF := wf_upd hWF h_176 x_177 (by rw [(wt12_39 hG Tu)]; exact ⟨_, rfl, hi_178⟩)
          have hr_144 := hr_144.ext x_177 (py_ne_arr hr_144 ha_171)
          have tq_179 := mi_row hr_144 29 rfl
          have tq_180 := mi_row hr_144 51 rfl
          have tq_181 := mi_row hr_144 53 rfl
          have h_159 := h_159.ext x_177 (wf_ne (wt12_38 hG Tu) (wt12_39 hG Tu) (by decide))
          have ha_149 := ha_149.ext x_177 (wf_ne (wt12_49 hG Tu) (wt12_39 hG Tu) (by decide))
          have ha_166 := ha_166.ext x_177 (wf_ne (wt12_50 hG Tu) (wt12_39 hG Tu) (by decide))
          obtain ⟨x_182, ex_182⟩ : ∃ y : Int32, y = v_49 + 1 := ⟨_, rfl⟩
          first | have tx_182 := ti_add ex_182 (by omega -splitDisjunctions) (by omega -splitDisjunctions) | skip
          refine lv_iinc (v := x_182) (lv' := [(1, .int x_182), (0, .ref u)]) G0.1 G0.2.1 dX12_back_53 hl (k := 0) rfl (show _ + (1 : Int32) = _ from ex_182.symm) (by decide) rfl (fun ls hl => ?_)
          refine lv_goto (tgt := 22) G0.1 G0.2.1 dX12_back_56 (by decide) ?_
          exact ih_22 ((2147483647 - x_182.toInt).toNat) (by omega) x_182 L_j22 f_174 _ _ ls rfl ⟨by omega, by omega⟩ hWF hKP hFK hw (lv_sub hl [0, 1] rfl)
    exact lo_22 _ 0 L_40 f_41 _ _ ls rfl ⟨by omega, by omega⟩ hWF hKP hFK hw (lv_sub hl [0, 1] rfl)
  · skip
    have tc_39 := ti_eq c_39
    refine lv_iconst (v := (-1)) G0.1 G0.2.1 dX12_back_7 (by decide) ?_
    exact py_iret G0 hr rfl hlk hw ⟨(by first | omega | (intro q; omega)), hWF, hKP, hFK⟩ dX12_back_8
