theorem dX11_advice_0 : decode cX11_advice 0 = .ok (.aload_n 0, 1) := by decide +kernel
theorem dX11_advice_1 : decode cX11_advice 1 = .ok (.iload_n 1, 1) := by decide +kernel
theorem dX11_advice_2 : decode cX11_advice 2 = .ok (.invokevirtual 246, 3) := by decide +kernel
theorem dX11_advice_5 : decode cX11_advice 5 = .ok (.ifCond .eq 19, 3) := by decide +kernel
theorem dX11_advice_8 : decode cX11_advice 8 = .ok (.iload_n 2, 1) := by decide +kernel
theorem dX11_advice_9 : decode cX11_advice 9 = .ok (.iload_n 3, 1) := by decide +kernel
theorem dX11_advice_10 : decode cX11_advice 10 = .ok (.invokestatic 296, 3) := by decide +kernel
theorem dX11_advice_13 : decode cX11_advice 13 = .ok (.ifCond .eq 11, 3) := by decide +kernel
theorem dX11_advice_16 : decode cX11_advice 16 = .ok (.iload 4, 2) := by decide +kernel
theorem dX11_advice_18 : decode cX11_advice 18 = .ok (.invokestatic 267, 3) := by decide +kernel
theorem dX11_advice_21 : decode cX11_advice 21 = .ok (.ifCond .ne 6, 3) := by decide +kernel
theorem dX11_advice_24 : decode cX11_advice 24 = .ok (.ldc 166, 2) := by decide +kernel
theorem dX11_advice_26 : decode cX11_advice 26 = .ok (.ireturn, 1) := by decide +kernel
theorem dX11_advice_27 : decode cX11_advice 27 = .ok (.iconst 0, 1) := by decide +kernel
theorem dX11_advice_28 : decode cX11_advice 28 = .ok (.istore 5, 2) := by decide +kernel
theorem dX11_advice_30 : decode cX11_advice 30 = .ok (.iconst (-1), 1) := by decide +kernel
theorem dX11_advice_31 : decode cX11_advice 31 = .ok (.istore 6, 2) := by decide +kernel
theorem dX11_advice_33 : decode cX11_advice 33 = .ok (.iconst 0, 1) := by decide +kernel
theorem dX11_advice_34 : decode cX11_advice 34 = .ok (.istore 7, 2) := by decide +kernel
theorem dX11_advice_36 : decode cX11_advice 36 = .ok (.iload 7, 2) := by decide +kernel
theorem dX11_advice_38 : decode cX11_advice 38 = .ok (.bipush 12, 2) := by decide +kernel
theorem dX11_advice_40 : decode cX11_advice 40 = .ok (.if_icmp .gt 77, 3) := by decide +kernel
theorem dX11_advice_43 : decode cX11_advice 43 = .ok (.iload 7, 2) := by decide +kernel
theorem dX11_advice_45 : decode cX11_advice 45 = .ok (.iconst 2, 1) := by decide +kernel
theorem dX11_advice_46 : decode cX11_advice 46 = .ok (.irem, 1) := by decide +kernel
theorem dX11_advice_47 : decode cX11_advice 47 = .ok (.iconst 1, 1) := by decide +kernel
theorem dX11_advice_48 : decode cX11_advice 48 = .ok (.if_icmp .ne 13, 3) := by decide +kernel
theorem dX11_advice_51 : decode cX11_advice 51 = .ok (.iload 7, 2) := by decide +kernel
theorem dX11_advice_53 : decode cX11_advice 53 = .ok (.iconst 1, 1) := by decide +kernel
theorem dX11_advice_54 : decode cX11_advice 54 = .ok (.iadd, 1) := by decide +kernel
theorem dX11_advice_55 : decode cX11_advice 55 = .ok (.ineg, 1) := by decide +kernel
theorem dX11_advice_56 : decode cX11_advice 56 = .ok (.iconst 2, 1) := by decide +kernel
theorem dX11_advice_57 : decode cX11_advice 57 = .ok (.idiv, 1) := by decide +kernel
theorem dX11_advice_58 : decode cX11_advice 58 = .ok (.goto 7, 3) := by decide +kernel
theorem dX11_advice_61 : decode cX11_advice 61 = .ok (.iload 7, 2) := by decide +kernel
theorem dX11_advice_63 : decode cX11_advice 63 = .ok (.iconst 2, 1) := by decide +kernel
theorem dX11_advice_64 : decode cX11_advice 64 = .ok (.idiv, 1) := by decide +kernel
theorem dX11_advice_65 : decode cX11_advice 65 = .ok (.istore 8, 2) := by decide +kernel
theorem dX11_advice_67 : decode cX11_advice 67 = .ok (.aload_n 0, 1) := by decide +kernel
theorem dX11_advice_68 : decode cX11_advice 68 = .ok (.getfield 47, 3) := by decide +kernel
theorem dX11_advice_71 : decode cX11_advice 71 = .ok (.getfield 188, 3) := by decide +kernel
theorem dX11_advice_74 : decode cX11_advice 74 = .ok (.iload_n 1, 1) := by decide +kernel
theorem dX11_advice_75 : decode cX11_advice 75 = .ok (.iaload, 1) := by decide +kernel
theorem dX11_advice_76 : decode cX11_advice 76 = .ok (.iload 8, 2) := by decide +kernel
theorem dX11_advice_78 : decode cX11_advice 78 = .ok (.iadd, 1) := by decide +kernel
theorem dX11_advice_79 : decode cX11_advice 79 = .ok (.invokestatic 249, 3) := by decide +kernel
theorem dX11_advice_82 : decode cX11_advice 82 = .ok (.ifCond .eq 29, 3) := by decide +kernel
theorem dX11_advice_85 : decode cX11_advice 85 = .ok (.aload_n 0, 1) := by decide +kernel
theorem dX11_advice_86 : decode cX11_advice 86 = .ok (.iload_n 1, 1) := by decide +kernel
theorem dX11_advice_87 : decode cX11_advice 87 = .ok (.iload 8, 2) := by decide +kernel
theorem dX11_advice_89 : decode cX11_advice 89 = .ok (.iload_n 2, 1) := by decide +kernel
theorem dX11_advice_90 : decode cX11_advice 90 = .ok (.iload_n 3, 1) := by decide +kernel
theorem dX11_advice_91 : decode cX11_advice 91 = .ok (.invokevirtual 344, 3) := by decide +kernel
theorem dX11_advice_94 : decode cX11_advice 94 = .ok (.istore 9, 2) := by decide +kernel
theorem dX11_advice_96 : decode cX11_advice 96 = .ok (.iload 9, 2) := by decide +kernel
theorem dX11_advice_98 : decode cX11_advice 98 = .ok (.iload 6, 2) := by decide +kernel
theorem dX11_advice_100 : decode cX11_advice 100 = .ok (.if_icmp .le 11, 3) := by decide +kernel
theorem dX11_advice_103 : decode cX11_advice 103 = .ok (.iload 9, 2) := by decide +kernel
theorem dX11_advice_105 : decode cX11_advice 105 = .ok (.istore 6, 2) := by decide +kernel
theorem dX11_advice_107 : decode cX11_advice 107 = .ok (.iload 8, 2) := by decide +kernel
theorem dX11_advice_109 : decode cX11_advice 109 = .ok (.istore 5, 2) := by decide +kernel
theorem dX11_advice_111 : decode cX11_advice 111 = .ok (.iinc 7 1, 3) := by decide +kernel
theorem dX11_advice_114 : decode cX11_advice 114 = .ok (.goto (-78), 3) := by decide +kernel
theorem dX11_advice_117 : decode cX11_advice 117 = .ok (.iload 4, 2) := by decide +kernel
theorem dX11_advice_119 : decode cX11_advice 119 = .ok (.ifCond .ne 8, 3) := by decide +kernel
theorem dX11_advice_122 : decode cX11_advice 122 = .ok (.iload 5, 2) := by decide +kernel
theorem dX11_advice_124 : decode cX11_advice 124 = .ok (.goto 5, 3) := by decide +kernel
theorem dX11_advice_127 : decode cX11_advice 127 = .ok (.iload 6, 2) := by decide +kernel
theorem dX11_advice_129 : decode cX11_advice 129 = .ok (.ireturn, 1) := by decide +kernel
theorem dX11_back_0 : decode cX11_back 0 = .ok (.aload_n 0, 1) := by decide +kernel
theorem dX11_back_1 : decode cX11_back 1 = .ok (.getfield 101, 3) := by decide +kernel
theorem dX11_back_4 : decode cX11_back 4 = .ok (.ifCond .ne 5, 3) := by decide +kernel
theorem dX11_back_7 : decode cX11_back 7 = .ok (.iconst (-1), 1) := by decide +kernel
theorem dX11_back_8 : decode cX11_back 8 = .ok (.ireturn, 1) := by decide +kernel
theorem dX11_back_9 : decode cX11_back 9 = .ok (.aload_n 0, 1) := by decide +kernel
theorem dX11_back_10 : decode cX11_back 10 = .ok (.getfield 47, 3) := by decide +kernel
theorem dX11_back_13 : decode cX11_back 13 = .ok (.aload_n 0, 1) := by decide +kernel
theorem dX11_back_14 : decode cX11_back 14 = .ok (.getfield 54, 3) := by decide +kernel
theorem dX11_back_17 : decode cX11_back 17 = .ok (.invokevirtual 347, 3) := by decide +kernel
theorem dX11_back_20 : decode cX11_back 20 = .ok (.aload_n 0, 1) := by decide +kernel
theorem dX11_back_21 : decode cX11_back 21 = .ok (.getfield 60, 3) := by decide +kernel
theorem dX11_back_24 : decode cX11_back 24 = .ok (.aload_n 0, 1) := by decide +kernel
theorem dX11_back_25 : decode cX11_back 25 = .ok (.getfield 47, 3) := by decide +kernel
theorem dX11_back_28 : decode cX11_back 28 = .ok (.getfield 222, 3) := by decide +kernel
theorem dX11_back_31 : decode cX11_back 31 = .ok (.putfield 304, 3) := by decide +kernel
theorem dX11_back_34 : decode cX11_back 34 = .ok (.aload_n 0, 1) := by decide +kernel
theorem dX11_back_35 : decode cX11_back 35 = .ok (.getfield 67, 3) := by decide +kernel
theorem dX11_back_38 : decode cX11_back 38 = .ok (.iconst 0, 1) := by decide +kernel
theorem dX11_back_39 : decode cX11_back 39 = .ok (.putfield 240, 3) := by decide +kernel
theorem dX11_back_42 : decode cX11_back 42 = .ok (.aload_n 0, 1) := by decide +kernel
theorem dX11_back_43 : decode cX11_back 43 = .ok (.getfield 47, 3) := by decide +kernel
theorem dX11_back_46 : decode cX11_back 46 = .ok (.getfield 222, 3) := by decide +kernel
theorem dX11_back_49 : decode cX11_back 49 = .ok (.ireturn, 1) := by decide +kernel
theorem dX11_image_0 : decode cX11_image 0 = .ok (.aload_n 0, 1) := by decide +kernel
theorem dX11_image_1 : decode cX11_image 1 = .ok (.invokevirtual 218, 3) := by decide +kernel
theorem dX11_image_4 : decode cX11_image 4 = .ok (.ifCond .ne 5, 3) := by decide +kernel
theorem dX11_image_7 : decode cX11_image 7 = .ok (.iconst (-1), 1) := by decide +kernel
theorem dX11_image_8 : decode cX11_image 8 = .ok (.ireturn, 1) := by decide +kernel
theorem dX11_image_9 : decode cX11_image 9 = .ok (.aload_n 0, 1) := by decide +kernel
theorem dX11_image_10 : decode cX11_image 10 = .ok (.getfield 54, 3) := by decide +kernel
theorem dX11_image_13 : decode cX11_image 13 = .ok (.aload_n 0, 1) := by decide +kernel
theorem dX11_image_14 : decode cX11_image 14 = .ok (.getfield 47, 3) := by decide +kernel
theorem dX11_image_17 : decode cX11_image 17 = .ok (.invokevirtual 347, 3) := by decide +kernel
theorem dX11_image_20 : decode cX11_image 20 = .ok (.aload_n 0, 1) := by decide +kernel
theorem dX11_image_21 : decode cX11_image 21 = .ok (.iconst 1, 1) := by decide +kernel
theorem dX11_image_22 : decode cX11_image 22 = .ok (.putfield 101, 3) := by decide +kernel
theorem dX11_image_25 : decode cX11_image 25 = .ok (.aload_n 0, 1) := by decide +kernel
theorem dX11_image_26 : decode cX11_image 26 = .ok (.getfield 47, 3) := by decide +kernel
theorem dX11_image_29 : decode cX11_image 29 = .ok (.getfield 222, 3) := by decide +kernel
theorem dX11_image_32 : decode cX11_image 32 = .ok (.ireturn, 1) := by decide +kernel
theorem dX11_mean_0 : decode cX11_mean 0 = .ok (.aload_n 0, 1) := by decide +kernel
theorem dX11_mean_1 : decode cX11_mean 1 = .ok (.iload_n 1, 1) := by decide +kernel
theorem dX11_mean_2 : decode cX11_mean 2 = .ok (.invokevirtual 246, 3) := by decide +kernel
theorem dX11_mean_5 : decode cX11_mean 5 = .ok (.ifCond .eq 14, 3) := by decide +kernel
theorem dX11_mean_8 : decode cX11_mean 8 = .ok (.iload_n 2, 1) := by decide +kernel
theorem dX11_mean_9 : decode cX11_mean 9 = .ok (.iconst 1, 1) := by decide +kernel
theorem dX11_mean_10 : decode cX11_mean 10 = .ok (.if_icmp .lt 9, 3) := by decide +kernel
theorem dX11_mean_13 : decode cX11_mean 13 = .ok (.iload_n 2, 1) := by decide +kernel
theorem dX11_mean_14 : decode cX11_mean 14 = .ok (.bipush 9, 2) := by decide +kernel
theorem dX11_mean_16 : decode cX11_mean 16 = .ok (.if_icmp .le 7, 3) := by decide +kernel
theorem dX11_mean_19 : decode cX11_mean 19 = .ok (.ldc2_w 336, 3) := by decide +kernel
theorem dX11_mean_22 : decode cX11_mean 22 = .ok (.lreturn, 1) := by decide +kernel
theorem dX11_mean_23 : decode cX11_mean 23 = .ok (.aload_n 0, 1) := by decide +kernel
theorem dX11_mean_24 : decode cX11_mean 24 = .ok (.getfield 90, 3) := by decide +kernel
theorem dX11_mean_27 : decode cX11_mean 27 = .ok (.iload_n 1, 1) := by decide +kernel
theorem dX11_mean_28 : decode cX11_mean 28 = .ok (.aload_n 0, 1) := by decide +kernel
theorem dX11_mean_29 : decode cX11_mean 29 = .ok (.aload_n 0, 1) := by decide +kernel
theorem dX11_mean_30 : decode cX11_mean 30 = .ok (.getfield 98, 3) := by decide +kernel
theorem dX11_mean_33 : decode cX11_mean 33 = .ok (.invokevirtual 225, 3) := by decide +kernel
theorem dX11_mean_36 : decode cX11_mean 36 = .ok (.iload_n 2, 1) := by decide +kernel
theorem dX11_mean_37 : decode cX11_mean 37 = .ok (.invokevirtual 285, 3) := by decide +kernel
theorem dX11_mean_40 : decode cX11_mean 40 = .ok (.aload_n 0, 1) := by decide +kernel
theorem dX11_mean_41 : decode cX11_mean 41 = .ok (.getfield 90, 3) := by decide +kernel
theorem dX11_mean_44 : decode cX11_mean 44 = .ok (.invokevirtual 338, 3) := by decide +kernel
theorem dX11_mean_47 : decode cX11_mean 47 = .ok (.ldc2_w 342, 3) := by decide +kernel
theorem dX11_mean_50 : decode cX11_mean 50 = .ok (.ldiv, 1) := by decide +kernel
theorem dX11_mean_51 : decode cX11_mean 51 = .ok (.lreturn, 1) := by decide +kernel
theorem dX11_odds_0 : decode cX11_odds 0 = .ok (.aload_n 0, 1) := by decide +kernel
theorem dX11_odds_1 : decode cX11_odds 1 = .ok (.iload_n 1, 1) := by decide +kernel
theorem dX11_odds_2 : decode cX11_odds 2 = .ok (.invokevirtual 246, 3) := by decide +kernel
theorem dX11_odds_5 : decode cX11_odds 5 = .ok (.ifCond .eq 27, 3) := by decide +kernel
theorem dX11_odds_8 : decode cX11_odds 8 = .ok (.iload_n 2, 1) := by decide +kernel
theorem dX11_odds_9 : decode cX11_odds 9 = .ok (.iconst 1, 1) := by decide +kernel
theorem dX11_odds_10 : decode cX11_odds 10 = .ok (.if_icmp .lt 22, 3) := by decide +kernel
theorem dX11_odds_13 : decode cX11_odds 13 = .ok (.iload_n 2, 1) := by decide +kernel
theorem dX11_odds_14 : decode cX11_odds 14 = .ok (.bipush 9, 2) := by decide +kernel
theorem dX11_odds_16 : decode cX11_odds 16 = .ok (.if_icmp .gt 16, 3) := by decide +kernel
theorem dX11_odds_19 : decode cX11_odds 19 = .ok (.iload_n 3, 1) := by decide +kernel
theorem dX11_odds_20 : decode cX11_odds 20 = .ok (.iconst (-1), 1) := by decide +kernel
theorem dX11_odds_21 : decode cX11_odds 21 = .ok (.if_icmp .eq 14, 3) := by decide +kernel
theorem dX11_odds_24 : decode cX11_odds 24 = .ok (.aload_n 0, 1) := by decide +kernel
theorem dX11_odds_25 : decode cX11_odds 25 = .ok (.iload_n 3, 1) := by decide +kernel
theorem dX11_odds_26 : decode cX11_odds 26 = .ok (.invokevirtual 132, 3) := by decide +kernel
theorem dX11_odds_29 : decode cX11_odds 29 = .ok (.ifCond .ne 6, 3) := by decide +kernel
theorem dX11_odds_32 : decode cX11_odds 32 = .ok (.ldc 166, 2) := by decide +kernel
theorem dX11_odds_34 : decode cX11_odds 34 = .ok (.ireturn, 1) := by decide +kernel
theorem dX11_odds_35 : decode cX11_odds 35 = .ok (.aload_n 0, 1) := by decide +kernel
theorem dX11_odds_36 : decode cX11_odds 36 = .ok (.getfield 90, 3) := by decide +kernel
theorem dX11_odds_39 : decode cX11_odds 39 = .ok (.iload_n 1, 1) := by decide +kernel
theorem dX11_odds_40 : decode cX11_odds 40 = .ok (.aload_n 0, 1) := by decide +kernel
theorem dX11_odds_41 : decode cX11_odds 41 = .ok (.aload_n 0, 1) := by decide +kernel
theorem dX11_odds_42 : decode cX11_odds 42 = .ok (.getfield 98, 3) := by decide +kernel
theorem dX11_odds_45 : decode cX11_odds 45 = .ok (.invokevirtual 225, 3) := by decide +kernel
theorem dX11_odds_48 : decode cX11_odds 48 = .ok (.iload_n 2, 1) := by decide +kernel
theorem dX11_odds_49 : decode cX11_odds 49 = .ok (.invokevirtual 285, 3) := by decide +kernel
theorem dX11_odds_52 : decode cX11_odds 52 = .ok (.iload_n 3, 1) := by decide +kernel
theorem dX11_odds_53 : decode cX11_odds 53 = .ok (.iconst (-1), 1) := by decide +kernel
theorem dX11_odds_54 : decode cX11_odds 54 = .ok (.if_icmp .ne 13, 3) := by decide +kernel
theorem dX11_odds_57 : decode cX11_odds 57 = .ok (.aload_n 0, 1) := by decide +kernel
theorem dX11_odds_58 : decode cX11_odds 58 = .ok (.getfield 90, 3) := by decide +kernel
theorem dX11_odds_61 : decode cX11_odds 61 = .ok (.getfield 289, 3) := by decide +kernel
theorem dX11_odds_64 : decode cX11_odds 64 = .ok (.goto 11, 3) := by decide +kernel
theorem dX11_odds_67 : decode cX11_odds 67 = .ok (.aload_n 0, 1) := by decide +kernel
theorem dX11_odds_68 : decode cX11_odds 68 = .ok (.getfield 90, 3) := by decide +kernel
theorem dX11_odds_71 : decode cX11_odds 71 = .ok (.iload_n 3, 1) := by decide +kernel
theorem dX11_odds_72 : decode cX11_odds 72 = .ok (.invokevirtual 292, 3) := by decide +kernel
theorem dX11_odds_75 : decode cX11_odds 75 = .ok (.l2i, 1) := by decide +kernel
theorem dX11_odds_76 : decode cX11_odds 76 = .ok (.ireturn, 1) := by decide +kernel
theorem dX11_ownHeads_0 : decode cX11_ownHeads 0 = .ok (.iconst 0, 1) := by decide +kernel
theorem dX11_ownHeads_1 : decode cX11_ownHeads 1 = .ok (.istore 5, 2) := by decide +kernel
theorem dX11_ownHeads_3 : decode cX11_ownHeads 3 = .ok (.iconst 0, 1) := by decide +kernel
theorem dX11_ownHeads_4 : decode cX11_ownHeads 4 = .ok (.istore 6, 2) := by decide +kernel
theorem dX11_ownHeads_6 : decode cX11_ownHeads 6 = .ok (.iload 6, 2) := by decide +kernel
theorem dX11_ownHeads_8 : decode cX11_ownHeads 8 = .ok (.iload 4, 2) := by decide +kernel
theorem dX11_ownHeads_10 : decode cX11_ownHeads 10 = .ok (.if_icmp .ge 51, 3) := by decide +kernel
theorem dX11_ownHeads_13 : decode cX11_ownHeads 13 = .ok (.aload_n 0, 1) := by decide +kernel
theorem dX11_ownHeads_14 : decode cX11_ownHeads 14 = .ok (.iload 6, 2) := by decide +kernel
theorem dX11_ownHeads_16 : decode cX11_ownHeads 16 = .ok (.invokevirtual 363, 3) := by decide +kernel
theorem dX11_ownHeads_19 : decode cX11_ownHeads 19 = .ok (.aload_n 0, 1) := by decide +kernel
theorem dX11_ownHeads_20 : decode cX11_ownHeads 20 = .ok (.getfield 51, 3) := by decide +kernel
theorem dX11_ownHeads_23 : decode cX11_ownHeads 23 = .ok (.getfield 188, 3) := by decide +kernel
theorem dX11_ownHeads_26 : decode cX11_ownHeads 26 = .ok (.iload_n 1, 1) := by decide +kernel
theorem dX11_ownHeads_27 : decode cX11_ownHeads 27 = .ok (.dup2, 1) := by decide +kernel
theorem dX11_ownHeads_28 : decode cX11_ownHeads 28 = .ok (.iaload, 1) := by decide +kernel
theorem dX11_ownHeads_29 : decode cX11_ownHeads 29 = .ok (.iload_n 2, 1) := by decide +kernel
theorem dX11_ownHeads_30 : decode cX11_ownHeads 30 = .ok (.iadd, 1) := by decide +kernel
theorem dX11_ownHeads_31 : decode cX11_ownHeads 31 = .ok (.iastore, 1) := by decide +kernel
theorem dX11_ownHeads_32 : decode cX11_ownHeads 32 = .ok (.aload_n 0, 1) := by decide +kernel
theorem dX11_ownHeads_33 : decode cX11_ownHeads 33 = .ok (.aload_n 0, 1) := by decide +kernel
theorem dX11_ownHeads_34 : decode cX11_ownHeads 34 = .ok (.getfield 98, 3) := by decide +kernel
theorem dX11_ownHeads_37 : decode cX11_ownHeads 37 = .ok (.iload_n 3, 1) := by decide +kernel
theorem dX11_ownHeads_38 : decode cX11_ownHeads 38 = .ok (.invokevirtual 366, 3) := by decide +kernel
theorem dX11_ownHeads_41 : decode cX11_ownHeads 41 = .ok (.iload 5, 2) := by decide +kernel
theorem dX11_ownHeads_43 : decode cX11_ownHeads 43 = .ok (.aload_n 0, 1) := by decide +kernel
theorem dX11_ownHeads_44 : decode cX11_ownHeads 44 = .ok (.getfield 51, 3) := by decide +kernel
theorem dX11_ownHeads_47 : decode cX11_ownHeads 47 = .ok (.getfield 167, 3) := by decide +kernel
theorem dX11_ownHeads_50 : decode cX11_ownHeads 50 = .ok (.iload_n 1, 1) := by decide +kernel
theorem dX11_ownHeads_51 : decode cX11_ownHeads 51 = .ok (.iaload, 1) := by decide +kernel
theorem dX11_ownHeads_52 : decode cX11_ownHeads 52 = .ok (.iadd, 1) := by decide +kernel
theorem dX11_ownHeads_53 : decode cX11_ownHeads 53 = .ok (.istore 5, 2) := by decide +kernel
theorem dX11_ownHeads_55 : decode cX11_ownHeads 55 = .ok (.iinc 6 1, 3) := by decide +kernel
theorem dX11_ownHeads_58 : decode cX11_ownHeads 58 = .ok (.goto (-52), 3) := by decide +kernel
theorem dX11_ownHeads_61 : decode cX11_ownHeads 61 = .ok (.iload 5, 2) := by decide +kernel
theorem dX11_ownHeads_63 : decode cX11_ownHeads 63 = .ok (.ireturn, 1) := by decide +kernel
theorem dX11_passTrial_0 : decode cX11_passTrial 0 = .ok (.iconst 0, 1) := by decide +kernel
theorem dX11_passTrial_1 : decode cX11_passTrial 1 = .ok (.istore_n 3, 1) := by decide +kernel
theorem dX11_passTrial_2 : decode cX11_passTrial 2 = .ok (.iload_n 3, 1) := by decide +kernel
theorem dX11_passTrial_3 : decode cX11_passTrial 3 = .ok (.iload_n 2, 1) := by decide +kernel
theorem dX11_passTrial_4 : decode cX11_passTrial 4 = .ok (.if_icmp .ge 37, 3) := by decide +kernel
theorem dX11_passTrial_7 : decode cX11_passTrial 7 = .ok (.aload_n 0, 1) := by decide +kernel
theorem dX11_passTrial_8 : decode cX11_passTrial 8 = .ok (.getfield 74, 3) := by decide +kernel
theorem dX11_passTrial_11 : decode cX11_passTrial 11 = .ok (.aload_n 0, 1) := by decide +kernel
theorem dX11_passTrial_12 : decode cX11_passTrial 12 = .ok (.getfield 51, 3) := by decide +kernel
theorem dX11_passTrial_15 : decode cX11_passTrial 15 = .ok (.aload_n 0, 1) := by decide +kernel
theorem dX11_passTrial_16 : decode cX11_passTrial 16 = .ok (.iload_n 1, 1) := by decide +kernel
theorem dX11_passTrial_17 : decode cX11_passTrial 17 = .ok (.invokevirtual 225, 3) := by decide +kernel
theorem dX11_passTrial_20 : decode cX11_passTrial 20 = .ok (.invokevirtual 229, 3) := by decide +kernel
theorem dX11_passTrial_23 : decode cX11_passTrial 23 = .ok (.aload_n 0, 1) := by decide +kernel
theorem dX11_passTrial_24 : decode cX11_passTrial 24 = .ok (.getfield 74, 3) := by decide +kernel
theorem dX11_passTrial_27 : decode cX11_passTrial 27 = .ok (.aload_n 0, 1) := by decide +kernel
theorem dX11_passTrial_28 : decode cX11_passTrial 28 = .ok (.getfield 51, 3) := by decide +kernel
theorem dX11_passTrial_31 : decode cX11_passTrial 31 = .ok (.invokevirtual 232, 3) := by decide +kernel
theorem dX11_passTrial_34 : decode cX11_passTrial 34 = .ok (.pop, 1) := by decide +kernel
theorem dX11_passTrial_35 : decode cX11_passTrial 35 = .ok (.iinc 3 1, 3) := by decide +kernel
theorem dX11_passTrial_38 : decode cX11_passTrial 38 = .ok (.goto (-36), 3) := by decide +kernel
theorem dX11_passTrial_41 : decode cX11_passTrial 41 = .ok (.return_, 1) := by decide +kernel
theorem dX11_reform_0 : decode cX11_reform 0 = .ok (.aload_n 0, 1) := by decide +kernel
theorem dX11_reform_1 : decode cX11_reform 1 = .ok (.invokevirtual 218, 3) := by decide +kernel
theorem dX11_reform_4 : decode cX11_reform 4 = .ok (.ifCond .eq 11, 3) := by decide +kernel
theorem dX11_reform_7 : decode cX11_reform 7 = .ok (.iload_n 1, 1) := by decide +kernel
theorem dX11_reform_8 : decode cX11_reform 8 = .ok (.iload_n 2, 1) := by decide +kernel
theorem dX11_reform_9 : decode cX11_reform 9 = .ok (.invokestatic 296, 3) := by decide +kernel
theorem dX11_reform_12 : decode cX11_reform 12 = .ok (.ifCond .ne 6, 3) := by decide +kernel
theorem dX11_reform_15 : decode cX11_reform 15 = .ok (.ldc 166, 2) := by decide +kernel
theorem dX11_reform_17 : decode cX11_reform 17 = .ok (.ireturn, 1) := by decide +kernel
theorem dX11_reform_18 : decode cX11_reform 18 = .ok (.iconst (-1), 1) := by decide +kernel
theorem dX11_reform_19 : decode cX11_reform 19 = .ok (.istore_n 3, 1) := by decide +kernel
theorem dX11_reform_20 : decode cX11_reform 20 = .ok (.aload_n 0, 1) := by decide +kernel
theorem dX11_reform_21 : decode cX11_reform 21 = .ok (.iconst (-1), 1) := by decide +kernel
theorem dX11_reform_22 : decode cX11_reform 22 = .ok (.iload_n 1, 1) := by decide +kernel
theorem dX11_reform_23 : decode cX11_reform 23 = .ok (.iload_n 2, 1) := by decide +kernel
theorem dX11_reform_24 : decode cX11_reform 24 = .ok (.iconst 0, 1) := by decide +kernel
theorem dX11_reform_25 : decode cX11_reform 25 = .ok (.invokevirtual 300, 3) := by decide +kernel
theorem dX11_reform_28 : decode cX11_reform 28 = .ok (.istore 4, 2) := by decide +kernel
theorem dX11_reform_30 : decode cX11_reform 30 = .ok (.iconst 0, 1) := by decide +kernel
theorem dX11_reform_31 : decode cX11_reform 31 = .ok (.istore 5, 2) := by decide +kernel
theorem dX11_reform_33 : decode cX11_reform 33 = .ok (.iload 5, 2) := by decide +kernel
theorem dX11_reform_35 : decode cX11_reform 35 = .ok (.aload_n 0, 1) := by decide +kernel
theorem dX11_reform_36 : decode cX11_reform 36 = .ok (.getfield 94, 3) := by decide +kernel
theorem dX11_reform_39 : decode cX11_reform 39 = .ok (.if_icmp .ge 34, 3) := by decide +kernel
theorem dX11_reform_42 : decode cX11_reform 42 = .ok (.aload_n 0, 1) := by decide +kernel
theorem dX11_reform_43 : decode cX11_reform 43 = .ok (.iload 5, 2) := by decide +kernel
theorem dX11_reform_45 : decode cX11_reform 45 = .ok (.iload_n 1, 1) := by decide +kernel
theorem dX11_reform_46 : decode cX11_reform 46 = .ok (.iload_n 2, 1) := by decide +kernel
theorem dX11_reform_47 : decode cX11_reform 47 = .ok (.iconst 0, 1) := by decide +kernel
theorem dX11_reform_48 : decode cX11_reform 48 = .ok (.invokevirtual 300, 3) := by decide +kernel
theorem dX11_reform_51 : decode cX11_reform 51 = .ok (.istore 6, 2) := by decide +kernel
theorem dX11_reform_53 : decode cX11_reform 53 = .ok (.iload 6, 2) := by decide +kernel
theorem dX11_reform_55 : decode cX11_reform 55 = .ok (.iload 4, 2) := by decide +kernel
theorem dX11_reform_57 : decode cX11_reform 57 = .ok (.if_icmp .le 10, 3) := by decide +kernel
theorem dX11_reform_60 : decode cX11_reform 60 = .ok (.iload 6, 2) := by decide +kernel
theorem dX11_reform_62 : decode cX11_reform 62 = .ok (.istore 4, 2) := by decide +kernel
theorem dX11_reform_64 : decode cX11_reform 64 = .ok (.iload 5, 2) := by decide +kernel
theorem dX11_reform_66 : decode cX11_reform 66 = .ok (.istore_n 3, 1) := by decide +kernel
theorem dX11_reform_67 : decode cX11_reform 67 = .ok (.iinc 5 1, 3) := by decide +kernel
theorem dX11_reform_70 : decode cX11_reform 70 = .ok (.goto (-37), 3) := by decide +kernel
theorem dX11_reform_73 : decode cX11_reform 73 = .ok (.iload_n 3, 1) := by decide +kernel
theorem dX11_reform_74 : decode cX11_reform 74 = .ok (.ireturn, 1) := by decide +kernel
theorem dX11_spring_0 : decode cX11_spring 0 = .ok (.aload_n 0, 1) := by decide +kernel
theorem dX11_spring_1 : decode cX11_spring 1 = .ok (.invokevirtual 218, 3) := by decide +kernel
theorem dX11_spring_4 : decode cX11_spring 4 = .ok (.ifCond .ne 5, 3) := by decide +kernel
theorem dX11_spring_7 : decode cX11_spring 7 = .ok (.iconst (-1), 1) := by decide +kernel
theorem dX11_spring_8 : decode cX11_spring 8 = .ok (.ireturn, 1) := by decide +kernel
theorem dX11_spring_9 : decode cX11_spring 9 = .ok (.aload_n 0, 1) := by decide +kernel
theorem dX11_spring_10 : decode cX11_spring 10 = .ok (.getfield 67, 3) := by decide +kernel
theorem dX11_spring_13 : decode cX11_spring 13 = .ok (.iconst 0, 1) := by decide +kernel
theorem dX11_spring_14 : decode cX11_spring 14 = .ok (.putfield 240, 3) := by decide +kernel
theorem dX11_spring_17 : decode cX11_spring 17 = .ok (.aload_n 0, 1) := by decide +kernel
theorem dX11_spring_18 : decode cX11_spring 18 = .ok (.getfield 74, 3) := by decide +kernel
theorem dX11_spring_21 : decode cX11_spring 21 = .ok (.aload_n 0, 1) := by decide +kernel
theorem dX11_spring_22 : decode cX11_spring 22 = .ok (.getfield 47, 3) := by decide +kernel
theorem dX11_spring_25 : decode cX11_spring 25 = .ok (.invokevirtual 232, 3) := by decide +kernel
theorem dX11_spring_28 : decode cX11_spring 28 = .ok (.ireturn, 1) := by decide +kernel
theorem dX11_startTrial_0 : decode cX11_startTrial 0 = .ok (.aload_n 0, 1) := by decide +kernel
theorem dX11_startTrial_1 : decode cX11_startTrial 1 = .ok (.getfield 51, 3) := by decide +kernel
theorem dX11_startTrial_4 : decode cX11_startTrial 4 = .ok (.aload_n 0, 1) := by decide +kernel
theorem dX11_startTrial_5 : decode cX11_startTrial 5 = .ok (.getfield 47, 3) := by decide +kernel
theorem dX11_startTrial_8 : decode cX11_startTrial 8 = .ok (.invokevirtual 347, 3) := by decide +kernel
theorem dX11_startTrial_11 : decode cX11_startTrial 11 = .ok (.aload_n 0, 1) := by decide +kernel
theorem dX11_startTrial_12 : decode cX11_startTrial 12 = .ok (.getfield 51, 3) := by decide +kernel
theorem dX11_startTrial_15 : decode cX11_startTrial 15 = .ok (.iload_n 1, 1) := by decide +kernel
theorem dX11_startTrial_16 : decode cX11_startTrial 16 = .ok (.i2l, 1) := by decide +kernel
theorem dX11_startTrial_17 : decode cX11_startTrial 17 = .ok (.putfield 214, 3) := by decide +kernel
theorem dX11_startTrial_20 : decode cX11_startTrial 20 = .ok (.return_, 1) := by decide +kernel
theorem dX11_tellValley_0 : decode cX11_tellValley 0 = .ok (.aload_n 0, 1) := by decide +kernel
theorem dX11_tellValley_1 : decode cX11_tellValley 1 = .ok (.getfield 19, 3) := by decide +kernel
theorem dX11_tellValley_4 : decode cX11_tellValley 4 = .ok (.getfield 353, 3) := by decide +kernel
theorem dX11_tellValley_7 : decode cX11_tellValley 7 = .ok (.astore_n 1, 1) := by decide +kernel
theorem dX11_tellValley_8 : decode cX11_tellValley 8 = .ok (.aload_n 0, 1) := by decide +kernel
theorem dX11_tellValley_9 : decode cX11_tellValley 9 = .ok (.getfield 19, 3) := by decide +kernel
theorem dX11_tellValley_12 : decode cX11_tellValley 12 = .ok (.aload_n 0, 1) := by decide +kernel
theorem dX11_tellValley_13 : decode cX11_tellValley 13 = .ok (.getfield 47, 3) := by decide +kernel
theorem dX11_tellValley_16 : decode cX11_tellValley 16 = .ok (.getfield 128, 3) := by decide +kernel
theorem dX11_tellValley_19 : decode cX11_tellValley 19 = .ok (.putfield 353, 3) := by decide +kernel
theorem dX11_tellValley_22 : decode cX11_tellValley 22 = .ok (.aload_n 0, 1) := by decide +kernel
theorem dX11_tellValley_23 : decode cX11_tellValley 23 = .ok (.getfield 47, 3) := by decide +kernel
theorem dX11_tellValley_26 : decode cX11_tellValley 26 = .ok (.aload_n 1, 1) := by decide +kernel
theorem dX11_tellValley_27 : decode cX11_tellValley 27 = .ok (.invokevirtual 356, 3) := by decide +kernel
theorem dX11_tellValley_30 : decode cX11_tellValley 30 = .ok (.aload_n 0, 1) := by decide +kernel
theorem dX11_tellValley_31 : decode cX11_tellValley 31 = .ok (.getfield 60, 3) := by decide +kernel
theorem dX11_tellValley_34 : decode cX11_tellValley 34 = .ok (.iconst 0, 1) := by decide +kernel
theorem dX11_tellValley_35 : decode cX11_tellValley 35 = .ok (.putfield 304, 3) := by decide +kernel
theorem dX11_tellValley_38 : decode cX11_tellValley 38 = .ok (.aload_n 0, 1) := by decide +kernel
theorem dX11_tellValley_39 : decode cX11_tellValley 39 = .ok (.getfield 67, 3) := by decide +kernel
theorem dX11_tellValley_42 : decode cX11_tellValley 42 = .ok (.iconst 0, 1) := by decide +kernel
theorem dX11_tellValley_43 : decode cX11_tellValley 43 = .ok (.putfield 240, 3) := by decide +kernel
theorem dX11_tellValley_46 : decode cX11_tellValley 46 = .ok (.aload_n 0, 1) := by decide +kernel
theorem dX11_tellValley_47 : decode cX11_tellValley 47 = .ok (.iconst 0, 1) := by decide +kernel
theorem dX11_tellValley_48 : decode cX11_tellValley 48 = .ok (.putfield 101, 3) := by decide +kernel
theorem dX11_tellValley_51 : decode cX11_tellValley 51 = .ok (.aload_n 0, 1) := by decide +kernel
theorem dX11_tellValley_52 : decode cX11_tellValley 52 = .ok (.getfield 10, 3) := by decide +kernel
theorem dX11_tellValley_55 : decode cX11_tellValley 55 = .ok (.iconst 0, 1) := by decide +kernel
theorem dX11_tellValley_56 : decode cX11_tellValley 56 = .ok (.putfield 109, 3) := by decide +kernel
theorem dX11_tellValley_59 : decode cX11_tellValley 59 = .ok (.aload_n 1, 1) := by decide +kernel
theorem dX11_tellValley_60 : decode cX11_tellValley 60 = .ok (.getfield 319, 3) := by decide +kernel
theorem dX11_tellValley_63 : decode cX11_tellValley 63 = .ok (.ireturn, 1) := by decide +kernel
theorem dX11_tried_0 : decode cX11_tried 0 = .ok (.aload_n 0, 1) := by decide +kernel
theorem dX11_tried_1 : decode cX11_tried 1 = .ok (.invokevirtual 218, 3) := by decide +kernel
theorem dX11_tried_4 : decode cX11_tried 4 = .ok (.ifCond .eq 35, 3) := by decide +kernel
theorem dX11_tried_7 : decode cX11_tried 7 = .ok (.iload_n 1, 1) := by decide +kernel
theorem dX11_tried_8 : decode cX11_tried 8 = .ok (.iconst (-1), 1) := by decide +kernel
theorem dX11_tried_9 : decode cX11_tried 9 = .ok (.if_icmp .eq 11, 3) := by decide +kernel
theorem dX11_tried_12 : decode cX11_tried 12 = .ok (.aload_n 0, 1) := by decide +kernel
theorem dX11_tried_13 : decode cX11_tried 13 = .ok (.iload_n 1, 1) := by decide +kernel
theorem dX11_tried_14 : decode cX11_tried 14 = .ok (.invokevirtual 202, 3) := by decide +kernel
theorem dX11_tried_17 : decode cX11_tried 17 = .ok (.ifCond .eq 22, 3) := by decide +kernel
theorem dX11_tried_20 : decode cX11_tried 20 = .ok (.iload_n 2, 1) := by decide +kernel
theorem dX11_tried_21 : decode cX11_tried 21 = .ok (.iload_n 3, 1) := by decide +kernel
theorem dX11_tried_22 : decode cX11_tried 22 = .ok (.invokestatic 296, 3) := by decide +kernel
theorem dX11_tried_25 : decode cX11_tried 25 = .ok (.ifCond .eq 14, 3) := by decide +kernel
theorem dX11_tried_28 : decode cX11_tried 28 = .ok (.iload 4, 2) := by decide +kernel
theorem dX11_tried_30 : decode cX11_tried 30 = .ok (.ifCond .lt 9, 3) := by decide +kernel
theorem dX11_tried_33 : decode cX11_tried 33 = .ok (.iload 4, 2) := by decide +kernel
theorem dX11_tried_35 : decode cX11_tried 35 = .ok (.iconst 2, 1) := by decide +kernel
theorem dX11_tried_36 : decode cX11_tried 36 = .ok (.if_icmp .le 6, 3) := by decide +kernel
theorem dX11_tried_39 : decode cX11_tried 39 = .ok (.ldc 166, 2) := by decide +kernel
theorem dX11_tried_41 : decode cX11_tried 41 = .ok (.ireturn, 1) := by decide +kernel
theorem dX11_tried_42 : decode cX11_tried 42 = .ok (.aload_n 0, 1) := by decide +kernel
theorem dX11_tried_43 : decode cX11_tried 43 = .ok (.iload_n 1, 1) := by decide +kernel
theorem dX11_tried_44 : decode cX11_tried 44 = .ok (.iload_n 2, 1) := by decide +kernel
theorem dX11_tried_45 : decode cX11_tried 45 = .ok (.iload_n 3, 1) := by decide +kernel
theorem dX11_tried_46 : decode cX11_tried 46 = .ok (.iload 4, 2) := by decide +kernel
theorem dX11_tried_48 : decode cX11_tried 48 = .ok (.invokevirtual 300, 3) := by decide +kernel
theorem dX11_tried_51 : decode cX11_tried 51 = .ok (.ireturn, 1) := by decide +kernel
theorem dX11_triedSum_0 : decode cX11_triedSum 0 = .ok (.iconst 0, 1) := by decide +kernel
theorem dX11_triedSum_1 : decode cX11_triedSum 1 = .ok (.istore 5, 2) := by decide +kernel
theorem dX11_triedSum_3 : decode cX11_triedSum 3 = .ok (.iconst 0, 1) := by decide +kernel
theorem dX11_triedSum_4 : decode cX11_triedSum 4 = .ok (.istore 6, 2) := by decide +kernel
theorem dX11_triedSum_6 : decode cX11_triedSum 6 = .ok (.iload 6, 2) := by decide +kernel
theorem dX11_triedSum_8 : decode cX11_triedSum 8 = .ok (.iload_n 3, 1) := by decide +kernel
theorem dX11_triedSum_9 : decode cX11_triedSum 9 = .ok (.if_icmp .ge 72, 3) := by decide +kernel
theorem dX11_triedSum_12 : decode cX11_triedSum 12 = .ok (.aload_n 0, 1) := by decide +kernel
theorem dX11_triedSum_13 : decode cX11_triedSum 13 = .ok (.iload 6, 2) := by decide +kernel
theorem dX11_triedSum_15 : decode cX11_triedSum 15 = .ok (.invokevirtual 363, 3) := by decide +kernel
theorem dX11_triedSum_18 : decode cX11_triedSum 18 = .ok (.aload_n 0, 1) := by decide +kernel
theorem dX11_triedSum_19 : decode cX11_triedSum 19 = .ok (.iload_n 1, 1) := by decide +kernel
theorem dX11_triedSum_20 : decode cX11_triedSum 20 = .ok (.iload_n 2, 1) := by decide +kernel
theorem dX11_triedSum_21 : decode cX11_triedSum 21 = .ok (.invokevirtual 366, 3) := by decide +kernel
theorem dX11_triedSum_24 : decode cX11_triedSum 24 = .ok (.iload 4, 2) := by decide +kernel
theorem dX11_triedSum_26 : decode cX11_triedSum 26 = .ok (.ifCond .ne 18, 3) := by decide +kernel
theorem dX11_triedSum_29 : decode cX11_triedSum 29 = .ok (.iload 5, 2) := by decide +kernel
theorem dX11_triedSum_31 : decode cX11_triedSum 31 = .ok (.aload_n 0, 1) := by decide +kernel
theorem dX11_triedSum_32 : decode cX11_triedSum 32 = .ok (.getfield 51, 3) := by decide +kernel
theorem dX11_triedSum_35 : decode cX11_triedSum 35 = .ok (.invokevirtual 243, 3) := by decide +kernel
theorem dX11_triedSum_38 : decode cX11_triedSum 38 = .ok (.iadd, 1) := by decide +kernel
theorem dX11_triedSum_39 : decode cX11_triedSum 39 = .ok (.istore 5, 2) := by decide +kernel
theorem dX11_triedSum_41 : decode cX11_triedSum 41 = .ok (.goto 34, 3) := by decide +kernel
theorem dX11_triedSum_44 : decode cX11_triedSum 44 = .ok (.iload 5, 2) := by decide +kernel
theorem dX11_triedSum_46 : decode cX11_triedSum 46 = .ok (.iload 4, 2) := by decide +kernel
theorem dX11_triedSum_48 : decode cX11_triedSum 48 = .ok (.iconst 1, 1) := by decide +kernel
theorem dX11_triedSum_49 : decode cX11_triedSum 49 = .ok (.if_icmp .ne 13, 3) := by decide +kernel
theorem dX11_triedSum_52 : decode cX11_triedSum 52 = .ok (.aload_n 0, 1) := by decide +kernel
theorem dX11_triedSum_53 : decode cX11_triedSum 53 = .ok (.getfield 51, 3) := by decide +kernel
theorem dX11_triedSum_56 : decode cX11_triedSum 56 = .ok (.invokevirtual 350, 3) := by decide +kernel
theorem dX11_triedSum_59 : decode cX11_triedSum 59 = .ok (.goto 13, 3) := by decide +kernel
theorem dX11_triedSum_62 : decode cX11_triedSum 62 = .ok (.aload_n 0, 1) := by decide +kernel
theorem dX11_triedSum_63 : decode cX11_triedSum 63 = .ok (.getfield 51, 3) := by decide +kernel
theorem dX11_triedSum_66 : decode cX11_triedSum 66 = .ok (.invokevirtual 264, 3) := by decide +kernel
theorem dX11_triedSum_69 : decode cX11_triedSum 69 = .ok (.invokestatic 273, 3) := by decide +kernel
theorem dX11_triedSum_72 : decode cX11_triedSum 72 = .ok (.iadd, 1) := by decide +kernel
theorem dX11_triedSum_73 : decode cX11_triedSum 73 = .ok (.istore 5, 2) := by decide +kernel
theorem dX11_triedSum_75 : decode cX11_triedSum 75 = .ok (.iinc 6 1, 3) := by decide +kernel
theorem dX11_triedSum_78 : decode cX11_triedSum 78 = .ok (.goto (-72), 3) := by decide +kernel
theorem dX11_triedSum_81 : decode cX11_triedSum 81 = .ok (.iload 5, 2) := by decide +kernel
theorem dX11_triedSum_83 : decode cX11_triedSum 83 = .ok (.ireturn, 1) := by decide +kernel
theorem dX11_winters_0 : decode cX11_winters 0 = .ok (.aload_n 0, 1) := by decide +kernel
theorem dX11_winters_1 : decode cX11_winters 1 = .ok (.invokevirtual 218, 3) := by decide +kernel
theorem dX11_winters_4 : decode cX11_winters 4 = .ok (.ifCond .eq 28, 3) := by decide +kernel
theorem dX11_winters_7 : decode cX11_winters 7 = .ok (.iload_n 1, 1) := by decide +kernel
theorem dX11_winters_8 : decode cX11_winters 8 = .ok (.iconst 1, 1) := by decide +kernel
theorem dX11_winters_9 : decode cX11_winters 9 = .ok (.if_icmp .lt 23, 3) := by decide +kernel
theorem dX11_winters_12 : decode cX11_winters 12 = .ok (.iload_n 1, 1) := by decide +kernel
theorem dX11_winters_13 : decode cX11_winters 13 = .ok (.bipush 9, 2) := by decide +kernel
theorem dX11_winters_15 : decode cX11_winters 15 = .ok (.if_icmp .gt 17, 3) := by decide +kernel
theorem dX11_winters_18 : decode cX11_winters 18 = .ok (.aload_n 0, 1) := by decide +kernel
theorem dX11_winters_19 : decode cX11_winters 19 = .ok (.getfield 47, 3) := by decide +kernel
theorem dX11_winters_22 : decode cX11_winters 22 = .ok (.getfield 222, 3) := by decide +kernel
theorem dX11_winters_25 : decode cX11_winters 25 = .ok (.iload_n 1, 1) := by decide +kernel
theorem dX11_winters_26 : decode cX11_winters 26 = .ok (.iadd, 1) := by decide +kernel
theorem dX11_winters_27 : decode cX11_winters 27 = .ok (.bipush 60, 2) := by decide +kernel
theorem dX11_winters_29 : decode cX11_winters 29 = .ok (.if_icmp .le 5, 3) := by decide +kernel
theorem dX11_winters_32 : decode cX11_winters 32 = .ok (.iconst (-1), 1) := by decide +kernel
theorem dX11_winters_33 : decode cX11_winters 33 = .ok (.ireturn, 1) := by decide +kernel
theorem dX11_winters_34 : decode cX11_winters 34 = .ok (.aload_n 0, 1) := by decide +kernel
theorem dX11_winters_35 : decode cX11_winters 35 = .ok (.aload_n 0, 1) := by decide +kernel
theorem dX11_winters_36 : decode cX11_winters 36 = .ok (.getfield 98, 3) := by decide +kernel
theorem dX11_winters_39 : decode cX11_winters 39 = .ok (.invokevirtual 225, 3) := by decide +kernel
theorem dX11_winters_42 : decode cX11_winters 42 = .ok (.astore_n 2, 1) := by decide +kernel
theorem dX11_winters_43 : decode cX11_winters 43 = .ok (.iconst 0, 1) := by decide +kernel
theorem dX11_winters_44 : decode cX11_winters 44 = .ok (.istore_n 3, 1) := by decide +kernel
theorem dX11_winters_45 : decode cX11_winters 45 = .ok (.iload_n 3, 1) := by decide +kernel
theorem dX11_winters_46 : decode cX11_winters 46 = .ok (.iload_n 1, 1) := by decide +kernel
theorem dX11_winters_47 : decode cX11_winters 47 = .ok (.if_icmp .ge 44, 3) := by decide +kernel
theorem dX11_winters_50 : decode cX11_winters 50 = .ok (.aload_n 0, 1) := by decide +kernel
theorem dX11_winters_51 : decode cX11_winters 51 = .ok (.getfield 74, 3) := by decide +kernel
theorem dX11_winters_54 : decode cX11_winters 54 = .ok (.aload_n 0, 1) := by decide +kernel
theorem dX11_winters_55 : decode cX11_winters 55 = .ok (.getfield 47, 3) := by decide +kernel
theorem dX11_winters_58 : decode cX11_winters 58 = .ok (.aload_n 2, 1) := by decide +kernel
theorem dX11_winters_59 : decode cX11_winters 59 = .ok (.invokevirtual 229, 3) := by decide +kernel
theorem dX11_winters_62 : decode cX11_winters 62 = .ok (.aload_n 0, 1) := by decide +kernel
theorem dX11_winters_63 : decode cX11_winters 63 = .ok (.getfield 74, 3) := by decide +kernel
theorem dX11_winters_66 : decode cX11_winters 66 = .ok (.aload_n 0, 1) := by decide +kernel
theorem dX11_winters_67 : decode cX11_winters 67 = .ok (.getfield 47, 3) := by decide +kernel
theorem dX11_winters_70 : decode cX11_winters 70 = .ok (.invokevirtual 232, 3) := by decide +kernel
theorem dX11_winters_73 : decode cX11_winters 73 = .ok (.pop, 1) := by decide +kernel
theorem dX11_winters_74 : decode cX11_winters 74 = .ok (.aload_n 0, 1) := by decide +kernel
theorem dX11_winters_75 : decode cX11_winters 75 = .ok (.getfield 60, 3) := by decide +kernel
theorem dX11_winters_78 : decode cX11_winters 78 = .ok (.aload_n 0, 1) := by decide +kernel
theorem dX11_winters_79 : decode cX11_winters 79 = .ok (.getfield 47, 3) := by decide +kernel
theorem dX11_winters_82 : decode cX11_winters 82 = .ok (.invokevirtual 236, 3) := by decide +kernel
theorem dX11_winters_85 : decode cX11_winters 85 = .ok (.iinc 3 1, 3) := by decide +kernel
theorem dX11_winters_88 : decode cX11_winters 88 = .ok (.goto (-43), 3) := by decide +kernel
theorem dX11_winters_91 : decode cX11_winters 91 = .ok (.aload_n 0, 1) := by decide +kernel
theorem dX11_winters_92 : decode cX11_winters 92 = .ok (.getfield 67, 3) := by decide +kernel
theorem dX11_winters_95 : decode cX11_winters 95 = .ok (.iconst 0, 1) := by decide +kernel
theorem dX11_winters_96 : decode cX11_winters 96 = .ok (.putfield 240, 3) := by decide +kernel
theorem dX11_winters_99 : decode cX11_winters 99 = .ok (.aload_n 0, 1) := by decide +kernel
theorem dX11_winters_100 : decode cX11_winters 100 = .ok (.getfield 47, 3) := by decide +kernel
theorem dX11_winters_103 : decode cX11_winters 103 = .ok (.invokevirtual 243, 3) := by decide +kernel
theorem dX11_winters_106 : decode cX11_winters 106 = .ok (.ireturn, 1) := by decide +kernel
def w_X11_startTrial : List Cond := .code yX11_startTrial cX11_startTrial 2 none :: ([Cond.fieldLink RX11 51 "HeadYear" "trial" "LHeadYear$Folk;", Cond.fieldLink RX11 47 "HeadYear" "folk" "LHeadYear$Folk;", Cond.methodLink RX11 347 yX2_copyFrom, Cond.instanceMethod yX2_copyFrom, Cond.selects RX2 yX2_copyFrom yX2_copyFrom, Cond.initialized RX2, Cond.fieldLink RX11 214 "HeadYear$Folk" "x" "J"] ++ (u_ws RX11 TX11 16 ++ (u_ws RX2 TX2 12 ++ (w_X2_copyFrom ++ ([])))))
theorem in_X11_startTrial_X11 : ∀ w ∈ u_ws RX11 TX11 16, w ∈ w_X11_startTrial := fun _ h => List.mem_cons_of_mem _ (List.mem_append_right _ (List.mem_append_left _ h))
theorem in_X11_startTrial_X2 : ∀ w ∈ u_ws RX2 TX2 12, w ∈ w_X11_startTrial := fun _ h => List.mem_cons_of_mem _ (List.mem_append_right _ (List.mem_append_right _ (List.mem_append_left _ h)))
theorem gg_X11_startTrial_X2_copyFrom : GoodIn w_X11_startTrial w_X2_copyFrom := goodIn_sub (fun _ h => List.mem_cons_of_mem _ (List.mem_append_right _ (List.mem_append_right _ (List.mem_append_right _ (List.mem_append_left _ h))))) (by decide +kernel)
theorem g_X11_startTrial_X2_copyFrom_347 : GoodIn w_X11_startTrial (wsV RX11 347 RX2 yX2_copyFrom w_X2_copyFrom) := goodIn_app (goodIn_of _ (by decide +kernel)) gg_X11_startTrial_X2_copyFrom
set_option maxHeartbeats 4000000 in
set_option maxRecDepth 100000 in
theorem c_X11_startTrial (l : Launch) (E : py_E) (G : wf_G) (L : List Nat) (f : py_F) (sz : Nat) (x : Nat) (a : Int32) (hG : GT G) (hWF : WF E G L f) (Tx : G.1 x = 12) (hq0 : GI E G f x) : Met l yX11_startTrial w_X11_startTrial ({ frames := 1, cells := 0, slots := 0, locals := 22 }) (py_Pc E [.ref x, .int a] L f sz) (py_Qv E L f sz (fun L1 f1 => (fo_y f1 (G.2 x 7) = fo_y f (G.2 x 7)) ∧ (fv_l f1 (G.2 x 6) = fv_l f (G.2 x 5) ∧ fo_y f1 (G.2 x 6) = fo_y f (G.2 x 5) ∧ fv_l f1 (G.2 x 5) = fv_l f (G.2 x 5) ∧ fo_y f1 (G.2 x 5) = fo_y f (G.2 x 5)) ∧ WF E G L1 f1 ∧ KP G [3, 26, 37, 30] true f f1 ∧ GI E G f1 x)) 0 0 (va_A (va_pl L f) sz) := by
  refine Met.ofW (cc := cX11_startTrial) (maxL := 2) (ret := none) (by decide) rfl ?_
  intro p e s m args below meth c s₁ B hml hv
  obtain ⟨rfl, rfl, hw⟩ := py_start hv
  have G0 : CallFix p m c cX11_startTrial 2 s _ w_X11_startTrial RX11 := ⟨B.exec, B.bytes, hml, findClass_of_methodNamed B.named, atoms_spec (ws := w_X11_startTrial) B.pre⟩
  have hr := B.returns
  have hlk := B.notSynchronized
  have kcm1 : (-1 : Int32).toInt = -1 := rfl
  have kc0 : (0 : Int32).toInt = 0 := rfl
  have kc1 : (1 : Int32).toInt = 1 := rfl
  have hl := lv_entry ([.ref x, .int a]) (n := 2) (Nat.le_of_ble_eq_true rfl)
  rw [lg_entry_eq]
  generalize (lg_sl ([.ref x, .int a]) ++ List.replicate (2 - (lg_sl ([.ref x, .int a])).length) Slot.unset).toArray = ls at hl ⊢
  have hl : lv_has ls 2 [(0, .ref x), (1, .int a)] := hl
  have hGI := hq0
  have hKP : KP G [3, 26, 37, 30] true f f := KP.refl
  obtain ⟨t_1, t_2, t_3, t_4, t_5, t_6, t_7, t_8, t_9, t_10, t_11, t_12, t_13, tx_14, tx_15, tx_16, tx_17⟩ := wt_11 hG Tx
  refine lv_aload_n G0.1 G0.2.1 dX11_startTrial_0 rfl (lv_at hl 0 rfl) ?_
  obtain ⟨v_18, v_19, v_20, hr_24, b_21, b_22, b_23⟩ := wg_11 hWF Tx
  have tq_25 := hy_eq hr_24
  refine py_get (C := RX11) (T := TX11) (N := 16) (k := 6) (v := .ref (G.2 x 6)) G0 hw in_X11_startTrial_X11 rfl hr_24 (by decide) (by decide +kernel) rfl dX11_startTrial_1 ?_
  refine lv_aload_n G0.1 G0.2.1 dX11_startTrial_4 rfl (lv_at hl 0 rfl) ?_
  refine py_get (C := RX11) (T := TX11) (N := 16) (k := 5) (v := .ref (G.2 x 5)) G0 hw in_X11_startTrial_X11 rfl hr_24 (by decide) (by decide +kernel) rfl dX11_startTrial_5 ?_
  obtain ⟨t_26, t_27, t_28, t_29, t_30, t_31, t_32, t_33, t_34⟩ := wt_2 hG t_7
  obtain ⟨r_35, y_36, v_37, hr_40, ty_38, b_39⟩ := wg_2 hWF t_7
  refine py_callv hw (va_runV (As := [.ref (G.2 x 5)]) (rest := []) G0 (c_X2_copyFrom l E G L f s.heap.size (G.2 x 6) (G.2 x 5) hG hWF t_7 t_6 (show (G.2 x 5) ≠ (G.2 x 6) by omega) (hGI.1 _ t_6)) (cwV 1 G0.2.2.2.2 g_X11_startTrial_X2_copyFrom_347 rfl rfl rfl (by decide +kernel) ⟨(Nat.le_of_ble_eq_true rfl), (Nat.le_of_ble_eq_true rfl)⟩) (py_preV hw (C := RX2) (T := TX2) (N := 12) rfl hr_40) rfl rfl hl.1 rfl (lv_room (Nat.le_of_ble_eq_true rfl)) dX11_startTrial_8 ⟨(Nat.le_of_ble_eq_true rfl), (Nat.le_of_ble_eq_true rfl)⟩) (fun L_41 f_42 H_43 locs hp_44 hw => ?_)
  have ht_49 := fo_ty hWF t_6
  have ht_50 := fo_ty hWF t_6
  have ht_51 := fo_ty hWF t_7
  have ht_52 := fo_ty hWF t_8
  obtain ⟨en_46, hWF, hq_47, kp_48⟩ := hp_44
  obtain ⟨hGI, fq1, fq2⟩ := hGI.trial hG Tx ht_49 hq_47 kp_48 (by decide)
  have fq3 := (fv_w en_46.1 ht_49 kp_48 (by decide)).1
  have fq7 := ((hq_47 _ t_8).2 (Ne.symm tx_16)).2
  have hKP := hKP.trans kp_48 (by decide) (by decide)
  have hr_24 := kp_at kp_48 hWF Tx (by decide) (by decide) (by decide) hr_24
  have tq_53 := hy_eq hr_24
  refine lv_aload_n G0.1 G0.2.1 dX11_startTrial_11 rfl (lv_at hl 0 rfl) ?_
  refine py_get (C := RX11) (T := TX11) (N := 16) (k := 6) (v := .ref (G.2 x 6)) G0 hw in_X11_startTrial_X11 rfl hr_24 (by decide) (by decide +kernel) rfl dX11_startTrial_12 ?_
  refine lv_iload_n G0.1 G0.2.1 dX11_startTrial_15 rfl (lv_at hl 1 rfl) ?_
  refine lv_i2l (v := a.toInt64) G0.1 G0.2.1 dX11_startTrial_16 rfl ?_
  obtain ⟨r_54, y_55, v_56, hr_59, ty_57, b_58⟩ := wg_2 hWF t_7
  refine py_put (C := RX2) (T := TX2) (N := 12) (k := 10) (v := .long (a.toInt64)) (fs' := [.ref (G.2 (G.2 x 6) 0), .ref (G.2 (G.2 x 6) 1), .ref (G.2 (G.2 x 6) 2), .ref (G.2 (G.2 x 6) 3), .ref (G.2 (G.2 x 6) 4), .ref (G.2 (G.2 x 6) 5), .ref (G.2 (G.2 x 6) 6), .ref (G.2 (G.2 x 6) 7), .ref (G.2 (G.2 x 6) 8), .ref r_54, .long (a.toInt64), .int v_56]) (ty0 := tyX2) G0 hw tyX2_ok nmX2 in_X11_startTrial_X2 rfl hr_59 (by decide) (by decide +kernel) rfl rfl rfl rfl (Nat.le_of_ble_eq_true rfl) rfl dX11_startTrial_17 (fun f_60 H_61 locs h_62 x_63 hw => ?_)
  have hGI := hGI.kp hG Tx (fo_ty hWF t_6) (rp_upd hG hWF x_63 hr_59.2 h_62.2 (rp_code hG t_7 (by decide)) rfl : RP E G f_42 f_60) (KP.refl.upd hWF x_63 t_7 (Or.inl (by decide)) : KP G [3] false f_42 f_60) (by decide)
  have fq_64 := fv_one (rp_upd hG hWF x_63 hr_59.2 h_62.2 (rp_code hG t_7 (by decide)) rfl : RP E G f_42 f_60) (KP.refl.upd hWF x_63 t_7 (Or.inl (by decide)) : KP G [3] false f_42 f_60) (by decide) (fo_ty hWF t_6) t_6
  have fq_65 := fv_one (rp_upd hG hWF x_63 hr_59.2 h_62.2 (rp_code hG t_7 (by decide)) rfl : RP E G f_42 f_60) (KP.refl.upd hWF x_63 t_7 (Or.inl (by decide)) : KP G [3] false f_42 f_60) (by decide) (fo_ty hWF t_7) t_7
  have fq_66 := fv_one (rp_upd hG hWF x_63 hr_59.2 h_62.2 (rp_code hG t_7 (by decide)) rfl : RP E G f_42 f_60) (KP.refl.upd hWF x_63 t_7 (Or.inl (by decide)) : KP G [3] false f_42 f_60) (by decide) (fo_ty hWF t_8) t_8
  have hKP := hKP.upd hWF x_63 t_7 (Or.inl (by decide))
  have hWF := wf_upd hWF h_62 x_63 (by rw [t_7]; exact ⟨r_54, (a.toInt64), v_56, rfl, ty_57, ⟨by omega, by omega⟩⟩)
  have hr_24 := hr_24.ext x_63 (py_ne_kind hr_24 hr_59 (by decide))
  have tq_67 := hy_eq hr_24
  exact py_vret G0 hr hlk hw ⟨(by first | omega | (intro q; omega)), (by first | omega | (intro q; omega)), hWF, hKP, hGI⟩ dX11_startTrial_20

def w_X11_passTrial : List Cond := .code yX11_passTrial cX11_passTrial 4 none :: ([Cond.fieldLink RX11 74 "HeadYear" "seasons" "LHeadYear$Seasons;", Cond.fieldLink RX11 51 "HeadYear" "trial" "LHeadYear$Folk;", Cond.methodLink RX11 225 yX11_lawOf, Cond.instanceMethod yX11_lawOf, Cond.selects RX11 yX11_lawOf yX11_lawOf, Cond.initialized RX11, Cond.methodLink RX11 229 yX7_winter, Cond.instanceMethod yX7_winter, Cond.selects RX7 yX7_winter yX7_winter, Cond.initialized RX7, Cond.methodLink RX11 232 yX7_moveAll, Cond.instanceMethod yX7_moveAll, Cond.selects RX7 yX7_moveAll yX7_moveAll] ++ (u_ws RX11 TX11 16 ++ (w_X11_lawOf ++ (w_X7_winter ++ (w_X7_moveAll ++ ([]))))))
theorem in_X11_passTrial_X11 : ∀ w ∈ u_ws RX11 TX11 16, w ∈ w_X11_passTrial := fun _ h => List.mem_cons_of_mem _ (List.mem_append_right _ (List.mem_append_left _ h))
theorem gg_X11_passTrial_X11_lawOf : GoodIn w_X11_passTrial w_X11_lawOf := goodIn_sub (fun _ h => List.mem_cons_of_mem _ (List.mem_append_right _ (List.mem_append_right _ (List.mem_append_left _ h)))) (by decide +kernel)
theorem gg_X11_passTrial_X7_winter : GoodIn w_X11_passTrial w_X7_winter := goodIn_sub (fun _ h => List.mem_cons_of_mem _ (List.mem_append_right _ (List.mem_append_right _ (List.mem_append_right _ (List.mem_append_left _ h))))) (by decide +kernel)
theorem gg_X11_passTrial_X7_moveAll : GoodIn w_X11_passTrial w_X7_moveAll := goodIn_sub (fun _ h => List.mem_cons_of_mem _ (List.mem_append_right _ (List.mem_append_right _ (List.mem_append_right _ (List.mem_append_right _ (List.mem_append_left _ h)))))) (by decide +kernel)
theorem g_X11_passTrial_X11_lawOf_225 : GoodIn w_X11_passTrial (wsV RX11 225 RX11 yX11_lawOf w_X11_lawOf) := goodIn_app (goodIn_of _ (by decide +kernel)) gg_X11_passTrial_X11_lawOf
theorem g_X11_passTrial_X7_moveAll_232 : GoodIn w_X11_passTrial (wsV RX11 232 RX7 yX7_moveAll w_X7_moveAll) := goodIn_app (goodIn_of _ (by decide +kernel)) gg_X11_passTrial_X7_moveAll
theorem g_X11_passTrial_X7_winter_229 : GoodIn w_X11_passTrial (wsV RX11 229 RX7 yX7_winter w_X7_winter) := goodIn_app (goodIn_of _ (by decide +kernel)) gg_X11_passTrial_X7_winter
set_option maxHeartbeats 4000000 in
set_option maxRecDepth 100000 in
theorem c_X11_passTrial (l : Launch) (E : py_E) (G : wf_G) (L : List Nat) (f : py_F) (sz : Nat) (x : Nat) (a : Int32) (b : Int32) (hG : GT G) (hWF : WF E G L f) (Tx : G.1 x = 12) (Bb : (0 ≤ b.toInt ∧ b.toInt ≤ 20)) (hp0 : 1 ≤ fv_l f (G.2 x 6)) (hp1 : fo_y f (G.2 x 6) + b.toInt ≤ 80) (hq0 : GI E G f x) : Met l yX11_passTrial w_X11_passTrial ({ frames := 4, cells := 0, slots := 0, locals := 100 }) (py_Pc E [.ref x, .int a, .int b] L f sz) (py_Qv E L f sz (fun L1 f1 => (fv_l f1 (G.2 x 5) = fv_l f (G.2 x 5) ∧ fo_y f1 (G.2 x 5) = fo_y f (G.2 x 5) ∧ fo_y f1 (G.2 x 7) = fo_y f (G.2 x 7)) ∧ WF E G L1 f1 ∧ KP G [3, 24, 26, 37, 30, 21, 32, 33] true f f1 ∧ GI E G f1 x)) 0 0 (va_A (va_pl L f) sz) := by
  refine Met.ofW (cc := cX11_passTrial) (maxL := 4) (ret := none) (by decide) rfl ?_
  intro p e s m args below meth c s₁ B hml hv
  obtain ⟨rfl, rfl, hw⟩ := py_start hv
  have G0 : CallFix p m c cX11_passTrial 4 s _ w_X11_passTrial RX11 := ⟨B.exec, B.bytes, hml, findClass_of_methodNamed B.named, atoms_spec (ws := w_X11_passTrial) B.pre⟩
  have hr := B.returns
  have hlk := B.notSynchronized
  have kcm1 : (-1 : Int32).toInt = -1 := rfl
  have kc0 : (0 : Int32).toInt = 0 := rfl
  have kc1 : (1 : Int32).toInt = 1 := rfl
  have hl := lv_entry ([.ref x, .int a, .int b]) (n := 4) (Nat.le_of_ble_eq_true rfl)
  rw [lg_entry_eq]
  generalize (lg_sl ([.ref x, .int a, .int b]) ++ List.replicate (4 - (lg_sl ([.ref x, .int a, .int b])).length) Slot.unset).toArray = ls at hl ⊢
  have hl : lv_has ls 4 [(0, .ref x), (1, .int a), (2, .int b)] := hl
  have hGI := hq0
  have hKP : KP G [3, 24, 26, 37, 30, 21, 32, 33] true f f := KP.refl
  obtain ⟨t_1, t_2, t_3, t_4, t_5, t_6, t_7, t_8, t_9, t_10, t_11, t_12, t_13, tx_14, tx_15, tx_16, tx_17⟩ := wt_11 hG Tx
  refine lv_iconst (v := 0) G0.1 G0.2.1 dX11_passTrial_0 (by decide) ?_
  refine lv_istore_n (lv' := [(3, .int 0), (0, .ref x), (1, .int a), (2, .int b)]) G0.1 G0.2.1 dX11_passTrial_1 rfl hl (by decide) rfl (fun ls hl => ?_)
  have lo_2 : ∀ n_2 : Nat, ∀ (v_18 : Int32) (L_j2 : List Nat) (f_j2 : py_F) (H_j2 : Heap) (locs : List Loc) (ls : Array Slot), (2147483647 - v_18.toInt).toNat = n_2 → (0 ≤ v_18.toInt ∧ v_18.toInt ≤ 2147483647) → WF E G L_j2 f_j2 → KP G [3, 24, 26, 37, 30, 21, 32, 33] true f f_j2 → GI E G f_j2 x → (1 ≤ fv_l f_j2 (G.2 x 6)) → (fo_y f_j2 (G.2 x 6) + b.toInt - v_18.toInt ≤ 80 ∧ v_18.toInt ≤ b.toInt) → (fv_l f_j2 (G.2 x 5) = fv_l f (G.2 x 5) ∧ fo_y f_j2 (G.2 x 5) = fo_y f (G.2 x 5) ∧ fo_y f_j2 (G.2 x 7) = fo_y f (G.2 x 7)) → py_W E (va_A (va_pl L f) s.heap.size) s L_j2 f_j2 H_j2 locs → lv_has ls 4 [(3, .int v_18), (0, .ref x), (1, .int a), (2, .int b)] → W p l e (headSpec w_X11_passTrial ({ frames := 4, cells := 0, slots := 0, locals := 100 })).room s m ([.ref x, .int a, .int b] : List Value).toArray below meth c H_j2 locs 0 0 (MQ below (py_Qv E L f s.heap.size (fun L1 f1 => (fv_l f1 (G.2 x 5) = fv_l f (G.2 x 5) ∧ fo_y f1 (G.2 x 5) = fo_y f (G.2 x 5) ∧ fo_y f1 (G.2 x 7) = fo_y f (G.2 x 7)) ∧ WF E G L1 f1 ∧ KP G [3, 24, 26, 37, 30, 21, 32, 33] true f f1 ∧ GI E G f1 x)) ([.ref x, .int a, .int b] : List Value).toArray s 0 0 (va_A (va_pl L f) s.heap.size)) (F0 m 2 ls []) := by
    intro n_2
    induction n_2 using Nat.strongRecOn with
    | _ n_2 ih_2 =>
      intro v_18 L_j2 f_j2 H_j2 locs ls hn_2 bv_18 hWF hKP hGI iv0 iv1 iv2 hw hl
      refine lv_iload_n G0.1 G0.2.1 dX11_passTrial_2 rfl (lv_at hl 0 rfl) ?_
      refine lv_iload_n G0.1 G0.2.1 dX11_passTrial_3 rfl (lv_at hl 3 rfl) ?_
      refine lv_icmp_ge (tgt := 41) G0.1 G0.2.1 dX11_passTrial_4 (by decide) (fun c_19 => ?_) (fun c_19 => ?_)
      · skip
        have tc_19 := ti_le c_19
        exact py_vret G0 hr hlk hw ⟨(by first | omega | (intro q; omega)), hWF, hKP, hGI⟩ dX11_passTrial_41
      · skip
        have tc_19 := ti_nle c_19
        refine lv_aload_n G0.1 G0.2.1 dX11_passTrial_7 rfl (lv_at hl 1 rfl) ?_
        obtain ⟨v_20, v_21, v_22, hr_26, b_23, b_24, b_25⟩ := wg_11 hWF Tx
        have tq_27 := hy_eq hr_26
        refine py_get (C := RX11) (T := TX11) (N := 16) (k := 10) (v := .ref (G.2 x 10)) G0 hw in_X11_passTrial_X11 rfl hr_26 (by decide) (by decide +kernel) rfl dX11_passTrial_8 ?_
        refine lv_aload_n G0.1 G0.2.1 dX11_passTrial_11 rfl (lv_at hl 1 rfl) ?_
        refine py_get (C := RX11) (T := TX11) (N := 16) (k := 6) (v := .ref (G.2 x 6)) G0 hw in_X11_passTrial_X11 rfl hr_26 (by decide) (by decide +kernel) rfl dX11_passTrial_12 ?_
        refine lv_aload_n G0.1 G0.2.1 dX11_passTrial_15 rfl (lv_at hl 1 rfl) ?_
        refine lv_iload_n G0.1 G0.2.1 dX11_passTrial_16 rfl (lv_at hl 2 rfl) ?_
        refine py_callr hw (va_runV (As := [.int a]) (rest := [.ref (G.2 x 6), .ref (G.2 x 10)]) G0 (c_X11_lawOf l E G L_j2 f_j2 H_j2.size x a hG hWF Tx hGI.2.2.2) (cwV 1 G0.2.2.2.2 g_X11_passTrial_X11_lawOf_225 rfl rfl rfl (by decide +kernel) ⟨(Nat.le_of_ble_eq_true rfl), (Nat.le_of_ble_eq_true rfl)⟩) (py_preV hw (C := RX11) (T := TX11) (N := 16) rfl hr_26) rfl rfl hl.1 rfl (lv_room (Nat.le_of_ble_eq_true rfl)) dX11_passTrial_17 ⟨(Nat.le_of_ble_eq_true rfl), (Nat.le_of_ble_eq_true rfl)⟩) (fun r_32 L_28 f_29 H_30 locs hp_31 hw => ?_)
        obtain ⟨en_33, rfl, rfl⟩ := hp_31
        obtain ⟨t_34, t_35, t_36⟩ := wt_7 hG t_11
        obtain ⟨v_37, v_38, hr_40, b_39⟩ := wg_7 hWF t_11
        have bv_37 := wf_free v_37
        refine py_callv hw (va_runV (As := [.ref (G.2 x 6), .ref r_32]) (rest := []) G0 (c_X7_winter l E G L_j2 f_j2 H_30.size (G.2 x 10) (G.2 x 6) r_32 hG hWF t_11 t_7 en_33 (show fo_y f_j2 (G.2 x 6) ≤ 79 by omega) (hGI.1 _ t_7)) (cwV 2 G0.2.2.2.2 g_X11_passTrial_X7_winter_229 rfl rfl rfl (by decide +kernel) ⟨(Nat.le_of_ble_eq_true rfl), (Nat.le_of_ble_eq_true rfl)⟩) (py_preV hw (C := RX7) (T := TX7) (N := 5) rfl hr_40) rfl rfl hl.1 rfl (lv_room (Nat.le_of_ble_eq_true rfl)) dX11_passTrial_20 ⟨(Nat.le_of_ble_eq_true rfl), (Nat.le_of_ble_eq_true rfl)⟩) (fun L_41 f_42 H_43 locs hp_44 hw => ?_)
        have ht_49 := fo_ty hWF t_6
        have ht_50 := fo_ty hWF t_6
        have ht_51 := fo_ty hWF t_7
        have ht_52 := fo_ty hWF t_8
        obtain ⟨en_46, hWF, hq_47, kp_48⟩ := hp_44
        obtain ⟨hGI, fq1, fq2⟩ := hGI.trial hG Tx ht_49 hq_47 kp_48 (by decide)
        have fq3 := (fv_w en_46.1 ht_51 kp_48 (by decide)).1
        have fq7 := ((hq_47 _ t_8).2 (Ne.symm tx_16)).2
        have hKP := hKP.trans kp_48 (by decide) (by decide)
        have hr_26 := kp_at kp_48 hWF Tx (by decide) (by decide) (by decide) hr_26
        have tq_53 := hy_eq hr_26
        have hr_40 := kp_at kp_48 hWF t_11 (by decide) (by decide) (by decide) hr_40
        refine lv_aload_n G0.1 G0.2.1 dX11_passTrial_23 rfl (lv_at hl 1 rfl) ?_
        refine py_get (C := RX11) (T := TX11) (N := 16) (k := 10) (v := .ref (G.2 x 10)) G0 hw in_X11_passTrial_X11 rfl hr_26 (by decide) (by decide +kernel) rfl dX11_passTrial_24 ?_
        refine lv_aload_n G0.1 G0.2.1 dX11_passTrial_27 rfl (lv_at hl 1 rfl) ?_
        refine py_get (C := RX11) (T := TX11) (N := 16) (k := 6) (v := .ref (G.2 x 6)) G0 hw in_X11_passTrial_X11 rfl hr_26 (by decide) (by decide +kernel) rfl dX11_passTrial_28 ?_
        refine py_calli hw (va_runV (As := [.ref (G.2 x 6)]) (rest := []) G0 (c_X7_moveAll l E G L_41 f_42 H_43.size (G.2 x 10) (G.2 x 6) hG hWF t_11 t_7 (show 1 ≤ fv_l f_42 (G.2 x 6) by omega)) (cwV 1 G0.2.2.2.2 g_X11_passTrial_X7_moveAll_232 rfl rfl rfl (by decide +kernel) ⟨(Nat.le_of_ble_eq_true rfl), (Nat.le_of_ble_eq_true rfl)⟩) (py_preV hw (C := RX7) (T := TX7) (N := 5) rfl hr_40) rfl rfl hl.1 rfl (lv_room (Nat.le_of_ble_eq_true rfl)) dX11_passTrial_31 ⟨(Nat.le_of_ble_eq_true rfl), (Nat.le_of_ble_eq_true rfl)⟩) (fun r_58 L_54 f_55 H_56 locs hp_57 hw => ?_)
        have ht_61 := fo_ty hWF t_6
        have ht_62 := fo_ty hWF t_6
        have ht_63 := fo_ty hWF t_7
        have ht_64 := fo_ty hWF t_8
        obtain ⟨hWF, hq_59, kp_60⟩ := hp_57
        have hGI := hGI.kp hG Tx ht_61 hq_59 kp_60 (by decide)
        have fq_65 := fv_one hq_59 kp_60 (by decide) ht_62 t_6
        have fq_66 := fv_one hq_59 kp_60 (by decide) ht_63 t_7
        have fq_67 := fv_one hq_59 kp_60 (by decide) ht_64 t_8
        have hKP := hKP.trans kp_60 (by decide) (by decide)
        have hr_26 := kp_at kp_60 hWF Tx (by decide) (by decide) (by decide) hr_26
        have tq_68 := hy_eq hr_26
        have hr_40 := kp_at kp_60 hWF t_11 (by decide) (by decide) (by decide) hr_40
        have br_58 := wf_free r_58
        refine lv_pop G0.1 G0.2.1 dX11_passTrial_34 rfl ?_
        obtain ⟨x_69, ex_69⟩ : ∃ y : Int32, y = v_18 + 1 := ⟨_, rfl⟩
        first | have tx_69 := ti_add ex_69 (by omega) (by omega) | skip
        refine lv_iinc (v := x_69) (lv' := [(3, .int x_69), (0, .ref x), (1, .int a), (2, .int b)]) G0.1 G0.2.1 dX11_passTrial_35 hl (k := 0) rfl (show _ + (1 : Int32) = _ from ex_69.symm) (by decide) rfl (fun ls hl => ?_)
        refine lv_goto (tgt := 2) G0.1 G0.2.1 dX11_passTrial_38 (by decide) ?_
        exact ih_2 ((2147483647 - x_69.toInt).toNat) (by omega) x_69 L_54 f_55 _ _ ls rfl ⟨by omega, by omega⟩ hWF hKP hGI (by first | omega | (intros; omega)) (by first | omega | (intros; omega)) (by first | omega | (intros; omega)) hw (lv_sub hl [0, 1, 2, 3] rfl)
  exact lo_2 _ 0 L f _ _ ls rfl ⟨by omega, by omega⟩ hWF hKP hGI (by first | omega | (intros; omega)) (by first | omega | (intros; omega)) (by first | omega | (intros; omega)) hw (lv_sub hl [0, 1, 2, 3] rfl)

def w_X11_triedSum : List Cond := .code yX11_triedSum cX11_triedSum 7 (some .int) :: ([Cond.methodLink RX11 363 yX11_startTrial, Cond.instanceMethod yX11_startTrial, Cond.selects RX11 yX11_startTrial yX11_startTrial, Cond.initialized RX11, Cond.methodLink RX11 366 yX11_passTrial, Cond.instanceMethod yX11_passTrial, Cond.selects RX11 yX11_passTrial yX11_passTrial, Cond.fieldLink RX11 51 "HeadYear" "trial" "LHeadYear$Folk;", Cond.methodLink RX11 264 yX2_waitingBits, Cond.instanceMethod yX2_waitingBits, Cond.selects RX2 yX2_waitingBits yX2_waitingBits, Cond.initialized RX2, Cond.methodLink RX11 273 yJ6_bitCount_0f7a4, Cond.static yJ6_bitCount_0f7a4, Cond.initialized RJ6, Cond.methodLink RX11 350 yX2_goneFamilies, Cond.instanceMethod yX2_goneFamilies, Cond.selects RX2 yX2_goneFamilies yX2_goneFamilies, Cond.methodLink RX11 243 yX2_headsOfAll, Cond.instanceMethod yX2_headsOfAll, Cond.selects RX2 yX2_headsOfAll yX2_headsOfAll] ++ (u_ws RX11 TX11 16 ++ (w_X11_startTrial ++ (w_X11_passTrial ++ (w_X2_waitingBits ++ (w_J6_bitCount_0f7a4 ++ (w_X2_goneFamilies ++ (w_X2_headsOfAll ++ ([])))))))))
theorem in_X11_triedSum_X11 : ∀ w ∈ u_ws RX11 TX11 16, w ∈ w_X11_triedSum := fun _ h => List.mem_cons_of_mem _ (List.mem_append_right _ (List.mem_append_left _ h))
theorem gg_X11_triedSum_X11_startTrial : GoodIn w_X11_triedSum w_X11_startTrial := goodIn_sub (fun _ h => List.mem_cons_of_mem _ (List.mem_append_right _ (List.mem_append_right _ (List.mem_append_left _ h)))) (by decide +kernel)
theorem gg_X11_triedSum_X11_passTrial : GoodIn w_X11_triedSum w_X11_passTrial := goodIn_sub (fun _ h => List.mem_cons_of_mem _ (List.mem_append_right _ (List.mem_append_right _ (List.mem_append_right _ (List.mem_append_left _ h))))) (by decide +kernel)
theorem gg_X11_triedSum_X2_waitingBits : GoodIn w_X11_triedSum w_X2_waitingBits := goodIn_sub (fun _ h => List.mem_cons_of_mem _ (List.mem_append_right _ (List.mem_append_right _ (List.mem_append_right _ (List.mem_append_right _ (List.mem_append_left _ h)))))) (by decide +kernel)
theorem gg_X11_triedSum_J6_bitCount_0f7a4 : GoodIn w_X11_triedSum w_J6_bitCount_0f7a4 := goodIn_sub (fun _ h => List.mem_cons_of_mem _ (List.mem_append_right _ (List.mem_append_right _ (List.mem_append_right _ (List.mem_append_right _ (List.mem_append_right _ (List.mem_append_left _ h))))))) (by decide +kernel)
theorem gg_X11_triedSum_X2_goneFamilies : GoodIn w_X11_triedSum w_X2_goneFamilies := goodIn_sub (fun _ h => List.mem_cons_of_mem _ (List.mem_append_right _ (List.mem_append_right _ (List.mem_append_right _ (List.mem_append_right _ (List.mem_append_right _ (List.mem_append_right _ (List.mem_append_left _ h)))))))) (by decide +kernel)
theorem gg_X11_triedSum_X2_headsOfAll : GoodIn w_X11_triedSum w_X2_headsOfAll := goodIn_sub (fun _ h => List.mem_cons_of_mem _ (List.mem_append_right _ (List.mem_append_right _ (List.mem_append_right _ (List.mem_append_right _ (List.mem_append_right _ (List.mem_append_right _ (List.mem_append_right _ (List.mem_append_left _ h))))))))) (by decide +kernel)
theorem g_X11_triedSum_J6_bitCount_0f7a4_273 : GoodIn w_X11_triedSum (va_wsS RX11 273 yJ6_bitCount_0f7a4 w_J6_bitCount_0f7a4) := goodIn_app (goodIn_of _ (by decide +kernel)) gg_X11_triedSum_J6_bitCount_0f7a4
theorem g_X11_triedSum_X11_passTrial_366 : GoodIn w_X11_triedSum (wsV RX11 366 RX11 yX11_passTrial w_X11_passTrial) := goodIn_app (goodIn_of _ (by decide +kernel)) gg_X11_triedSum_X11_passTrial
theorem g_X11_triedSum_X11_startTrial_363 : GoodIn w_X11_triedSum (wsV RX11 363 RX11 yX11_startTrial w_X11_startTrial) := goodIn_app (goodIn_of _ (by decide +kernel)) gg_X11_triedSum_X11_startTrial
theorem g_X11_triedSum_X2_goneFamilies_350 : GoodIn w_X11_triedSum (wsV RX11 350 RX2 yX2_goneFamilies w_X2_goneFamilies) := goodIn_app (goodIn_of _ (by decide +kernel)) gg_X11_triedSum_X2_goneFamilies
theorem g_X11_triedSum_X2_headsOfAll_243 : GoodIn w_X11_triedSum (wsV RX11 243 RX2 yX2_headsOfAll w_X2_headsOfAll) := goodIn_app (goodIn_of _ (by decide +kernel)) gg_X11_triedSum_X2_headsOfAll
theorem g_X11_triedSum_X2_waitingBits_264 : GoodIn w_X11_triedSum (wsV RX11 264 RX2 yX2_waitingBits w_X2_waitingBits) := goodIn_app (goodIn_of _ (by decide +kernel)) gg_X11_triedSum_X2_waitingBits
set_option maxHeartbeats 4000000 in
set_option maxRecDepth 100000 in
theorem c_X11_triedSum (l : Launch) (E : py_E) (G : wf_G) (L : List Nat) (f : py_F) (sz : Nat) (x : Nat) (a : Int32) (b : Int32) (q : Int32) (d : Int32) (hG : GT G) (hWF : WF E G L f) (Tx : G.1 x = 12) (Bb : (1 ≤ b.toInt ∧ b.toInt ≤ 20)) (Bq : (1 ≤ q.toInt ∧ q.toInt ≤ 10)) (hp0 : 1 ≤ fv_l f (G.2 x 5)) (hq0 : GI E G f x) : Met l yX11_triedSum w_X11_triedSum ({ frames := 5, cells := 0, slots := 0, locals := 123 }) (py_Pc E [.ref x, .int a, .int b, .int q, .int d] L f sz) (py_Qi E L f sz (fun _ L1 f1 => (fv_l f1 (G.2 x 5) = fv_l f (G.2 x 5) ∧ fo_y f1 (G.2 x 5) = fo_y f (G.2 x 5) ∧ fo_y f1 (G.2 x 7) = fo_y f (G.2 x 7)) ∧ WF E G L1 f1 ∧ KP G [3, 24, 26, 37, 30, 21, 32, 33] true f f1 ∧ GI E G f1 x)) 0 0 (va_A (va_pl L f) sz) := by
  refine Met.ofW (cc := cX11_triedSum) (maxL := 7) (ret := (some .int)) (by decide) rfl ?_
  intro p e s m args below meth c s₁ B hml hv
  obtain ⟨rfl, rfl, hw⟩ := py_start hv
  have G0 : CallFix p m c cX11_triedSum 7 s _ w_X11_triedSum RX11 := ⟨B.exec, B.bytes, hml, findClass_of_methodNamed B.named, atoms_spec (ws := w_X11_triedSum) B.pre⟩
  have hr := B.returns
  have hlk := B.notSynchronized
  have kcm1 : (-1 : Int32).toInt = -1 := rfl
  have kc0 : (0 : Int32).toInt = 0 := rfl
  have kc1 : (1 : Int32).toInt = 1 := rfl
  have hl := lv_entry ([.ref x, .int a, .int b, .int q, .int d]) (n := 7) (Nat.le_of_ble_eq_true rfl)
  rw [lg_entry_eq]
  generalize (lg_sl ([.ref x, .int a, .int b, .int q, .int d]) ++ List.replicate (7 - (lg_sl ([.ref x, .int a, .int b, .int q, .int d])).length) Slot.unset).toArray = ls at hl ⊢
  have hl : lv_has ls 7 [(0, .ref x), (1, .int a), (2, .int b), (3, .int q), (4, .int d)] := hl
  have hGI := hq0
  have hKP : KP G [3, 24, 26, 37, 30, 21, 32, 33] true f f := KP.refl
  obtain ⟨t_1, t_2, t_3, t_4, t_5, t_6, t_7, t_8, t_9, t_10, t_11, t_12, t_13, tx_14, tx_15, tx_16, tx_17⟩ := wt_11 hG Tx
  refine lv_iconst (v := 0) G0.1 G0.2.1 dX11_triedSum_0 (by decide) ?_
  refine lv_istore (lv' := [(5, .int 0), (0, .ref x), (1, .int a), (2, .int b), (3, .int q), (4, .int d)]) G0.1 G0.2.1 dX11_triedSum_1 hl (by decide) rfl (fun ls hl => ?_)
  refine lv_iconst (v := 0) G0.1 G0.2.1 dX11_triedSum_3 (by decide) ?_
  refine lv_istore (lv' := [(6, .int 0), (5, .int 0), (0, .ref x), (1, .int a), (2, .int b), (3, .int q), (4, .int d)]) G0.1 G0.2.1 dX11_triedSum_4 hl (by decide) rfl (fun ls hl => ?_)
  have lo_6 : ∀ n_6 : Nat, ∀ (v_18 : Int32) (v_19 : Int32) (L_j6 : List Nat) (f_j6 : py_F) (H_j6 : Heap) (locs : List Loc) (ls : Array Slot), (2147483647 - v_18.toInt).toNat = n_6 → (0 ≤ v_18.toInt ∧ v_18.toInt ≤ 2147483647) → WF E G L_j6 f_j6 → KP G [3, 24, 26, 37, 30, 21, 32, 33] true f f_j6 → GI E G f_j6 x → (fv_l f_j6 (G.2 x 5) = fv_l f (G.2 x 5) ∧ fo_y f_j6 (G.2 x 5) = fo_y f (G.2 x 5) ∧ fo_y f_j6 (G.2 x 7) = fo_y f (G.2 x 7)) → py_W E (va_A (va_pl L f) s.heap.size) s L_j6 f_j6 H_j6 locs → lv_has ls 7 [(6, .int v_18), (5, .int v_19), (0, .ref x), (1, .int a), (2, .int b), (3, .int q), (4, .int d)] → W p l e (headSpec w_X11_triedSum ({ frames := 5, cells := 0, slots := 0, locals := 123 })).room s m ([.ref x, .int a, .int b, .int q, .int d] : List Value).toArray below meth c H_j6 locs 0 0 (MQ below (py_Qi E L f s.heap.size (fun _ L1 f1 => (fv_l f1 (G.2 x 5) = fv_l f (G.2 x 5) ∧ fo_y f1 (G.2 x 5) = fo_y f (G.2 x 5) ∧ fo_y f1 (G.2 x 7) = fo_y f (G.2 x 7)) ∧ WF E G L1 f1 ∧ KP G [3, 24, 26, 37, 30, 21, 32, 33] true f f1 ∧ GI E G f1 x)) ([.ref x, .int a, .int b, .int q, .int d] : List Value).toArray s 0 0 (va_A (va_pl L f) s.heap.size)) (F0 m 6 ls []) := by
    intro n_6
    induction n_6 using Nat.strongRecOn with
    | _ n_6 ih_6 =>
      intro v_18 v_19 L_j6 f_j6 H_j6 locs ls hn_6 bv_18 hWF hKP hGI iv0 hw hl
      refine lv_iload G0.1 G0.2.1 dX11_triedSum_6 (lv_at hl 0 rfl) ?_
      refine lv_iload_n G0.1 G0.2.1 dX11_triedSum_8 rfl (lv_at hl 5 rfl) ?_
      refine lv_icmp_ge (tgt := 81) G0.1 G0.2.1 dX11_triedSum_9 (by decide) (fun c_20 => ?_) (fun c_20 => ?_)
      · skip
        have tc_20 := ti_le c_20
        refine lv_iload G0.1 G0.2.1 dX11_triedSum_81 (lv_at hl 1 rfl) ?_
        exact py_iret G0 hr rfl hlk hw ⟨(by first | omega | (intro q; omega)), hWF, hKP, hGI⟩ dX11_triedSum_83
      · skip
        have tc_20 := ti_nle c_20
        have hgy := hGI.2.1.2.2
        refine lv_aload_n G0.1 G0.2.1 dX11_triedSum_12 rfl (lv_at hl 2 rfl) ?_
        refine lv_iload G0.1 G0.2.1 dX11_triedSum_13 (lv_at hl 0 rfl) ?_
        obtain ⟨v_21, v_22, v_23, hr_27, b_24, b_25, b_26⟩ := wg_11 hWF Tx
        have tq_28 := hy_eq hr_27
        refine py_callv hw (va_runV (As := [.int v_18]) (rest := []) G0 (c_X11_startTrial l E G L_j6 f_j6 H_j6.size x v_18 hG hWF Tx hGI) (cwV 1 G0.2.2.2.2 g_X11_triedSum_X11_startTrial_363 rfl rfl rfl (by decide +kernel) ⟨(Nat.le_of_ble_eq_true rfl), (Nat.le_of_ble_eq_true rfl)⟩) (py_preV hw (C := RX11) (T := TX11) (N := 16) rfl hr_27) rfl rfl hl.1 rfl (lv_room (Nat.le_of_ble_eq_true rfl)) dX11_triedSum_15 ⟨(Nat.le_of_ble_eq_true rfl), (Nat.le_of_ble_eq_true rfl)⟩) (fun L_29 f_30 H_31 locs hp_32 hw => ?_)
        have ht_38 := fo_ty hWF t_6
        have ht_39 := fo_ty hWF t_6
        have ht_40 := fo_ty hWF t_8
        obtain ⟨en_34, en_35, hWF, kp_37, hGI⟩ := hp_32
        have hKP := hKP.trans kp_37 (by decide) (by decide)
        have hr_27 := kp_at kp_37 hWF Tx (by decide) (by decide) (by decide) hr_27
        have tq_41 := hy_eq hr_27
        refine lv_aload_n G0.1 G0.2.1 dX11_triedSum_18 rfl (lv_at hl 2 rfl) ?_
        refine lv_iload_n G0.1 G0.2.1 dX11_triedSum_19 rfl (lv_at hl 3 rfl) ?_
        refine lv_iload_n G0.1 G0.2.1 dX11_triedSum_20 rfl (lv_at hl 4 rfl) ?_
        refine py_callv hw (va_runV (As := [.int a, .int b]) (rest := []) G0 (c_X11_passTrial l E G L_29 f_30 H_31.size x a b hG hWF Tx ⟨by omega, by omega⟩ (show 1 ≤ fv_l f_30 (G.2 x 6) by omega) (show fo_y f_30 (G.2 x 6) + b.toInt ≤ 80 by omega) hGI) (cwV 2 G0.2.2.2.2 g_X11_triedSum_X11_passTrial_366 rfl rfl rfl (by decide +kernel) ⟨(Nat.le_of_ble_eq_true rfl), (Nat.le_of_ble_eq_true rfl)⟩) (py_preV hw (C := RX11) (T := TX11) (N := 16) rfl hr_27) rfl rfl hl.1 rfl (lv_room (Nat.le_of_ble_eq_true rfl)) dX11_triedSum_21 ⟨(Nat.le_of_ble_eq_true rfl), (Nat.le_of_ble_eq_true rfl)⟩) (fun L_42 f_43 H_44 locs hp_45 hw => ?_)
        have ht_50 := fo_ty hWF t_6
        have ht_51 := fo_ty hWF t_6
        have ht_52 := fo_ty hWF t_8
        obtain ⟨en_47, hWF, kp_49, hGI⟩ := hp_45
        have hKP := hKP.trans kp_49 (by decide) (by decide)
        have hr_27 := kp_at kp_49 hWF Tx (by decide) (by decide) (by decide) hr_27
        have tq_53 := hy_eq hr_27
        refine lv_iload G0.1 G0.2.1 dX11_triedSum_24 (lv_at hl 6 rfl) ?_
        have jn_75 : ∀ (v_54 : Int32) (H_j75 : Heap) (locs : List Loc) (ls : Array Slot), py_W E (va_A (va_pl L f) s.heap.size) s L_42 f_43 H_j75 locs → lv_has ls 7 [(6, .int v_18), (5, .int v_54), (0, .ref x), (1, .int a), (2, .int b), (3, .int q), (4, .int d)] → W p l e (headSpec w_X11_triedSum ({ frames := 5, cells := 0, slots := 0, locals := 123 })).room s m ([.ref x, .int a, .int b, .int q, .int d] : List Value).toArray below meth c H_j75 locs 0 0 (MQ below (py_Qi E L f s.heap.size (fun _ L1 f1 => (fv_l f1 (G.2 x 5) = fv_l f (G.2 x 5) ∧ fo_y f1 (G.2 x 5) = fo_y f (G.2 x 5) ∧ fo_y f1 (G.2 x 7) = fo_y f (G.2 x 7)) ∧ WF E G L1 f1 ∧ KP G [3, 24, 26, 37, 30, 21, 32, 33] true f f1 ∧ GI E G f1 x)) ([.ref x, .int a, .int b, .int q, .int d] : List Value).toArray s 0 0 (va_A (va_pl L f) s.heap.size)) (F0 m 75 ls []) := by
          intro v_54 H_j75 locs ls hw hl
          obtain ⟨x_55, ex_55⟩ : ∃ y : Int32, y = v_18 + 1 := ⟨_, rfl⟩
          first | have tx_55 := ti_add ex_55 (by omega) (by omega) | skip
          refine lv_iinc (v := x_55) (lv' := [(6, .int x_55), (5, .int v_54), (0, .ref x), (1, .int a), (2, .int b), (3, .int q), (4, .int d)]) G0.1 G0.2.1 dX11_triedSum_75 hl (k := 0) rfl (show _ + (1 : Int32) = _ from ex_55.symm) (by decide) rfl (fun ls hl => ?_)
          refine lv_goto (tgt := 6) G0.1 G0.2.1 dX11_triedSum_78 (by decide) ?_
          exact ih_6 ((2147483647 - x_55.toInt).toNat) (by omega) x_55 v_54 L_42 f_43 _ _ ls rfl ⟨by omega, by omega⟩ hWF hKP hGI (by first | omega | (intros; omega)) hw (lv_sub hl [0, 1, 2, 3, 4, 5, 6] rfl)
        refine lv_if_ne (tgt := 44) G0.1 G0.2.1 dX11_triedSum_26 (by decide) (fun c_56 => ?_) (fun c_56 => ?_)
        · skip
          have tc_56 := ti_ne c_56
          refine lv_iload G0.1 G0.2.1 dX11_triedSum_44 (lv_at hl 1 rfl) ?_
          refine lv_iload G0.1 G0.2.1 dX11_triedSum_46 (lv_at hl 6 rfl) ?_
          refine lv_iconst (v := 1) G0.1 G0.2.1 dX11_triedSum_48 (by decide) ?_
          have jn_72 : ∀ (v_57 : Int32) (H_j72 : Heap) (locs : List Loc) (ls : Array Slot), py_W E (va_A (va_pl L f) s.heap.size) s L_42 f_43 H_j72 locs → lv_has ls 7 [(6, .int v_18), (5, .int v_19), (0, .ref x), (1, .int a), (2, .int b), (3, .int q), (4, .int d)] → W p l e (headSpec w_X11_triedSum ({ frames := 5, cells := 0, slots := 0, locals := 123 })).room s m ([.ref x, .int a, .int b, .int q, .int d] : List Value).toArray below meth c H_j72 locs 0 0 (MQ below (py_Qi E L f s.heap.size (fun _ L1 f1 => (fv_l f1 (G.2 x 5) = fv_l f (G.2 x 5) ∧ fo_y f1 (G.2 x 5) = fo_y f (G.2 x 5) ∧ fo_y f1 (G.2 x 7) = fo_y f (G.2 x 7)) ∧ WF E G L1 f1 ∧ KP G [3, 24, 26, 37, 30, 21, 32, 33] true f f1 ∧ GI E G f1 x)) ([.ref x, .int a, .int b, .int q, .int d] : List Value).toArray s 0 0 (va_A (va_pl L f) s.heap.size)) (F0 m 72 ls [.int v_57, .int v_19]) := by
            intro v_57 H_j72 locs ls hw hl
            refine lv_iadd G0.1 G0.2.1 dX11_triedSum_72 ?_
            refine lv_topi (fun x_58 ex_58 => ?_)
            first | have tx_58 := ti_add ex_58 (by omega) (by omega) | skip
            refine lv_istore (lv' := [(5, .int x_58), (6, .int v_18), (0, .ref x), (1, .int a), (2, .int b), (3, .int q), (4, .int d)]) G0.1 G0.2.1 dX11_triedSum_73 hl (by decide) rfl (fun ls hl => ?_)
            exact jn_75 x_58 _ _ ls hw (lv_sub hl [1, 0, 2, 3, 4, 5, 6] rfl)
          refine lv_icmp_ne (tgt := 62) G0.1 G0.2.1 dX11_triedSum_49 (by decide) (fun c_59 => ?_) (fun c_59 => ?_)
          · skip
            have tc_59 := ti_ne c_59
            refine lv_aload_n G0.1 G0.2.1 dX11_triedSum_62 rfl (lv_at hl 2 rfl) ?_
            refine py_get (C := RX11) (T := TX11) (N := 16) (k := 6) (v := .ref (G.2 x 6)) G0 hw in_X11_triedSum_X11 rfl hr_27 (by decide) (by decide +kernel) rfl dX11_triedSum_63 ?_
            obtain ⟨t_60, t_61, t_62, t_63, t_64, t_65, t_66, t_67, t_68⟩ := wt_2 hG t_7
            obtain ⟨r_69, y_70, v_71, hr_74, ty_72, b_73⟩ := wg_2 hWF t_7
            refine py_calli hw (va_runV (As := []) (rest := [.int v_19]) G0 (c_X2_waitingBits l E G L_42 f_43 H_44.size (G.2 x 6) hG hWF t_7) (cwV 0 G0.2.2.2.2 g_X11_triedSum_X2_waitingBits_264 rfl rfl rfl (by decide +kernel) ⟨(Nat.le_of_ble_eq_true rfl), (Nat.le_of_ble_eq_true rfl)⟩) (py_preV hw (C := RX2) (T := TX2) (N := 12) rfl hr_74) rfl rfl hl.1 rfl (lv_room (Nat.le_of_ble_eq_true rfl)) dX11_triedSum_66 ⟨(Nat.le_of_ble_eq_true rfl), (Nat.le_of_ble_eq_true rfl)⟩) (fun r_79 L_75 f_76 H_77 locs hp_78 hw => ?_)
            obtain ⟨b_80, rfl, rfl⟩ := hp_78
            refine py_calli hw (va_runS (As := [.int r_79]) (rest := [.int v_19]) G0 (c_J6_bitCount_0f7a4 l E G L_42 f_43 H_77.size r_79 hG hWF) (va_cwS 1 G0.2.2.2.2 g_X11_triedSum_J6_bitCount_0f7a4_273 rfl rfl rfl (by decide +kernel) ⟨(Nat.le_of_ble_eq_true rfl), (Nat.le_of_ble_eq_true rfl)⟩) (py_preS hw) rfl rfl hl.1 rfl (lv_room (Nat.le_of_ble_eq_true rfl)) dX11_triedSum_69 ⟨(Nat.le_of_ble_eq_true rfl), (Nat.le_of_ble_eq_true rfl)⟩) (fun r_85 L_81 f_82 H_83 locs hp_84 hw => ?_)
            obtain ⟨rfl, rfl⟩ := hp_84
            have br_85 := wf_free r_85
            exact jn_72 r_85 _ _ ls hw (lv_sub hl [0, 1, 2, 3, 4, 5, 6] rfl)
          · skip
            have tc_59 := ti_eq c_59
            refine lv_aload_n G0.1 G0.2.1 dX11_triedSum_52 rfl (lv_at hl 2 rfl) ?_
            refine py_get (C := RX11) (T := TX11) (N := 16) (k := 6) (v := .ref (G.2 x 6)) G0 hw in_X11_triedSum_X11 rfl hr_27 (by decide) (by decide +kernel) rfl dX11_triedSum_53 ?_
            obtain ⟨t_86, t_87, t_88, t_89, t_90, t_91, t_92, t_93, t_94⟩ := wt_2 hG t_7
            obtain ⟨r_95, y_96, v_97, hr_100, ty_98, b_99⟩ := wg_2 hWF t_7
            refine py_calli hw (va_runV (As := []) (rest := [.int v_19]) G0 (c_X2_goneFamilies l E G L_42 f_43 H_44.size (G.2 x 6) hG hWF t_7) (cwV 0 G0.2.2.2.2 g_X11_triedSum_X2_goneFamilies_350 rfl rfl rfl (by decide +kernel) ⟨(Nat.le_of_ble_eq_true rfl), (Nat.le_of_ble_eq_true rfl)⟩) (py_preV hw (C := RX2) (T := TX2) (N := 12) rfl hr_100) rfl rfl hl.1 rfl (lv_room (Nat.le_of_ble_eq_true rfl)) dX11_triedSum_56 ⟨(Nat.le_of_ble_eq_true rfl), (Nat.le_of_ble_eq_true rfl)⟩) (fun r_105 L_101 f_102 H_103 locs hp_104 hw => ?_)
            obtain ⟨rfl, rfl⟩ := hp_104
            have br_105 := wf_free r_105
            refine lv_goto (tgt := 72) G0.1 G0.2.1 dX11_triedSum_59 (by decide) ?_
            exact jn_72 r_105 _ _ ls hw (lv_sub hl [0, 1, 2, 3, 4, 5, 6] rfl)
        · skip
          have tc_56 := ti_eq c_56
          refine lv_iload G0.1 G0.2.1 dX11_triedSum_29 (lv_at hl 1 rfl) ?_
          refine lv_aload_n G0.1 G0.2.1 dX11_triedSum_31 rfl (lv_at hl 2 rfl) ?_
          refine py_get (C := RX11) (T := TX11) (N := 16) (k := 6) (v := .ref (G.2 x 6)) G0 hw in_X11_triedSum_X11 rfl hr_27 (by decide) (by decide +kernel) rfl dX11_triedSum_32 ?_
          obtain ⟨t_106, t_107, t_108, t_109, t_110, t_111, t_112, t_113, t_114⟩ := wt_2 hG t_7
          obtain ⟨r_115, y_116, v_117, hr_120, ty_118, b_119⟩ := wg_2 hWF t_7
          refine py_calli hw (va_runV (As := []) (rest := [.int v_19]) G0 (c_X2_headsOfAll l E G L_42 f_43 H_44.size (G.2 x 6) hG hWF t_7) (cwV 0 G0.2.2.2.2 g_X11_triedSum_X2_headsOfAll_243 rfl rfl rfl (by decide +kernel) ⟨(Nat.le_of_ble_eq_true rfl), (Nat.le_of_ble_eq_true rfl)⟩) (py_preV hw (C := RX2) (T := TX2) (N := 12) rfl hr_120) rfl rfl hl.1 rfl (lv_room (Nat.le_of_ble_eq_true rfl)) dX11_triedSum_35 ⟨(Nat.le_of_ble_eq_true rfl), (Nat.le_of_ble_eq_true rfl)⟩) (fun r_125 L_121 f_122 H_123 locs hp_124 hw => ?_)
          obtain ⟨rfl, rfl⟩ := hp_124
          have br_125 := wf_free r_125
          refine lv_iadd G0.1 G0.2.1 dX11_triedSum_38 ?_
          refine lv_topi (fun x_126 ex_126 => ?_)
          first | have tx_126 := ti_add ex_126 (by omega) (by omega) | skip
          refine lv_istore (lv' := [(5, .int x_126), (6, .int v_18), (0, .ref x), (1, .int a), (2, .int b), (3, .int q), (4, .int d)]) G0.1 G0.2.1 dX11_triedSum_39 hl (by decide) rfl (fun ls hl => ?_)
          refine lv_goto (tgt := 75) G0.1 G0.2.1 dX11_triedSum_41 (by decide) ?_
          exact jn_75 x_126 _ _ ls hw (lv_sub hl [1, 0, 2, 3, 4, 5, 6] rfl)
  exact lo_6 _ 0 0 L f _ _ ls rfl ⟨by omega, by omega⟩ hWF hKP hGI (by first | omega | (intros; omega)) hw (lv_sub hl [0, 1, 2, 3, 4, 5, 6] rfl)

def w_X11_ownHeads : List Cond := .code yX11_ownHeads cX11_ownHeads 7 (some .int) :: ([Cond.methodLink RX11 363 yX11_startTrial, Cond.instanceMethod yX11_startTrial, Cond.selects RX11 yX11_startTrial yX11_startTrial, Cond.initialized RX11, Cond.fieldLink RX11 51 "HeadYear" "trial" "LHeadYear$Folk;", Cond.fieldLink RX11 188 "HeadYear$Folk" "bought" "[I", Cond.fieldLink RX11 98 "HeadYear" "heldLaw" "I", Cond.methodLink RX11 366 yX11_passTrial, Cond.instanceMethod yX11_passTrial, Cond.selects RX11 yX11_passTrial yX11_passTrial, Cond.fieldLink RX11 167 "HeadYear$Folk" "heads" "[I"] ++ (u_ws RX11 TX11 16 ++ (u_ws RX2 TX2 12 ++ (w_X11_startTrial ++ (w_X11_passTrial ++ ([]))))))
theorem in_X11_ownHeads_X11 : ∀ w ∈ u_ws RX11 TX11 16, w ∈ w_X11_ownHeads := fun _ h => List.mem_cons_of_mem _ (List.mem_append_right _ (List.mem_append_left _ h))
theorem in_X11_ownHeads_X2 : ∀ w ∈ u_ws RX2 TX2 12, w ∈ w_X11_ownHeads := fun _ h => List.mem_cons_of_mem _ (List.mem_append_right _ (List.mem_append_right _ (List.mem_append_left _ h)))
theorem gg_X11_ownHeads_X11_startTrial : GoodIn w_X11_ownHeads w_X11_startTrial := goodIn_sub (fun _ h => List.mem_cons_of_mem _ (List.mem_append_right _ (List.mem_append_right _ (List.mem_append_right _ (List.mem_append_left _ h))))) (by decide +kernel)
theorem gg_X11_ownHeads_X11_passTrial : GoodIn w_X11_ownHeads w_X11_passTrial := goodIn_sub (fun _ h => List.mem_cons_of_mem _ (List.mem_append_right _ (List.mem_append_right _ (List.mem_append_right _ (List.mem_append_right _ (List.mem_append_left _ h)))))) (by decide +kernel)
theorem g_X11_ownHeads_X11_passTrial_366 : GoodIn w_X11_ownHeads (wsV RX11 366 RX11 yX11_passTrial w_X11_passTrial) := goodIn_app (goodIn_of _ (by decide +kernel)) gg_X11_ownHeads_X11_passTrial
theorem g_X11_ownHeads_X11_startTrial_363 : GoodIn w_X11_ownHeads (wsV RX11 363 RX11 yX11_startTrial w_X11_startTrial) := goodIn_app (goodIn_of _ (by decide +kernel)) gg_X11_ownHeads_X11_startTrial
set_option maxHeartbeats 4000000 in
set_option maxRecDepth 100000 in
theorem c_X11_ownHeads (l : Launch) (E : py_E) (G : wf_G) (L : List Nat) (f : py_F) (sz : Nat) (x : Nat) (a : Int32) (b : Int32) (q : Int32) (d : Int32) (hG : GT G) (hWF : WF E G L f) (Tx : G.1 x = 12) (Ba : (0 ≤ a.toInt ∧ a.toInt ≤ 9)) (Bq : (1 ≤ q.toInt ∧ q.toInt ≤ 20)) (Bd : (1 ≤ d.toInt ∧ d.toInt ≤ 10)) (hp0 : 1 ≤ fv_l f (G.2 x 5)) (hq0 : GI E G f x) : Met l yX11_ownHeads w_X11_ownHeads ({ frames := 5, cells := 0, slots := 0, locals := 123 }) (py_Pc E [.ref x, .int a, .int b, .int q, .int d] L f sz) (py_Qi E L f sz (fun _ L1 f1 => (fv_l f1 (G.2 x 5) = fv_l f (G.2 x 5) ∧ fo_y f1 (G.2 x 5) = fo_y f (G.2 x 5) ∧ fo_y f1 (G.2 x 7) = fo_y f (G.2 x 7)) ∧ WF E G L1 f1 ∧ KP G [3, 24, 26, 37, 30, 21, 32, 33] true f f1 ∧ GI E G f1 x)) 0 0 (va_A (va_pl L f) sz) := by
  refine Met.ofW (cc := cX11_ownHeads) (maxL := 7) (ret := (some .int)) (by decide) rfl ?_
  intro p e s m args below meth c s₁ B hml hv
  obtain ⟨rfl, rfl, hw⟩ := py_start hv
  have G0 : CallFix p m c cX11_ownHeads 7 s _ w_X11_ownHeads RX11 := ⟨B.exec, B.bytes, hml, findClass_of_methodNamed B.named, atoms_spec (ws := w_X11_ownHeads) B.pre⟩
  have hr := B.returns
  have hlk := B.notSynchronized
  have kcm1 : (-1 : Int32).toInt = -1 := rfl
  have kc0 : (0 : Int32).toInt = 0 := rfl
  have kc1 : (1 : Int32).toInt = 1 := rfl
  have hl := lv_entry ([.ref x, .int a, .int b, .int q, .int d]) (n := 7) (Nat.le_of_ble_eq_true rfl)
  rw [lg_entry_eq]
  generalize (lg_sl ([.ref x, .int a, .int b, .int q, .int d]) ++ List.replicate (7 - (lg_sl ([.ref x, .int a, .int b, .int q, .int d])).length) Slot.unset).toArray = ls at hl ⊢
  have hl : lv_has ls 7 [(0, .ref x), (1, .int a), (2, .int b), (3, .int q), (4, .int d)] := hl
  have hGI := hq0
  have hKP : KP G [3, 24, 26, 37, 30, 21, 32, 33] true f f := KP.refl
  obtain ⟨t_1, t_2, t_3, t_4, t_5, t_6, t_7, t_8, t_9, t_10, t_11, t_12, t_13, tx_14, tx_15, tx_16, tx_17⟩ := wt_11 hG Tx
  refine lv_iconst (v := 0) G0.1 G0.2.1 dX11_ownHeads_0 (by decide) ?_
  refine lv_istore (lv' := [(5, .int 0), (0, .ref x), (1, .int a), (2, .int b), (3, .int q), (4, .int d)]) G0.1 G0.2.1 dX11_ownHeads_1 hl (by decide) rfl (fun ls hl => ?_)
  refine lv_iconst (v := 0) G0.1 G0.2.1 dX11_ownHeads_3 (by decide) ?_
  refine lv_istore (lv' := [(6, .int 0), (5, .int 0), (0, .ref x), (1, .int a), (2, .int b), (3, .int q), (4, .int d)]) G0.1 G0.2.1 dX11_ownHeads_4 hl (by decide) rfl (fun ls hl => ?_)
  have lo_6 : ∀ n_6 : Nat, ∀ (v_18 : Int32) (v_19 : Int32) (L_j6 : List Nat) (f_j6 : py_F) (H_j6 : Heap) (locs : List Loc) (ls : Array Slot), (2147483647 - v_18.toInt).toNat = n_6 → (0 ≤ v_18.toInt ∧ v_18.toInt ≤ 2147483647) → WF E G L_j6 f_j6 → KP G [3, 24, 26, 37, 30, 21, 32, 33] true f f_j6 → GI E G f_j6 x → (fv_l f_j6 (G.2 x 5) = fv_l f (G.2 x 5) ∧ fo_y f_j6 (G.2 x 5) = fo_y f (G.2 x 5) ∧ fo_y f_j6 (G.2 x 7) = fo_y f (G.2 x 7)) → py_W E (va_A (va_pl L f) s.heap.size) s L_j6 f_j6 H_j6 locs → lv_has ls 7 [(6, .int v_18), (5, .int v_19), (0, .ref x), (1, .int a), (2, .int b), (3, .int q), (4, .int d)] → W p l e (headSpec w_X11_ownHeads ({ frames := 5, cells := 0, slots := 0, locals := 123 })).room s m ([.ref x, .int a, .int b, .int q, .int d] : List Value).toArray below meth c H_j6 locs 0 0 (MQ below (py_Qi E L f s.heap.size (fun _ L1 f1 => (fv_l f1 (G.2 x 5) = fv_l f (G.2 x 5) ∧ fo_y f1 (G.2 x 5) = fo_y f (G.2 x 5) ∧ fo_y f1 (G.2 x 7) = fo_y f (G.2 x 7)) ∧ WF E G L1 f1 ∧ KP G [3, 24, 26, 37, 30, 21, 32, 33] true f f1 ∧ GI E G f1 x)) ([.ref x, .int a, .int b, .int q, .int d] : List Value).toArray s 0 0 (va_A (va_pl L f) s.heap.size)) (F0 m 6 ls []) := by
    intro n_6
    induction n_6 using Nat.strongRecOn with
    | _ n_6 ih_6 =>
      intro v_18 v_19 L_j6 f_j6 H_j6 locs ls hn_6 bv_18 hWF hKP hGI iv0 hw hl
      refine lv_iload G0.1 G0.2.1 dX11_ownHeads_6 (lv_at hl 0 rfl) ?_
      refine lv_iload G0.1 G0.2.1 dX11_ownHeads_8 (lv_at hl 6 rfl) ?_
      refine lv_icmp_ge (tgt := 61) G0.1 G0.2.1 dX11_ownHeads_10 (by decide) (fun c_20 => ?_) (fun c_20 => ?_)
      · skip
        have tc_20 := ti_le c_20
        refine lv_iload G0.1 G0.2.1 dX11_ownHeads_61 (lv_at hl 1 rfl) ?_
        exact py_iret G0 hr rfl hlk hw ⟨(by first | omega | (intro q; omega)), hWF, hKP, hGI⟩ dX11_ownHeads_63
      · skip
        have tc_20 := ti_nle c_20
        have hgy := hGI.2.1.2.2
        refine lv_aload_n G0.1 G0.2.1 dX11_ownHeads_13 rfl (lv_at hl 2 rfl) ?_
        refine lv_iload G0.1 G0.2.1 dX11_ownHeads_14 (lv_at hl 0 rfl) ?_
        obtain ⟨v_21, v_22, v_23, hr_27, b_24, b_25, b_26⟩ := wg_11 hWF Tx
        have tq_28 := hy_eq hr_27
        refine py_callv hw (va_runV (As := [.int v_18]) (rest := []) G0 (c_X11_startTrial l E G L_j6 f_j6 H_j6.size x v_18 hG hWF Tx hGI) (cwV 1 G0.2.2.2.2 g_X11_ownHeads_X11_startTrial_363 rfl rfl rfl (by decide +kernel) ⟨(Nat.le_of_ble_eq_true rfl), (Nat.le_of_ble_eq_true rfl)⟩) (py_preV hw (C := RX11) (T := TX11) (N := 16) rfl hr_27) rfl rfl hl.1 rfl (lv_room (Nat.le_of_ble_eq_true rfl)) dX11_ownHeads_16 ⟨(Nat.le_of_ble_eq_true rfl), (Nat.le_of_ble_eq_true rfl)⟩) (fun L_29 f_30 H_31 locs hp_32 hw => ?_)
        have ht_38 := fo_ty hWF t_6
        have ht_39 := fo_ty hWF t_6
        have ht_40 := fo_ty hWF t_7
        have ht_41 := fo_ty hWF t_8
        obtain ⟨en_34, en_35, hWF, kp_37, hGI⟩ := hp_32
        have hKP := hKP.trans kp_37 (by decide) (by decide)
        have hr_27 := kp_at kp_37 hWF Tx (by decide) (by decide) (by decide) hr_27
        have tq_42 := hy_eq hr_27
        refine lv_aload_n G0.1 G0.2.1 dX11_ownHeads_19 rfl (lv_at hl 2 rfl) ?_
        refine py_get (C := RX11) (T := TX11) (N := 16) (k := 6) (v := .ref (G.2 x 6)) G0 hw in_X11_ownHeads_X11 rfl hr_27 (by decide) (by decide +kernel) rfl dX11_ownHeads_20 ?_
        obtain ⟨t_43, t_44, t_45, t_46, t_47, t_48, t_49, t_50, t_51⟩ := wt_2 hG t_7
        obtain ⟨r_52, y_53, v_54, hr_57, ty_55, b_56⟩ := wg_2 hWF t_7
        refine py_get (C := RX2) (T := TX2) (N := 12) (k := 6) (v := .ref (G.2 (G.2 x 6) 6)) G0 hw in_X11_ownHeads_X2 rfl hr_57 (by decide) (by decide +kernel) rfl dX11_ownHeads_23 ?_
        refine lv_iload_n G0.1 G0.2.1 dX11_ownHeads_26 rfl (lv_at hl 3 rfl) ?_
        refine lv_dup2_11 G0.1 G0.2.1 dX11_ownHeads_27 rfl rfl ?_
        obtain ⟨g_58, ha_59, hi_60⟩ := wf_arr (n := 10) (lo := (-2147483648)) (hi := 2147483647) hWF t_49 (by decide) (fun _ => rfl)
        have rg_61 : vp_in a 10 := ti_in (by omega) (by omega)
        refine py_iald G0 hw ha_59 rg_61 dX11_ownHeads_28 ?_
        refine lv_topi (fun x_62 ex_62 => ?_)
        have bx_62 := wf_free x_62
        refine lv_iload_n G0.1 G0.2.1 dX11_ownHeads_29 rfl (lv_at hl 4 rfl) ?_
        refine lv_iadd G0.1 G0.2.1 dX11_ownHeads_30 ?_
        refine lv_topi (fun x_63 ex_63 => ?_)
        first | have tx_63 := ti_add ex_63 (by omega) (by omega) | skip
        have rg_64 : vp_in a 10 := ti_in (by omega) (by omega)
        refine py_iast G0 hw ha_59 rg_64 dX11_ownHeads_31 (fun f_65 H_66 locs h_67 x_68 hw => ?_)
        have hGI := hGI.kp hG Tx (fo_ty hWF t_6) (rp_upd hG hWF x_68 ha_59.2 h_67.2 (rp_code hG t_49 (by decide)) rfl : RP E G f_30 f_65) (KP.refl.upd hWF x_68 t_49 (Or.inl (by decide)) : KP G [26] false f_30 f_65) (by decide)
        have fq_69 := fv_one (rp_upd hG hWF x_68 ha_59.2 h_67.2 (rp_code hG t_49 (by decide)) rfl : RP E G f_30 f_65) (KP.refl.upd hWF x_68 t_49 (Or.inl (by decide)) : KP G [26] false f_30 f_65) (by decide) (fo_ty hWF t_6) t_6
        have fq_70 := fv_one (rp_upd hG hWF x_68 ha_59.2 h_67.2 (rp_code hG t_49 (by decide)) rfl : RP E G f_30 f_65) (KP.refl.upd hWF x_68 t_49 (Or.inl (by decide)) : KP G [26] false f_30 f_65) (by decide) (fo_ty hWF t_7) t_7
        have fq_71 := fv_one (rp_upd hG hWF x_68 ha_59.2 h_67.2 (rp_code hG t_49 (by decide)) rfl : RP E G f_30 f_65) (KP.refl.upd hWF x_68 t_49 (Or.inl (by decide)) : KP G [26] false f_30 f_65) (by decide) (fo_ty hWF t_8) t_8
        have hKP := hKP.upd hWF x_68 t_49 (Or.inl (by decide))
        have hi_72 := wf_inu (k := (a : Int32).toNatClampNeg) (x := x_63) hi_60 (wf_free x_63).1 (wf_free x_63).2
        have hWF := wf_upd hWF h_67 x_68 (by rw [t_49]; exact ⟨_, rfl, hi_72⟩)
        have hr_27 := hr_27.ext x_68 (py_ne_arr hr_27 ha_59)
        have tq_73 := hy_eq hr_27
        have hr_57 := hr_57.ext x_68 (py_ne_arr hr_57 ha_59)
        refine lv_aload_n G0.1 G0.2.1 dX11_ownHeads_32 rfl (lv_at hl 2 rfl) ?_
        refine lv_aload_n G0.1 G0.2.1 dX11_ownHeads_33 rfl (lv_at hl 2 rfl) ?_
        refine py_get (C := RX11) (T := TX11) (N := 16) (k := 14) (v := .int v_22) G0 hw in_X11_ownHeads_X11 rfl hr_27 (by decide) (by decide +kernel) rfl dX11_ownHeads_34 ?_
        refine lv_iload_n G0.1 G0.2.1 dX11_ownHeads_37 rfl (lv_at hl 5 rfl) ?_
        refine py_callv hw (va_runV (As := [.int v_22, .int q]) (rest := []) G0 (c_X11_passTrial l E G L_29 f_65 H_66.size x v_22 q hG hWF Tx ⟨by omega, by omega⟩ (show 1 ≤ fv_l f_65 (G.2 x 6) by omega) (show fo_y f_65 (G.2 x 6) + q.toInt ≤ 80 by omega) hGI) (cwV 2 G0.2.2.2.2 g_X11_ownHeads_X11_passTrial_366 rfl rfl rfl (by decide +kernel) ⟨(Nat.le_of_ble_eq_true rfl), (Nat.le_of_ble_eq_true rfl)⟩) (py_preV hw (C := RX11) (T := TX11) (N := 16) rfl hr_27) rfl rfl hl.1 rfl (lv_room (Nat.le_of_ble_eq_true rfl)) dX11_ownHeads_38 ⟨(Nat.le_of_ble_eq_true rfl), (Nat.le_of_ble_eq_true rfl)⟩) (fun L_74 f_75 H_76 locs hp_77 hw => ?_)
        have ht_82 := fo_ty hWF t_6
        have ht_83 := fo_ty hWF t_6
        have ht_84 := fo_ty hWF t_7
        have ht_85 := fo_ty hWF t_8
        obtain ⟨en_79, hWF, kp_81, hGI⟩ := hp_77
        have hKP := hKP.trans kp_81 (by decide) (by decide)
        have hr_27 := kp_at kp_81 hWF Tx (by decide) (by decide) (by decide) hr_27
        have tq_86 := hy_eq hr_27
        refine lv_iload G0.1 G0.2.1 dX11_ownHeads_41 (lv_at hl 1 rfl) ?_
        refine lv_aload_n G0.1 G0.2.1 dX11_ownHeads_43 rfl (lv_at hl 2 rfl) ?_
        refine py_get (C := RX11) (T := TX11) (N := 16) (k := 6) (v := .ref (G.2 x 6)) G0 hw in_X11_ownHeads_X11 rfl hr_27 (by decide) (by decide +kernel) rfl dX11_ownHeads_44 ?_
        obtain ⟨r_87, y_88, v_89, hr_92, ty_90, b_91⟩ := wg_2 hWF t_7
        refine py_get (C := RX2) (T := TX2) (N := 12) (k := 0) (v := .ref (G.2 (G.2 x 6) 0)) G0 hw in_X11_ownHeads_X2 rfl hr_92 (by decide) (by decide +kernel) rfl dX11_ownHeads_47 ?_
        refine lv_iload_n G0.1 G0.2.1 dX11_ownHeads_50 rfl (lv_at hl 3 rfl) ?_
        obtain ⟨g_93, ha_94, hi_95⟩ := wf_arr (n := 10) (lo := 0) (hi := 20) hWF t_43 (by omega) (wf_own0 E G _ (G.2 x 6))
        have rg_96 : vp_in a 10 := ti_in (by omega) (by omega)
        refine py_iald G0 hw ha_94 rg_96 dX11_ownHeads_51 ?_
        refine lv_topi (fun x_97 ex_97 => ?_)
        have bx_97 := ti_at hi_95 rg_96 ex_97
        refine lv_iadd G0.1 G0.2.1 dX11_ownHeads_52 ?_
        refine lv_topi (fun x_98 ex_98 => ?_)
        first | have tx_98 := ti_add ex_98 (by omega) (by omega) | skip
        refine lv_istore (lv' := [(5, .int x_98), (6, .int v_18), (0, .ref x), (1, .int a), (2, .int b), (3, .int q), (4, .int d)]) G0.1 G0.2.1 dX11_ownHeads_53 hl (by decide) rfl (fun ls hl => ?_)
        obtain ⟨x_99, ex_99⟩ : ∃ y : Int32, y = v_18 + 1 := ⟨_, rfl⟩
        first | have tx_99 := ti_add ex_99 (by omega) (by omega) | skip
        refine lv_iinc (v := x_99) (lv' := [(6, .int x_99), (5, .int x_98), (0, .ref x), (1, .int a), (2, .int b), (3, .int q), (4, .int d)]) G0.1 G0.2.1 dX11_ownHeads_55 hl (k := 1) rfl (show _ + (1 : Int32) = _ from ex_99.symm) (by decide) rfl (fun ls hl => ?_)
        refine lv_goto (tgt := 6) G0.1 G0.2.1 dX11_ownHeads_58 (by decide) ?_
        exact ih_6 ((2147483647 - x_99.toInt).toNat) (by omega) x_99 x_98 L_74 f_75 _ _ ls rfl ⟨by omega, by omega⟩ hWF hKP hGI (by first | omega | (intros; omega)) hw (lv_sub hl [0, 1, 2, 3, 4, 5, 6] rfl)
  exact lo_6 _ 0 0 L f _ _ ls rfl ⟨by omega, by omega⟩ hWF hKP hGI (by first | omega | (intros; omega)) hw (lv_sub hl [0, 1, 2, 3, 4, 5, 6] rfl)

def w_X11_winters : List Cond := .code yX11_winters cX11_winters 4 (some .int) :: ([Cond.methodLink RX11 218 yX11_hasValley, Cond.instanceMethod yX11_hasValley, Cond.selects RX11 yX11_hasValley yX11_hasValley, Cond.initialized RX11, Cond.fieldLink RX11 47 "HeadYear" "folk" "LHeadYear$Folk;", Cond.fieldLink RX11 222 "HeadYear$Folk" "years" "I", Cond.fieldLink RX11 98 "HeadYear" "heldLaw" "I", Cond.methodLink RX11 225 yX11_lawOf, Cond.instanceMethod yX11_lawOf, Cond.selects RX11 yX11_lawOf yX11_lawOf, Cond.fieldLink RX11 67 "HeadYear" "buyings" "LHeadYear$Buyings;", Cond.fieldLink RX11 240 "HeadYear$Buyings" "count" "I", Cond.methodLink RX11 243 yX2_headsOfAll, Cond.instanceMethod yX2_headsOfAll, Cond.selects RX2 yX2_headsOfAll yX2_headsOfAll, Cond.initialized RX2, Cond.fieldLink RX11 74 "HeadYear" "seasons" "LHeadYear$Seasons;", Cond.methodLink RX11 229 yX7_winter, Cond.instanceMethod yX7_winter, Cond.selects RX7 yX7_winter yX7_winter, Cond.initialized RX7, Cond.methodLink RX11 232 yX7_moveAll, Cond.instanceMethod yX7_moveAll, Cond.selects RX7 yX7_moveAll yX7_moveAll, Cond.fieldLink RX11 60 "HeadYear" "diary" "LHeadYear$Diary;", Cond.methodLink RX11 236 yX1_write, Cond.instanceMethod yX1_write, Cond.selects RX1 yX1_write yX1_write, Cond.initialized RX1] ++ (u_ws RX11 TX11 16 ++ (u_ws RX2 TX2 12 ++ (u_ws RX0 TX0 5 ++ (w_X11_hasValley ++ (w_X11_lawOf ++ (w_X2_headsOfAll ++ (w_X7_winter ++ (w_X7_moveAll ++ (w_X1_write ++ ([])))))))))))
theorem in_X11_winters_X11 : ∀ w ∈ u_ws RX11 TX11 16, w ∈ w_X11_winters := fun _ h => List.mem_cons_of_mem _ (List.mem_append_right _ (List.mem_append_left _ h))
theorem in_X11_winters_X2 : ∀ w ∈ u_ws RX2 TX2 12, w ∈ w_X11_winters := fun _ h => List.mem_cons_of_mem _ (List.mem_append_right _ (List.mem_append_right _ (List.mem_append_left _ h)))
theorem in_X11_winters_X0 : ∀ w ∈ u_ws RX0 TX0 5, w ∈ w_X11_winters := fun _ h => List.mem_cons_of_mem _ (List.mem_append_right _ (List.mem_append_right _ (List.mem_append_right _ (List.mem_append_left _ h))))
theorem gg_X11_winters_X11_hasValley : GoodIn w_X11_winters w_X11_hasValley := goodIn_sub (fun _ h => List.mem_cons_of_mem _ (List.mem_append_right _ (List.mem_append_right _ (List.mem_append_right _ (List.mem_append_right _ (List.mem_append_left _ h)))))) (by decide +kernel)
theorem gg_X11_winters_X11_lawOf : GoodIn w_X11_winters w_X11_lawOf := goodIn_sub (fun _ h => List.mem_cons_of_mem _ (List.mem_append_right _ (List.mem_append_right _ (List.mem_append_right _ (List.mem_append_right _ (List.mem_append_right _ (List.mem_append_left _ h))))))) (by decide +kernel)
theorem gg_X11_winters_X2_headsOfAll : GoodIn w_X11_winters w_X2_headsOfAll := goodIn_sub (fun _ h => List.mem_cons_of_mem _ (List.mem_append_right _ (List.mem_append_right _ (List.mem_append_right _ (List.mem_append_right _ (List.mem_append_right _ (List.mem_append_right _ (List.mem_append_left _ h)))))))) (by decide +kernel)
theorem gg_X11_winters_X7_winter : GoodIn w_X11_winters w_X7_winter := goodIn_sub (fun _ h => List.mem_cons_of_mem _ (List.mem_append_right _ (List.mem_append_right _ (List.mem_append_right _ (List.mem_append_right _ (List.mem_append_right _ (List.mem_append_right _ (List.mem_append_right _ (List.mem_append_left _ h))))))))) (by decide +kernel)
theorem gg_X11_winters_X7_moveAll : GoodIn w_X11_winters w_X7_moveAll := goodIn_sub (fun _ h => List.mem_cons_of_mem _ (List.mem_append_right _ (List.mem_append_right _ (List.mem_append_right _ (List.mem_append_right _ (List.mem_append_right _ (List.mem_append_right _ (List.mem_append_right _ (List.mem_append_right _ (List.mem_append_left _ h)))))))))) (by decide +kernel)
theorem gg_X11_winters_X1_write : GoodIn w_X11_winters w_X1_write := goodIn_sub (fun _ h => List.mem_cons_of_mem _ (List.mem_append_right _ (List.mem_append_right _ (List.mem_append_right _ (List.mem_append_right _ (List.mem_append_right _ (List.mem_append_right _ (List.mem_append_right _ (List.mem_append_right _ (List.mem_append_right _ (List.mem_append_left _ h))))))))))) (by decide +kernel)
theorem g_X11_winters_X11_hasValley_218 : GoodIn w_X11_winters (wsV RX11 218 RX11 yX11_hasValley w_X11_hasValley) := goodIn_app (goodIn_of _ (by decide +kernel)) gg_X11_winters_X11_hasValley
theorem g_X11_winters_X11_lawOf_225 : GoodIn w_X11_winters (wsV RX11 225 RX11 yX11_lawOf w_X11_lawOf) := goodIn_app (goodIn_of _ (by decide +kernel)) gg_X11_winters_X11_lawOf
theorem g_X11_winters_X1_write_236 : GoodIn w_X11_winters (wsV RX11 236 RX1 yX1_write w_X1_write) := goodIn_app (goodIn_of _ (by decide +kernel)) gg_X11_winters_X1_write
theorem g_X11_winters_X2_headsOfAll_243 : GoodIn w_X11_winters (wsV RX11 243 RX2 yX2_headsOfAll w_X2_headsOfAll) := goodIn_app (goodIn_of _ (by decide +kernel)) gg_X11_winters_X2_headsOfAll
theorem g_X11_winters_X7_moveAll_232 : GoodIn w_X11_winters (wsV RX11 232 RX7 yX7_moveAll w_X7_moveAll) := goodIn_app (goodIn_of _ (by decide +kernel)) gg_X11_winters_X7_moveAll
theorem g_X11_winters_X7_winter_229 : GoodIn w_X11_winters (wsV RX11 229 RX7 yX7_winter w_X7_winter) := goodIn_app (goodIn_of _ (by decide +kernel)) gg_X11_winters_X7_winter
set_option maxHeartbeats 4000000 in
set_option maxRecDepth 100000 in
theorem c_X11_winters (l : Launch) (E : py_E) (G : wf_G) (L : List Nat) (f : py_F) (sz : Nat) (x : Nat) (a : Int32) (hG : GT G) (hWF : WF E G L f) (Tx : G.1 x = 12) (hq0 : GI E G f x) : Met l yX11_winters w_X11_winters ({ frames := 4, cells := 0, slots := 0, locals := 100 }) (py_Pc E [.ref x, .int a] L f sz) (py_Qi E L f sz (fun _ L1 f1 => (fv_l f1 (G.2 x 5) = fv_l f (G.2 x 5) ∧ fo_y f1 (G.2 x 7) = fo_y f (G.2 x 7)) ∧ (((fv_l f (G.2 x 5) < 1 ∨ a.toInt < 1 ∨ 9 < a.toInt ∨ 60 < fo_y f (G.2 x 5) + a.toInt) ∧ fo_y f1 (G.2 x 5) = fo_y f (G.2 x 5)) ∨ (1 ≤ fv_l f (G.2 x 5) ∧ 1 ≤ a.toInt ∧ a.toInt ≤ 9 ∧ fo_y f (G.2 x 5) + a.toInt ≤ 60 ∧ fo_y f1 (G.2 x 5) = fo_y f (G.2 x 5) + a.toInt)) ∧ WF E G L1 f1 ∧ KP G [3, 24, 26, 37, 30, 21, 32, 33, 2, 31, 1] true f f1 ∧ GI E G f1 x)) 0 0 (va_A (va_pl L f) sz) := by
  refine Met.ofW (cc := cX11_winters) (maxL := 4) (ret := (some .int)) (by decide) rfl ?_
  intro p e s m args below meth c s₁ B hml hv
  obtain ⟨rfl, rfl, hw⟩ := py_start hv
  have G0 : CallFix p m c cX11_winters 4 s _ w_X11_winters RX11 := ⟨B.exec, B.bytes, hml, findClass_of_methodNamed B.named, atoms_spec (ws := w_X11_winters) B.pre⟩
  have hr := B.returns
  have hlk := B.notSynchronized
  have kcm1 : (-1 : Int32).toInt = -1 := rfl
  have kc0 : (0 : Int32).toInt = 0 := rfl
  have kc1 : (1 : Int32).toInt = 1 := rfl
  have kc9 : (9 : Int32).toInt = 9 := rfl
  have kc60 : (60 : Int32).toInt = 60 := rfl
  have hl := lv_entry ([.ref x, .int a]) (n := 4) (Nat.le_of_ble_eq_true rfl)
  rw [lg_entry_eq]
  generalize (lg_sl ([.ref x, .int a]) ++ List.replicate (4 - (lg_sl ([.ref x, .int a])).length) Slot.unset).toArray = ls at hl ⊢
  have hl : lv_has ls 4 [(0, .ref x), (1, .int a)] := hl
  have hGI := hq0
  have hKP : KP G [3, 24, 26, 37, 30, 21, 32, 33, 2, 31, 1] true f f := KP.refl
  obtain ⟨t_1, t_2, t_3, t_4, t_5, t_6, t_7, t_8, t_9, t_10, t_11, t_12, t_13, tx_14, tx_15, tx_16, tx_17⟩ := wt_11 hG Tx
  refine lv_aload_n G0.1 G0.2.1 dX11_winters_0 rfl (lv_at hl 0 rfl) ?_
  obtain ⟨v_18, v_19, v_20, hr_24, b_21, b_22, b_23⟩ := wg_11 hWF Tx
  have tq_25 := hy_eq hr_24
  refine py_calli hw (va_runV (As := []) (rest := []) G0 (c_X11_hasValley l E G L f s.heap.size x hG hWF Tx) (cwV 0 G0.2.2.2.2 g_X11_winters_X11_hasValley_218 rfl rfl rfl (by decide +kernel) ⟨(Nat.le_of_ble_eq_true rfl), (Nat.le_of_ble_eq_true rfl)⟩) (py_preV hw (C := RX11) (T := TX11) (N := 16) rfl hr_24) rfl rfl hl.1 rfl (lv_room (Nat.le_of_ble_eq_true rfl)) dX11_winters_1 ⟨(Nat.le_of_ble_eq_true rfl), (Nat.le_of_ble_eq_true rfl)⟩) (fun r_30 L_26 f_27 H_28 locs hp_29 hw => ?_)
  obtain ⟨b_33, en_31, en_32, rfl, rfl⟩ := hp_29
  refine lv_if_eq (tgt := 32) G0.1 G0.2.1 dX11_winters_4 (by decide) (fun c_34 => ?_) (fun c_34 => ?_)
  · skip
    have tc_34 := ti_eq c_34
    refine lv_iconst (v := (-1)) G0.1 G0.2.1 dX11_winters_32 (by decide) ?_
    exact py_iret G0 hr rfl hlk hw ⟨(by first | omega | (intro q; omega)), (by first | omega | (intro q; omega)), hWF, hKP, hGI⟩ dX11_winters_33
  · skip
    have tc_34 := ti_ne c_34
    refine lv_iload_n G0.1 G0.2.1 dX11_winters_7 rfl (lv_at hl 1 rfl) ?_
    refine lv_iconst (v := 1) G0.1 G0.2.1 dX11_winters_8 (by decide) ?_
    refine lv_icmp_lt (tgt := 32) G0.1 G0.2.1 dX11_winters_9 (by decide) (fun c_35 => ?_) (fun c_35 => ?_)
    · skip
      have tc_35 := ti_lt c_35
      refine lv_iconst (v := (-1)) G0.1 G0.2.1 dX11_winters_32 (by decide) ?_
      exact py_iret G0 hr rfl hlk hw ⟨(by first | omega | (intro q; omega)), (by first | omega | (intro q; omega)), hWF, hKP, hGI⟩ dX11_winters_33
    · skip
      have tc_35 := ti_nlt c_35
      refine lv_iload_n G0.1 G0.2.1 dX11_winters_12 rfl (lv_at hl 1 rfl) ?_
      refine lv_bipush (v := 9) G0.1 G0.2.1 dX11_winters_13 (by decide) ?_
      refine lv_icmp_gt (tgt := 32) G0.1 G0.2.1 dX11_winters_15 (by decide) (fun c_36 => ?_) (fun c_36 => ?_)
      · skip
        have tc_36 := ti_lt c_36
        refine lv_iconst (v := (-1)) G0.1 G0.2.1 dX11_winters_32 (by decide) ?_
        exact py_iret G0 hr rfl hlk hw ⟨(by first | omega | (intro q; omega)), (by first | omega | (intro q; omega)), hWF, hKP, hGI⟩ dX11_winters_33
      · skip
        have tc_36 := ti_nlt c_36
        refine lv_aload_n G0.1 G0.2.1 dX11_winters_18 rfl (lv_at hl 0 rfl) ?_
        refine py_get (C := RX11) (T := TX11) (N := 16) (k := 5) (v := .ref (G.2 x 5)) G0 hw in_X11_winters_X11 rfl hr_24 (by decide) (by decide +kernel) rfl dX11_winters_19 ?_
        obtain ⟨t_37, t_38, t_39, t_40, t_41, t_42, t_43, t_44, t_45⟩ := wt_2 hG t_6
        obtain ⟨r_46, y_47, v_48, hr_51, ty_49, b_50⟩ := wg_2 hWF t_6
        have tq_52 := fo_eq hr_51
        refine py_get (C := RX2) (T := TX2) (N := 12) (k := 11) (v := .int v_48) G0 hw in_X11_winters_X2 rfl hr_51 (by decide) (by decide +kernel) rfl dX11_winters_22 ?_
        refine lv_iload_n G0.1 G0.2.1 dX11_winters_25 rfl (lv_at hl 1 rfl) ?_
        refine lv_iadd G0.1 G0.2.1 dX11_winters_26 ?_
        refine lv_topi (fun x_53 ex_53 => ?_)
        first | have tx_53 := ti_add ex_53 (by omega) (by omega) | skip
        refine lv_bipush (v := 60) G0.1 G0.2.1 dX11_winters_27 (by decide) ?_
        refine lv_icmp_le (tgt := 34) G0.1 G0.2.1 dX11_winters_29 (by decide) (fun c_54 => ?_) (fun c_54 => ?_)
        · skip
          have tc_54 := ti_le c_54
          refine lv_aload_n G0.1 G0.2.1 dX11_winters_34 rfl (lv_at hl 0 rfl) ?_
          refine lv_aload_n G0.1 G0.2.1 dX11_winters_35 rfl (lv_at hl 0 rfl) ?_
          refine py_get (C := RX11) (T := TX11) (N := 16) (k := 14) (v := .int v_19) G0 hw in_X11_winters_X11 rfl hr_24 (by decide) (by decide +kernel) rfl dX11_winters_36 ?_
          refine py_callr hw (va_runV (As := [.int v_19]) (rest := []) G0 (c_X11_lawOf l E G L f H_28.size x v_19 hG hWF Tx hGI.2.2.2) (cwV 1 G0.2.2.2.2 g_X11_winters_X11_lawOf_225 rfl rfl rfl (by decide +kernel) ⟨(Nat.le_of_ble_eq_true rfl), (Nat.le_of_ble_eq_true rfl)⟩) (py_preV hw (C := RX11) (T := TX11) (N := 16) rfl hr_24) rfl rfl hl.1 rfl (lv_room (Nat.le_of_ble_eq_true rfl)) dX11_winters_39 ⟨(Nat.le_of_ble_eq_true rfl), (Nat.le_of_ble_eq_true rfl)⟩) (fun r_59 L_55 f_56 H_57 locs hp_58 hw => ?_)
          obtain ⟨en_60, rfl, rfl⟩ := hp_58
          refine lv_astore_n (lv' := [(2, .ref r_59), (0, .ref x), (1, .int a)]) G0.1 G0.2.1 dX11_winters_42 rfl hl (by decide) rfl (fun ls hl => ?_)
          refine lv_iconst (v := 0) G0.1 G0.2.1 dX11_winters_43 (by decide) ?_
          refine lv_istore_n (lv' := [(3, .int 0), (2, .ref r_59), (0, .ref x), (1, .int a)]) G0.1 G0.2.1 dX11_winters_44 rfl hl (by decide) rfl (fun ls hl => ?_)
          have lo_45 : ∀ n_45 : Nat, ∀ (v_61 : Int32) (L_j45 : List Nat) (f_j45 : py_F) (H_j45 : Heap) (locs : List Loc) (ls : Array Slot), (2147483647 - v_61.toInt).toNat = n_45 → (0 ≤ v_61.toInt ∧ v_61.toInt ≤ 2147483647) → WF E G L_j45 f_j45 → KP G [3, 24, 26, 37, 30, 21, 32, 33, 2, 31, 1] true f f_j45 → GI E G f_j45 x → (1 ≤ fv_l f_j45 (G.2 x 5)) → (fo_y f_j45 (G.2 x 5) + a.toInt - v_61.toInt ≤ 60 ∧ v_61.toInt ≤ a.toInt) → (fv_l f_j45 (G.2 x 5) = fv_l f (G.2 x 5) ∧ fo_y f_j45 (G.2 x 5) = fo_y f (G.2 x 5) + v_61.toInt ∧ fo_y f_j45 (G.2 x 7) = fo_y f (G.2 x 7)) → py_W E (va_A (va_pl L f) s.heap.size) s L_j45 f_j45 H_j45 locs → lv_has ls 4 [(3, .int v_61), (2, .ref r_59), (0, .ref x), (1, .int a)] → W p l e (headSpec w_X11_winters ({ frames := 4, cells := 0, slots := 0, locals := 100 })).room s m ([.ref x, .int a] : List Value).toArray below meth c H_j45 locs 0 0 (MQ below (py_Qi E L f s.heap.size (fun _ L1 f1 => (fv_l f1 (G.2 x 5) = fv_l f (G.2 x 5) ∧ fo_y f1 (G.2 x 7) = fo_y f (G.2 x 7)) ∧ (((fv_l f (G.2 x 5) < 1 ∨ a.toInt < 1 ∨ 9 < a.toInt ∨ 60 < fo_y f (G.2 x 5) + a.toInt) ∧ fo_y f1 (G.2 x 5) = fo_y f (G.2 x 5)) ∨ (1 ≤ fv_l f (G.2 x 5) ∧ 1 ≤ a.toInt ∧ a.toInt ≤ 9 ∧ fo_y f (G.2 x 5) + a.toInt ≤ 60 ∧ fo_y f1 (G.2 x 5) = fo_y f (G.2 x 5) + a.toInt)) ∧ WF E G L1 f1 ∧ KP G [3, 24, 26, 37, 30, 21, 32, 33, 2, 31, 1] true f f1 ∧ GI E G f1 x)) ([.ref x, .int a] : List Value).toArray s 0 0 (va_A (va_pl L f) s.heap.size)) (F0 m 45 ls []) := by
            intro n_45
            induction n_45 using Nat.strongRecOn with
            | _ n_45 ih_45 =>
              intro v_61 L_j45 f_j45 H_j45 locs ls hn_45 bv_61 hWF hKP hGI iv0 iv1 iv2 hw hl
              refine lv_iload_n G0.1 G0.2.1 dX11_winters_45 rfl (lv_at hl 0 rfl) ?_
              refine lv_iload_n G0.1 G0.2.1 dX11_winters_46 rfl (lv_at hl 3 rfl) ?_
              refine lv_icmp_ge (tgt := 91) G0.1 G0.2.1 dX11_winters_47 (by decide) (fun c_62 => ?_) (fun c_62 => ?_)
              · skip
                have tc_62 := ti_le c_62
                refine lv_aload_n G0.1 G0.2.1 dX11_winters_91 rfl (lv_at hl 2 rfl) ?_
                obtain ⟨v_63, v_64, v_65, hr_69, b_66, b_67, b_68⟩ := wg_11 hWF Tx
                have tq_70 := hy_eq hr_69
                refine py_get (C := RX11) (T := TX11) (N := 16) (k := 9) (v := .ref (G.2 x 9)) G0 hw in_X11_winters_X11 rfl hr_69 (by decide) (by decide +kernel) rfl dX11_winters_92 ?_
                refine lv_iconst (v := 0) G0.1 G0.2.1 dX11_winters_95 (by decide) ?_
                obtain ⟨t_71, t_72, t_73⟩ := wt_0 hG t_10
                obtain ⟨v_74, v_75, hr_78, b_76, b_77⟩ := wg_0 hWF t_10
                refine py_put (C := RX0) (T := TX0) (N := 5) (k := 3) (v := .int 0) (fs' := [.ref (G.2 (G.2 x 9) 0), .ref (G.2 (G.2 x 9) 1), .ref (G.2 (G.2 x 9) 2), .int 0, .int v_75]) (ty0 := tyX0) G0 hw tyX0_ok nmX0 in_X11_winters_X0 rfl hr_78 (by decide) (by decide +kernel) rfl rfl rfl rfl (Nat.le_of_ble_eq_true rfl) rfl dX11_winters_96 (fun f_79 H_80 locs h_81 x_82 hw => ?_)
                have hGI := hGI.kp hG Tx (fo_ty hWF t_6) (rp_upd hG hWF x_82 hr_78.2 h_81.2 (rp_code hG t_10 (by decide)) rfl : RP E G f_j45 f_79) (KP.refl.upd hWF x_82 t_10 (Or.inl (by decide)) : KP G [1] false f_j45 f_79) (by decide)
                have fq_83 := fv_one (rp_upd hG hWF x_82 hr_78.2 h_81.2 (rp_code hG t_10 (by decide)) rfl : RP E G f_j45 f_79) (KP.refl.upd hWF x_82 t_10 (Or.inl (by decide)) : KP G [1] false f_j45 f_79) (by decide) (fo_ty hWF t_6) t_6
                have fq_84 := fv_one (rp_upd hG hWF x_82 hr_78.2 h_81.2 (rp_code hG t_10 (by decide)) rfl : RP E G f_j45 f_79) (KP.refl.upd hWF x_82 t_10 (Or.inl (by decide)) : KP G [1] false f_j45 f_79) (by decide) (fo_ty hWF t_8) t_8
                have hKP := hKP.upd hWF x_82 t_10 (Or.inl (by decide))
                have hWF := wf_upd hWF h_81 x_82 (by rw [t_10]; exact ⟨0, v_75, rfl, ⟨by omega, by omega⟩, ⟨by omega, by omega⟩⟩)
                have hr_69 := hr_69.ext x_82 (py_ne_kind hr_69 hr_78 (by decide))
                have tq_85 := hy_eq hr_69
                refine lv_aload_n G0.1 G0.2.1 dX11_winters_99 rfl (lv_at hl 2 rfl) ?_
                refine py_get (C := RX11) (T := TX11) (N := 16) (k := 5) (v := .ref (G.2 x 5)) G0 hw in_X11_winters_X11 rfl hr_69 (by decide) (by decide +kernel) rfl dX11_winters_100 ?_
                obtain ⟨r_86, y_87, v_88, hr_91, ty_89, b_90⟩ := wg_2 hWF t_6
                have tq_92 := fo_eq hr_91
                refine py_calli hw (va_runV (As := []) (rest := []) G0 (c_X2_headsOfAll l E G L_j45 f_79 H_80.size (G.2 x 5) hG hWF t_6) (cwV 0 G0.2.2.2.2 g_X11_winters_X2_headsOfAll_243 rfl rfl rfl (by decide +kernel) ⟨(Nat.le_of_ble_eq_true rfl), (Nat.le_of_ble_eq_true rfl)⟩) (py_preV hw (C := RX2) (T := TX2) (N := 12) rfl hr_91) rfl rfl hl.1 rfl (lv_room (Nat.le_of_ble_eq_true rfl)) dX11_winters_103 ⟨(Nat.le_of_ble_eq_true rfl), (Nat.le_of_ble_eq_true rfl)⟩) (fun r_97 L_93 f_94 H_95 locs hp_96 hw => ?_)
                obtain ⟨rfl, rfl⟩ := hp_96
                have br_97 := wf_free r_97
                exact py_iret G0 hr rfl hlk hw ⟨(by first | omega | (intro q; omega)), (by first | omega | (intro q; omega)), hWF, hKP, hGI⟩ dX11_winters_106
              · skip
                have tc_62 := ti_nle c_62
                refine lv_aload_n G0.1 G0.2.1 dX11_winters_50 rfl (lv_at hl 2 rfl) ?_
                obtain ⟨v_98, v_99, v_100, hr_104, b_101, b_102, b_103⟩ := wg_11 hWF Tx
                have tq_105 := hy_eq hr_104
                refine py_get (C := RX11) (T := TX11) (N := 16) (k := 10) (v := .ref (G.2 x 10)) G0 hw in_X11_winters_X11 rfl hr_104 (by decide) (by decide +kernel) rfl dX11_winters_51 ?_
                refine lv_aload_n G0.1 G0.2.1 dX11_winters_54 rfl (lv_at hl 2 rfl) ?_
                refine py_get (C := RX11) (T := TX11) (N := 16) (k := 5) (v := .ref (G.2 x 5)) G0 hw in_X11_winters_X11 rfl hr_104 (by decide) (by decide +kernel) rfl dX11_winters_55 ?_
                refine lv_aload_n G0.1 G0.2.1 dX11_winters_58 rfl (lv_at hl 1 rfl) ?_
                obtain ⟨t_106, t_107, t_108⟩ := wt_7 hG t_11
                obtain ⟨v_109, v_110, hr_112, b_111⟩ := wg_7 hWF t_11
                have bv_109 := wf_free v_109
                refine py_callv hw (va_runV (As := [.ref (G.2 x 5), .ref r_59]) (rest := []) G0 (c_X7_winter l E G L_j45 f_j45 H_j45.size (G.2 x 10) (G.2 x 5) r_59 hG hWF t_11 t_6 en_60 (show fo_y f_j45 (G.2 x 5) ≤ 79 by omega) (hGI.1 _ t_6)) (cwV 2 G0.2.2.2.2 g_X11_winters_X7_winter_229 rfl rfl rfl (by decide +kernel) ⟨(Nat.le_of_ble_eq_true rfl), (Nat.le_of_ble_eq_true rfl)⟩) (py_preV hw (C := RX7) (T := TX7) (N := 5) rfl hr_112) rfl rfl hl.1 rfl (lv_room (Nat.le_of_ble_eq_true rfl)) dX11_winters_59 ⟨(Nat.le_of_ble_eq_true rfl), (Nat.le_of_ble_eq_true rfl)⟩) (fun L_113 f_114 H_115 locs hp_116 hw => ?_)
                have ht_121 := fo_ty hWF t_6
                have ht_122 := fo_ty hWF t_6
                have ht_123 := fo_ty hWF t_8
                obtain ⟨en_118, hWF, hq_119, kp_120⟩ := hp_116
                obtain ⟨hGI, fq1⟩ := hGI.year hG Tx ht_121 hq_119 kp_120 (by decide) en_118.1 (by omega)
                have fq7 := ((hq_119 _ t_8).2 (Ne.symm tx_15)).2
                have hKP := hKP.trans kp_120 (by decide) (by decide)
                have hr_104 := kp_at kp_120 hWF Tx (by decide) (by decide) (by decide) hr_104
                have tq_124 := hy_eq hr_104
                have hr_112 := kp_at kp_120 hWF t_11 (by decide) (by decide) (by decide) hr_112
                refine lv_aload_n G0.1 G0.2.1 dX11_winters_62 rfl (lv_at hl 2 rfl) ?_
                refine py_get (C := RX11) (T := TX11) (N := 16) (k := 10) (v := .ref (G.2 x 10)) G0 hw in_X11_winters_X11 rfl hr_104 (by decide) (by decide +kernel) rfl dX11_winters_63 ?_
                refine lv_aload_n G0.1 G0.2.1 dX11_winters_66 rfl (lv_at hl 2 rfl) ?_
                refine py_get (C := RX11) (T := TX11) (N := 16) (k := 5) (v := .ref (G.2 x 5)) G0 hw in_X11_winters_X11 rfl hr_104 (by decide) (by decide +kernel) rfl dX11_winters_67 ?_
                refine py_calli hw (va_runV (As := [.ref (G.2 x 5)]) (rest := []) G0 (c_X7_moveAll l E G L_113 f_114 H_115.size (G.2 x 10) (G.2 x 5) hG hWF t_11 t_6 (show 1 ≤ fv_l f_114 (G.2 x 5) by omega)) (cwV 1 G0.2.2.2.2 g_X11_winters_X7_moveAll_232 rfl rfl rfl (by decide +kernel) ⟨(Nat.le_of_ble_eq_true rfl), (Nat.le_of_ble_eq_true rfl)⟩) (py_preV hw (C := RX7) (T := TX7) (N := 5) rfl hr_112) rfl rfl hl.1 rfl (lv_room (Nat.le_of_ble_eq_true rfl)) dX11_winters_70 ⟨(Nat.le_of_ble_eq_true rfl), (Nat.le_of_ble_eq_true rfl)⟩) (fun r_129 L_125 f_126 H_127 locs hp_128 hw => ?_)
                have ht_132 := fo_ty hWF t_6
                have ht_133 := fo_ty hWF t_6
                have ht_134 := fo_ty hWF t_8
                obtain ⟨hWF, hq_130, kp_131⟩ := hp_128
                have hGI := hGI.kp hG Tx ht_132 hq_130 kp_131 (by decide)
                have fq_135 := fv_one hq_130 kp_131 (by decide) ht_133 t_6
                have fq_136 := fv_one hq_130 kp_131 (by decide) ht_134 t_8
                have hKP := hKP.trans kp_131 (by decide) (by decide)
                have hr_104 := kp_at kp_131 hWF Tx (by decide) (by decide) (by decide) hr_104
                have tq_137 := hy_eq hr_104
                have hr_112 := kp_at kp_131 hWF t_11 (by decide) (by decide) (by decide) hr_112
                have br_129 := wf_free r_129
                refine lv_pop G0.1 G0.2.1 dX11_winters_73 rfl ?_
                refine lv_aload_n G0.1 G0.2.1 dX11_winters_74 rfl (lv_at hl 2 rfl) ?_
                refine py_get (C := RX11) (T := TX11) (N := 16) (k := 8) (v := .ref (G.2 x 8)) G0 hw in_X11_winters_X11 rfl hr_104 (by decide) (by decide +kernel) rfl dX11_winters_75 ?_
                refine lv_aload_n G0.1 G0.2.1 dX11_winters_78 rfl (lv_at hl 2 rfl) ?_
                refine py_get (C := RX11) (T := TX11) (N := 16) (k := 5) (v := .ref (G.2 x 5)) G0 hw in_X11_winters_X11 rfl hr_104 (by decide) (by decide +kernel) rfl dX11_winters_79 ?_
                obtain ⟨t_138, t_139⟩ := wt_1 hG t_9
                obtain ⟨v_140, hr_142, b_141⟩ := wg_1 hWF t_9
                refine py_callv hw (va_runV (As := [.ref (G.2 x 5)]) (rest := []) G0 (c_X1_write l E G L_125 f_126 H_127.size (G.2 x 8) (G.2 x 5) hG hWF t_9 t_6) (cwV 1 G0.2.2.2.2 g_X11_winters_X1_write_236 rfl rfl rfl (by decide +kernel) ⟨(Nat.le_of_ble_eq_true rfl), (Nat.le_of_ble_eq_true rfl)⟩) (py_preV hw (C := RX1) (T := TX1) (N := 3) rfl hr_142) rfl rfl hl.1 rfl (lv_room (Nat.le_of_ble_eq_true rfl)) dX11_winters_82 ⟨(Nat.le_of_ble_eq_true rfl), (Nat.le_of_ble_eq_true rfl)⟩) (fun L_143 f_144 H_145 locs hp_146 hw => ?_)
                have ht_150 := fo_ty hWF t_6
                have ht_151 := fo_ty hWF t_6
                have ht_152 := fo_ty hWF t_8
                obtain ⟨hWF, hq_148, kp_149⟩ := hp_146
                have hGI := hGI.kp hG Tx ht_150 hq_148 kp_149 (by decide)
                have fq_153 := fv_one hq_148 kp_149 (by decide) ht_151 t_6
                have fq_154 := fv_one hq_148 kp_149 (by decide) ht_152 t_8
                have hKP := hKP.trans kp_149 (by decide) (by decide)
                have hr_104 := kp_at kp_149 hWF Tx (by decide) (by decide) (by decide) hr_104
                have tq_155 := hy_eq hr_104
                have hr_112 := kp_at kp_149 hWF t_11 (by decide) (by decide) (by decide) hr_112
                obtain ⟨x_156, ex_156⟩ : ∃ y : Int32, y = v_61 + 1 := ⟨_, rfl⟩
                first | have tx_156 := ti_add ex_156 (by omega) (by omega) | skip
                refine lv_iinc (v := x_156) (lv' := [(3, .int x_156), (2, .ref r_59), (0, .ref x), (1, .int a)]) G0.1 G0.2.1 dX11_winters_85 hl (k := 0) rfl (show _ + (1 : Int32) = _ from ex_156.symm) (by decide) rfl (fun ls hl => ?_)
                refine lv_goto (tgt := 45) G0.1 G0.2.1 dX11_winters_88 (by decide) ?_
                exact ih_45 ((2147483647 - x_156.toInt).toNat) (by omega) x_156 L_143 f_144 _ _ ls rfl ⟨by omega, by omega⟩ hWF hKP hGI (by first | omega | (intros; omega)) (by first | omega | (intros; omega)) (by first | omega | (intros; omega)) hw (lv_sub hl [0, 1, 2, 3] rfl)
          exact lo_45 _ 0 L f _ _ ls rfl ⟨by omega, by omega⟩ hWF hKP hGI (by first | omega | (intros; omega)) (by first | omega | (intros; omega)) (by first | omega | (intros; omega)) hw (lv_sub hl [0, 1, 2, 3] rfl)
        · skip
          have tc_54 := ti_nle c_54
          refine lv_iconst (v := (-1)) G0.1 G0.2.1 dX11_winters_32 (by decide) ?_
          exact py_iret G0 hr rfl hlk hw ⟨(by first | omega | (intro q; omega)), (by first | omega | (intro q; omega)), hWF, hKP, hGI⟩ dX11_winters_33

def w_X11_spring : List Cond := .code yX11_spring cX11_spring 1 (some .int) :: ([Cond.methodLink RX11 218 yX11_hasValley, Cond.instanceMethod yX11_hasValley, Cond.selects RX11 yX11_hasValley yX11_hasValley, Cond.initialized RX11, Cond.fieldLink RX11 67 "HeadYear" "buyings" "LHeadYear$Buyings;", Cond.fieldLink RX11 240 "HeadYear$Buyings" "count" "I", Cond.fieldLink RX11 74 "HeadYear" "seasons" "LHeadYear$Seasons;", Cond.fieldLink RX11 47 "HeadYear" "folk" "LHeadYear$Folk;", Cond.methodLink RX11 232 yX7_moveAll, Cond.instanceMethod yX7_moveAll, Cond.selects RX7 yX7_moveAll yX7_moveAll, Cond.initialized RX7] ++ (u_ws RX11 TX11 16 ++ (u_ws RX0 TX0 5 ++ (w_X11_hasValley ++ (w_X7_moveAll ++ ([]))))))
theorem in_X11_spring_X11 : ∀ w ∈ u_ws RX11 TX11 16, w ∈ w_X11_spring := fun _ h => List.mem_cons_of_mem _ (List.mem_append_right _ (List.mem_append_left _ h))
theorem in_X11_spring_X0 : ∀ w ∈ u_ws RX0 TX0 5, w ∈ w_X11_spring := fun _ h => List.mem_cons_of_mem _ (List.mem_append_right _ (List.mem_append_right _ (List.mem_append_left _ h)))
theorem gg_X11_spring_X11_hasValley : GoodIn w_X11_spring w_X11_hasValley := goodIn_sub (fun _ h => List.mem_cons_of_mem _ (List.mem_append_right _ (List.mem_append_right _ (List.mem_append_right _ (List.mem_append_left _ h))))) (by decide +kernel)
theorem gg_X11_spring_X7_moveAll : GoodIn w_X11_spring w_X7_moveAll := goodIn_sub (fun _ h => List.mem_cons_of_mem _ (List.mem_append_right _ (List.mem_append_right _ (List.mem_append_right _ (List.mem_append_right _ (List.mem_append_left _ h)))))) (by decide +kernel)
theorem g_X11_spring_X11_hasValley_218 : GoodIn w_X11_spring (wsV RX11 218 RX11 yX11_hasValley w_X11_hasValley) := goodIn_app (goodIn_of _ (by decide +kernel)) gg_X11_spring_X11_hasValley
theorem g_X11_spring_X7_moveAll_232 : GoodIn w_X11_spring (wsV RX11 232 RX7 yX7_moveAll w_X7_moveAll) := goodIn_app (goodIn_of _ (by decide +kernel)) gg_X11_spring_X7_moveAll
set_option maxHeartbeats 4000000 in
set_option maxRecDepth 100000 in
theorem c_X11_spring (l : Launch) (E : py_E) (G : wf_G) (L : List Nat) (f : py_F) (sz : Nat) (x : Nat) (hG : GT G) (hWF : WF E G L f) (Tx : G.1 x = 12) (hq0 : GI E G f x) : Met l yX11_spring w_X11_spring ({ frames := 4, cells := 0, slots := 0, locals := 97 }) (py_Pc E [.ref x] L f sz) (py_Qi E L f sz (fun _ L1 f1 => (fv_l f1 (G.2 x 5) = fv_l f (G.2 x 5) ∧ fo_y f1 (G.2 x 5) = fo_y f (G.2 x 5) ∧ fo_y f1 (G.2 x 7) = fo_y f (G.2 x 7)) ∧ WF E G L1 f1 ∧ KP G [3, 26, 33, 37, 1] true f f1 ∧ GI E G f1 x)) 0 0 (va_A (va_pl L f) sz) := by
  refine Met.ofW (cc := cX11_spring) (maxL := 1) (ret := (some .int)) (by decide) rfl ?_
  intro p e s m args below meth c s₁ B hml hv
  obtain ⟨rfl, rfl, hw⟩ := py_start hv
  have G0 : CallFix p m c cX11_spring 1 s _ w_X11_spring RX11 := ⟨B.exec, B.bytes, hml, findClass_of_methodNamed B.named, atoms_spec (ws := w_X11_spring) B.pre⟩
  have hr := B.returns
  have hlk := B.notSynchronized
  have kcm1 : (-1 : Int32).toInt = -1 := rfl
  have kc0 : (0 : Int32).toInt = 0 := rfl
  have kc1 : (1 : Int32).toInt = 1 := rfl
  have hl := lv_entry ([.ref x]) (n := 1) (Nat.le_of_ble_eq_true rfl)
  rw [lg_entry_eq]
  generalize (lg_sl ([.ref x]) ++ List.replicate (1 - (lg_sl ([.ref x])).length) Slot.unset).toArray = ls at hl ⊢
  have hl : lv_has ls 1 [(0, .ref x)] := hl
  have hGI := hq0
  have hKP : KP G [3, 26, 33, 37, 1] true f f := KP.refl
  obtain ⟨t_1, t_2, t_3, t_4, t_5, t_6, t_7, t_8, t_9, t_10, t_11, t_12, t_13, tx_14, tx_15, tx_16, tx_17⟩ := wt_11 hG Tx
  refine lv_aload_n G0.1 G0.2.1 dX11_spring_0 rfl (lv_at hl 0 rfl) ?_
  obtain ⟨v_18, v_19, v_20, hr_24, b_21, b_22, b_23⟩ := wg_11 hWF Tx
  have tq_25 := hy_eq hr_24
  refine py_calli hw (va_runV (As := []) (rest := []) G0 (c_X11_hasValley l E G L f s.heap.size x hG hWF Tx) (cwV 0 G0.2.2.2.2 g_X11_spring_X11_hasValley_218 rfl rfl rfl (by decide +kernel) ⟨(Nat.le_of_ble_eq_true rfl), (Nat.le_of_ble_eq_true rfl)⟩) (py_preV hw (C := RX11) (T := TX11) (N := 16) rfl hr_24) rfl rfl hl.1 rfl (lv_room (Nat.le_of_ble_eq_true rfl)) dX11_spring_1 ⟨(Nat.le_of_ble_eq_true rfl), (Nat.le_of_ble_eq_true rfl)⟩) (fun r_30 L_26 f_27 H_28 locs hp_29 hw => ?_)
  obtain ⟨b_33, en_31, en_32, rfl, rfl⟩ := hp_29
  refine lv_if_ne (tgt := 9) G0.1 G0.2.1 dX11_spring_4 (by decide) (fun c_34 => ?_) (fun c_34 => ?_)
  · skip
    have tc_34 := ti_ne c_34
    refine lv_aload_n G0.1 G0.2.1 dX11_spring_9 rfl (lv_at hl 0 rfl) ?_
    refine py_get (C := RX11) (T := TX11) (N := 16) (k := 9) (v := .ref (G.2 x 9)) G0 hw in_X11_spring_X11 rfl hr_24 (by decide) (by decide +kernel) rfl dX11_spring_10 ?_
    refine lv_iconst (v := 0) G0.1 G0.2.1 dX11_spring_13 (by decide) ?_
    obtain ⟨t_35, t_36, t_37⟩ := wt_0 hG t_10
    obtain ⟨v_38, v_39, hr_42, b_40, b_41⟩ := wg_0 hWF t_10
    refine py_put (C := RX0) (T := TX0) (N := 5) (k := 3) (v := .int 0) (fs' := [.ref (G.2 (G.2 x 9) 0), .ref (G.2 (G.2 x 9) 1), .ref (G.2 (G.2 x 9) 2), .int 0, .int v_39]) (ty0 := tyX0) G0 hw tyX0_ok nmX0 in_X11_spring_X0 rfl hr_42 (by decide) (by decide +kernel) rfl rfl rfl rfl (Nat.le_of_ble_eq_true rfl) rfl dX11_spring_14 (fun f_43 H_44 locs h_45 x_46 hw => ?_)
    have hGI := hGI.kp hG Tx (fo_ty hWF t_6) (rp_upd hG hWF x_46 hr_42.2 h_45.2 (rp_code hG t_10 (by decide)) rfl : RP E G f f_43) (KP.refl.upd hWF x_46 t_10 (Or.inl (by decide)) : KP G [1] false f f_43) (by decide)
    have fq_47 := fv_one (rp_upd hG hWF x_46 hr_42.2 h_45.2 (rp_code hG t_10 (by decide)) rfl : RP E G f f_43) (KP.refl.upd hWF x_46 t_10 (Or.inl (by decide)) : KP G [1] false f f_43) (by decide) (fo_ty hWF t_6) t_6
    have fq_48 := fv_one (rp_upd hG hWF x_46 hr_42.2 h_45.2 (rp_code hG t_10 (by decide)) rfl : RP E G f f_43) (KP.refl.upd hWF x_46 t_10 (Or.inl (by decide)) : KP G [1] false f f_43) (by decide) (fo_ty hWF t_8) t_8
    have hKP := hKP.upd hWF x_46 t_10 (Or.inl (by decide))
    have hWF := wf_upd hWF h_45 x_46 (by rw [t_10]; exact ⟨0, v_39, rfl, ⟨by omega, by omega⟩, ⟨by omega, by omega⟩⟩)
    have hr_24 := hr_24.ext x_46 (py_ne_kind hr_24 hr_42 (by decide))
    have tq_49 := hy_eq hr_24
    refine lv_aload_n G0.1 G0.2.1 dX11_spring_17 rfl (lv_at hl 0 rfl) ?_
    refine py_get (C := RX11) (T := TX11) (N := 16) (k := 10) (v := .ref (G.2 x 10)) G0 hw in_X11_spring_X11 rfl hr_24 (by decide) (by decide +kernel) rfl dX11_spring_18 ?_
    refine lv_aload_n G0.1 G0.2.1 dX11_spring_21 rfl (lv_at hl 0 rfl) ?_
    refine py_get (C := RX11) (T := TX11) (N := 16) (k := 5) (v := .ref (G.2 x 5)) G0 hw in_X11_spring_X11 rfl hr_24 (by decide) (by decide +kernel) rfl dX11_spring_22 ?_
    obtain ⟨t_50, t_51, t_52⟩ := wt_7 hG t_11
    obtain ⟨v_53, v_54, hr_56, b_55⟩ := wg_7 hWF t_11
    have bv_53 := wf_free v_53
    refine py_calli hw (va_runV (As := [.ref (G.2 x 5)]) (rest := []) G0 (c_X7_moveAll l E G L f_43 H_44.size (G.2 x 10) (G.2 x 5) hG hWF t_11 t_6 (show 1 ≤ fv_l f_43 (G.2 x 5) by omega)) (cwV 1 G0.2.2.2.2 g_X11_spring_X7_moveAll_232 rfl rfl rfl (by decide +kernel) ⟨(Nat.le_of_ble_eq_true rfl), (Nat.le_of_ble_eq_true rfl)⟩) (py_preV hw (C := RX7) (T := TX7) (N := 5) rfl hr_56) rfl rfl hl.1 rfl (lv_room (Nat.le_of_ble_eq_true rfl)) dX11_spring_25 ⟨(Nat.le_of_ble_eq_true rfl), (Nat.le_of_ble_eq_true rfl)⟩) (fun r_61 L_57 f_58 H_59 locs hp_60 hw => ?_)
    have ht_64 := fo_ty hWF t_6
    have ht_65 := fo_ty hWF t_6
    have ht_66 := fo_ty hWF t_8
    obtain ⟨hWF, hq_62, kp_63⟩ := hp_60
    have hGI := hGI.kp hG Tx ht_64 hq_62 kp_63 (by decide)
    have fq_67 := fv_one hq_62 kp_63 (by decide) ht_65 t_6
    have fq_68 := fv_one hq_62 kp_63 (by decide) ht_66 t_8
    have hKP := hKP.trans kp_63 (by decide) (by decide)
    have h_45 := kp_at kp_63 hWF t_10 (by decide) (by decide) (by decide) h_45
    have hr_24 := kp_at kp_63 hWF Tx (by decide) (by decide) (by decide) hr_24
    have tq_69 := hy_eq hr_24
    have hr_56 := kp_at kp_63 hWF t_11 (by decide) (by decide) (by decide) hr_56
    have br_61 := wf_free r_61
    exact py_iret G0 hr rfl hlk hw ⟨(by first | omega | (intro q; omega)), hWF, hKP, hGI⟩ dX11_spring_28
  · skip
    have tc_34 := ti_eq c_34
    refine lv_iconst (v := (-1)) G0.1 G0.2.1 dX11_spring_7 (by decide) ?_
    exact py_iret G0 hr rfl hlk hw ⟨(by first | omega | (intro q; omega)), hWF, hKP, hGI⟩ dX11_spring_8

def w_X11_tried : List Cond := .code yX11_tried cX11_tried 5 (some .int) :: ([Cond.methodLink RX11 218 yX11_hasValley, Cond.instanceMethod yX11_hasValley, Cond.selects RX11 yX11_hasValley yX11_hasValley, Cond.initialized RX11, Cond.constant RX11 166 (-1000000), Cond.methodLink RX11 296 yX11_mayBeTried, Cond.static yX11_mayBeTried, Cond.methodLink RX11 300 yX11_triedSum, Cond.instanceMethod yX11_triedSum, Cond.selects RX11 yX11_triedSum yX11_triedSum, Cond.methodLink RX11 202 yX11_isLaw, Cond.instanceMethod yX11_isLaw, Cond.selects RX11 yX11_isLaw yX11_isLaw] ++ (w_X11_hasValley ++ (w_X11_mayBeTried ++ (w_X11_triedSum ++ (w_X11_isLaw ++ ([]))))))
theorem gg_X11_tried_X11_hasValley : GoodIn w_X11_tried w_X11_hasValley := goodIn_sub (fun _ h => List.mem_cons_of_mem _ (List.mem_append_right _ (List.mem_append_left _ h))) (by decide +kernel)
theorem gg_X11_tried_X11_mayBeTried : GoodIn w_X11_tried w_X11_mayBeTried := goodIn_sub (fun _ h => List.mem_cons_of_mem _ (List.mem_append_right _ (List.mem_append_right _ (List.mem_append_left _ h)))) (by decide +kernel)
theorem gg_X11_tried_X11_triedSum : GoodIn w_X11_tried w_X11_triedSum := goodIn_sub (fun _ h => List.mem_cons_of_mem _ (List.mem_append_right _ (List.mem_append_right _ (List.mem_append_right _ (List.mem_append_left _ h))))) (by decide +kernel)
theorem gg_X11_tried_X11_isLaw : GoodIn w_X11_tried w_X11_isLaw := goodIn_sub (fun _ h => List.mem_cons_of_mem _ (List.mem_append_right _ (List.mem_append_right _ (List.mem_append_right _ (List.mem_append_right _ (List.mem_append_left _ h)))))) (by decide +kernel)
theorem g_X11_tried_X11_hasValley_218 : GoodIn w_X11_tried (wsV RX11 218 RX11 yX11_hasValley w_X11_hasValley) := goodIn_app (goodIn_of _ (by decide +kernel)) gg_X11_tried_X11_hasValley
theorem g_X11_tried_X11_isLaw_202 : GoodIn w_X11_tried (wsV RX11 202 RX11 yX11_isLaw w_X11_isLaw) := goodIn_app (goodIn_of _ (by decide +kernel)) gg_X11_tried_X11_isLaw
theorem g_X11_tried_X11_mayBeTried_296 : GoodIn w_X11_tried (va_wsS RX11 296 yX11_mayBeTried w_X11_mayBeTried) := goodIn_app (goodIn_of _ (by decide +kernel)) gg_X11_tried_X11_mayBeTried
theorem g_X11_tried_X11_triedSum_300 : GoodIn w_X11_tried (wsV RX11 300 RX11 yX11_triedSum w_X11_triedSum) := goodIn_app (goodIn_of _ (by decide +kernel)) gg_X11_tried_X11_triedSum
set_option maxHeartbeats 4000000 in
set_option maxRecDepth 100000 in
theorem c_X11_tried (l : Launch) (E : py_E) (G : wf_G) (L : List Nat) (f : py_F) (sz : Nat) (x : Nat) (a : Int32) (b : Int32) (q : Int32) (d : Int32) (hG : GT G) (hWF : WF E G L f) (Tx : G.1 x = 12) (hq0 : GI E G f x) : Met l yX11_tried w_X11_tried ({ frames := 6, cells := 0, slots := 0, locals := 149 }) (py_Pc E [.ref x, .int a, .int b, .int q, .int d] L f sz) (py_Qi E L f sz (fun _ L1 f1 => (fv_l f1 (G.2 x 5) = fv_l f (G.2 x 5) ∧ fo_y f1 (G.2 x 5) = fo_y f (G.2 x 5) ∧ fo_y f1 (G.2 x 7) = fo_y f (G.2 x 7)) ∧ WF E G L1 f1 ∧ KP G [3, 24, 26, 37, 30, 21, 32, 33] true f f1 ∧ GI E G f1 x)) 0 0 (va_A (va_pl L f) sz) := by
  refine Met.ofW (cc := cX11_tried) (maxL := 5) (ret := (some .int)) (by decide) rfl ?_
  intro p e s m args below meth c s₁ B hml hv
  obtain ⟨rfl, rfl, hw⟩ := py_start hv
  have G0 : CallFix p m c cX11_tried 5 s _ w_X11_tried RX11 := ⟨B.exec, B.bytes, hml, findClass_of_methodNamed B.named, atoms_spec (ws := w_X11_tried) B.pre⟩
  have hr := B.returns
  have hlk := B.notSynchronized
  have kcm1000000 : (-1000000 : Int32).toInt = -1000000 := rfl
  have kcm1 : (-1 : Int32).toInt = -1 := rfl
  have kc0 : (0 : Int32).toInt = 0 := rfl
  have kc1 : (1 : Int32).toInt = 1 := rfl
  have kc2 : (2 : Int32).toInt = 2 := rfl
  have hl := lv_entry ([.ref x, .int a, .int b, .int q, .int d]) (n := 5) (Nat.le_of_ble_eq_true rfl)
  rw [lg_entry_eq]
  generalize (lg_sl ([.ref x, .int a, .int b, .int q, .int d]) ++ List.replicate (5 - (lg_sl ([.ref x, .int a, .int b, .int q, .int d])).length) Slot.unset).toArray = ls at hl ⊢
  have hl : lv_has ls 5 [(0, .ref x), (1, .int a), (2, .int b), (3, .int q), (4, .int d)] := hl
  have hGI := hq0
  have hKP : KP G [3, 24, 26, 37, 30, 21, 32, 33] true f f := KP.refl
  obtain ⟨t_1, t_2, t_3, t_4, t_5, t_6, t_7, t_8, t_9, t_10, t_11, t_12, t_13, tx_14, tx_15, tx_16, tx_17⟩ := wt_11 hG Tx
  refine lv_aload_n G0.1 G0.2.1 dX11_tried_0 rfl (lv_at hl 0 rfl) ?_
  obtain ⟨v_18, v_19, v_20, hr_24, b_21, b_22, b_23⟩ := wg_11 hWF Tx
  have tq_25 := hy_eq hr_24
  refine py_calli hw (va_runV (As := []) (rest := []) G0 (c_X11_hasValley l E G L f s.heap.size x hG hWF Tx) (cwV 0 G0.2.2.2.2 g_X11_tried_X11_hasValley_218 rfl rfl rfl (by decide +kernel) ⟨(Nat.le_of_ble_eq_true rfl), (Nat.le_of_ble_eq_true rfl)⟩) (py_preV hw (C := RX11) (T := TX11) (N := 16) rfl hr_24) rfl rfl hl.1 rfl (lv_room (Nat.le_of_ble_eq_true rfl)) dX11_tried_1 ⟨(Nat.le_of_ble_eq_true rfl), (Nat.le_of_ble_eq_true rfl)⟩) (fun r_30 L_26 f_27 H_28 locs hp_29 hw => ?_)
  obtain ⟨b_33, en_31, en_32, rfl, rfl⟩ := hp_29
  refine lv_if_eq (tgt := 39) G0.1 G0.2.1 dX11_tried_4 (by decide) (fun c_34 => ?_) (fun c_34 => ?_)
  · skip
    have tc_34 := ti_eq c_34
    refine lv_ldc (v := (-1000000)) G0.1 G0.2.1 G0.2.2.2.1 (G0.2.2.2.2 (Cond.constant RX11 166 (-1000000)) (by decide +kernel)) dX11_tried_39 ?_
    exact py_iret G0 hr rfl hlk hw ⟨(by first | omega | (intro q; omega)), hWF, hKP, hGI⟩ dX11_tried_41
  · skip
    have tc_34 := ti_ne c_34
    refine lv_iload_n G0.1 G0.2.1 dX11_tried_7 rfl (lv_at hl 1 rfl) ?_
    refine lv_iconst (v := (-1)) G0.1 G0.2.1 dX11_tried_8 (by decide) ?_
    refine lv_icmp_eq (tgt := 20) G0.1 G0.2.1 dX11_tried_9 (by decide) (fun c_35 => ?_) (fun c_35 => ?_)
    · skip
      have tc_35 := ti_eq c_35
      refine lv_iload_n G0.1 G0.2.1 dX11_tried_20 rfl (lv_at hl 2 rfl) ?_
      refine lv_iload_n G0.1 G0.2.1 dX11_tried_21 rfl (lv_at hl 3 rfl) ?_
      refine py_calli hw (va_runS (As := [.int b, .int q]) (rest := []) G0 (c_X11_mayBeTried l E G L f H_28.size b q hG hWF) (va_cwS 2 G0.2.2.2.2 g_X11_tried_X11_mayBeTried_296 rfl rfl rfl (by decide +kernel) ⟨(Nat.le_of_ble_eq_true rfl), (Nat.le_of_ble_eq_true rfl)⟩) (py_preS hw) rfl rfl hl.1 rfl (lv_room (Nat.le_of_ble_eq_true rfl)) dX11_tried_22 ⟨(Nat.le_of_ble_eq_true rfl), (Nat.le_of_ble_eq_true rfl)⟩) (fun r_40 L_36 f_37 H_38 locs hp_39 hw => ?_)
      obtain ⟨b_42, en_41, rfl, rfl⟩ := hp_39
      refine lv_if_eq (tgt := 39) G0.1 G0.2.1 dX11_tried_25 (by decide) (fun c_43 => ?_) (fun c_43 => ?_)
      · skip
        have tc_43 := ti_eq c_43
        refine lv_ldc (v := (-1000000)) G0.1 G0.2.1 G0.2.2.2.1 (G0.2.2.2.2 (Cond.constant RX11 166 (-1000000)) (by decide +kernel)) dX11_tried_39 ?_
        exact py_iret G0 hr rfl hlk hw ⟨(by first | omega | (intro q; omega)), hWF, hKP, hGI⟩ dX11_tried_41
      · skip
        have tc_43 := ti_ne c_43
        refine lv_iload G0.1 G0.2.1 dX11_tried_28 (lv_at hl 4 rfl) ?_
        refine lv_if_lt (tgt := 39) G0.1 G0.2.1 dX11_tried_30 (by decide) (fun c_44 => ?_) (fun c_44 => ?_)
        · skip
          have tc_44 := ti_lt c_44
          refine lv_ldc (v := (-1000000)) G0.1 G0.2.1 G0.2.2.2.1 (G0.2.2.2.2 (Cond.constant RX11 166 (-1000000)) (by decide +kernel)) dX11_tried_39 ?_
          exact py_iret G0 hr rfl hlk hw ⟨(by first | omega | (intro q; omega)), hWF, hKP, hGI⟩ dX11_tried_41
        · skip
          have tc_44 := ti_nlt c_44
          refine lv_iload G0.1 G0.2.1 dX11_tried_33 (lv_at hl 4 rfl) ?_
          refine lv_iconst (v := 2) G0.1 G0.2.1 dX11_tried_35 (by decide) ?_
          refine lv_icmp_le (tgt := 42) G0.1 G0.2.1 dX11_tried_36 (by decide) (fun c_45 => ?_) (fun c_45 => ?_)
          · skip
            have tc_45 := ti_le c_45
            refine lv_aload_n G0.1 G0.2.1 dX11_tried_42 rfl (lv_at hl 0 rfl) ?_
            refine lv_iload_n G0.1 G0.2.1 dX11_tried_43 rfl (lv_at hl 1 rfl) ?_
            refine lv_iload_n G0.1 G0.2.1 dX11_tried_44 rfl (lv_at hl 2 rfl) ?_
            refine lv_iload_n G0.1 G0.2.1 dX11_tried_45 rfl (lv_at hl 3 rfl) ?_
            refine lv_iload G0.1 G0.2.1 dX11_tried_46 (lv_at hl 4 rfl) ?_
            refine py_calli hw (va_runV (As := [.int a, .int b, .int q, .int d]) (rest := []) G0 (c_X11_triedSum l E G L f H_38.size x a b q d hG hWF Tx ⟨by omega, by omega⟩ ⟨by omega, by omega⟩ (show 1 ≤ fv_l f (G.2 x 5) by omega) hGI) (cwV 4 G0.2.2.2.2 g_X11_tried_X11_triedSum_300 rfl rfl rfl (by decide +kernel) ⟨(Nat.le_of_ble_eq_true rfl), (Nat.le_of_ble_eq_true rfl)⟩) (py_preV hw (C := RX11) (T := TX11) (N := 16) rfl hr_24) rfl rfl hl.1 rfl (lv_room (Nat.le_of_ble_eq_true rfl)) dX11_tried_48 ⟨(Nat.le_of_ble_eq_true rfl), (Nat.le_of_ble_eq_true rfl)⟩) (fun r_50 L_46 f_47 H_48 locs hp_49 hw => ?_)
            have ht_54 := fo_ty hWF t_6
            have ht_55 := fo_ty hWF t_6
            have ht_56 := fo_ty hWF t_8
            obtain ⟨en_51, hWF, kp_53, hGI⟩ := hp_49
            have hKP := hKP.trans kp_53 (by decide) (by decide)
            have hr_24 := kp_at kp_53 hWF Tx (by decide) (by decide) (by decide) hr_24
            have tq_57 := hy_eq hr_24
            have br_50 := wf_free r_50
            exact py_iret G0 hr rfl hlk hw ⟨(by first | omega | (intro q; omega)), hWF, hKP, hGI⟩ dX11_tried_51
          · skip
            have tc_45 := ti_nle c_45
            refine lv_ldc (v := (-1000000)) G0.1 G0.2.1 G0.2.2.2.1 (G0.2.2.2.2 (Cond.constant RX11 166 (-1000000)) (by decide +kernel)) dX11_tried_39 ?_
            exact py_iret G0 hr rfl hlk hw ⟨(by first | omega | (intro q; omega)), hWF, hKP, hGI⟩ dX11_tried_41
    · skip
      have tc_35 := ti_ne c_35
      refine lv_aload_n G0.1 G0.2.1 dX11_tried_12 rfl (lv_at hl 0 rfl) ?_
      refine lv_iload_n G0.1 G0.2.1 dX11_tried_13 rfl (lv_at hl 1 rfl) ?_
      refine py_calli hw (va_runV (As := [.int a]) (rest := []) G0 (c_X11_isLaw l E G L f H_28.size x a hG hWF Tx) (cwV 1 G0.2.2.2.2 g_X11_tried_X11_isLaw_202 rfl rfl rfl (by decide +kernel) ⟨(Nat.le_of_ble_eq_true rfl), (Nat.le_of_ble_eq_true rfl)⟩) (py_preV hw (C := RX11) (T := TX11) (N := 16) rfl hr_24) rfl rfl hl.1 rfl (lv_room (Nat.le_of_ble_eq_true rfl)) dX11_tried_14 ⟨(Nat.le_of_ble_eq_true rfl), (Nat.le_of_ble_eq_true rfl)⟩) (fun r_62 L_58 f_59 H_60 locs hp_61 hw => ?_)
      obtain ⟨b_65, en_63, en_64, rfl, rfl⟩ := hp_61
      refine lv_if_eq (tgt := 39) G0.1 G0.2.1 dX11_tried_17 (by decide) (fun c_66 => ?_) (fun c_66 => ?_)
      · skip
        have tc_66 := ti_eq c_66
        refine lv_ldc (v := (-1000000)) G0.1 G0.2.1 G0.2.2.2.1 (G0.2.2.2.2 (Cond.constant RX11 166 (-1000000)) (by decide +kernel)) dX11_tried_39 ?_
        exact py_iret G0 hr rfl hlk hw ⟨(by first | omega | (intro q; omega)), hWF, hKP, hGI⟩ dX11_tried_41
      · skip
        have tc_66 := ti_ne c_66
        refine lv_iload_n G0.1 G0.2.1 dX11_tried_20 rfl (lv_at hl 2 rfl) ?_
        refine lv_iload_n G0.1 G0.2.1 dX11_tried_21 rfl (lv_at hl 3 rfl) ?_
        refine py_calli hw (va_runS (As := [.int b, .int q]) (rest := []) G0 (c_X11_mayBeTried l E G L f H_60.size b q hG hWF) (va_cwS 2 G0.2.2.2.2 g_X11_tried_X11_mayBeTried_296 rfl rfl rfl (by decide +kernel) ⟨(Nat.le_of_ble_eq_true rfl), (Nat.le_of_ble_eq_true rfl)⟩) (py_preS hw) rfl rfl hl.1 rfl (lv_room (Nat.le_of_ble_eq_true rfl)) dX11_tried_22 ⟨(Nat.le_of_ble_eq_true rfl), (Nat.le_of_ble_eq_true rfl)⟩) (fun r_71 L_67 f_68 H_69 locs hp_70 hw => ?_)
        obtain ⟨b_73, en_72, rfl, rfl⟩ := hp_70
        refine lv_if_eq (tgt := 39) G0.1 G0.2.1 dX11_tried_25 (by decide) (fun c_74 => ?_) (fun c_74 => ?_)
        · skip
          have tc_74 := ti_eq c_74
          refine lv_ldc (v := (-1000000)) G0.1 G0.2.1 G0.2.2.2.1 (G0.2.2.2.2 (Cond.constant RX11 166 (-1000000)) (by decide +kernel)) dX11_tried_39 ?_
          exact py_iret G0 hr rfl hlk hw ⟨(by first | omega | (intro q; omega)), hWF, hKP, hGI⟩ dX11_tried_41
        · skip
          have tc_74 := ti_ne c_74
          refine lv_iload G0.1 G0.2.1 dX11_tried_28 (lv_at hl 4 rfl) ?_
          refine lv_if_lt (tgt := 39) G0.1 G0.2.1 dX11_tried_30 (by decide) (fun c_75 => ?_) (fun c_75 => ?_)
          · skip
            have tc_75 := ti_lt c_75
            refine lv_ldc (v := (-1000000)) G0.1 G0.2.1 G0.2.2.2.1 (G0.2.2.2.2 (Cond.constant RX11 166 (-1000000)) (by decide +kernel)) dX11_tried_39 ?_
            exact py_iret G0 hr rfl hlk hw ⟨(by first | omega | (intro q; omega)), hWF, hKP, hGI⟩ dX11_tried_41
          · skip
            have tc_75 := ti_nlt c_75
            refine lv_iload G0.1 G0.2.1 dX11_tried_33 (lv_at hl 4 rfl) ?_
            refine lv_iconst (v := 2) G0.1 G0.2.1 dX11_tried_35 (by decide) ?_
            refine lv_icmp_le (tgt := 42) G0.1 G0.2.1 dX11_tried_36 (by decide) (fun c_76 => ?_) (fun c_76 => ?_)
            · skip
              have tc_76 := ti_le c_76
              refine lv_aload_n G0.1 G0.2.1 dX11_tried_42 rfl (lv_at hl 0 rfl) ?_
              refine lv_iload_n G0.1 G0.2.1 dX11_tried_43 rfl (lv_at hl 1 rfl) ?_
              refine lv_iload_n G0.1 G0.2.1 dX11_tried_44 rfl (lv_at hl 2 rfl) ?_
              refine lv_iload_n G0.1 G0.2.1 dX11_tried_45 rfl (lv_at hl 3 rfl) ?_
              refine lv_iload G0.1 G0.2.1 dX11_tried_46 (lv_at hl 4 rfl) ?_
              refine py_calli hw (va_runV (As := [.int a, .int b, .int q, .int d]) (rest := []) G0 (c_X11_triedSum l E G L f H_69.size x a b q d hG hWF Tx ⟨by omega, by omega⟩ ⟨by omega, by omega⟩ (show 1 ≤ fv_l f (G.2 x 5) by omega) hGI) (cwV 4 G0.2.2.2.2 g_X11_tried_X11_triedSum_300 rfl rfl rfl (by decide +kernel) ⟨(Nat.le_of_ble_eq_true rfl), (Nat.le_of_ble_eq_true rfl)⟩) (py_preV hw (C := RX11) (T := TX11) (N := 16) rfl hr_24) rfl rfl hl.1 rfl (lv_room (Nat.le_of_ble_eq_true rfl)) dX11_tried_48 ⟨(Nat.le_of_ble_eq_true rfl), (Nat.le_of_ble_eq_true rfl)⟩) (fun r_81 L_77 f_78 H_79 locs hp_80 hw => ?_)
              have ht_85 := fo_ty hWF t_6
              have ht_86 := fo_ty hWF t_6
              have ht_87 := fo_ty hWF t_8
              obtain ⟨en_82, hWF, kp_84, hGI⟩ := hp_80
              have hKP := hKP.trans kp_84 (by decide) (by decide)
              have hr_24 := kp_at kp_84 hWF Tx (by decide) (by decide) (by decide) hr_24
              have tq_88 := hy_eq hr_24
              have br_81 := wf_free r_81
              exact py_iret G0 hr rfl hlk hw ⟨(by first | omega | (intro q; omega)), hWF, hKP, hGI⟩ dX11_tried_51
            · skip
              have tc_76 := ti_nle c_76
              refine lv_ldc (v := (-1000000)) G0.1 G0.2.1 G0.2.2.2.1 (G0.2.2.2.2 (Cond.constant RX11 166 (-1000000)) (by decide +kernel)) dX11_tried_39 ?_
              exact py_iret G0 hr rfl hlk hw ⟨(by first | omega | (intro q; omega)), hWF, hKP, hGI⟩ dX11_tried_41

def w_X11_reform : List Cond := .code yX11_reform cX11_reform 7 (some .int) :: ([Cond.methodLink RX11 218 yX11_hasValley, Cond.instanceMethod yX11_hasValley, Cond.selects RX11 yX11_hasValley yX11_hasValley, Cond.initialized RX11, Cond.constant RX11 166 (-1000000), Cond.methodLink RX11 296 yX11_mayBeTried, Cond.static yX11_mayBeTried, Cond.methodLink RX11 300 yX11_triedSum, Cond.instanceMethod yX11_triedSum, Cond.selects RX11 yX11_triedSum yX11_triedSum, Cond.fieldLink RX11 94 "HeadYear" "lawCount" "I"] ++ (u_ws RX11 TX11 16 ++ (w_X11_hasValley ++ (w_X11_mayBeTried ++ (w_X11_triedSum ++ ([]))))))
theorem in_X11_reform_X11 : ∀ w ∈ u_ws RX11 TX11 16, w ∈ w_X11_reform := fun _ h => List.mem_cons_of_mem _ (List.mem_append_right _ (List.mem_append_left _ h))
theorem gg_X11_reform_X11_hasValley : GoodIn w_X11_reform w_X11_hasValley := goodIn_sub (fun _ h => List.mem_cons_of_mem _ (List.mem_append_right _ (List.mem_append_right _ (List.mem_append_left _ h)))) (by decide +kernel)
theorem gg_X11_reform_X11_mayBeTried : GoodIn w_X11_reform w_X11_mayBeTried := goodIn_sub (fun _ h => List.mem_cons_of_mem _ (List.mem_append_right _ (List.mem_append_right _ (List.mem_append_right _ (List.mem_append_left _ h))))) (by decide +kernel)
theorem gg_X11_reform_X11_triedSum : GoodIn w_X11_reform w_X11_triedSum := goodIn_sub (fun _ h => List.mem_cons_of_mem _ (List.mem_append_right _ (List.mem_append_right _ (List.mem_append_right _ (List.mem_append_right _ (List.mem_append_left _ h)))))) (by decide +kernel)
theorem g_X11_reform_X11_hasValley_218 : GoodIn w_X11_reform (wsV RX11 218 RX11 yX11_hasValley w_X11_hasValley) := goodIn_app (goodIn_of _ (by decide +kernel)) gg_X11_reform_X11_hasValley
theorem g_X11_reform_X11_mayBeTried_296 : GoodIn w_X11_reform (va_wsS RX11 296 yX11_mayBeTried w_X11_mayBeTried) := goodIn_app (goodIn_of _ (by decide +kernel)) gg_X11_reform_X11_mayBeTried
theorem g_X11_reform_X11_triedSum_300 : GoodIn w_X11_reform (wsV RX11 300 RX11 yX11_triedSum w_X11_triedSum) := goodIn_app (goodIn_of _ (by decide +kernel)) gg_X11_reform_X11_triedSum
set_option maxHeartbeats 4000000 in
set_option maxRecDepth 100000 in
theorem c_X11_reform (l : Launch) (E : py_E) (G : wf_G) (L : List Nat) (f : py_F) (sz : Nat) (x : Nat) (a : Int32) (b : Int32) (hG : GT G) (hWF : WF E G L f) (Tx : G.1 x = 12) (hq0 : GI E G f x) : Met l yX11_reform w_X11_reform ({ frames := 6, cells := 0, slots := 0, locals := 149 }) (py_Pc E [.ref x, .int a, .int b] L f sz) (py_Qi E L f sz (fun _ L1 f1 => (fv_l f1 (G.2 x 5) = fv_l f (G.2 x 5) ∧ fo_y f1 (G.2 x 5) = fo_y f (G.2 x 5) ∧ fo_y f1 (G.2 x 7) = fo_y f (G.2 x 7)) ∧ WF E G L1 f1 ∧ KP G [3, 24, 26, 37, 30, 21, 32, 33] true f f1 ∧ GI E G f1 x)) 0 0 (va_A (va_pl L f) sz) := by
  refine Met.ofW (cc := cX11_reform) (maxL := 7) (ret := (some .int)) (by decide) rfl ?_
  intro p e s m args below meth c s₁ B hml hv
  obtain ⟨rfl, rfl, hw⟩ := py_start hv
  have G0 : CallFix p m c cX11_reform 7 s _ w_X11_reform RX11 := ⟨B.exec, B.bytes, hml, findClass_of_methodNamed B.named, atoms_spec (ws := w_X11_reform) B.pre⟩
  have hr := B.returns
  have hlk := B.notSynchronized
  have kcm1000000 : (-1000000 : Int32).toInt = -1000000 := rfl
  have kcm1 : (-1 : Int32).toInt = -1 := rfl
  have kc0 : (0 : Int32).toInt = 0 := rfl
  have kc1 : (1 : Int32).toInt = 1 := rfl
  have hl := lv_entry ([.ref x, .int a, .int b]) (n := 7) (Nat.le_of_ble_eq_true rfl)
  rw [lg_entry_eq]
  generalize (lg_sl ([.ref x, .int a, .int b]) ++ List.replicate (7 - (lg_sl ([.ref x, .int a, .int b])).length) Slot.unset).toArray = ls at hl ⊢
  have hl : lv_has ls 7 [(0, .ref x), (1, .int a), (2, .int b)] := hl
  have hGI := hq0
  have hKP : KP G [3, 24, 26, 37, 30, 21, 32, 33] true f f := KP.refl
  obtain ⟨t_1, t_2, t_3, t_4, t_5, t_6, t_7, t_8, t_9, t_10, t_11, t_12, t_13, tx_14, tx_15, tx_16, tx_17⟩ := wt_11 hG Tx
  refine lv_aload_n G0.1 G0.2.1 dX11_reform_0 rfl (lv_at hl 0 rfl) ?_
  obtain ⟨v_18, v_19, v_20, hr_24, b_21, b_22, b_23⟩ := wg_11 hWF Tx
  have tq_25 := hy_eq hr_24
  refine py_calli hw (va_runV (As := []) (rest := []) G0 (c_X11_hasValley l E G L f s.heap.size x hG hWF Tx) (cwV 0 G0.2.2.2.2 g_X11_reform_X11_hasValley_218 rfl rfl rfl (by decide +kernel) ⟨(Nat.le_of_ble_eq_true rfl), (Nat.le_of_ble_eq_true rfl)⟩) (py_preV hw (C := RX11) (T := TX11) (N := 16) rfl hr_24) rfl rfl hl.1 rfl (lv_room (Nat.le_of_ble_eq_true rfl)) dX11_reform_1 ⟨(Nat.le_of_ble_eq_true rfl), (Nat.le_of_ble_eq_true rfl)⟩) (fun r_30 L_26 f_27 H_28 locs hp_29 hw => ?_)
  obtain ⟨b_33, en_31, en_32, rfl, rfl⟩ := hp_29
  refine lv_if_eq (tgt := 15) G0.1 G0.2.1 dX11_reform_4 (by decide) (fun c_34 => ?_) (fun c_34 => ?_)
  · skip
    have tc_34 := ti_eq c_34
    refine lv_ldc (v := (-1000000)) G0.1 G0.2.1 G0.2.2.2.1 (G0.2.2.2.2 (Cond.constant RX11 166 (-1000000)) (by decide +kernel)) dX11_reform_15 ?_
    exact py_iret G0 hr rfl hlk hw ⟨(by first | omega | (intro q; omega)), hWF, hKP, hGI⟩ dX11_reform_17
  · skip
    have tc_34 := ti_ne c_34
    refine lv_iload_n G0.1 G0.2.1 dX11_reform_7 rfl (lv_at hl 1 rfl) ?_
    refine lv_iload_n G0.1 G0.2.1 dX11_reform_8 rfl (lv_at hl 2 rfl) ?_
    refine py_calli hw (va_runS (As := [.int a, .int b]) (rest := []) G0 (c_X11_mayBeTried l E G L f H_28.size a b hG hWF) (va_cwS 2 G0.2.2.2.2 g_X11_reform_X11_mayBeTried_296 rfl rfl rfl (by decide +kernel) ⟨(Nat.le_of_ble_eq_true rfl), (Nat.le_of_ble_eq_true rfl)⟩) (py_preS hw) rfl rfl hl.1 rfl (lv_room (Nat.le_of_ble_eq_true rfl)) dX11_reform_9 ⟨(Nat.le_of_ble_eq_true rfl), (Nat.le_of_ble_eq_true rfl)⟩) (fun r_39 L_35 f_36 H_37 locs hp_38 hw => ?_)
    obtain ⟨b_41, en_40, rfl, rfl⟩ := hp_38
    refine lv_if_ne (tgt := 18) G0.1 G0.2.1 dX11_reform_12 (by decide) (fun c_42 => ?_) (fun c_42 => ?_)
    · skip
      have tc_42 := ti_ne c_42
      refine lv_iconst (v := (-1)) G0.1 G0.2.1 dX11_reform_18 (by decide) ?_
      refine lv_istore_n (lv' := [(3, .int (-1)), (0, .ref x), (1, .int a), (2, .int b)]) G0.1 G0.2.1 dX11_reform_19 rfl hl (by decide) rfl (fun ls hl => ?_)
      refine lv_aload_n G0.1 G0.2.1 dX11_reform_20 rfl (lv_at hl 1 rfl) ?_
      refine lv_iconst (v := (-1)) G0.1 G0.2.1 dX11_reform_21 (by decide) ?_
      refine lv_iload_n G0.1 G0.2.1 dX11_reform_22 rfl (lv_at hl 2 rfl) ?_
      refine lv_iload_n G0.1 G0.2.1 dX11_reform_23 rfl (lv_at hl 3 rfl) ?_
      refine lv_iconst (v := 0) G0.1 G0.2.1 dX11_reform_24 (by decide) ?_
      refine py_calli hw (va_runV (As := [.int (-1), .int a, .int b, .int 0]) (rest := []) G0 (c_X11_triedSum l E G L f H_37.size x (-1) a b 0 hG hWF Tx ⟨by omega, by omega⟩ ⟨by omega, by omega⟩ (show 1 ≤ fv_l f (G.2 x 5) by omega) hGI) (cwV 4 G0.2.2.2.2 g_X11_reform_X11_triedSum_300 rfl rfl rfl (by decide +kernel) ⟨(Nat.le_of_ble_eq_true rfl), (Nat.le_of_ble_eq_true rfl)⟩) (py_preV hw (C := RX11) (T := TX11) (N := 16) rfl hr_24) rfl rfl hl.1 rfl (lv_room (Nat.le_of_ble_eq_true rfl)) dX11_reform_25 ⟨(Nat.le_of_ble_eq_true rfl), (Nat.le_of_ble_eq_true rfl)⟩) (fun r_47 L_43 f_44 H_45 locs hp_46 hw => ?_)
      have ht_51 := fo_ty hWF t_6
      have ht_52 := fo_ty hWF t_6
      have ht_53 := fo_ty hWF t_8
      obtain ⟨en_48, hWF, kp_50, hGI⟩ := hp_46
      have hKP := hKP.trans kp_50 (by decide) (by decide)
      have hr_24 := kp_at kp_50 hWF Tx (by decide) (by decide) (by decide) hr_24
      have tq_54 := hy_eq hr_24
      have br_47 := wf_free r_47
      refine lv_istore (lv' := [(4, .int r_47), (3, .int (-1)), (0, .ref x), (1, .int a), (2, .int b)]) G0.1 G0.2.1 dX11_reform_28 hl (by decide) rfl (fun ls hl => ?_)
      refine lv_iconst (v := 0) G0.1 G0.2.1 dX11_reform_30 (by decide) ?_
      refine lv_istore (lv' := [(5, .int 0), (4, .int r_47), (3, .int (-1)), (0, .ref x), (1, .int a), (2, .int b)]) G0.1 G0.2.1 dX11_reform_31 hl (by decide) rfl (fun ls hl => ?_)
      have lo_33 : ∀ n_33 : Nat, ∀ (v_55 : Int32) (v_56 : Int32) (v_57 : Int32) (L_j33 : List Nat) (f_j33 : py_F) (H_j33 : Heap) (locs : List Loc) (ls : Array Slot), (2147483647 - v_55.toInt).toNat = n_33 → (0 ≤ v_55.toInt ∧ v_55.toInt ≤ 2147483647) → WF E G L_j33 f_j33 → KP G [3, 24, 26, 37, 30, 21, 32, 33] true f f_j33 → GI E G f_j33 x → (fv_l f_j33 (G.2 x 5) = fv_l f (G.2 x 5) ∧ fo_y f_j33 (G.2 x 5) = fo_y f (G.2 x 5) ∧ fo_y f_j33 (G.2 x 7) = fo_y f (G.2 x 7)) → py_W E (va_A (va_pl L f) s.heap.size) s L_j33 f_j33 H_j33 locs → lv_has ls 7 [(5, .int v_55), (4, .int v_56), (3, .int v_57), (0, .ref x), (1, .int a), (2, .int b)] → W p l e (headSpec w_X11_reform ({ frames := 6, cells := 0, slots := 0, locals := 149 })).room s m ([.ref x, .int a, .int b] : List Value).toArray below meth c H_j33 locs 0 0 (MQ below (py_Qi E L f s.heap.size (fun _ L1 f1 => (fv_l f1 (G.2 x 5) = fv_l f (G.2 x 5) ∧ fo_y f1 (G.2 x 5) = fo_y f (G.2 x 5) ∧ fo_y f1 (G.2 x 7) = fo_y f (G.2 x 7)) ∧ WF E G L1 f1 ∧ KP G [3, 24, 26, 37, 30, 21, 32, 33] true f f1 ∧ GI E G f1 x)) ([.ref x, .int a, .int b] : List Value).toArray s 0 0 (va_A (va_pl L f) s.heap.size)) (F0 m 33 ls []) := by
        intro n_33
        induction n_33 using Nat.strongRecOn with
        | _ n_33 ih_33 =>
          intro v_55 v_56 v_57 L_j33 f_j33 H_j33 locs ls hn_33 bv_55 hWF hKP hGI iv0 hw hl
          refine lv_iload G0.1 G0.2.1 dX11_reform_33 (lv_at hl 0 rfl) ?_
          refine lv_aload_n G0.1 G0.2.1 dX11_reform_35 rfl (lv_at hl 3 rfl) ?_
          obtain ⟨v_58, v_59, v_60, hr_64, b_61, b_62, b_63⟩ := wg_11 hWF Tx
          have tq_65 := hy_eq hr_64
          refine py_get (C := RX11) (T := TX11) (N := 16) (k := 13) (v := .int v_58) G0 hw in_X11_reform_X11 rfl hr_64 (by decide) (by decide +kernel) rfl dX11_reform_36 ?_
          refine lv_icmp_ge (tgt := 73) G0.1 G0.2.1 dX11_reform_39 (by decide) (fun c_66 => ?_) (fun c_66 => ?_)
          · skip
            have tc_66 := ti_le c_66
            refine lv_iload_n G0.1 G0.2.1 dX11_reform_73 rfl (lv_at hl 2 rfl) ?_
            exact py_iret G0 hr rfl hlk hw ⟨(by first | omega | (intro q; omega)), hWF, hKP, hGI⟩ dX11_reform_74
          · skip
            have tc_66 := ti_nle c_66
            refine lv_aload_n G0.1 G0.2.1 dX11_reform_42 rfl (lv_at hl 3 rfl) ?_
            refine lv_iload G0.1 G0.2.1 dX11_reform_43 (lv_at hl 0 rfl) ?_
            refine lv_iload_n G0.1 G0.2.1 dX11_reform_45 rfl (lv_at hl 4 rfl) ?_
            refine lv_iload_n G0.1 G0.2.1 dX11_reform_46 rfl (lv_at hl 5 rfl) ?_
            refine lv_iconst (v := 0) G0.1 G0.2.1 dX11_reform_47 (by decide) ?_
            refine py_calli hw (va_runV (As := [.int v_55, .int a, .int b, .int 0]) (rest := []) G0 (c_X11_triedSum l E G L_j33 f_j33 H_j33.size x v_55 a b 0 hG hWF Tx ⟨by omega, by omega⟩ ⟨by omega, by omega⟩ (show 1 ≤ fv_l f_j33 (G.2 x 5) by omega) hGI) (cwV 4 G0.2.2.2.2 g_X11_reform_X11_triedSum_300 rfl rfl rfl (by decide +kernel) ⟨(Nat.le_of_ble_eq_true rfl), (Nat.le_of_ble_eq_true rfl)⟩) (py_preV hw (C := RX11) (T := TX11) (N := 16) rfl hr_64) rfl rfl hl.1 rfl (lv_room (Nat.le_of_ble_eq_true rfl)) dX11_reform_48 ⟨(Nat.le_of_ble_eq_true rfl), (Nat.le_of_ble_eq_true rfl)⟩) (fun r_71 L_67 f_68 H_69 locs hp_70 hw => ?_)
            have ht_75 := fo_ty hWF t_6
            have ht_76 := fo_ty hWF t_6
            have ht_77 := fo_ty hWF t_8
            obtain ⟨en_72, hWF, kp_74, hGI⟩ := hp_70
            have hKP := hKP.trans kp_74 (by decide) (by decide)
            have hr_64 := kp_at kp_74 hWF Tx (by decide) (by decide) (by decide) hr_64
            have tq_78 := hy_eq hr_64
            have br_71 := wf_free r_71
            refine lv_istore (lv' := [(6, .int r_71), (5, .int v_55), (4, .int v_56), (3, .int v_57), (0, .ref x), (1, .int a), (2, .int b)]) G0.1 G0.2.1 dX11_reform_51 hl (by decide) rfl (fun ls hl => ?_)
            refine lv_iload G0.1 G0.2.1 dX11_reform_53 (lv_at hl 0 rfl) ?_
            refine lv_iload G0.1 G0.2.1 dX11_reform_55 (lv_at hl 2 rfl) ?_
            refine lv_icmp_le (tgt := 67) G0.1 G0.2.1 dX11_reform_57 (by decide) (fun c_79 => ?_) (fun c_79 => ?_)
            · skip
              have tc_79 := ti_le c_79
              obtain ⟨x_80, ex_80⟩ : ∃ y : Int32, y = v_55 + 1 := ⟨_, rfl⟩
              first | have tx_80 := ti_add ex_80 (by omega) (by omega) | skip
              refine lv_iinc (v := x_80) (lv' := [(5, .int x_80), (6, .int r_71), (4, .int v_56), (3, .int v_57), (0, .ref x), (1, .int a), (2, .int b)]) G0.1 G0.2.1 dX11_reform_67 hl (k := 1) rfl (show _ + (1 : Int32) = _ from ex_80.symm) (by decide) rfl (fun ls hl => ?_)
              refine lv_goto (tgt := 33) G0.1 G0.2.1 dX11_reform_70 (by decide) ?_
              exact ih_33 ((2147483647 - x_80.toInt).toNat) (by omega) x_80 v_56 v_57 L_67 f_68 _ _ ls rfl ⟨by omega, by omega⟩ hWF hKP hGI (by first | omega | (intros; omega)) hw (lv_sub hl [0, 2, 3, 4, 5, 6] rfl)
            · skip
              have tc_79 := ti_nle c_79
              refine lv_iload G0.1 G0.2.1 dX11_reform_60 (lv_at hl 0 rfl) ?_
              refine lv_istore (lv' := [(4, .int r_71), (6, .int r_71), (5, .int v_55), (3, .int v_57), (0, .ref x), (1, .int a), (2, .int b)]) G0.1 G0.2.1 dX11_reform_62 hl (by decide) rfl (fun ls hl => ?_)
              refine lv_iload G0.1 G0.2.1 dX11_reform_64 (lv_at hl 2 rfl) ?_
              refine lv_istore_n (lv' := [(3, .int v_55), (4, .int r_71), (6, .int r_71), (5, .int v_55), (0, .ref x), (1, .int a), (2, .int b)]) G0.1 G0.2.1 dX11_reform_66 rfl hl (by decide) rfl (fun ls hl => ?_)
              obtain ⟨x_81, ex_81⟩ : ∃ y : Int32, y = v_55 + 1 := ⟨_, rfl⟩
              first | have tx_81 := ti_add ex_81 (by omega) (by omega) | skip
              refine lv_iinc (v := x_81) (lv' := [(5, .int x_81), (3, .int v_55), (4, .int r_71), (6, .int r_71), (0, .ref x), (1, .int a), (2, .int b)]) G0.1 G0.2.1 dX11_reform_67 hl (k := 3) rfl (show _ + (1 : Int32) = _ from ex_81.symm) (by decide) rfl (fun ls hl => ?_)
              refine lv_goto (tgt := 33) G0.1 G0.2.1 dX11_reform_70 (by decide) ?_
              exact ih_33 ((2147483647 - x_81.toInt).toNat) (by omega) x_81 r_71 v_55 L_67 f_68 _ _ ls rfl ⟨by omega, by omega⟩ hWF hKP hGI (by first | omega | (intros; omega)) hw (lv_sub hl [0, 2, 1, 4, 5, 6] rfl)
      exact lo_33 _ 0 r_47 (-1) L_43 f_44 _ _ ls rfl ⟨by omega, by omega⟩ hWF hKP hGI (by first | omega | (intros; omega)) hw (lv_sub hl [0, 1, 2, 3, 4, 5] rfl)
    · skip
      have tc_42 := ti_eq c_42
      refine lv_ldc (v := (-1000000)) G0.1 G0.2.1 G0.2.2.2.1 (G0.2.2.2.2 (Cond.constant RX11 166 (-1000000)) (by decide +kernel)) dX11_reform_15 ?_
      exact py_iret G0 hr rfl hlk hw ⟨(by first | omega | (intro q; omega)), hWF, hKP, hGI⟩ dX11_reform_17

def w_X11_advice : List Cond := .code yX11_advice cX11_advice 10 (some .int) :: ([Cond.methodLink RX11 246 yX11_lives, Cond.instanceMethod yX11_lives, Cond.selects RX11 yX11_lives yX11_lives, Cond.initialized RX11, Cond.constant RX11 166 (-1000000), Cond.methodLink RX11 296 yX11_mayBeTried, Cond.static yX11_mayBeTried, Cond.methodLink RX11 267 yX11_isZeroOrOne, Cond.static yX11_isZeroOrOne, Cond.fieldLink RX11 47 "HeadYear" "folk" "LHeadYear$Folk;", Cond.fieldLink RX11 188 "HeadYear$Folk" "bought" "[I", Cond.methodLink RX11 249 yX11_mayBeBought, Cond.static yX11_mayBeBought, Cond.methodLink RX11 344 yX11_ownHeads, Cond.instanceMethod yX11_ownHeads, Cond.selects RX11 yX11_ownHeads yX11_ownHeads] ++ (u_ws RX11 TX11 16 ++ (u_ws RX2 TX2 12 ++ (w_X11_lives ++ (w_X11_mayBeTried ++ (w_X11_isZeroOrOne ++ (w_X11_mayBeBought ++ (w_X11_ownHeads ++ ([])))))))))
theorem in_X11_advice_X11 : ∀ w ∈ u_ws RX11 TX11 16, w ∈ w_X11_advice := fun _ h => List.mem_cons_of_mem _ (List.mem_append_right _ (List.mem_append_left _ h))
theorem in_X11_advice_X2 : ∀ w ∈ u_ws RX2 TX2 12, w ∈ w_X11_advice := fun _ h => List.mem_cons_of_mem _ (List.mem_append_right _ (List.mem_append_right _ (List.mem_append_left _ h)))
theorem gg_X11_advice_X11_lives : GoodIn w_X11_advice w_X11_lives := goodIn_sub (fun _ h => List.mem_cons_of_mem _ (List.mem_append_right _ (List.mem_append_right _ (List.mem_append_right _ (List.mem_append_left _ h))))) (by decide +kernel)
theorem gg_X11_advice_X11_mayBeTried : GoodIn w_X11_advice w_X11_mayBeTried := goodIn_sub (fun _ h => List.mem_cons_of_mem _ (List.mem_append_right _ (List.mem_append_right _ (List.mem_append_right _ (List.mem_append_right _ (List.mem_append_left _ h)))))) (by decide +kernel)
theorem gg_X11_advice_X11_isZeroOrOne : GoodIn w_X11_advice w_X11_isZeroOrOne := goodIn_sub (fun _ h => List.mem_cons_of_mem _ (List.mem_append_right _ (List.mem_append_right _ (List.mem_append_right _ (List.mem_append_right _ (List.mem_append_right _ (List.mem_append_left _ h))))))) (by decide +kernel)
theorem gg_X11_advice_X11_mayBeBought : GoodIn w_X11_advice w_X11_mayBeBought := goodIn_sub (fun _ h => List.mem_cons_of_mem _ (List.mem_append_right _ (List.mem_append_right _ (List.mem_append_right _ (List.mem_append_right _ (List.mem_append_right _ (List.mem_append_right _ (List.mem_append_left _ h)))))))) (by decide +kernel)
theorem gg_X11_advice_X11_ownHeads : GoodIn w_X11_advice w_X11_ownHeads := goodIn_sub (fun _ h => List.mem_cons_of_mem _ (List.mem_append_right _ (List.mem_append_right _ (List.mem_append_right _ (List.mem_append_right _ (List.mem_append_right _ (List.mem_append_right _ (List.mem_append_right _ (List.mem_append_left _ h))))))))) (by decide +kernel)
theorem g_X11_advice_X11_isZeroOrOne_267 : GoodIn w_X11_advice (va_wsS RX11 267 yX11_isZeroOrOne w_X11_isZeroOrOne) := goodIn_app (goodIn_of _ (by decide +kernel)) gg_X11_advice_X11_isZeroOrOne
theorem g_X11_advice_X11_lives_246 : GoodIn w_X11_advice (wsV RX11 246 RX11 yX11_lives w_X11_lives) := goodIn_app (goodIn_of _ (by decide +kernel)) gg_X11_advice_X11_lives
theorem g_X11_advice_X11_mayBeBought_249 : GoodIn w_X11_advice (va_wsS RX11 249 yX11_mayBeBought w_X11_mayBeBought) := goodIn_app (goodIn_of _ (by decide +kernel)) gg_X11_advice_X11_mayBeBought
theorem g_X11_advice_X11_mayBeTried_296 : GoodIn w_X11_advice (va_wsS RX11 296 yX11_mayBeTried w_X11_mayBeTried) := goodIn_app (goodIn_of _ (by decide +kernel)) gg_X11_advice_X11_mayBeTried
theorem g_X11_advice_X11_ownHeads_344 : GoodIn w_X11_advice (wsV RX11 344 RX11 yX11_ownHeads w_X11_ownHeads) := goodIn_app (goodIn_of _ (by decide +kernel)) gg_X11_advice_X11_ownHeads
set_option maxHeartbeats 4000000 in
set_option maxRecDepth 100000 in
theorem c_X11_advice (l : Launch) (E : py_E) (G : wf_G) (L : List Nat) (f : py_F) (sz : Nat) (x : Nat) (a : Int32) (b : Int32) (q : Int32) (d : Int32) (hG : GT G) (hWF : WF E G L f) (Tx : G.1 x = 12) (hq0 : GI E G f x) : Met l yX11_advice w_X11_advice ({ frames := 6, cells := 0, slots := 0, locals := 149 }) (py_Pc E [.ref x, .int a, .int b, .int q, .int d] L f sz) (py_Qi E L f sz (fun _ L1 f1 => (fv_l f1 (G.2 x 5) = fv_l f (G.2 x 5) ∧ fo_y f1 (G.2 x 5) = fo_y f (G.2 x 5) ∧ fo_y f1 (G.2 x 7) = fo_y f (G.2 x 7)) ∧ WF E G L1 f1 ∧ KP G [3, 24, 26, 37, 30, 21, 32, 33] true f f1 ∧ GI E G f1 x)) 0 0 (va_A (va_pl L f) sz) := by
  refine Met.ofW (cc := cX11_advice) (maxL := 10) (ret := (some .int)) (by decide) rfl ?_
  intro p e s m args below meth c s₁ B hml hv
  obtain ⟨rfl, rfl, hw⟩ := py_start hv
  have G0 : CallFix p m c cX11_advice 10 s _ w_X11_advice RX11 := ⟨B.exec, B.bytes, hml, findClass_of_methodNamed B.named, atoms_spec (ws := w_X11_advice) B.pre⟩
  have hr := B.returns
  have hlk := B.notSynchronized
  have kcm1000000 : (-1000000 : Int32).toInt = -1000000 := rfl
  have kcm1 : (-1 : Int32).toInt = -1 := rfl
  have kc0 : (0 : Int32).toInt = 0 := rfl
  have kc1 : (1 : Int32).toInt = 1 := rfl
  have kc2 : (2 : Int32).toInt = 2 := rfl
  have kc12 : (12 : Int32).toInt = 12 := rfl
  have hl := lv_entry ([.ref x, .int a, .int b, .int q, .int d]) (n := 10) (Nat.le_of_ble_eq_true rfl)
  rw [lg_entry_eq]
  generalize (lg_sl ([.ref x, .int a, .int b, .int q, .int d]) ++ List.replicate (10 - (lg_sl ([.ref x, .int a, .int b, .int q, .int d])).length) Slot.unset).toArray = ls at hl ⊢
  have hl : lv_has ls 10 [(0, .ref x), (1, .int a), (2, .int b), (3, .int q), (4, .int d)] := hl
  have hGI := hq0
  have hKP : KP G [3, 24, 26, 37, 30, 21, 32, 33] true f f := KP.refl
  obtain ⟨t_1, t_2, t_3, t_4, t_5, t_6, t_7, t_8, t_9, t_10, t_11, t_12, t_13, tx_14, tx_15, tx_16, tx_17⟩ := wt_11 hG Tx
  refine lv_aload_n G0.1 G0.2.1 dX11_advice_0 rfl (lv_at hl 0 rfl) ?_
  refine lv_iload_n G0.1 G0.2.1 dX11_advice_1 rfl (lv_at hl 1 rfl) ?_
  obtain ⟨v_18, v_19, v_20, hr_24, b_21, b_22, b_23⟩ := wg_11 hWF Tx
  have tq_25 := hy_eq hr_24
  refine py_calli hw (va_runV (As := [.int a]) (rest := []) G0 (c_X11_lives l E G L f s.heap.size x a hG hWF Tx) (cwV 1 G0.2.2.2.2 g_X11_advice_X11_lives_246 rfl rfl rfl (by decide +kernel) ⟨(Nat.le_of_ble_eq_true rfl), (Nat.le_of_ble_eq_true rfl)⟩) (py_preV hw (C := RX11) (T := TX11) (N := 16) rfl hr_24) rfl rfl hl.1 rfl (lv_room (Nat.le_of_ble_eq_true rfl)) dX11_advice_2 ⟨(Nat.le_of_ble_eq_true rfl), (Nat.le_of_ble_eq_true rfl)⟩) (fun r_30 L_26 f_27 H_28 locs hp_29 hw => ?_)
  obtain ⟨b_32, en_31, rfl, rfl⟩ := hp_29
  refine lv_if_eq (tgt := 24) G0.1 G0.2.1 dX11_advice_5 (by decide) (fun c_33 => ?_) (fun c_33 => ?_)
  · skip
    have tc_33 := ti_eq c_33
    refine lv_ldc (v := (-1000000)) G0.1 G0.2.1 G0.2.2.2.1 (G0.2.2.2.2 (Cond.constant RX11 166 (-1000000)) (by decide +kernel)) dX11_advice_24 ?_
    exact py_iret G0 hr rfl hlk hw ⟨(by first | omega | (intro q; omega)), hWF, hKP, hGI⟩ dX11_advice_26
  · skip
    have tc_33 := ti_ne c_33
    refine lv_iload_n G0.1 G0.2.1 dX11_advice_8 rfl (lv_at hl 2 rfl) ?_
    refine lv_iload_n G0.1 G0.2.1 dX11_advice_9 rfl (lv_at hl 3 rfl) ?_
    refine py_calli hw (va_runS (As := [.int b, .int q]) (rest := []) G0 (c_X11_mayBeTried l E G L f H_28.size b q hG hWF) (va_cwS 2 G0.2.2.2.2 g_X11_advice_X11_mayBeTried_296 rfl rfl rfl (by decide +kernel) ⟨(Nat.le_of_ble_eq_true rfl), (Nat.le_of_ble_eq_true rfl)⟩) (py_preS hw) rfl rfl hl.1 rfl (lv_room (Nat.le_of_ble_eq_true rfl)) dX11_advice_10 ⟨(Nat.le_of_ble_eq_true rfl), (Nat.le_of_ble_eq_true rfl)⟩) (fun r_38 L_34 f_35 H_36 locs hp_37 hw => ?_)
    obtain ⟨b_40, en_39, rfl, rfl⟩ := hp_37
    refine lv_if_eq (tgt := 24) G0.1 G0.2.1 dX11_advice_13 (by decide) (fun c_41 => ?_) (fun c_41 => ?_)
    · skip
      have tc_41 := ti_eq c_41
      refine lv_ldc (v := (-1000000)) G0.1 G0.2.1 G0.2.2.2.1 (G0.2.2.2.2 (Cond.constant RX11 166 (-1000000)) (by decide +kernel)) dX11_advice_24 ?_
      exact py_iret G0 hr rfl hlk hw ⟨(by first | omega | (intro q; omega)), hWF, hKP, hGI⟩ dX11_advice_26
    · skip
      have tc_41 := ti_ne c_41
      refine lv_iload G0.1 G0.2.1 dX11_advice_16 (lv_at hl 4 rfl) ?_
      refine py_calli hw (va_runS (As := [.int d]) (rest := []) G0 (c_X11_isZeroOrOne l E G L f H_36.size d hG hWF) (va_cwS 1 G0.2.2.2.2 g_X11_advice_X11_isZeroOrOne_267 rfl rfl rfl (by decide +kernel) ⟨(Nat.le_of_ble_eq_true rfl), (Nat.le_of_ble_eq_true rfl)⟩) (py_preS hw) rfl rfl hl.1 rfl (lv_room (Nat.le_of_ble_eq_true rfl)) dX11_advice_18 ⟨(Nat.le_of_ble_eq_true rfl), (Nat.le_of_ble_eq_true rfl)⟩) (fun r_46 L_42 f_43 H_44 locs hp_45 hw => ?_)
      obtain ⟨b_48, en_47, rfl, rfl⟩ := hp_45
      refine lv_if_ne (tgt := 27) G0.1 G0.2.1 dX11_advice_21 (by decide) (fun c_49 => ?_) (fun c_49 => ?_)
      · skip
        have tc_49 := ti_ne c_49
        have hgl := hGI.2.1.2.1
        refine lv_iconst (v := 0) G0.1 G0.2.1 dX11_advice_27 (by decide) ?_
        refine lv_istore (lv' := [(5, .int 0), (0, .ref x), (1, .int a), (2, .int b), (3, .int q), (4, .int d)]) G0.1 G0.2.1 dX11_advice_28 hl (by decide) rfl (fun ls hl => ?_)
        refine lv_iconst (v := (-1)) G0.1 G0.2.1 dX11_advice_30 (by decide) ?_
        refine lv_istore (lv' := [(6, .int (-1)), (5, .int 0), (0, .ref x), (1, .int a), (2, .int b), (3, .int q), (4, .int d)]) G0.1 G0.2.1 dX11_advice_31 hl (by decide) rfl (fun ls hl => ?_)
        refine lv_iconst (v := 0) G0.1 G0.2.1 dX11_advice_33 (by decide) ?_
        refine lv_istore (lv' := [(7, .int 0), (6, .int (-1)), (5, .int 0), (0, .ref x), (1, .int a), (2, .int b), (3, .int q), (4, .int d)]) G0.1 G0.2.1 dX11_advice_34 hl (by decide) rfl (fun ls hl => ?_)
        have lo_36 : ∀ n_36 : Nat, ∀ (v_50 : Int32) (v_51 : Int32) (v_52 : Int32) (L_j36 : List Nat) (f_j36 : py_F) (H_j36 : Heap) (locs : List Loc) (ls : Array Slot), (2147483647 - v_50.toInt).toNat = n_36 → (0 ≤ v_50.toInt ∧ v_50.toInt ≤ 2147483647) → WF E G L_j36 f_j36 → KP G [3, 24, 26, 37, 30, 21, 32, 33] true f f_j36 → GI E G f_j36 x → (fv_l f_j36 (G.2 x 5) = fv_l f (G.2 x 5) ∧ fo_y f_j36 (G.2 x 5) = fo_y f (G.2 x 5) ∧ fo_y f_j36 (G.2 x 7) = fo_y f (G.2 x 7)) → py_W E (va_A (va_pl L f) s.heap.size) s L_j36 f_j36 H_j36 locs → lv_has ls 10 [(7, .int v_50), (6, .int v_51), (5, .int v_52), (0, .ref x), (1, .int a), (2, .int b), (3, .int q), (4, .int d)] → W p l e (headSpec w_X11_advice ({ frames := 6, cells := 0, slots := 0, locals := 149 })).room s m ([.ref x, .int a, .int b, .int q, .int d] : List Value).toArray below meth c H_j36 locs 0 0 (MQ below (py_Qi E L f s.heap.size (fun _ L1 f1 => (fv_l f1 (G.2 x 5) = fv_l f (G.2 x 5) ∧ fo_y f1 (G.2 x 5) = fo_y f (G.2 x 5) ∧ fo_y f1 (G.2 x 7) = fo_y f (G.2 x 7)) ∧ WF E G L1 f1 ∧ KP G [3, 24, 26, 37, 30, 21, 32, 33] true f f1 ∧ GI E G f1 x)) ([.ref x, .int a, .int b, .int q, .int d] : List Value).toArray s 0 0 (va_A (va_pl L f) s.heap.size)) (F0 m 36 ls []) := by
          intro n_36
          induction n_36 using Nat.strongRecOn with
          | _ n_36 ih_36 =>
            intro v_50 v_51 v_52 L_j36 f_j36 H_j36 locs ls hn_36 bv_50 hWF hKP hGI iv0 hw hl
            refine lv_iload G0.1 G0.2.1 dX11_advice_36 (lv_at hl 0 rfl) ?_
            refine lv_bipush (v := 12) G0.1 G0.2.1 dX11_advice_38 (by decide) ?_
            refine lv_icmp_gt (tgt := 117) G0.1 G0.2.1 dX11_advice_40 (by decide) (fun c_53 => ?_) (fun c_53 => ?_)
            · skip
              have tc_53 := ti_lt c_53
              refine lv_iload G0.1 G0.2.1 dX11_advice_117 (lv_at hl 7 rfl) ?_
              have jn_129 : ∀ (v_54 : Int32) (H_j129 : Heap) (locs : List Loc) (ls : Array Slot), py_W E (va_A (va_pl L f) s.heap.size) s L_j36 f_j36 H_j129 locs → lv_has ls 10 [(7, .int v_50), (6, .int v_51), (5, .int v_52), (0, .ref x), (1, .int a), (2, .int b), (3, .int q), (4, .int d)] → W p l e (headSpec w_X11_advice ({ frames := 6, cells := 0, slots := 0, locals := 149 })).room s m ([.ref x, .int a, .int b, .int q, .int d] : List Value).toArray below meth c H_j129 locs 0 0 (MQ below (py_Qi E L f s.heap.size (fun _ L1 f1 => (fv_l f1 (G.2 x 5) = fv_l f (G.2 x 5) ∧ fo_y f1 (G.2 x 5) = fo_y f (G.2 x 5) ∧ fo_y f1 (G.2 x 7) = fo_y f (G.2 x 7)) ∧ WF E G L1 f1 ∧ KP G [3, 24, 26, 37, 30, 21, 32, 33] true f f1 ∧ GI E G f1 x)) ([.ref x, .int a, .int b, .int q, .int d] : List Value).toArray s 0 0 (va_A (va_pl L f) s.heap.size)) (F0 m 129 ls [.int v_54]) := by
                intro v_54 H_j129 locs ls hw hl
                exact py_iret G0 hr rfl hlk hw ⟨(by first | omega | (intro q; omega)), hWF, hKP, hGI⟩ dX11_advice_129
              refine lv_if_ne (tgt := 127) G0.1 G0.2.1 dX11_advice_119 (by decide) (fun c_55 => ?_) (fun c_55 => ?_)
              · skip
                have tc_55 := ti_ne c_55
                refine lv_iload G0.1 G0.2.1 dX11_advice_127 (lv_at hl 1 rfl) ?_
                exact jn_129 v_51 _ _ ls hw (lv_sub hl [0, 1, 2, 3, 4, 5, 6, 7] rfl)
              · skip
                have tc_55 := ti_eq c_55
                refine lv_iload G0.1 G0.2.1 dX11_advice_122 (lv_at hl 2 rfl) ?_
                refine lv_goto (tgt := 129) G0.1 G0.2.1 dX11_advice_124 (by decide) ?_
                exact jn_129 v_52 _ _ ls hw (lv_sub hl [0, 1, 2, 3, 4, 5, 6, 7] rfl)
            · skip
              have tc_53 := ti_nlt c_53
              refine lv_iload G0.1 G0.2.1 dX11_advice_43 (lv_at hl 0 rfl) ?_
              refine lv_iconst (v := 2) G0.1 G0.2.1 dX11_advice_45 (by decide) ?_
              refine lv_irem G0.1 G0.2.1 dX11_advice_46 (by decide) ?_
              refine lv_topi (fun x_56 ex_56 => ?_)
              refine lv_iconst (v := 1) G0.1 G0.2.1 dX11_advice_47 (by decide) ?_
              have jn_65 : ∀ (v_57 : Int32) (H_j65 : Heap) (locs : List Loc) (ls : Array Slot), py_W E (va_A (va_pl L f) s.heap.size) s L_j36 f_j36 H_j65 locs → lv_has ls 10 [(7, .int v_50), (6, .int v_51), (5, .int v_52), (0, .ref x), (1, .int a), (2, .int b), (3, .int q), (4, .int d)] → W p l e (headSpec w_X11_advice ({ frames := 6, cells := 0, slots := 0, locals := 149 })).room s m ([.ref x, .int a, .int b, .int q, .int d] : List Value).toArray below meth c H_j65 locs 0 0 (MQ below (py_Qi E L f s.heap.size (fun _ L1 f1 => (fv_l f1 (G.2 x 5) = fv_l f (G.2 x 5) ∧ fo_y f1 (G.2 x 5) = fo_y f (G.2 x 5) ∧ fo_y f1 (G.2 x 7) = fo_y f (G.2 x 7)) ∧ WF E G L1 f1 ∧ KP G [3, 24, 26, 37, 30, 21, 32, 33] true f f1 ∧ GI E G f1 x)) ([.ref x, .int a, .int b, .int q, .int d] : List Value).toArray s 0 0 (va_A (va_pl L f) s.heap.size)) (F0 m 65 ls [.int v_57]) := by
                intro v_57 H_j65 locs ls hw hl
                refine lv_istore (lv' := [(8, .int v_57), (7, .int v_50), (6, .int v_51), (5, .int v_52), (0, .ref x), (1, .int a), (2, .int b), (3, .int q), (4, .int d)]) G0.1 G0.2.1 dX11_advice_65 hl (by decide) rfl (fun ls hl => ?_)
                refine lv_aload_n G0.1 G0.2.1 dX11_advice_67 rfl (lv_at hl 4 rfl) ?_
                obtain ⟨v_58, v_59, v_60, hr_64, b_61, b_62, b_63⟩ := wg_11 hWF Tx
                have tq_65 := hy_eq hr_64
                refine py_get (C := RX11) (T := TX11) (N := 16) (k := 5) (v := .ref (G.2 x 5)) G0 hw in_X11_advice_X11 rfl hr_64 (by decide) (by decide +kernel) rfl dX11_advice_68 ?_
                obtain ⟨t_66, t_67, t_68, t_69, t_70, t_71, t_72, t_73, t_74⟩ := wt_2 hG t_6
                obtain ⟨r_75, y_76, v_77, hr_80, ty_78, b_79⟩ := wg_2 hWF t_6
                refine py_get (C := RX2) (T := TX2) (N := 12) (k := 6) (v := .ref (G.2 (G.2 x 5) 6)) G0 hw in_X11_advice_X2 rfl hr_80 (by decide) (by decide +kernel) rfl dX11_advice_71 ?_
                refine lv_iload_n G0.1 G0.2.1 dX11_advice_74 rfl (lv_at hl 5 rfl) ?_
                obtain ⟨g_81, ha_82, hi_83⟩ := wf_arr (n := 10) (lo := (-2147483648)) (hi := 2147483647) hWF t_72 (by decide) (fun _ => rfl)
                have rg_84 : vp_in a 10 := ti_in (by omega) (by omega)
                refine py_iald G0 hw ha_82 rg_84 dX11_advice_75 ?_
                refine lv_topi (fun x_85 ex_85 => ?_)
                have bx_85 := wf_free x_85
                refine lv_iload G0.1 G0.2.1 dX11_advice_76 (lv_at hl 0 rfl) ?_
                refine lv_iadd G0.1 G0.2.1 dX11_advice_78 ?_
                refine lv_topi (fun x_86 ex_86 => ?_)
                first | have tx_86 := ti_add ex_86 (by omega) (by omega) | skip
                refine py_calli hw (va_runS (As := [.int x_86]) (rest := []) G0 (c_X11_mayBeBought l E G L_j36 f_j36 H_j65.size x_86 hG hWF) (va_cwS 1 G0.2.2.2.2 g_X11_advice_X11_mayBeBought_249 rfl rfl rfl (by decide +kernel) ⟨(Nat.le_of_ble_eq_true rfl), (Nat.le_of_ble_eq_true rfl)⟩) (py_preS hw) rfl rfl hl.1 rfl (lv_room (Nat.le_of_ble_eq_true rfl)) dX11_advice_79 ⟨(Nat.le_of_ble_eq_true rfl), (Nat.le_of_ble_eq_true rfl)⟩) (fun r_91 L_87 f_88 H_89 locs hp_90 hw => ?_)
                obtain ⟨b_93, en_92, rfl, rfl⟩ := hp_90
                refine lv_if_eq (tgt := 111) G0.1 G0.2.1 dX11_advice_82 (by decide) (fun c_94 => ?_) (fun c_94 => ?_)
                · skip
                  have tc_94 := ti_eq c_94
                  obtain ⟨x_95, ex_95⟩ : ∃ y : Int32, y = v_50 + 1 := ⟨_, rfl⟩
                  first | have tx_95 := ti_add ex_95 (by omega) (by omega) | skip
                  refine lv_iinc (v := x_95) (lv' := [(7, .int x_95), (8, .int v_57), (6, .int v_51), (5, .int v_52), (0, .ref x), (1, .int a), (2, .int b), (3, .int q), (4, .int d)]) G0.1 G0.2.1 dX11_advice_111 hl (k := 1) rfl (show _ + (1 : Int32) = _ from ex_95.symm) (by decide) rfl (fun ls hl => ?_)
                  refine lv_goto (tgt := 36) G0.1 G0.2.1 dX11_advice_114 (by decide) ?_
                  exact ih_36 ((2147483647 - x_95.toInt).toNat) (by omega) x_95 v_51 v_52 L_j36 f_j36 _ _ ls rfl ⟨by omega, by omega⟩ hWF hKP hGI (by first | omega | (intros; omega)) hw (lv_sub hl [0, 2, 3, 4, 5, 6, 7, 8] rfl)
                · skip
                  have tc_94 := ti_ne c_94
                  refine lv_aload_n G0.1 G0.2.1 dX11_advice_85 rfl (lv_at hl 4 rfl) ?_
                  refine lv_iload_n G0.1 G0.2.1 dX11_advice_86 rfl (lv_at hl 5 rfl) ?_
                  refine lv_iload G0.1 G0.2.1 dX11_advice_87 (lv_at hl 0 rfl) ?_
                  refine lv_iload_n G0.1 G0.2.1 dX11_advice_89 rfl (lv_at hl 6 rfl) ?_
                  refine lv_iload_n G0.1 G0.2.1 dX11_advice_90 rfl (lv_at hl 7 rfl) ?_
                  refine py_calli hw (va_runV (As := [.int a, .int v_57, .int b, .int q]) (rest := []) G0 (c_X11_ownHeads l E G L_j36 f_j36 H_89.size x a v_57 b q hG hWF Tx ⟨by omega, by omega⟩ ⟨by omega, by omega⟩ ⟨by omega, by omega⟩ (show 1 ≤ fv_l f_j36 (G.2 x 5) by omega) hGI) (cwV 4 G0.2.2.2.2 g_X11_advice_X11_ownHeads_344 rfl rfl rfl (by decide +kernel) ⟨(Nat.le_of_ble_eq_true rfl), (Nat.le_of_ble_eq_true rfl)⟩) (py_preV hw (C := RX11) (T := TX11) (N := 16) rfl hr_64) rfl rfl hl.1 rfl (lv_room (Nat.le_of_ble_eq_true rfl)) dX11_advice_91 ⟨(Nat.le_of_ble_eq_true rfl), (Nat.le_of_ble_eq_true rfl)⟩) (fun r_100 L_96 f_97 H_98 locs hp_99 hw => ?_)
                  have ht_104 := fo_ty hWF t_6
                  have ht_105 := fo_ty hWF t_6
                  have ht_106 := fo_ty hWF t_8
                  obtain ⟨en_101, hWF, kp_103, hGI⟩ := hp_99
                  have hKP := hKP.trans kp_103 (by decide) (by decide)
                  have hr_64 := kp_at kp_103 hWF Tx (by decide) (by decide) (by decide) hr_64
                  have tq_107 := hy_eq hr_64
                  have br_100 := wf_free r_100
                  refine lv_istore (lv' := [(9, .int r_100), (8, .int v_57), (7, .int v_50), (6, .int v_51), (5, .int v_52), (0, .ref x), (1, .int a), (2, .int b), (3, .int q), (4, .int d)]) G0.1 G0.2.1 dX11_advice_94 hl (by decide) rfl (fun ls hl => ?_)
                  refine lv_iload G0.1 G0.2.1 dX11_advice_96 (lv_at hl 0 rfl) ?_
                  refine lv_iload G0.1 G0.2.1 dX11_advice_98 (lv_at hl 3 rfl) ?_
                  refine lv_icmp_le (tgt := 111) G0.1 G0.2.1 dX11_advice_100 (by decide) (fun c_108 => ?_) (fun c_108 => ?_)
                  · skip
                    have tc_108 := ti_le c_108
                    obtain ⟨x_109, ex_109⟩ : ∃ y : Int32, y = v_50 + 1 := ⟨_, rfl⟩
                    first | have tx_109 := ti_add ex_109 (by omega) (by omega) | skip
                    refine lv_iinc (v := x_109) (lv' := [(7, .int x_109), (9, .int r_100), (8, .int v_57), (6, .int v_51), (5, .int v_52), (0, .ref x), (1, .int a), (2, .int b), (3, .int q), (4, .int d)]) G0.1 G0.2.1 dX11_advice_111 hl (k := 2) rfl (show _ + (1 : Int32) = _ from ex_109.symm) (by decide) rfl (fun ls hl => ?_)
                    refine lv_goto (tgt := 36) G0.1 G0.2.1 dX11_advice_114 (by decide) ?_
                    exact ih_36 ((2147483647 - x_109.toInt).toNat) (by omega) x_109 v_51 v_52 L_96 f_97 _ _ ls rfl ⟨by omega, by omega⟩ hWF hKP hGI (by first | omega | (intros; omega)) hw (lv_sub hl [0, 3, 4, 5, 6, 7, 8, 9] rfl)
                  · skip
                    have tc_108 := ti_nle c_108
                    refine lv_iload G0.1 G0.2.1 dX11_advice_103 (lv_at hl 0 rfl) ?_
                    refine lv_istore (lv' := [(6, .int r_100), (9, .int r_100), (8, .int v_57), (7, .int v_50), (5, .int v_52), (0, .ref x), (1, .int a), (2, .int b), (3, .int q), (4, .int d)]) G0.1 G0.2.1 dX11_advice_105 hl (by decide) rfl (fun ls hl => ?_)
                    refine lv_iload G0.1 G0.2.1 dX11_advice_107 (lv_at hl 2 rfl) ?_
                    refine lv_istore (lv' := [(5, .int v_57), (6, .int r_100), (9, .int r_100), (8, .int v_57), (7, .int v_50), (0, .ref x), (1, .int a), (2, .int b), (3, .int q), (4, .int d)]) G0.1 G0.2.1 dX11_advice_109 hl (by decide) rfl (fun ls hl => ?_)
                    obtain ⟨x_110, ex_110⟩ : ∃ y : Int32, y = v_50 + 1 := ⟨_, rfl⟩
                    first | have tx_110 := ti_add ex_110 (by omega) (by omega) | skip
                    refine lv_iinc (v := x_110) (lv' := [(7, .int x_110), (5, .int v_57), (6, .int r_100), (9, .int r_100), (8, .int v_57), (0, .ref x), (1, .int a), (2, .int b), (3, .int q), (4, .int d)]) G0.1 G0.2.1 dX11_advice_111 hl (k := 4) rfl (show _ + (1 : Int32) = _ from ex_110.symm) (by decide) rfl (fun ls hl => ?_)
                    refine lv_goto (tgt := 36) G0.1 G0.2.1 dX11_advice_114 (by decide) ?_
                    exact ih_36 ((2147483647 - x_110.toInt).toNat) (by omega) x_110 r_100 v_57 L_96 f_97 _ _ ls rfl ⟨by omega, by omega⟩ hWF hKP hGI (by first | omega | (intros; omega)) hw (lv_sub hl [0, 2, 1, 5, 6, 7, 8, 9] rfl)
              refine lv_icmp_ne (tgt := 61) G0.1 G0.2.1 dX11_advice_48 (by decide) (fun c_111 => ?_) (fun c_111 => ?_)
              · skip
                have tc_111 := ti_ne c_111
                refine lv_iload G0.1 G0.2.1 dX11_advice_61 (lv_at hl 0 rfl) ?_
                refine lv_iconst (v := 2) G0.1 G0.2.1 dX11_advice_63 (by decide) ?_
                refine lv_idiv G0.1 G0.2.1 dX11_advice_64 (by decide) ?_
                refine lv_topi (fun x_112 ex_112 => ?_)
                exact jn_65 x_112 _ _ ls hw (lv_sub hl [0, 1, 2, 3, 4, 5, 6, 7] rfl)
              · skip
                have tc_111 := ti_eq c_111
                refine lv_iload G0.1 G0.2.1 dX11_advice_51 (lv_at hl 0 rfl) ?_
                refine lv_iconst (v := 1) G0.1 G0.2.1 dX11_advice_53 (by decide) ?_
                refine lv_iadd G0.1 G0.2.1 dX11_advice_54 ?_
                refine lv_topi (fun x_113 ex_113 => ?_)
                first | have tx_113 := ti_add ex_113 (by omega) (by omega) | skip
                refine lv_ineg G0.1 G0.2.1 dX11_advice_55 ?_
                refine lv_topi (fun x_114 ex_114 => ?_)
                refine lv_iconst (v := 2) G0.1 G0.2.1 dX11_advice_56 (by decide) ?_
                refine lv_idiv G0.1 G0.2.1 dX11_advice_57 (by decide) ?_
                refine lv_topi (fun x_115 ex_115 => ?_)
                refine lv_goto (tgt := 65) G0.1 G0.2.1 dX11_advice_58 (by decide) ?_
                exact jn_65 x_115 _ _ ls hw (lv_sub hl [0, 1, 2, 3, 4, 5, 6, 7] rfl)
        exact lo_36 _ 0 (-1) 0 L f _ _ ls rfl ⟨by omega, by omega⟩ hWF hKP hGI (by first | omega | (intros; omega)) hw (lv_sub hl [0, 1, 2, 3, 4, 5, 6, 7] rfl)
      · skip
        have tc_49 := ti_eq c_49
        refine lv_ldc (v := (-1000000)) G0.1 G0.2.1 G0.2.2.2.1 (G0.2.2.2.2 (Cond.constant RX11 166 (-1000000)) (by decide +kernel)) dX11_advice_24 ?_
        exact py_iret G0 hr rfl hlk hw ⟨(by first | omega | (intro q; omega)), hWF, hKP, hGI⟩ dX11_advice_26

def w_X11_odds : List Cond := .code yX11_odds cX11_odds 4 (some .int) :: ([Cond.methodLink RX11 246 yX11_lives, Cond.instanceMethod yX11_lives, Cond.selects RX11 yX11_lives yX11_lives, Cond.initialized RX11, Cond.constant RX11 166 (-1000000), Cond.fieldLink RX11 90 "HeadYear" "chances" "LHeadYear$Odds;", Cond.fieldLink RX11 98 "HeadYear" "heldLaw" "I", Cond.methodLink RX11 225 yX11_lawOf, Cond.instanceMethod yX11_lawOf, Cond.selects RX11 yX11_lawOf yX11_lawOf, Cond.methodLink RX11 285 yX6_run, Cond.instanceMethod yX6_run, Cond.selects RX6 yX6_run yX6_run, Cond.initialized RX6, Cond.methodLink RX11 292 yX6_partsAt, Cond.instanceMethod yX6_partsAt, Cond.selects RX6 yX6_partsAt yX6_partsAt, Cond.fieldLink RX11 289 "HeadYear$Odds" "gone" "J", Cond.methodLink RX11 132 yX11_isLevel, Cond.instanceMethod yX11_isLevel, Cond.selects RX11 yX11_isLevel yX11_isLevel] ++ (u_ws RX11 TX11 16 ++ (u_ws RX6 TX6 7 ++ (w_X11_lives ++ (w_X11_lawOf ++ (w_X6_run ++ (w_X6_partsAt ++ (w_X11_isLevel ++ ([])))))))))
theorem in_X11_odds_X11 : ∀ w ∈ u_ws RX11 TX11 16, w ∈ w_X11_odds := fun _ h => List.mem_cons_of_mem _ (List.mem_append_right _ (List.mem_append_left _ h))
theorem in_X11_odds_X6 : ∀ w ∈ u_ws RX6 TX6 7, w ∈ w_X11_odds := fun _ h => List.mem_cons_of_mem _ (List.mem_append_right _ (List.mem_append_right _ (List.mem_append_left _ h)))
theorem gg_X11_odds_X11_lives : GoodIn w_X11_odds w_X11_lives := goodIn_sub (fun _ h => List.mem_cons_of_mem _ (List.mem_append_right _ (List.mem_append_right _ (List.mem_append_right _ (List.mem_append_left _ h))))) (by decide +kernel)
theorem gg_X11_odds_X11_lawOf : GoodIn w_X11_odds w_X11_lawOf := goodIn_sub (fun _ h => List.mem_cons_of_mem _ (List.mem_append_right _ (List.mem_append_right _ (List.mem_append_right _ (List.mem_append_right _ (List.mem_append_left _ h)))))) (by decide +kernel)
theorem gg_X11_odds_X6_run : GoodIn w_X11_odds w_X6_run := goodIn_sub (fun _ h => List.mem_cons_of_mem _ (List.mem_append_right _ (List.mem_append_right _ (List.mem_append_right _ (List.mem_append_right _ (List.mem_append_right _ (List.mem_append_left _ h))))))) (by decide +kernel)
theorem gg_X11_odds_X6_partsAt : GoodIn w_X11_odds w_X6_partsAt := goodIn_sub (fun _ h => List.mem_cons_of_mem _ (List.mem_append_right _ (List.mem_append_right _ (List.mem_append_right _ (List.mem_append_right _ (List.mem_append_right _ (List.mem_append_right _ (List.mem_append_left _ h)))))))) (by decide +kernel)
theorem gg_X11_odds_X11_isLevel : GoodIn w_X11_odds w_X11_isLevel := goodIn_sub (fun _ h => List.mem_cons_of_mem _ (List.mem_append_right _ (List.mem_append_right _ (List.mem_append_right _ (List.mem_append_right _ (List.mem_append_right _ (List.mem_append_right _ (List.mem_append_right _ (List.mem_append_left _ h))))))))) (by decide +kernel)
theorem g_X11_odds_X11_isLevel_132 : GoodIn w_X11_odds (wsV RX11 132 RX11 yX11_isLevel w_X11_isLevel) := goodIn_app (goodIn_of _ (by decide +kernel)) gg_X11_odds_X11_isLevel
theorem g_X11_odds_X11_lawOf_225 : GoodIn w_X11_odds (wsV RX11 225 RX11 yX11_lawOf w_X11_lawOf) := goodIn_app (goodIn_of _ (by decide +kernel)) gg_X11_odds_X11_lawOf
theorem g_X11_odds_X11_lives_246 : GoodIn w_X11_odds (wsV RX11 246 RX11 yX11_lives w_X11_lives) := goodIn_app (goodIn_of _ (by decide +kernel)) gg_X11_odds_X11_lives
theorem g_X11_odds_X6_partsAt_292 : GoodIn w_X11_odds (wsV RX11 292 RX6 yX6_partsAt w_X6_partsAt) := goodIn_app (goodIn_of _ (by decide +kernel)) gg_X11_odds_X6_partsAt
theorem g_X11_odds_X6_run_285 : GoodIn w_X11_odds (wsV RX11 285 RX6 yX6_run w_X6_run) := goodIn_app (goodIn_of _ (by decide +kernel)) gg_X11_odds_X6_run
set_option maxHeartbeats 4000000 in
set_option maxRecDepth 100000 in
theorem c_X11_odds (l : Launch) (E : py_E) (G : wf_G) (L : List Nat) (f : py_F) (sz : Nat) (x : Nat) (a : Int32) (b : Int32) (q : Int32) (hG : GT G) (hWF : WF E G L f) (Tx : G.1 x = 12) (hq0 : GI E G f x) : Met l yX11_odds w_X11_odds ({ frames := 6, cells := 0, slots := 0, locals := 158 }) (py_Pc E [.ref x, .int a, .int b, .int q] L f sz) (py_Qi E L f sz (fun _ L1 f1 => WF E G L1 f1 ∧ KP G [7, 34, 35, 32, 21] false f f1 ∧ GI E G f1 x)) 0 0 (va_A (va_pl L f) sz) := by
  refine Met.ofW (cc := cX11_odds) (maxL := 4) (ret := (some .int)) (by decide) rfl ?_
  intro p e s m args below meth c s₁ B hml hv
  obtain ⟨rfl, rfl, hw⟩ := py_start hv
  have G0 : CallFix p m c cX11_odds 4 s _ w_X11_odds RX11 := ⟨B.exec, B.bytes, hml, findClass_of_methodNamed B.named, atoms_spec (ws := w_X11_odds) B.pre⟩
  have hr := B.returns
  have hlk := B.notSynchronized
  have kcm1000000 : (-1000000 : Int32).toInt = -1000000 := rfl
  have kcm1 : (-1 : Int32).toInt = -1 := rfl
  have kc0 : (0 : Int32).toInt = 0 := rfl
  have kc1 : (1 : Int32).toInt = 1 := rfl
  have kc9 : (9 : Int32).toInt = 9 := rfl
  have hl := lv_entry ([.ref x, .int a, .int b, .int q]) (n := 4) (Nat.le_of_ble_eq_true rfl)
  rw [lg_entry_eq]
  generalize (lg_sl ([.ref x, .int a, .int b, .int q]) ++ List.replicate (4 - (lg_sl ([.ref x, .int a, .int b, .int q])).length) Slot.unset).toArray = ls at hl ⊢
  have hl : lv_has ls 4 [(0, .ref x), (1, .int a), (2, .int b), (3, .int q)] := hl
  have hGI := hq0
  have hKP : KP G [7, 34, 35, 32, 21] false f f := KP.refl
  obtain ⟨t_1, t_2, t_3, t_4, t_5, t_6, t_7, t_8, t_9, t_10, t_11, t_12, t_13, tx_14, tx_15, tx_16, tx_17⟩ := wt_11 hG Tx
  refine lv_aload_n G0.1 G0.2.1 dX11_odds_0 rfl (lv_at hl 0 rfl) ?_
  refine lv_iload_n G0.1 G0.2.1 dX11_odds_1 rfl (lv_at hl 1 rfl) ?_
  obtain ⟨v_18, v_19, v_20, hr_24, b_21, b_22, b_23⟩ := wg_11 hWF Tx
  have tq_25 := hy_eq hr_24
  refine py_calli hw (va_runV (As := [.int a]) (rest := []) G0 (c_X11_lives l E G L f s.heap.size x a hG hWF Tx) (cwV 1 G0.2.2.2.2 g_X11_odds_X11_lives_246 rfl rfl rfl (by decide +kernel) ⟨(Nat.le_of_ble_eq_true rfl), (Nat.le_of_ble_eq_true rfl)⟩) (py_preV hw (C := RX11) (T := TX11) (N := 16) rfl hr_24) rfl rfl hl.1 rfl (lv_room (Nat.le_of_ble_eq_true rfl)) dX11_odds_2 ⟨(Nat.le_of_ble_eq_true rfl), (Nat.le_of_ble_eq_true rfl)⟩) (fun r_30 L_26 f_27 H_28 locs hp_29 hw => ?_)
  obtain ⟨b_32, en_31, rfl, rfl⟩ := hp_29
  refine lv_if_eq (tgt := 32) G0.1 G0.2.1 dX11_odds_5 (by decide) (fun c_33 => ?_) (fun c_33 => ?_)
  · skip
    have tc_33 := ti_eq c_33
    refine lv_ldc (v := (-1000000)) G0.1 G0.2.1 G0.2.2.2.1 (G0.2.2.2.2 (Cond.constant RX11 166 (-1000000)) (by decide +kernel)) dX11_odds_32 ?_
    exact py_iret G0 hr rfl hlk hw ⟨hWF, hKP, hGI⟩ dX11_odds_34
  · skip
    have tc_33 := ti_ne c_33
    refine lv_iload_n G0.1 G0.2.1 dX11_odds_8 rfl (lv_at hl 2 rfl) ?_
    refine lv_iconst (v := 1) G0.1 G0.2.1 dX11_odds_9 (by decide) ?_
    refine lv_icmp_lt (tgt := 32) G0.1 G0.2.1 dX11_odds_10 (by decide) (fun c_34 => ?_) (fun c_34 => ?_)
    · skip
      have tc_34 := ti_lt c_34
      refine lv_ldc (v := (-1000000)) G0.1 G0.2.1 G0.2.2.2.1 (G0.2.2.2.2 (Cond.constant RX11 166 (-1000000)) (by decide +kernel)) dX11_odds_32 ?_
      exact py_iret G0 hr rfl hlk hw ⟨hWF, hKP, hGI⟩ dX11_odds_34
    · skip
      have tc_34 := ti_nlt c_34
      refine lv_iload_n G0.1 G0.2.1 dX11_odds_13 rfl (lv_at hl 2 rfl) ?_
      refine lv_bipush (v := 9) G0.1 G0.2.1 dX11_odds_14 (by decide) ?_
      refine lv_icmp_gt (tgt := 32) G0.1 G0.2.1 dX11_odds_16 (by decide) (fun c_35 => ?_) (fun c_35 => ?_)
      · skip
        have tc_35 := ti_lt c_35
        refine lv_ldc (v := (-1000000)) G0.1 G0.2.1 G0.2.2.2.1 (G0.2.2.2.2 (Cond.constant RX11 166 (-1000000)) (by decide +kernel)) dX11_odds_32 ?_
        exact py_iret G0 hr rfl hlk hw ⟨hWF, hKP, hGI⟩ dX11_odds_34
      · skip
        have tc_35 := ti_nlt c_35
        refine lv_iload_n G0.1 G0.2.1 dX11_odds_19 rfl (lv_at hl 3 rfl) ?_
        refine lv_iconst (v := (-1)) G0.1 G0.2.1 dX11_odds_20 (by decide) ?_
        refine lv_icmp_eq (tgt := 35) G0.1 G0.2.1 dX11_odds_21 (by decide) (fun c_36 => ?_) (fun c_36 => ?_)
        · skip
          have tc_36 := ti_eq c_36
          have hrl := rlv_ari hG hWF t_6 (hGI.1 _ t_6) (i := a) (by omega) (by omega)
          have hod : 0 ≤ ari f (G.2 (G.2 (G.2 x 12) 2) 1) a := by rw [tx_17]; omega
          refine lv_aload_n G0.1 G0.2.1 dX11_odds_35 rfl (lv_at hl 0 rfl) ?_
          refine py_get (C := RX11) (T := TX11) (N := 16) (k := 12) (v := .ref (G.2 x 12)) G0 hw in_X11_odds_X11 rfl hr_24 (by decide) (by decide +kernel) rfl dX11_odds_36 ?_
          refine lv_iload_n G0.1 G0.2.1 dX11_odds_39 rfl (lv_at hl 1 rfl) ?_
          refine lv_aload_n G0.1 G0.2.1 dX11_odds_40 rfl (lv_at hl 0 rfl) ?_
          refine lv_aload_n G0.1 G0.2.1 dX11_odds_41 rfl (lv_at hl 0 rfl) ?_
          refine py_get (C := RX11) (T := TX11) (N := 16) (k := 14) (v := .int v_19) G0 hw in_X11_odds_X11 rfl hr_24 (by decide) (by decide +kernel) rfl dX11_odds_42 ?_
          refine py_callr hw (va_runV (As := [.int v_19]) (rest := [.int a, .ref (G.2 x 12)]) G0 (c_X11_lawOf l E G L f H_28.size x v_19 hG hWF Tx hGI.2.2.2) (cwV 1 G0.2.2.2.2 g_X11_odds_X11_lawOf_225 rfl rfl rfl (by decide +kernel) ⟨(Nat.le_of_ble_eq_true rfl), (Nat.le_of_ble_eq_true rfl)⟩) (py_preV hw (C := RX11) (T := TX11) (N := 16) rfl hr_24) rfl rfl hl.1 rfl (lv_room (Nat.le_of_ble_eq_true rfl)) dX11_odds_45 ⟨(Nat.le_of_ble_eq_true rfl), (Nat.le_of_ble_eq_true rfl)⟩) (fun r_41 L_37 f_38 H_39 locs hp_40 hw => ?_)
          obtain ⟨en_42, rfl, rfl⟩ := hp_40
          refine lv_iload_n G0.1 G0.2.1 dX11_odds_48 rfl (lv_at hl 2 rfl) ?_
          obtain ⟨t_43, t_44, t_45⟩ := wt_6 hG t_13
          obtain ⟨r_46, r_47, r_48, y_49, hr_53, ty_50, ty_51, ty_52⟩ := wg_6 hWF t_13
          refine py_callv hw (va_runV (As := [.int a, .ref r_41, .int b]) (rest := []) G0 (c_X6_run l E G L f H_39.size (G.2 x 12) a r_41 b hG hWF t_13 ⟨by omega, by omega⟩ en_42 ⟨by omega, by omega⟩ (show 0 ≤ ari f (G.2 (G.2 (G.2 x 12) 2) 1) a by omega)) (cwV 3 G0.2.2.2.2 g_X11_odds_X6_run_285 rfl rfl rfl (by decide +kernel) ⟨(Nat.le_of_ble_eq_true rfl), (Nat.le_of_ble_eq_true rfl)⟩) (py_preV hw (C := RX6) (T := TX6) (N := 7) rfl hr_53) rfl rfl hl.1 rfl (lv_room (Nat.le_of_ble_eq_true rfl)) dX11_odds_49 ⟨(Nat.le_of_ble_eq_true rfl), (Nat.le_of_ble_eq_true rfl)⟩) (fun L_54 f_55 H_56 locs hp_57 hw => ?_)
          have ht_61 := fo_ty hWF t_6
          obtain ⟨hWF, hq_59, kp_60⟩ := hp_57
          have hGI := hGI.kp hG Tx ht_61 hq_59 kp_60 (by decide)
          have hKP := hKP.trans kp_60 (by decide) (by decide)
          have hr_24 := kp_at kp_60 hWF Tx (by decide) (by decide) (by decide) hr_24
          have tq_62 := hy_eq hr_24
          refine lv_iload_n G0.1 G0.2.1 dX11_odds_52 rfl (lv_at hl 3 rfl) ?_
          refine lv_iconst (v := (-1)) G0.1 G0.2.1 dX11_odds_53 (by decide) ?_
          have jn_75 : ∀ (v_63 : Int64) (H_j75 : Heap) (locs : List Loc) (ls : Array Slot), py_W E (va_A (va_pl L f) s.heap.size) s L_54 f_55 H_j75 locs → lv_has ls 4 [(0, .ref x), (1, .int a), (2, .int b), (3, .int q)] → W p l e (headSpec w_X11_odds ({ frames := 6, cells := 0, slots := 0, locals := 158 })).room s m ([.ref x, .int a, .int b, .int q] : List Value).toArray below meth c H_j75 locs 0 0 (MQ below (py_Qi E L f s.heap.size (fun _ L1 f1 => WF E G L1 f1 ∧ KP G [7, 34, 35, 32, 21] false f f1 ∧ GI E G f1 x)) ([.ref x, .int a, .int b, .int q] : List Value).toArray s 0 0 (va_A (va_pl L f) s.heap.size)) (F0 m 75 ls [.long v_63]) := by
            intro v_63 H_j75 locs ls hw hl
            refine lv_l2i G0.1 G0.2.1 dX11_odds_75 rfl ?_
            refine lv_topi (fun x_64 ex_64 => ?_)
            exact py_iret G0 hr rfl hlk hw ⟨hWF, hKP, hGI⟩ dX11_odds_76
          refine lv_icmp_ne (tgt := 67) G0.1 G0.2.1 dX11_odds_54 (by decide) (fun c_65 => ?_) (fun c_65 => ?_)
          · skip
            have tc_65 := ti_ne c_65
            refine lv_aload_n G0.1 G0.2.1 dX11_odds_67 rfl (lv_at hl 0 rfl) ?_
            refine py_get (C := RX11) (T := TX11) (N := 16) (k := 12) (v := .ref (G.2 x 12)) G0 hw in_X11_odds_X11 rfl hr_24 (by decide) (by decide +kernel) rfl dX11_odds_68 ?_
            refine lv_iload_n G0.1 G0.2.1 dX11_odds_71 rfl (lv_at hl 3 rfl) ?_
            obtain ⟨r_66, r_67, r_68, y_69, hr_73, ty_70, ty_71, ty_72⟩ := wg_6 hWF t_13
            refine py_calll hw (va_runV (As := [.int q]) (rest := []) G0 (c_X6_partsAt l E G L_54 f_55 H_56.size (G.2 x 12) q hG hWF t_13 ⟨by omega, by omega⟩) (cwV 1 G0.2.2.2.2 g_X11_odds_X6_partsAt_292 rfl rfl rfl (by decide +kernel) ⟨(Nat.le_of_ble_eq_true rfl), (Nat.le_of_ble_eq_true rfl)⟩) (py_preV hw (C := RX6) (T := TX6) (N := 7) rfl hr_73) rfl rfl hl.1 rfl (lv_room (Nat.le_of_ble_eq_true rfl)) dX11_odds_72 ⟨(Nat.le_of_ble_eq_true rfl), (Nat.le_of_ble_eq_true rfl)⟩) (fun r_78 L_74 f_75 H_76 locs hp_77 hw => ?_)
            obtain ⟨rfl, rfl⟩ := hp_77
            exact jn_75 r_78 _ _ ls hw (lv_sub hl [0, 1, 2, 3] rfl)
          · skip
            have tc_65 := ti_eq c_65
            refine lv_aload_n G0.1 G0.2.1 dX11_odds_57 rfl (lv_at hl 0 rfl) ?_
            refine py_get (C := RX11) (T := TX11) (N := 16) (k := 12) (v := .ref (G.2 x 12)) G0 hw in_X11_odds_X11 rfl hr_24 (by decide) (by decide +kernel) rfl dX11_odds_58 ?_
            obtain ⟨r_79, r_80, r_81, y_82, hr_86, ty_83, ty_84, ty_85⟩ := wg_6 hWF t_13
            refine py_get (C := RX6) (T := TX6) (N := 7) (k := 6) (v := .long y_82) G0 hw in_X11_odds_X6 rfl hr_86 (by decide) (by decide +kernel) rfl dX11_odds_61 ?_
            refine lv_goto (tgt := 75) G0.1 G0.2.1 dX11_odds_64 (by decide) ?_
            exact jn_75 y_82 _ _ ls hw (lv_sub hl [0, 1, 2, 3] rfl)
        · skip
          have tc_36 := ti_ne c_36
          refine lv_aload_n G0.1 G0.2.1 dX11_odds_24 rfl (lv_at hl 0 rfl) ?_
          refine lv_iload_n G0.1 G0.2.1 dX11_odds_25 rfl (lv_at hl 3 rfl) ?_
          refine py_calli hw (va_runV (As := [.int q]) (rest := []) G0 (c_X11_isLevel l E G L f H_28.size x q hG hWF Tx) (cwV 1 G0.2.2.2.2 g_X11_odds_X11_isLevel_132 rfl rfl rfl (by decide +kernel) ⟨(Nat.le_of_ble_eq_true rfl), (Nat.le_of_ble_eq_true rfl)⟩) (py_preV hw (C := RX11) (T := TX11) (N := 16) rfl hr_24) rfl rfl hl.1 rfl (lv_room (Nat.le_of_ble_eq_true rfl)) dX11_odds_26 ⟨(Nat.le_of_ble_eq_true rfl), (Nat.le_of_ble_eq_true rfl)⟩) (fun r_91 L_87 f_88 H_89 locs hp_90 hw => ?_)
          obtain ⟨b_93, en_92, rfl, rfl⟩ := hp_90
          refine lv_if_ne (tgt := 35) G0.1 G0.2.1 dX11_odds_29 (by decide) (fun c_94 => ?_) (fun c_94 => ?_)
          · skip
            have tc_94 := ti_ne c_94
            have hrl := rlv_ari hG hWF t_6 (hGI.1 _ t_6) (i := a) (by omega) (by omega)
            have hod : 0 ≤ ari f (G.2 (G.2 (G.2 x 12) 2) 1) a := by rw [tx_17]; omega
            refine lv_aload_n G0.1 G0.2.1 dX11_odds_35 rfl (lv_at hl 0 rfl) ?_
            refine py_get (C := RX11) (T := TX11) (N := 16) (k := 12) (v := .ref (G.2 x 12)) G0 hw in_X11_odds_X11 rfl hr_24 (by decide) (by decide +kernel) rfl dX11_odds_36 ?_
            refine lv_iload_n G0.1 G0.2.1 dX11_odds_39 rfl (lv_at hl 1 rfl) ?_
            refine lv_aload_n G0.1 G0.2.1 dX11_odds_40 rfl (lv_at hl 0 rfl) ?_
            refine lv_aload_n G0.1 G0.2.1 dX11_odds_41 rfl (lv_at hl 0 rfl) ?_
            refine py_get (C := RX11) (T := TX11) (N := 16) (k := 14) (v := .int v_19) G0 hw in_X11_odds_X11 rfl hr_24 (by decide) (by decide +kernel) rfl dX11_odds_42 ?_
            refine py_callr hw (va_runV (As := [.int v_19]) (rest := [.int a, .ref (G.2 x 12)]) G0 (c_X11_lawOf l E G L f H_89.size x v_19 hG hWF Tx hGI.2.2.2) (cwV 1 G0.2.2.2.2 g_X11_odds_X11_lawOf_225 rfl rfl rfl (by decide +kernel) ⟨(Nat.le_of_ble_eq_true rfl), (Nat.le_of_ble_eq_true rfl)⟩) (py_preV hw (C := RX11) (T := TX11) (N := 16) rfl hr_24) rfl rfl hl.1 rfl (lv_room (Nat.le_of_ble_eq_true rfl)) dX11_odds_45 ⟨(Nat.le_of_ble_eq_true rfl), (Nat.le_of_ble_eq_true rfl)⟩) (fun r_99 L_95 f_96 H_97 locs hp_98 hw => ?_)
            obtain ⟨en_100, rfl, rfl⟩ := hp_98
            refine lv_iload_n G0.1 G0.2.1 dX11_odds_48 rfl (lv_at hl 2 rfl) ?_
            obtain ⟨t_101, t_102, t_103⟩ := wt_6 hG t_13
            obtain ⟨r_104, r_105, r_106, y_107, hr_111, ty_108, ty_109, ty_110⟩ := wg_6 hWF t_13
            refine py_callv hw (va_runV (As := [.int a, .ref r_99, .int b]) (rest := []) G0 (c_X6_run l E G L f H_97.size (G.2 x 12) a r_99 b hG hWF t_13 ⟨by omega, by omega⟩ en_100 ⟨by omega, by omega⟩ (show 0 ≤ ari f (G.2 (G.2 (G.2 x 12) 2) 1) a by omega)) (cwV 3 G0.2.2.2.2 g_X11_odds_X6_run_285 rfl rfl rfl (by decide +kernel) ⟨(Nat.le_of_ble_eq_true rfl), (Nat.le_of_ble_eq_true rfl)⟩) (py_preV hw (C := RX6) (T := TX6) (N := 7) rfl hr_111) rfl rfl hl.1 rfl (lv_room (Nat.le_of_ble_eq_true rfl)) dX11_odds_49 ⟨(Nat.le_of_ble_eq_true rfl), (Nat.le_of_ble_eq_true rfl)⟩) (fun L_112 f_113 H_114 locs hp_115 hw => ?_)
            have ht_119 := fo_ty hWF t_6
            obtain ⟨hWF, hq_117, kp_118⟩ := hp_115
            have hGI := hGI.kp hG Tx ht_119 hq_117 kp_118 (by decide)
            have hKP := hKP.trans kp_118 (by decide) (by decide)
            have hr_24 := kp_at kp_118 hWF Tx (by decide) (by decide) (by decide) hr_24
            have tq_120 := hy_eq hr_24
            refine lv_iload_n G0.1 G0.2.1 dX11_odds_52 rfl (lv_at hl 3 rfl) ?_
            refine lv_iconst (v := (-1)) G0.1 G0.2.1 dX11_odds_53 (by decide) ?_
            have jn_75 : ∀ (v_121 : Int64) (H_j75 : Heap) (locs : List Loc) (ls : Array Slot), py_W E (va_A (va_pl L f) s.heap.size) s L_112 f_113 H_j75 locs → lv_has ls 4 [(0, .ref x), (1, .int a), (2, .int b), (3, .int q)] → W p l e (headSpec w_X11_odds ({ frames := 6, cells := 0, slots := 0, locals := 158 })).room s m ([.ref x, .int a, .int b, .int q] : List Value).toArray below meth c H_j75 locs 0 0 (MQ below (py_Qi E L f s.heap.size (fun _ L1 f1 => WF E G L1 f1 ∧ KP G [7, 34, 35, 32, 21] false f f1 ∧ GI E G f1 x)) ([.ref x, .int a, .int b, .int q] : List Value).toArray s 0 0 (va_A (va_pl L f) s.heap.size)) (F0 m 75 ls [.long v_121]) := by
              intro v_121 H_j75 locs ls hw hl
              refine lv_l2i G0.1 G0.2.1 dX11_odds_75 rfl ?_
              refine lv_topi (fun x_122 ex_122 => ?_)
              exact py_iret G0 hr rfl hlk hw ⟨hWF, hKP, hGI⟩ dX11_odds_76
            refine lv_icmp_ne (tgt := 67) G0.1 G0.2.1 dX11_odds_54 (by decide) (fun c_123 => ?_) (fun c_123 => ?_)
            · skip
              have tc_123 := ti_ne c_123
              refine lv_aload_n G0.1 G0.2.1 dX11_odds_67 rfl (lv_at hl 0 rfl) ?_
              refine py_get (C := RX11) (T := TX11) (N := 16) (k := 12) (v := .ref (G.2 x 12)) G0 hw in_X11_odds_X11 rfl hr_24 (by decide) (by decide +kernel) rfl dX11_odds_68 ?_
              refine lv_iload_n G0.1 G0.2.1 dX11_odds_71 rfl (lv_at hl 3 rfl) ?_
              obtain ⟨r_124, r_125, r_126, y_127, hr_131, ty_128, ty_129, ty_130⟩ := wg_6 hWF t_13
              refine py_calll hw (va_runV (As := [.int q]) (rest := []) G0 (c_X6_partsAt l E G L_112 f_113 H_114.size (G.2 x 12) q hG hWF t_13 ⟨by omega, by omega⟩) (cwV 1 G0.2.2.2.2 g_X11_odds_X6_partsAt_292 rfl rfl rfl (by decide +kernel) ⟨(Nat.le_of_ble_eq_true rfl), (Nat.le_of_ble_eq_true rfl)⟩) (py_preV hw (C := RX6) (T := TX6) (N := 7) rfl hr_131) rfl rfl hl.1 rfl (lv_room (Nat.le_of_ble_eq_true rfl)) dX11_odds_72 ⟨(Nat.le_of_ble_eq_true rfl), (Nat.le_of_ble_eq_true rfl)⟩) (fun r_136 L_132 f_133 H_134 locs hp_135 hw => ?_)
              obtain ⟨rfl, rfl⟩ := hp_135
              exact jn_75 r_136 _ _ ls hw (lv_sub hl [0, 1, 2, 3] rfl)
            · skip
              have tc_123 := ti_eq c_123
              refine lv_aload_n G0.1 G0.2.1 dX11_odds_57 rfl (lv_at hl 0 rfl) ?_
              refine py_get (C := RX11) (T := TX11) (N := 16) (k := 12) (v := .ref (G.2 x 12)) G0 hw in_X11_odds_X11 rfl hr_24 (by decide) (by decide +kernel) rfl dX11_odds_58 ?_
              obtain ⟨r_137, r_138, r_139, y_140, hr_144, ty_141, ty_142, ty_143⟩ := wg_6 hWF t_13
              refine py_get (C := RX6) (T := TX6) (N := 7) (k := 6) (v := .long y_140) G0 hw in_X11_odds_X6 rfl hr_144 (by decide) (by decide +kernel) rfl dX11_odds_61 ?_
              refine lv_goto (tgt := 75) G0.1 G0.2.1 dX11_odds_64 (by decide) ?_
              exact jn_75 y_140 _ _ ls hw (lv_sub hl [0, 1, 2, 3] rfl)
          · skip
            have tc_94 := ti_eq c_94
            refine lv_ldc (v := (-1000000)) G0.1 G0.2.1 G0.2.2.2.1 (G0.2.2.2.2 (Cond.constant RX11 166 (-1000000)) (by decide +kernel)) dX11_odds_32 ?_
            exact py_iret G0 hr rfl hlk hw ⟨hWF, hKP, hGI⟩ dX11_odds_34

def w_X11_mean : List Cond := .code yX11_mean cX11_mean 3 (some .long) :: ([Cond.methodLink RX11 246 yX11_lives, Cond.instanceMethod yX11_lives, Cond.selects RX11 yX11_lives yX11_lives, Cond.initialized RX11, Cond.constantLong RX11 336 (-1000000), Cond.fieldLink RX11 90 "HeadYear" "chances" "LHeadYear$Odds;", Cond.fieldLink RX11 98 "HeadYear" "heldLaw" "I", Cond.methodLink RX11 225 yX11_lawOf, Cond.instanceMethod yX11_lawOf, Cond.selects RX11 yX11_lawOf yX11_lawOf, Cond.methodLink RX11 285 yX6_run, Cond.instanceMethod yX6_run, Cond.selects RX6 yX6_run yX6_run, Cond.initialized RX6, Cond.methodLink RX11 338 yX6_partsTimesHeads, Cond.instanceMethod yX6_partsTimesHeads, Cond.selects RX6 yX6_partsTimesHeads yX6_partsTimesHeads, Cond.constantLong RX11 342 (1000000)] ++ (u_ws RX11 TX11 16 ++ (w_X11_lives ++ (w_X11_lawOf ++ (w_X6_run ++ (w_X6_partsTimesHeads ++ ([])))))))
theorem in_X11_mean_X11 : ∀ w ∈ u_ws RX11 TX11 16, w ∈ w_X11_mean := fun _ h => List.mem_cons_of_mem _ (List.mem_append_right _ (List.mem_append_left _ h))
theorem gg_X11_mean_X11_lives : GoodIn w_X11_mean w_X11_lives := goodIn_sub (fun _ h => List.mem_cons_of_mem _ (List.mem_append_right _ (List.mem_append_right _ (List.mem_append_left _ h)))) (by decide +kernel)
theorem gg_X11_mean_X11_lawOf : GoodIn w_X11_mean w_X11_lawOf := goodIn_sub (fun _ h => List.mem_cons_of_mem _ (List.mem_append_right _ (List.mem_append_right _ (List.mem_append_right _ (List.mem_append_left _ h))))) (by decide +kernel)
theorem gg_X11_mean_X6_run : GoodIn w_X11_mean w_X6_run := goodIn_sub (fun _ h => List.mem_cons_of_mem _ (List.mem_append_right _ (List.mem_append_right _ (List.mem_append_right _ (List.mem_append_right _ (List.mem_append_left _ h)))))) (by decide +kernel)
theorem gg_X11_mean_X6_partsTimesHeads : GoodIn w_X11_mean w_X6_partsTimesHeads := goodIn_sub (fun _ h => List.mem_cons_of_mem _ (List.mem_append_right _ (List.mem_append_right _ (List.mem_append_right _ (List.mem_append_right _ (List.mem_append_right _ (List.mem_append_left _ h))))))) (by decide +kernel)
theorem g_X11_mean_X11_lawOf_225 : GoodIn w_X11_mean (wsV RX11 225 RX11 yX11_lawOf w_X11_lawOf) := goodIn_app (goodIn_of _ (by decide +kernel)) gg_X11_mean_X11_lawOf
theorem g_X11_mean_X11_lives_246 : GoodIn w_X11_mean (wsV RX11 246 RX11 yX11_lives w_X11_lives) := goodIn_app (goodIn_of _ (by decide +kernel)) gg_X11_mean_X11_lives
theorem g_X11_mean_X6_partsTimesHeads_338 : GoodIn w_X11_mean (wsV RX11 338 RX6 yX6_partsTimesHeads w_X6_partsTimesHeads) := goodIn_app (goodIn_of _ (by decide +kernel)) gg_X11_mean_X6_partsTimesHeads
theorem g_X11_mean_X6_run_285 : GoodIn w_X11_mean (wsV RX11 285 RX6 yX6_run w_X6_run) := goodIn_app (goodIn_of _ (by decide +kernel)) gg_X11_mean_X6_run
set_option maxHeartbeats 4000000 in
set_option maxRecDepth 100000 in
theorem c_X11_mean (l : Launch) (E : py_E) (G : wf_G) (L : List Nat) (f : py_F) (sz : Nat) (x : Nat) (a : Int32) (b : Int32) (hG : GT G) (hWF : WF E G L f) (Tx : G.1 x = 12) (hq0 : GI E G f x) : Met l yX11_mean w_X11_mean ({ frames := 6, cells := 0, slots := 0, locals := 158 }) (py_Pc E [.ref x, .int a, .int b] L f sz) (py_Ql E L f sz (fun _ L1 f1 => WF E G L1 f1 ∧ KP G [7, 34, 35, 32, 21] false f f1 ∧ GI E G f1 x)) 0 0 (va_A (va_pl L f) sz) := by
  refine Met.ofW (cc := cX11_mean) (maxL := 3) (ret := (some .long)) (by decide) rfl ?_
  intro p e s m args below meth c s₁ B hml hv
  obtain ⟨rfl, rfl, hw⟩ := py_start hv
  have G0 : CallFix p m c cX11_mean 3 s _ w_X11_mean RX11 := ⟨B.exec, B.bytes, hml, findClass_of_methodNamed B.named, atoms_spec (ws := w_X11_mean) B.pre⟩
  have hr := B.returns
  have hlk := B.notSynchronized
  have kcm1 : (-1 : Int32).toInt = -1 := rfl
  have kc0 : (0 : Int32).toInt = 0 := rfl
  have kc1 : (1 : Int32).toInt = 1 := rfl
  have kc9 : (9 : Int32).toInt = 9 := rfl
  have hl := lv_entry ([.ref x, .int a, .int b]) (n := 3) (Nat.le_of_ble_eq_true rfl)
  rw [lg_entry_eq]
  generalize (lg_sl ([.ref x, .int a, .int b]) ++ List.replicate (3 - (lg_sl ([.ref x, .int a, .int b])).length) Slot.unset).toArray = ls at hl ⊢
  have hl : lv_has ls 3 [(0, .ref x), (1, .int a), (2, .int b)] := hl
  have hGI := hq0
  have hKP : KP G [7, 34, 35, 32, 21] false f f := KP.refl
  obtain ⟨t_1, t_2, t_3, t_4, t_5, t_6, t_7, t_8, t_9, t_10, t_11, t_12, t_13, tx_14, tx_15, tx_16, tx_17⟩ := wt_11 hG Tx
  refine lv_aload_n G0.1 G0.2.1 dX11_mean_0 rfl (lv_at hl 0 rfl) ?_
  refine lv_iload_n G0.1 G0.2.1 dX11_mean_1 rfl (lv_at hl 1 rfl) ?_
  obtain ⟨v_18, v_19, v_20, hr_24, b_21, b_22, b_23⟩ := wg_11 hWF Tx
  have tq_25 := hy_eq hr_24
  refine py_calli hw (va_runV (As := [.int a]) (rest := []) G0 (c_X11_lives l E G L f s.heap.size x a hG hWF Tx) (cwV 1 G0.2.2.2.2 g_X11_mean_X11_lives_246 rfl rfl rfl (by decide +kernel) ⟨(Nat.le_of_ble_eq_true rfl), (Nat.le_of_ble_eq_true rfl)⟩) (py_preV hw (C := RX11) (T := TX11) (N := 16) rfl hr_24) rfl rfl hl.1 rfl (lv_room (Nat.le_of_ble_eq_true rfl)) dX11_mean_2 ⟨(Nat.le_of_ble_eq_true rfl), (Nat.le_of_ble_eq_true rfl)⟩) (fun r_30 L_26 f_27 H_28 locs hp_29 hw => ?_)
  obtain ⟨b_32, en_31, rfl, rfl⟩ := hp_29
  refine lv_if_eq (tgt := 19) G0.1 G0.2.1 dX11_mean_5 (by decide) (fun c_33 => ?_) (fun c_33 => ?_)
  · skip
    have tc_33 := ti_eq c_33
    refine lv_ldc2 (v := (-1000000)) G0.1 G0.2.1 G0.2.2.2.1 (G0.2.2.2.2 (Cond.constantLong RX11 336 (-1000000)) (by decide +kernel)) dX11_mean_19 ?_
    exact py_lret G0 hr hlk hw ⟨hWF, hKP, hGI⟩ dX11_mean_22
  · skip
    have tc_33 := ti_ne c_33
    refine lv_iload_n G0.1 G0.2.1 dX11_mean_8 rfl (lv_at hl 2 rfl) ?_
    refine lv_iconst (v := 1) G0.1 G0.2.1 dX11_mean_9 (by decide) ?_
    refine lv_icmp_lt (tgt := 19) G0.1 G0.2.1 dX11_mean_10 (by decide) (fun c_34 => ?_) (fun c_34 => ?_)
    · skip
      have tc_34 := ti_lt c_34
      refine lv_ldc2 (v := (-1000000)) G0.1 G0.2.1 G0.2.2.2.1 (G0.2.2.2.2 (Cond.constantLong RX11 336 (-1000000)) (by decide +kernel)) dX11_mean_19 ?_
      exact py_lret G0 hr hlk hw ⟨hWF, hKP, hGI⟩ dX11_mean_22
    · skip
      have tc_34 := ti_nlt c_34
      refine lv_iload_n G0.1 G0.2.1 dX11_mean_13 rfl (lv_at hl 2 rfl) ?_
      refine lv_bipush (v := 9) G0.1 G0.2.1 dX11_mean_14 (by decide) ?_
      refine lv_icmp_le (tgt := 23) G0.1 G0.2.1 dX11_mean_16 (by decide) (fun c_35 => ?_) (fun c_35 => ?_)
      · skip
        have tc_35 := ti_le c_35
        have hrl := rlv_ari hG hWF t_6 (hGI.1 _ t_6) (i := a) (by omega) (by omega)
        have hod : 0 ≤ ari f (G.2 (G.2 (G.2 x 12) 2) 1) a := by rw [tx_17]; omega
        refine lv_aload_n G0.1 G0.2.1 dX11_mean_23 rfl (lv_at hl 0 rfl) ?_
        refine py_get (C := RX11) (T := TX11) (N := 16) (k := 12) (v := .ref (G.2 x 12)) G0 hw in_X11_mean_X11 rfl hr_24 (by decide) (by decide +kernel) rfl dX11_mean_24 ?_
        refine lv_iload_n G0.1 G0.2.1 dX11_mean_27 rfl (lv_at hl 1 rfl) ?_
        refine lv_aload_n G0.1 G0.2.1 dX11_mean_28 rfl (lv_at hl 0 rfl) ?_
        refine lv_aload_n G0.1 G0.2.1 dX11_mean_29 rfl (lv_at hl 0 rfl) ?_
        refine py_get (C := RX11) (T := TX11) (N := 16) (k := 14) (v := .int v_19) G0 hw in_X11_mean_X11 rfl hr_24 (by decide) (by decide +kernel) rfl dX11_mean_30 ?_
        refine py_callr hw (va_runV (As := [.int v_19]) (rest := [.int a, .ref (G.2 x 12)]) G0 (c_X11_lawOf l E G L f H_28.size x v_19 hG hWF Tx hGI.2.2.2) (cwV 1 G0.2.2.2.2 g_X11_mean_X11_lawOf_225 rfl rfl rfl (by decide +kernel) ⟨(Nat.le_of_ble_eq_true rfl), (Nat.le_of_ble_eq_true rfl)⟩) (py_preV hw (C := RX11) (T := TX11) (N := 16) rfl hr_24) rfl rfl hl.1 rfl (lv_room (Nat.le_of_ble_eq_true rfl)) dX11_mean_33 ⟨(Nat.le_of_ble_eq_true rfl), (Nat.le_of_ble_eq_true rfl)⟩) (fun r_40 L_36 f_37 H_38 locs hp_39 hw => ?_)
        obtain ⟨en_41, rfl, rfl⟩ := hp_39
        refine lv_iload_n G0.1 G0.2.1 dX11_mean_36 rfl (lv_at hl 2 rfl) ?_
        obtain ⟨t_42, t_43, t_44⟩ := wt_6 hG t_13
        obtain ⟨r_45, r_46, r_47, y_48, hr_52, ty_49, ty_50, ty_51⟩ := wg_6 hWF t_13
        refine py_callv hw (va_runV (As := [.int a, .ref r_40, .int b]) (rest := []) G0 (c_X6_run l E G L f H_38.size (G.2 x 12) a r_40 b hG hWF t_13 ⟨by omega, by omega⟩ en_41 ⟨by omega, by omega⟩ (show 0 ≤ ari f (G.2 (G.2 (G.2 x 12) 2) 1) a by omega)) (cwV 3 G0.2.2.2.2 g_X11_mean_X6_run_285 rfl rfl rfl (by decide +kernel) ⟨(Nat.le_of_ble_eq_true rfl), (Nat.le_of_ble_eq_true rfl)⟩) (py_preV hw (C := RX6) (T := TX6) (N := 7) rfl hr_52) rfl rfl hl.1 rfl (lv_room (Nat.le_of_ble_eq_true rfl)) dX11_mean_37 ⟨(Nat.le_of_ble_eq_true rfl), (Nat.le_of_ble_eq_true rfl)⟩) (fun L_53 f_54 H_55 locs hp_56 hw => ?_)
        have ht_60 := fo_ty hWF t_6
        obtain ⟨hWF, hq_58, kp_59⟩ := hp_56
        have hGI := hGI.kp hG Tx ht_60 hq_58 kp_59 (by decide)
        have hKP := hKP.trans kp_59 (by decide) (by decide)
        have hr_24 := kp_at kp_59 hWF Tx (by decide) (by decide) (by decide) hr_24
        have tq_61 := hy_eq hr_24
        refine lv_aload_n G0.1 G0.2.1 dX11_mean_40 rfl (lv_at hl 0 rfl) ?_
        refine py_get (C := RX11) (T := TX11) (N := 16) (k := 12) (v := .ref (G.2 x 12)) G0 hw in_X11_mean_X11 rfl hr_24 (by decide) (by decide +kernel) rfl dX11_mean_41 ?_
        obtain ⟨r_62, r_63, r_64, y_65, hr_69, ty_66, ty_67, ty_68⟩ := wg_6 hWF t_13
        refine py_calll hw (va_runV (As := []) (rest := []) G0 (c_X6_partsTimesHeads l E G L_53 f_54 H_55.size (G.2 x 12) hG hWF t_13) (cwV 0 G0.2.2.2.2 g_X11_mean_X6_partsTimesHeads_338 rfl rfl rfl (by decide +kernel) ⟨(Nat.le_of_ble_eq_true rfl), (Nat.le_of_ble_eq_true rfl)⟩) (py_preV hw (C := RX6) (T := TX6) (N := 7) rfl hr_69) rfl rfl hl.1 rfl (lv_room (Nat.le_of_ble_eq_true rfl)) dX11_mean_44 ⟨(Nat.le_of_ble_eq_true rfl), (Nat.le_of_ble_eq_true rfl)⟩) (fun r_74 L_70 f_71 H_72 locs hp_73 hw => ?_)
        obtain ⟨rfl, rfl⟩ := hp_73
        refine lv_ldc2 (v := 1000000) G0.1 G0.2.1 G0.2.2.2.1 (G0.2.2.2.2 (Cond.constantLong RX11 342 (1000000)) (by decide +kernel)) dX11_mean_47 ?_
        refine lv_ldiv G0.1 G0.2.1 dX11_mean_50 (by decide) ?_
        refine lv_topl (fun y_75 ey_75 => ?_)
        exact py_lret G0 hr hlk hw ⟨hWF, hKP, hGI⟩ dX11_mean_51
      · skip
        have tc_35 := ti_nle c_35
        refine lv_ldc2 (v := (-1000000)) G0.1 G0.2.1 G0.2.2.2.1 (G0.2.2.2.2 (Cond.constantLong RX11 336 (-1000000)) (by decide +kernel)) dX11_mean_19 ?_
        exact py_lret G0 hr hlk hw ⟨hWF, hKP, hGI⟩ dX11_mean_22

def w_X11_image : List Cond := .code yX11_image cX11_image 1 (some .int) :: ([Cond.methodLink RX11 218 yX11_hasValley, Cond.instanceMethod yX11_hasValley, Cond.selects RX11 yX11_hasValley yX11_hasValley, Cond.initialized RX11, Cond.fieldLink RX11 54 "HeadYear" "imageFolk" "LHeadYear$Folk;", Cond.fieldLink RX11 47 "HeadYear" "folk" "LHeadYear$Folk;", Cond.methodLink RX11 347 yX2_copyFrom, Cond.instanceMethod yX2_copyFrom, Cond.selects RX2 yX2_copyFrom yX2_copyFrom, Cond.initialized RX2, Cond.fieldLink RX11 101 "HeadYear" "imaged" "Z", Cond.fieldLink RX11 222 "HeadYear$Folk" "years" "I"] ++ (u_ws RX11 TX11 16 ++ (u_ws RX2 TX2 12 ++ (w_X11_hasValley ++ (w_X2_copyFrom ++ ([]))))))
theorem in_X11_image_X11 : ∀ w ∈ u_ws RX11 TX11 16, w ∈ w_X11_image := fun _ h => List.mem_cons_of_mem _ (List.mem_append_right _ (List.mem_append_left _ h))
theorem in_X11_image_X2 : ∀ w ∈ u_ws RX2 TX2 12, w ∈ w_X11_image := fun _ h => List.mem_cons_of_mem _ (List.mem_append_right _ (List.mem_append_right _ (List.mem_append_left _ h)))
theorem gg_X11_image_X11_hasValley : GoodIn w_X11_image w_X11_hasValley := goodIn_sub (fun _ h => List.mem_cons_of_mem _ (List.mem_append_right _ (List.mem_append_right _ (List.mem_append_right _ (List.mem_append_left _ h))))) (by decide +kernel)
theorem gg_X11_image_X2_copyFrom : GoodIn w_X11_image w_X2_copyFrom := goodIn_sub (fun _ h => List.mem_cons_of_mem _ (List.mem_append_right _ (List.mem_append_right _ (List.mem_append_right _ (List.mem_append_right _ (List.mem_append_left _ h)))))) (by decide +kernel)
theorem g_X11_image_X11_hasValley_218 : GoodIn w_X11_image (wsV RX11 218 RX11 yX11_hasValley w_X11_hasValley) := goodIn_app (goodIn_of _ (by decide +kernel)) gg_X11_image_X11_hasValley
theorem g_X11_image_X2_copyFrom_347 : GoodIn w_X11_image (wsV RX11 347 RX2 yX2_copyFrom w_X2_copyFrom) := goodIn_app (goodIn_of _ (by decide +kernel)) gg_X11_image_X2_copyFrom
set_option maxHeartbeats 4000000 in
set_option maxRecDepth 100000 in
theorem c_X11_image (l : Launch) (E : py_E) (G : wf_G) (L : List Nat) (f : py_F) (sz : Nat) (x : Nat) (hG : GT G) (hWF : WF E G L f) (Tx : G.1 x = 12) (hq0 : GI E G f x) : Met l yX11_image w_X11_image ({ frames := 1, cells := 0, slots := 0, locals := 22 }) (py_Pc E [.ref x] L f sz) (py_Qi E L f sz (fun r L1 f1 => (hy_n f1 x = hy_n f x) ∧ (fv_l f1 (G.2 x 5) = fv_l f (G.2 x 5) ∧ fo_y f1 (G.2 x 5) = fo_y f (G.2 x 5)) ∧ ((fv_l f (G.2 x 5) < 1 ∧ r.toInt = -1 ∧ fo_y f1 (G.2 x 7) = fo_y f (G.2 x 7) ∧ hy_m f1 x = hy_m f x) ∨ (1 ≤ fv_l f (G.2 x 5) ∧ r.toInt = fo_y f (G.2 x 5) ∧ fo_y f1 (G.2 x 7) = fo_y f (G.2 x 5) ∧ hy_m f1 x = 1)) ∧ WF E G L1 f1 ∧ KP G [3, 26, 37, 30, 12] true f f1 ∧ GI E G f1 x)) 0 0 (va_A (va_pl L f) sz) := by
  refine Met.ofW (cc := cX11_image) (maxL := 1) (ret := (some .int)) (by decide) rfl ?_
  intro p e s m args below meth c s₁ B hml hv
  obtain ⟨rfl, rfl, hw⟩ := py_start hv
  have G0 : CallFix p m c cX11_image 1 s _ w_X11_image RX11 := ⟨B.exec, B.bytes, hml, findClass_of_methodNamed B.named, atoms_spec (ws := w_X11_image) B.pre⟩
  have hr := B.returns
  have hlk := B.notSynchronized
  have kcm1 : (-1 : Int32).toInt = -1 := rfl
  have kc0 : (0 : Int32).toInt = 0 := rfl
  have kc1 : (1 : Int32).toInt = 1 := rfl
  have hl := lv_entry ([.ref x]) (n := 1) (Nat.le_of_ble_eq_true rfl)
  rw [lg_entry_eq]
  generalize (lg_sl ([.ref x]) ++ List.replicate (1 - (lg_sl ([.ref x])).length) Slot.unset).toArray = ls at hl ⊢
  have hl : lv_has ls 1 [(0, .ref x)] := hl
  have hGI := hq0
  have hKP : KP G [3, 26, 37, 30, 12] true f f := KP.refl
  obtain ⟨t_1, t_2, t_3, t_4, t_5, t_6, t_7, t_8, t_9, t_10, t_11, t_12, t_13, tx_14, tx_15, tx_16, tx_17⟩ := wt_11 hG Tx
  refine lv_aload_n G0.1 G0.2.1 dX11_image_0 rfl (lv_at hl 0 rfl) ?_
  obtain ⟨v_18, v_19, v_20, hr_24, b_21, b_22, b_23⟩ := wg_11 hWF Tx
  have tq_25 := hy_eq hr_24
  refine py_calli hw (va_runV (As := []) (rest := []) G0 (c_X11_hasValley l E G L f s.heap.size x hG hWF Tx) (cwV 0 G0.2.2.2.2 g_X11_image_X11_hasValley_218 rfl rfl rfl (by decide +kernel) ⟨(Nat.le_of_ble_eq_true rfl), (Nat.le_of_ble_eq_true rfl)⟩) (py_preV hw (C := RX11) (T := TX11) (N := 16) rfl hr_24) rfl rfl hl.1 rfl (lv_room (Nat.le_of_ble_eq_true rfl)) dX11_image_1 ⟨(Nat.le_of_ble_eq_true rfl), (Nat.le_of_ble_eq_true rfl)⟩) (fun r_30 L_26 f_27 H_28 locs hp_29 hw => ?_)
  obtain ⟨b_33, en_31, en_32, rfl, rfl⟩ := hp_29
  refine lv_if_ne (tgt := 9) G0.1 G0.2.1 dX11_image_4 (by decide) (fun c_34 => ?_) (fun c_34 => ?_)
  · skip
    have tc_34 := ti_ne c_34
    refine lv_aload_n G0.1 G0.2.1 dX11_image_9 rfl (lv_at hl 0 rfl) ?_
    refine py_get (C := RX11) (T := TX11) (N := 16) (k := 7) (v := .ref (G.2 x 7)) G0 hw in_X11_image_X11 rfl hr_24 (by decide) (by decide +kernel) rfl dX11_image_10 ?_
    refine lv_aload_n G0.1 G0.2.1 dX11_image_13 rfl (lv_at hl 0 rfl) ?_
    refine py_get (C := RX11) (T := TX11) (N := 16) (k := 5) (v := .ref (G.2 x 5)) G0 hw in_X11_image_X11 rfl hr_24 (by decide) (by decide +kernel) rfl dX11_image_14 ?_
    obtain ⟨t_35, t_36, t_37, t_38, t_39, t_40, t_41, t_42, t_43⟩ := wt_2 hG t_8
    obtain ⟨r_44, y_45, v_46, hr_49, ty_47, b_48⟩ := wg_2 hWF t_8
    have tq_50 := fo_eq hr_49
    refine py_callv hw (va_runV (As := [.ref (G.2 x 5)]) (rest := []) G0 (c_X2_copyFrom l E G L f H_28.size (G.2 x 7) (G.2 x 5) hG hWF t_8 t_6 (show (G.2 x 5) ≠ (G.2 x 7) by omega) (hGI.1 _ t_6)) (cwV 1 G0.2.2.2.2 g_X11_image_X2_copyFrom_347 rfl rfl rfl (by decide +kernel) ⟨(Nat.le_of_ble_eq_true rfl), (Nat.le_of_ble_eq_true rfl)⟩) (py_preV hw (C := RX2) (T := TX2) (N := 12) rfl hr_49) rfl rfl hl.1 rfl (lv_room (Nat.le_of_ble_eq_true rfl)) dX11_image_17 ⟨(Nat.le_of_ble_eq_true rfl), (Nat.le_of_ble_eq_true rfl)⟩) (fun L_51 f_52 H_53 locs hp_54 hw => ?_)
    have ht_59 := fo_ty hWF t_6
    have ht_60 := fo_ty hWF t_6
    have ht_61 := fo_ty hWF t_8
    obtain ⟨en_56, hWF, hq_57, kp_58⟩ := hp_54
    obtain ⟨hGI, him⟩ := hGI.image hG Tx ht_59 hq_57 kp_58 (by decide) en_56
    have fqi := (hq_57 _ t_6).2 tx_15
    have fqj := (fv_w fqi.1 ht_59 kp_58 (by decide)).1
    have hKP := hKP.trans kp_58 (by decide) (by decide)
    have hr_24 := kp_at kp_58 hWF Tx (by decide) (by decide) (by decide) hr_24
    have tq_62 := hy_eq hr_24
    refine lv_aload_n G0.1 G0.2.1 dX11_image_20 rfl (lv_at hl 0 rfl) ?_
    refine lv_iconst (v := 1) G0.1 G0.2.1 dX11_image_21 (by decide) ?_
    refine py_put (C := RX11) (T := TX11) (N := 16) (k := 15) (v := .int 1) (fs' := [.ref (G.2 x 0), .ref (G.2 x 1), .ref (G.2 x 2), .ref (G.2 x 3), .ref (G.2 x 4), .ref (G.2 x 5), .ref (G.2 x 6), .ref (G.2 x 7), .ref (G.2 x 8), .ref (G.2 x 9), .ref (G.2 x 10), .ref (G.2 x 11), .ref (G.2 x 12), .int v_18, .int v_19, .int 1]) (ty0 := tyX11) G0 hw tyX11_ok nmX11 in_X11_image_X11 rfl hr_24 (by decide) (by decide +kernel) rfl rfl rfl rfl (Nat.le_of_ble_eq_true rfl) rfl dX11_image_22 (fun f_63 H_64 locs h_65 x_66 hw => ?_)
    have hGI := hGI.own hG hWF Tx x_66 (rp_upd hG hWF x_66 hr_24.2 h_65.2 (rp_code hG Tx (by decide)) rfl : RP E G f_52 f_63) (by have z1 := hy_eq hr_24; have z2 := hy_eq h_65; omega) (by first | exact Or.inl (by have z1 := hy_eq hr_24; have z2 := hy_eq h_65; omega) | exact Or.inr him)
    have fq_67 := fv_one (rp_upd hG hWF x_66 hr_24.2 h_65.2 (rp_code hG Tx (by decide)) rfl : RP E G f_52 f_63) (KP.refl.upd hWF x_66 Tx (Or.inl (by decide)) : KP G [12] false f_52 f_63) (by decide) (fo_ty hWF t_6) t_6
    have fq_68 := fv_one (rp_upd hG hWF x_66 hr_24.2 h_65.2 (rp_code hG Tx (by decide)) rfl : RP E G f_52 f_63) (KP.refl.upd hWF x_66 Tx (Or.inl (by decide)) : KP G [12] false f_52 f_63) (by decide) (fo_ty hWF t_8) t_8
    have hKP := hKP.upd hWF x_66 Tx (Or.inl (by decide))
    have hWF := wf_upd hWF h_65 x_66 (by rw [Tx]; exact ⟨v_18, v_19, 1, rfl, ⟨by omega, by omega⟩, ⟨by omega, by omega⟩, ⟨by omega, by omega⟩⟩)
    have tq_69 := hy_eq h_65
    refine lv_aload_n G0.1 G0.2.1 dX11_image_25 rfl (lv_at hl 0 rfl) ?_
    refine py_get (C := RX11) (T := TX11) (N := 16) (k := 5) (v := .ref (G.2 x 5)) G0 hw in_X11_image_X11 rfl h_65 (by decide) (by decide +kernel) rfl dX11_image_26 ?_
    obtain ⟨t_70, t_71, t_72, t_73, t_74, t_75, t_76, t_77, t_78⟩ := wt_2 hG t_6
    obtain ⟨r_79, y_80, v_81, hr_84, ty_82, b_83⟩ := wg_2 hWF t_6
    have tq_85 := fo_eq hr_84
    refine py_get (C := RX2) (T := TX2) (N := 12) (k := 11) (v := .int v_81) G0 hw in_X11_image_X2 rfl hr_84 (by decide) (by decide +kernel) rfl dX11_image_29 ?_
    exact py_iret G0 hr rfl hlk hw ⟨(by first | omega | (intro q; omega)), (by first | omega | (intro q; omega)), (by first | omega | (intro q; omega)), hWF, hKP, hGI⟩ dX11_image_32
  · skip
    have tc_34 := ti_eq c_34
    refine lv_iconst (v := (-1)) G0.1 G0.2.1 dX11_image_7 (by decide) ?_
    exact py_iret G0 hr rfl hlk hw ⟨(by first | omega | (intro q; omega)), (by first | omega | (intro q; omega)), (by first | omega | (intro q; omega)), hWF, hKP, hGI⟩ dX11_image_8

def w_X11_back : List Cond := .code yX11_back cX11_back 1 (some .int) :: ([Cond.fieldLink RX11 101 "HeadYear" "imaged" "Z", Cond.fieldLink RX11 47 "HeadYear" "folk" "LHeadYear$Folk;", Cond.fieldLink RX11 54 "HeadYear" "imageFolk" "LHeadYear$Folk;", Cond.methodLink RX11 347 yX2_copyFrom, Cond.instanceMethod yX2_copyFrom, Cond.selects RX2 yX2_copyFrom yX2_copyFrom, Cond.initialized RX2, Cond.fieldLink RX11 60 "HeadYear" "diary" "LHeadYear$Diary;", Cond.fieldLink RX11 222 "HeadYear$Folk" "years" "I", Cond.fieldLink RX11 304 "HeadYear$Diary" "years" "I", Cond.fieldLink RX11 67 "HeadYear" "buyings" "LHeadYear$Buyings;", Cond.fieldLink RX11 240 "HeadYear$Buyings" "count" "I"] ++ (u_ws RX11 TX11 16 ++ (u_ws RX2 TX2 12 ++ (u_ws RX1 TX1 3 ++ (u_ws RX0 TX0 5 ++ (w_X2_copyFrom ++ ([])))))))
theorem in_X11_back_X11 : ∀ w ∈ u_ws RX11 TX11 16, w ∈ w_X11_back := fun _ h => List.mem_cons_of_mem _ (List.mem_append_right _ (List.mem_append_left _ h))
theorem in_X11_back_X2 : ∀ w ∈ u_ws RX2 TX2 12, w ∈ w_X11_back := fun _ h => List.mem_cons_of_mem _ (List.mem_append_right _ (List.mem_append_right _ (List.mem_append_left _ h)))
theorem in_X11_back_X1 : ∀ w ∈ u_ws RX1 TX1 3, w ∈ w_X11_back := fun _ h => List.mem_cons_of_mem _ (List.mem_append_right _ (List.mem_append_right _ (List.mem_append_right _ (List.mem_append_left _ h))))
theorem in_X11_back_X0 : ∀ w ∈ u_ws RX0 TX0 5, w ∈ w_X11_back := fun _ h => List.mem_cons_of_mem _ (List.mem_append_right _ (List.mem_append_right _ (List.mem_append_right _ (List.mem_append_right _ (List.mem_append_left _ h)))))
theorem gg_X11_back_X2_copyFrom : GoodIn w_X11_back w_X2_copyFrom := goodIn_sub (fun _ h => List.mem_cons_of_mem _ (List.mem_append_right _ (List.mem_append_right _ (List.mem_append_right _ (List.mem_append_right _ (List.mem_append_right _ (List.mem_append_left _ h))))))) (by decide +kernel)
theorem g_X11_back_X2_copyFrom_347 : GoodIn w_X11_back (wsV RX11 347 RX2 yX2_copyFrom w_X2_copyFrom) := goodIn_app (goodIn_of _ (by decide +kernel)) gg_X11_back_X2_copyFrom
set_option maxHeartbeats 4000000 in
set_option maxRecDepth 100000 in
theorem c_X11_back (l : Launch) (E : py_E) (G : wf_G) (L : List Nat) (f : py_F) (sz : Nat) (x : Nat) (hG : GT G) (hWF : WF E G L f) (Tx : G.1 x = 12) (hq0 : GI E G f x) : Met l yX11_back w_X11_back ({ frames := 1, cells := 0, slots := 0, locals := 22 }) (py_Pc E [.ref x] L f sz) (py_Qi E L f sz (fun r L1 f1 => (fv_l f1 (G.2 x 5) = fv_l f (G.2 x 5) ∧ fo_y f1 (G.2 x 7) = fo_y f (G.2 x 7)) ∧ ((hy_m f x = 0 ∧ r.toInt = -1 ∧ fo_y f1 (G.2 x 5) = fo_y f (G.2 x 5)) ∨ (hy_m f x ≠ 0 ∧ r.toInt = fo_y f (G.2 x 7) ∧ fo_y f1 (G.2 x 5) = fo_y f (G.2 x 7))) ∧ WF E G L1 f1 ∧ KP G [3, 26, 37, 30, 2, 1] true f f1 ∧ GI E G f1 x)) 0 0 (va_A (va_pl L f) sz) := by
  refine Met.ofW (cc := cX11_back) (maxL := 1) (ret := (some .int)) (by decide) rfl ?_
  intro p e s m args below meth c s₁ B hml hv
  obtain ⟨rfl, rfl, hw⟩ := py_start hv
  have G0 : CallFix p m c cX11_back 1 s _ w_X11_back RX11 := ⟨B.exec, B.bytes, hml, findClass_of_methodNamed B.named, atoms_spec (ws := w_X11_back) B.pre⟩
  have hr := B.returns
  have hlk := B.notSynchronized
  have kcm1 : (-1 : Int32).toInt = -1 := rfl
  have kc0 : (0 : Int32).toInt = 0 := rfl
  have kc1 : (1 : Int32).toInt = 1 := rfl
  have hl := lv_entry ([.ref x]) (n := 1) (Nat.le_of_ble_eq_true rfl)
  rw [lg_entry_eq]
  generalize (lg_sl ([.ref x]) ++ List.replicate (1 - (lg_sl ([.ref x])).length) Slot.unset).toArray = ls at hl ⊢
  have hl : lv_has ls 1 [(0, .ref x)] := hl
  have hGI := hq0
  have hKP : KP G [3, 26, 37, 30, 2, 1] true f f := KP.refl
  obtain ⟨t_1, t_2, t_3, t_4, t_5, t_6, t_7, t_8, t_9, t_10, t_11, t_12, t_13, tx_14, tx_15, tx_16, tx_17⟩ := wt_11 hG Tx
  refine lv_aload_n G0.1 G0.2.1 dX11_back_0 rfl (lv_at hl 0 rfl) ?_
  obtain ⟨v_18, v_19, v_20, hr_24, b_21, b_22, b_23⟩ := wg_11 hWF Tx
  have tq_25 := hy_eq hr_24
  refine py_get (C := RX11) (T := TX11) (N := 16) (k := 15) (v := .int v_20) G0 hw in_X11_back_X11 rfl hr_24 (by decide) (by decide +kernel) rfl dX11_back_1 ?_
  refine lv_if_ne (tgt := 9) G0.1 G0.2.1 dX11_back_4 (by decide) (fun c_26 => ?_) (fun c_26 => ?_)
  · skip
    have tc_26 := ti_ne c_26
    have hgi := hGI.2.2.1 (by have z1 := hy_eq hr_24; omega)
    refine lv_aload_n G0.1 G0.2.1 dX11_back_9 rfl (lv_at hl 0 rfl) ?_
    refine py_get (C := RX11) (T := TX11) (N := 16) (k := 5) (v := .ref (G.2 x 5)) G0 hw in_X11_back_X11 rfl hr_24 (by decide) (by decide +kernel) rfl dX11_back_10 ?_
    refine lv_aload_n G0.1 G0.2.1 dX11_back_13 rfl (lv_at hl 0 rfl) ?_
    refine py_get (C := RX11) (T := TX11) (N := 16) (k := 7) (v := .ref (G.2 x 7)) G0 hw in_X11_back_X11 rfl hr_24 (by decide) (by decide +kernel) rfl dX11_back_14 ?_
    obtain ⟨t_27, t_28, t_29, t_30, t_31, t_32, t_33, t_34, t_35⟩ := wt_2 hG t_6
    obtain ⟨r_36, y_37, v_38, hr_41, ty_39, b_40⟩ := wg_2 hWF t_6
    have tq_42 := fo_eq hr_41
    refine py_callv hw (va_runV (As := [.ref (G.2 x 7)]) (rest := []) G0 (c_X2_copyFrom l E G L f s.heap.size (G.2 x 5) (G.2 x 7) hG hWF t_6 t_8 (show (G.2 x 7) ≠ (G.2 x 5) by omega) (hGI.1 _ t_8)) (cwV 1 G0.2.2.2.2 g_X11_back_X2_copyFrom_347 rfl rfl rfl (by decide +kernel) ⟨(Nat.le_of_ble_eq_true rfl), (Nat.le_of_ble_eq_true rfl)⟩) (py_preV hw (C := RX2) (T := TX2) (N := 12) rfl hr_41) rfl rfl hl.1 rfl (lv_room (Nat.le_of_ble_eq_true rfl)) dX11_back_17 ⟨(Nat.le_of_ble_eq_true rfl), (Nat.le_of_ble_eq_true rfl)⟩) (fun L_43 f_44 H_45 locs hp_46 hw => ?_)
    have ht_51 := fo_ty hWF t_6
    have ht_52 := fo_ty hWF t_6
    have ht_53 := fo_ty hWF t_8
    obtain ⟨en_48, hWF, hq_49, kp_50⟩ := hp_46
    obtain ⟨hGI, fq1⟩ := hGI.year hG Tx ht_51 hq_49 kp_50 (by decide) (by omega) (by omega)
    have fq7 := ((hq_49 _ t_8).2 (Ne.symm tx_15)).2
    have hKP := hKP.trans kp_50 (by decide) (by decide)
    have hr_24 := kp_at kp_50 hWF Tx (by decide) (by decide) (by decide) hr_24
    have tq_54 := hy_eq hr_24
    refine lv_aload_n G0.1 G0.2.1 dX11_back_20 rfl (lv_at hl 0 rfl) ?_
    refine py_get (C := RX11) (T := TX11) (N := 16) (k := 8) (v := .ref (G.2 x 8)) G0 hw in_X11_back_X11 rfl hr_24 (by decide) (by decide +kernel) rfl dX11_back_21 ?_
    refine lv_aload_n G0.1 G0.2.1 dX11_back_24 rfl (lv_at hl 0 rfl) ?_
    refine py_get (C := RX11) (T := TX11) (N := 16) (k := 5) (v := .ref (G.2 x 5)) G0 hw in_X11_back_X11 rfl hr_24 (by decide) (by decide +kernel) rfl dX11_back_25 ?_
    obtain ⟨r_55, y_56, v_57, hr_60, ty_58, b_59⟩ := wg_2 hWF t_6
    have tq_61 := fo_eq hr_60
    refine py_get (C := RX2) (T := TX2) (N := 12) (k := 11) (v := .int v_57) G0 hw in_X11_back_X2 rfl hr_60 (by decide) (by decide +kernel) rfl dX11_back_28 ?_
    have hgy := hGI.2.1.2.2
    obtain ⟨t_62, t_63⟩ := wt_1 hG t_9
    obtain ⟨v_64, hr_66, b_65⟩ := wg_1 hWF t_9
    refine py_put (C := RX1) (T := TX1) (N := 3) (k := 2) (v := .int v_57) (fs' := [.ref (G.2 (G.2 x 8) 0), .ref (G.2 (G.2 x 8) 1), .int v_57]) (ty0 := tyX1) G0 hw tyX1_ok nmX1 in_X11_back_X1 rfl hr_66 (by decide) (by decide +kernel) rfl rfl rfl rfl (Nat.le_of_ble_eq_true rfl) rfl dX11_back_31 (fun f_67 H_68 locs h_69 x_70 hw => ?_)
    have hGI := hGI.kp hG Tx (fo_ty hWF t_6) (rp_upd hG hWF x_70 hr_66.2 h_69.2 (rp_code hG t_9 (by decide)) rfl : RP E G f_44 f_67) (KP.refl.upd hWF x_70 t_9 (Or.inl (by decide)) : KP G [2] false f_44 f_67) (by decide)
    have fq_71 := fv_one (rp_upd hG hWF x_70 hr_66.2 h_69.2 (rp_code hG t_9 (by decide)) rfl : RP E G f_44 f_67) (KP.refl.upd hWF x_70 t_9 (Or.inl (by decide)) : KP G [2] false f_44 f_67) (by decide) (fo_ty hWF t_6) t_6
    have fq_72 := fv_one (rp_upd hG hWF x_70 hr_66.2 h_69.2 (rp_code hG t_9 (by decide)) rfl : RP E G f_44 f_67) (KP.refl.upd hWF x_70 t_9 (Or.inl (by decide)) : KP G [2] false f_44 f_67) (by decide) (fo_ty hWF t_8) t_8
    have hKP := hKP.upd hWF x_70 t_9 (Or.inl (by decide))
    have hWF := wf_upd hWF h_69 x_70 (by rw [t_9]; exact ⟨v_57, rfl, ⟨by omega, by omega⟩⟩)
    have hr_24 := hr_24.ext x_70 (py_ne_kind hr_24 hr_66 (by decide))
    have tq_73 := hy_eq hr_24
    have hr_60 := hr_60.ext x_70 (py_ne_kind hr_60 hr_66 (by decide))
    have tq_74 := fo_eq hr_60
    refine lv_aload_n G0.1 G0.2.1 dX11_back_34 rfl (lv_at hl 0 rfl) ?_
    refine py_get (C := RX11) (T := TX11) (N := 16) (k := 9) (v := .ref (G.2 x 9)) G0 hw in_X11_back_X11 rfl hr_24 (by decide) (by decide +kernel) rfl dX11_back_35 ?_
    refine lv_iconst (v := 0) G0.1 G0.2.1 dX11_back_38 (by decide) ?_
    obtain ⟨t_75, t_76, t_77⟩ := wt_0 hG t_10
    obtain ⟨v_78, v_79, hr_82, b_80, b_81⟩ := wg_0 hWF t_10
    refine py_put (C := RX0) (T := TX0) (N := 5) (k := 3) (v := .int 0) (fs' := [.ref (G.2 (G.2 x 9) 0), .ref (G.2 (G.2 x 9) 1), .ref (G.2 (G.2 x 9) 2), .int 0, .int v_79]) (ty0 := tyX0) G0 hw tyX0_ok nmX0 in_X11_back_X0 rfl hr_82 (by decide) (by decide +kernel) rfl rfl rfl rfl (Nat.le_of_ble_eq_true rfl) rfl dX11_back_39 (fun f_83 H_84 locs h_85 x_86 hw => ?_)
    have hGI := hGI.kp hG Tx (fo_ty hWF t_6) (rp_upd hG hWF x_86 hr_82.2 h_85.2 (rp_code hG t_10 (by decide)) rfl : RP E G f_67 f_83) (KP.refl.upd hWF x_86 t_10 (Or.inl (by decide)) : KP G [1] false f_67 f_83) (by decide)
    have fq_87 := fv_one (rp_upd hG hWF x_86 hr_82.2 h_85.2 (rp_code hG t_10 (by decide)) rfl : RP E G f_67 f_83) (KP.refl.upd hWF x_86 t_10 (Or.inl (by decide)) : KP G [1] false f_67 f_83) (by decide) (fo_ty hWF t_6) t_6
    have fq_88 := fv_one (rp_upd hG hWF x_86 hr_82.2 h_85.2 (rp_code hG t_10 (by decide)) rfl : RP E G f_67 f_83) (KP.refl.upd hWF x_86 t_10 (Or.inl (by decide)) : KP G [1] false f_67 f_83) (by decide) (fo_ty hWF t_8) t_8
    have hKP := hKP.upd hWF x_86 t_10 (Or.inl (by decide))
    have hWF := wf_upd hWF h_85 x_86 (by rw [t_10]; exact ⟨0, v_79, rfl, ⟨by omega, by omega⟩, ⟨by omega, by omega⟩⟩)
    have h_69 := h_69.ext x_86 (py_ne_kind h_69 hr_82 (by decide))
    have hr_24 := hr_24.ext x_86 (py_ne_kind hr_24 hr_82 (by decide))
    have tq_89 := hy_eq hr_24
    have hr_60 := hr_60.ext x_86 (py_ne_kind hr_60 hr_82 (by decide))
    have tq_90 := fo_eq hr_60
    refine lv_aload_n G0.1 G0.2.1 dX11_back_42 rfl (lv_at hl 0 rfl) ?_
    refine py_get (C := RX11) (T := TX11) (N := 16) (k := 5) (v := .ref (G.2 x 5)) G0 hw in_X11_back_X11 rfl hr_24 (by decide) (by decide +kernel) rfl dX11_back_43 ?_
    refine py_get (C := RX2) (T := TX2) (N := 12) (k := 11) (v := .int v_57) G0 hw in_X11_back_X2 rfl hr_60 (by decide) (by decide +kernel) rfl dX11_back_46 ?_
    exact py_iret G0 hr rfl hlk hw ⟨(by first | omega | (intro q; omega)), (by first | omega | (intro q; omega)), hWF, hKP, hGI⟩ dX11_back_49
  · skip
    have tc_26 := ti_eq c_26
    refine lv_iconst (v := (-1)) G0.1 G0.2.1 dX11_back_7 (by decide) ?_
    exact py_iret G0 hr rfl hlk hw ⟨(by first | omega | (intro q; omega)), (by first | omega | (intro q; omega)), hWF, hKP, hGI⟩ dX11_back_8

def w_X11_tellValley : List Cond := .code yX11_tellValley cX11_tellValley 2 (some .int) :: ([Cond.fieldLink RX11 19 "HeadYear" "valleyReader" "LHeadYear$ValleyReader;", Cond.fieldLink RX11 353 "HeadYear$ValleyReader" "draft" "LHeadYear$Valley;", Cond.fieldLink RX11 47 "HeadYear" "folk" "LHeadYear$Folk;", Cond.fieldLink RX11 128 "HeadYear$Folk" "valley" "LHeadYear$Valley;", Cond.methodLink RX11 356 yX2_settle, Cond.instanceMethod yX2_settle, Cond.selects RX2 yX2_settle yX2_settle, Cond.initialized RX2, Cond.fieldLink RX11 60 "HeadYear" "diary" "LHeadYear$Diary;", Cond.fieldLink RX11 304 "HeadYear$Diary" "years" "I", Cond.fieldLink RX11 67 "HeadYear" "buyings" "LHeadYear$Buyings;", Cond.fieldLink RX11 240 "HeadYear$Buyings" "count" "I", Cond.fieldLink RX11 101 "HeadYear" "imaged" "Z", Cond.fieldLink RX11 10 "HeadYear" "tape" "LHeadYear$Tape;", Cond.fieldLink RX11 109 "HeadYear$Tape" "length" "I", Cond.fieldLink RX11 319 "HeadYear$Valley" "families" "I"] ++ (u_ws RX11 TX11 16 ++ (u_ws RX10 TX10 2 ++ (u_ws RX2 TX2 12 ++ (u_ws RX1 TX1 3 ++ (u_ws RX0 TX0 5 ++ (u_ws RX8 TX8 4 ++ (u_ws RX9 TX9 10 ++ (w_X2_settle ++ ([]))))))))))
theorem in_X11_tellValley_X11 : ∀ w ∈ u_ws RX11 TX11 16, w ∈ w_X11_tellValley := fun _ h => List.mem_cons_of_mem _ (List.mem_append_right _ (List.mem_append_left _ h))
theorem in_X11_tellValley_X10 : ∀ w ∈ u_ws RX10 TX10 2, w ∈ w_X11_tellValley := fun _ h => List.mem_cons_of_mem _ (List.mem_append_right _ (List.mem_append_right _ (List.mem_append_left _ h)))
theorem in_X11_tellValley_X2 : ∀ w ∈ u_ws RX2 TX2 12, w ∈ w_X11_tellValley := fun _ h => List.mem_cons_of_mem _ (List.mem_append_right _ (List.mem_append_right _ (List.mem_append_right _ (List.mem_append_left _ h))))
theorem in_X11_tellValley_X1 : ∀ w ∈ u_ws RX1 TX1 3, w ∈ w_X11_tellValley := fun _ h => List.mem_cons_of_mem _ (List.mem_append_right _ (List.mem_append_right _ (List.mem_append_right _ (List.mem_append_right _ (List.mem_append_left _ h)))))
theorem in_X11_tellValley_X0 : ∀ w ∈ u_ws RX0 TX0 5, w ∈ w_X11_tellValley := fun _ h => List.mem_cons_of_mem _ (List.mem_append_right _ (List.mem_append_right _ (List.mem_append_right _ (List.mem_append_right _ (List.mem_append_right _ (List.mem_append_left _ h))))))
theorem in_X11_tellValley_X8 : ∀ w ∈ u_ws RX8 TX8 4, w ∈ w_X11_tellValley := fun _ h => List.mem_cons_of_mem _ (List.mem_append_right _ (List.mem_append_right _ (List.mem_append_right _ (List.mem_append_right _ (List.mem_append_right _ (List.mem_append_right _ (List.mem_append_left _ h)))))))
theorem in_X11_tellValley_X9 : ∀ w ∈ u_ws RX9 TX9 10, w ∈ w_X11_tellValley := fun _ h => List.mem_cons_of_mem _ (List.mem_append_right _ (List.mem_append_right _ (List.mem_append_right _ (List.mem_append_right _ (List.mem_append_right _ (List.mem_append_right _ (List.mem_append_right _ (List.mem_append_left _ h))))))))
theorem gg_X11_tellValley_X2_settle : GoodIn w_X11_tellValley w_X2_settle := goodIn_sub (fun _ h => List.mem_cons_of_mem _ (List.mem_append_right _ (List.mem_append_right _ (List.mem_append_right _ (List.mem_append_right _ (List.mem_append_right _ (List.mem_append_right _ (List.mem_append_right _ (List.mem_append_right _ (List.mem_append_left _ h)))))))))) (by decide +kernel)
theorem g_X11_tellValley_X2_settle_356 : GoodIn w_X11_tellValley (wsV RX11 356 RX2 yX2_settle w_X2_settle) := goodIn_app (goodIn_of _ (by decide +kernel)) gg_X11_tellValley_X2_settle
set_option maxHeartbeats 4000000 in
set_option maxRecDepth 100000 in
theorem c_X11_tellValley (l : Launch) (E : py_E) (G : wf_G) (L : List Nat) (f : py_F) (sz : Nat) (x : Nat) (hG : GT G) (hWF : WF E G L f) (Tx : G.1 x = 12) (hp0 : 2 ≤ rd_l f (G.2 x 1)) (hq0 : GI E G f x) : Met l yX11_tellValley w_X11_tellValley ({ frames := 3, cells := 0, slots := 0, locals := 70 }) (py_Pc E [.ref x] L f sz) (py_Qi E L f sz (fun r L1 f1 => (r.toInt = rd_f f (G.2 x 1)) ∧ (tp_l f1 (G.2 x 0) = 0) ∧ (hy_n f1 x = hy_n f x) ∧ (hy_m f1 x = 0) ∧ (fo_y f1 (G.2 x 5) = 0 ∧ 2 ≤ fv_l f1 (G.2 x 5)) ∧ WF E G L1 f1 ∧ KP G [11, 3, 26, 37, 30, 2, 1, 12, 9] true f f1 ∧ GI E G f1 x)) 0 0 (va_A (va_pl L f) sz) := by
  refine Met.ofW (cc := cX11_tellValley) (maxL := 2) (ret := (some .int)) (by decide) rfl ?_
  intro p e s m args below meth c s₁ B hml hv
  obtain ⟨rfl, rfl, hw⟩ := py_start hv
  have G0 : CallFix p m c cX11_tellValley 2 s _ w_X11_tellValley RX11 := ⟨B.exec, B.bytes, hml, findClass_of_methodNamed B.named, atoms_spec (ws := w_X11_tellValley) B.pre⟩
  have hr := B.returns
  have hlk := B.notSynchronized
  have kcm1 : (-1 : Int32).toInt = -1 := rfl
  have kc0 : (0 : Int32).toInt = 0 := rfl
  have kc1 : (1 : Int32).toInt = 1 := rfl
  have hl := lv_entry ([.ref x]) (n := 2) (Nat.le_of_ble_eq_true rfl)
  rw [lg_entry_eq]
  generalize (lg_sl ([.ref x]) ++ List.replicate (2 - (lg_sl ([.ref x])).length) Slot.unset).toArray = ls at hl ⊢
  have hl : lv_has ls 2 [(0, .ref x)] := hl
  have hGI := hq0
  have hKP : KP G [11, 3, 26, 37, 30, 2, 1, 12, 9] true f f := KP.refl
  obtain ⟨t_1, t_2, t_3, t_4, t_5, t_6, t_7, t_8, t_9, t_10, t_11, t_12, t_13, tx_14, tx_15, tx_16, tx_17⟩ := wt_11 hG Tx
  refine lv_aload_n G0.1 G0.2.1 dX11_tellValley_0 rfl (lv_at hl 0 rfl) ?_
  obtain ⟨v_18, v_19, v_20, hr_24, b_21, b_22, b_23⟩ := wg_11 hWF Tx
  have tq_25 := hy_eq hr_24
  refine py_get (C := RX11) (T := TX11) (N := 16) (k := 1) (v := .ref (G.2 x 1)) G0 hw in_X11_tellValley_X11 rfl hr_24 (by decide) (by decide +kernel) rfl dX11_tellValley_1 ?_
  have t_26 := wt_10 hG t_2
  obtain ⟨r_27, hr_29, ty_28⟩ := wg_10 hWF t_2
  have tq_30 := rd_eq hr_29
  refine py_get (C := RX10) (T := TX10) (N := 2) (k := 1) (v := .ref r_27) G0 hw in_X11_tellValley_X10 rfl hr_29 (by decide) (by decide +kernel) rfl dX11_tellValley_4 ?_
  refine lv_astore_n (lv' := [(1, .ref r_27), (0, .ref x)]) G0.1 G0.2.1 dX11_tellValley_7 rfl hl (by decide) rfl (fun ls hl => ?_)
  refine lv_aload_n G0.1 G0.2.1 dX11_tellValley_8 rfl (lv_at hl 1 rfl) ?_
  refine py_get (C := RX11) (T := TX11) (N := 16) (k := 1) (v := .ref (G.2 x 1)) G0 hw in_X11_tellValley_X11 rfl hr_24 (by decide) (by decide +kernel) rfl dX11_tellValley_9 ?_
  refine lv_aload_n G0.1 G0.2.1 dX11_tellValley_12 rfl (lv_at hl 1 rfl) ?_
  refine py_get (C := RX11) (T := TX11) (N := 16) (k := 5) (v := .ref (G.2 x 5)) G0 hw in_X11_tellValley_X11 rfl hr_24 (by decide) (by decide +kernel) rfl dX11_tellValley_13 ?_
  obtain ⟨t_31, t_32, t_33, t_34, t_35, t_36, t_37, t_38, t_39⟩ := wt_2 hG t_6
  obtain ⟨r_40, y_41, v_42, hr_45, ty_43, b_44⟩ := wg_2 hWF t_6
  refine py_get (C := RX2) (T := TX2) (N := 12) (k := 9) (v := .ref r_40) G0 hw in_X11_tellValley_X2 rfl hr_45 (by decide) (by decide +kernel) rfl dX11_tellValley_16 ?_
  refine py_put (C := RX10) (T := TX10) (N := 2) (k := 1) (v := .ref r_40) (fs' := [.ref (G.2 (G.2 x 1) 0), .ref r_40]) (ty0 := tyX10) G0 hw tyX10_ok nmX10 in_X11_tellValley_X10 rfl hr_29 (by decide) (by decide +kernel) rfl rfl rfl rfl (Nat.le_of_ble_eq_true rfl) rfl dX11_tellValley_19 (fun f_46 H_47 locs h_48 x_49 hw => ?_)
  have hGI0 := hGI
  have hWF0 := hWF
  have hxt := x_49
  have hrp0 := (rp_upd hG hWF x_49 hr_29.2 h_48.2 (rp_code hG t_2 (by decide)) rfl : RP E G f f_46)
  have hdr := h_48
  have hd5 := (fo_eq hr_45).1
  have hto : r_27 = dr_v (f (G.2 x 1)) := by rw [hr_29.2]; rfl
  have hKP := hKP.upd hWF x_49 t_2 (Or.inl (by decide))
  have hWF := wf_upd hWF h_48 x_49 (by rw [t_2]; exact ⟨r_40, rfl, ty_43⟩)
  have tq_50 := rd_eq h_48
  have hr_24 := hr_24.ext x_49 (py_ne_kind hr_24 hr_29 (by decide))
  have tq_51 := hy_eq hr_24
  have hr_45 := hr_45.ext x_49 (py_ne_kind hr_45 hr_29 (by decide))
  refine lv_aload_n G0.1 G0.2.1 dX11_tellValley_22 rfl (lv_at hl 1 rfl) ?_
  refine py_get (C := RX11) (T := TX11) (N := 16) (k := 5) (v := .ref (G.2 x 5)) G0 hw in_X11_tellValley_X11 rfl hr_24 (by decide) (by decide +kernel) rfl dX11_tellValley_23 ?_
  refine lv_aload_n G0.1 G0.2.1 dX11_tellValley_26 rfl (lv_at hl 0 rfl) ?_
  refine py_callv hw (va_runV (As := [.ref r_27]) (rest := []) G0 (c_X2_settle l E G L f_46 H_47.size (G.2 x 5) r_27 hG hWF t_6 ty_28) (cwV 1 G0.2.2.2.2 g_X11_tellValley_X2_settle_356 rfl rfl rfl (by decide +kernel) ⟨(Nat.le_of_ble_eq_true rfl), (Nat.le_of_ble_eq_true rfl)⟩) (py_preV hw (C := RX2) (T := TX2) (N := 12) rfl hr_45) rfl rfl hl.1 rfl (lv_room (Nat.le_of_ble_eq_true rfl)) dX11_tellValley_27 ⟨(Nat.le_of_ble_eq_true rfl), (Nat.le_of_ble_eq_true rfl)⟩) (fun L_52 f_53 H_54 locs hp_55 hw => ?_)
  have ht_60 := fo_ty hWF t_6
  obtain ⟨en_57, hWF, hq_58, kp_59⟩ := hp_55
  have hGR := GI.told hGI0 hG hWF0 Tx hxt hrp0 hto (by rw [hd5]; exact hdr) ty_28 hq_58 kp_59 (by decide) en_57.1 en_57.2 (by omega)
  have hyo := en_57
  have hKP := hKP.trans kp_59 (by decide) (by decide)
  have h_48 := kp_at kp_59 hWF t_2 (by decide) (by decide) (by decide) h_48
  have tq_61 := rd_eq h_48
  have hr_24 := kp_at kp_59 hWF Tx (by decide) (by decide) (by decide) hr_24
  have tq_62 := hy_eq hr_24
  refine lv_aload_n G0.1 G0.2.1 dX11_tellValley_30 rfl (lv_at hl 1 rfl) ?_
  refine py_get (C := RX11) (T := TX11) (N := 16) (k := 8) (v := .ref (G.2 x 8)) G0 hw in_X11_tellValley_X11 rfl hr_24 (by decide) (by decide +kernel) rfl dX11_tellValley_31 ?_
  refine lv_iconst (v := 0) G0.1 G0.2.1 dX11_tellValley_34 (by decide) ?_
  obtain ⟨t_63, t_64⟩ := wt_1 hG t_9
  obtain ⟨v_65, hr_67, b_66⟩ := wg_1 hWF t_9
  refine py_put (C := RX1) (T := TX1) (N := 3) (k := 2) (v := .int 0) (fs' := [.ref (G.2 (G.2 x 8) 0), .ref (G.2 (G.2 x 8) 1), .int 0]) (ty0 := tyX1) G0 hw tyX1_ok nmX1 in_X11_tellValley_X1 rfl hr_67 (by decide) (by decide +kernel) rfl rfl rfl rfl (Nat.le_of_ble_eq_true rfl) rfl dX11_tellValley_35 (fun f_68 H_69 locs h_70 x_71 hw => ?_)
  have hsx := hy_same (kp_f (KP.refl.upd hWF x_71 t_9 (Or.inl (by decide)) : KP G [2] false f_53 f_68) Tx (by decide) (by decide) (fun _ => by decide))
  have hGR := GI.rest hGR hG Tx (fo_ty hWF t_6) (rp_upd hG hWF x_71 hr_67.2 h_70.2 (rp_code hG t_9 (by decide)) rfl : RP E G f_53 f_68) (KP.refl.upd hWF x_71 t_9 (Or.inl (by decide)) : KP G [2] false f_53 f_68) (by decide) hsx.1
  have hyo := And.intro (((rp_upd hG hWF x_71 hr_67.2 h_70.2 (rp_code hG t_9 (by decide)) rfl : RP E G f_53 f_68) _ t_6).2.1.trans hyo.1) (((rp_upd hG hWF x_71 hr_67.2 h_70.2 (rp_code hG t_9 (by decide)) rfl : RP E G f_53 f_68) _ t_6).2.2.trans hyo.2)
  have hKP := hKP.upd hWF x_71 t_9 (Or.inl (by decide))
  have hWF := wf_upd hWF h_70 x_71 (by rw [t_9]; exact ⟨0, rfl, ⟨by omega, by omega⟩⟩)
  have h_48 := h_48.ext x_71 (py_ne_kind h_48 hr_67 (by decide))
  have tq_72 := rd_eq h_48
  have hr_24 := hr_24.ext x_71 (py_ne_kind hr_24 hr_67 (by decide))
  have tq_73 := hy_eq hr_24
  refine lv_aload_n G0.1 G0.2.1 dX11_tellValley_38 rfl (lv_at hl 1 rfl) ?_
  refine py_get (C := RX11) (T := TX11) (N := 16) (k := 9) (v := .ref (G.2 x 9)) G0 hw in_X11_tellValley_X11 rfl hr_24 (by decide) (by decide +kernel) rfl dX11_tellValley_39 ?_
  refine lv_iconst (v := 0) G0.1 G0.2.1 dX11_tellValley_42 (by decide) ?_
  obtain ⟨t_74, t_75, t_76⟩ := wt_0 hG t_10
  obtain ⟨v_77, v_78, hr_81, b_79, b_80⟩ := wg_0 hWF t_10
  refine py_put (C := RX0) (T := TX0) (N := 5) (k := 3) (v := .int 0) (fs' := [.ref (G.2 (G.2 x 9) 0), .ref (G.2 (G.2 x 9) 1), .ref (G.2 (G.2 x 9) 2), .int 0, .int v_78]) (ty0 := tyX0) G0 hw tyX0_ok nmX0 in_X11_tellValley_X0 rfl hr_81 (by decide) (by decide +kernel) rfl rfl rfl rfl (Nat.le_of_ble_eq_true rfl) rfl dX11_tellValley_43 (fun f_82 H_83 locs h_84 x_85 hw => ?_)
  have hsx := hy_same (kp_f (KP.refl.upd hWF x_85 t_10 (Or.inl (by decide)) : KP G [1] false f_68 f_82) Tx (by decide) (by decide) (fun _ => by decide))
  have hGR := GI.rest hGR hG Tx (fo_ty hWF t_6) (rp_upd hG hWF x_85 hr_81.2 h_84.2 (rp_code hG t_10 (by decide)) rfl : RP E G f_68 f_82) (KP.refl.upd hWF x_85 t_10 (Or.inl (by decide)) : KP G [1] false f_68 f_82) (by decide) hsx.1
  have hyo := And.intro (((rp_upd hG hWF x_85 hr_81.2 h_84.2 (rp_code hG t_10 (by decide)) rfl : RP E G f_68 f_82) _ t_6).2.1.trans hyo.1) (((rp_upd hG hWF x_85 hr_81.2 h_84.2 (rp_code hG t_10 (by decide)) rfl : RP E G f_68 f_82) _ t_6).2.2.trans hyo.2)
  have hKP := hKP.upd hWF x_85 t_10 (Or.inl (by decide))
  have hWF := wf_upd hWF h_84 x_85 (by rw [t_10]; exact ⟨0, v_78, rfl, ⟨by omega, by omega⟩, ⟨by omega, by omega⟩⟩)
  have h_70 := h_70.ext x_85 (py_ne_kind h_70 hr_81 (by decide))
  have h_48 := h_48.ext x_85 (py_ne_kind h_48 hr_81 (by decide))
  have tq_86 := rd_eq h_48
  have hr_24 := hr_24.ext x_85 (py_ne_kind hr_24 hr_81 (by decide))
  have tq_87 := hy_eq hr_24
  refine lv_aload_n G0.1 G0.2.1 dX11_tellValley_46 rfl (lv_at hl 1 rfl) ?_
  refine lv_iconst (v := 0) G0.1 G0.2.1 dX11_tellValley_47 (by decide) ?_
  refine py_put (C := RX11) (T := TX11) (N := 16) (k := 15) (v := .int 0) (fs' := [.ref (G.2 x 0), .ref (G.2 x 1), .ref (G.2 x 2), .ref (G.2 x 3), .ref (G.2 x 4), .ref (G.2 x 5), .ref (G.2 x 6), .ref (G.2 x 7), .ref (G.2 x 8), .ref (G.2 x 9), .ref (G.2 x 10), .ref (G.2 x 11), .ref (G.2 x 12), .int v_18, .int v_19, .int 0]) (ty0 := tyX11) G0 hw tyX11_ok nmX11 in_X11_tellValley_X11 rfl hr_24 (by decide) (by decide +kernel) rfl rfl rfl rfl (Nat.le_of_ble_eq_true rfl) rfl dX11_tellValley_48 (fun f_88 H_89 locs h_90 x_91 hw => ?_)
  have hGR := GI.rest hGR hG Tx (fo_ty hWF t_6) (rp_upd hG hWF x_91 hr_24.2 h_90.2 (rp_code hG Tx (by decide)) rfl : RP E G f_82 f_88) (KP.refl.upd hWF x_91 Tx (Or.inl (by decide)) : KP G [12] false f_82 f_88) (by decide) (by have z1 := hy_eq hr_24; have z2 := hy_eq h_90; omega)
  have hm0 : hy_m f_88 x = 0 := by have z2 := hy_eq h_90; omega
  have hyo := And.intro (((rp_upd hG hWF x_91 hr_24.2 h_90.2 (rp_code hG Tx (by decide)) rfl : RP E G f_82 f_88) _ t_6).2.1.trans hyo.1) (((rp_upd hG hWF x_91 hr_24.2 h_90.2 (rp_code hG Tx (by decide)) rfl : RP E G f_82 f_88) _ t_6).2.2.trans hyo.2)
  have hKP := hKP.upd hWF x_91 Tx (Or.inl (by decide))
  have hWF := wf_upd hWF h_90 x_91 (by rw [Tx]; exact ⟨v_18, v_19, 0, rfl, ⟨by omega, by omega⟩, ⟨by omega, by omega⟩, ⟨by omega, by omega⟩⟩)
  have tq_92 := hy_eq h_90
  have h_84 := h_84.ext x_91 (py_ne_kind h_84 hr_24 (by decide))
  have h_70 := h_70.ext x_91 (py_ne_kind h_70 hr_24 (by decide))
  have h_48 := h_48.ext x_91 (py_ne_kind h_48 hr_24 (by decide))
  have tq_93 := rd_eq h_48
  refine lv_aload_n G0.1 G0.2.1 dX11_tellValley_51 rfl (lv_at hl 1 rfl) ?_
  refine py_get (C := RX11) (T := TX11) (N := 16) (k := 0) (v := .ref (G.2 x 0)) G0 hw in_X11_tellValley_X11 rfl h_90 (by decide) (by decide +kernel) rfl dX11_tellValley_52 ?_
  refine lv_iconst (v := 0) G0.1 G0.2.1 dX11_tellValley_55 (by decide) ?_
  have t_94 := wt_8 hG t_1
  obtain ⟨v_95, v_96, v_97, hr_100, b_98, b_99⟩ := wg_8 hWF t_1
  have bv_97 := wf_free v_97
  have tq_101 := tp_eq hr_100
  refine py_put (C := RX8) (T := TX8) (N := 4) (k := 1) (v := .int 0) (fs' := [.ref (G.2 (G.2 x 0) 0), .int 0, .int v_96, .int v_97]) (ty0 := tyX8) G0 hw tyX8_ok nmX8 in_X11_tellValley_X8 rfl hr_100 (by decide) (by decide +kernel) rfl rfl rfl rfl (Nat.le_of_ble_eq_true rfl) rfl dX11_tellValley_56 (fun f_102 H_103 locs h_104 x_105 hw => ?_)
  have hsx := hy_same (kp_f (KP.refl.upd hWF x_105 t_1 (Or.inl (by decide)) : KP G [9] false f_88 f_102) Tx (by decide) (by decide) (fun _ => by decide))
  have hGR := GI.rest hGR hG Tx (fo_ty hWF t_6) (rp_upd hG hWF x_105 hr_100.2 h_104.2 (rp_code hG t_1 (by decide)) rfl : RP E G f_88 f_102) (KP.refl.upd hWF x_105 t_1 (Or.inl (by decide)) : KP G [9] false f_88 f_102) (by decide) hsx.1
  have hm0 := hsx.2.trans hm0
  have hyo := And.intro (((rp_upd hG hWF x_105 hr_100.2 h_104.2 (rp_code hG t_1 (by decide)) rfl : RP E G f_88 f_102) _ t_6).2.1.trans hyo.1) (((rp_upd hG hWF x_105 hr_100.2 h_104.2 (rp_code hG t_1 (by decide)) rfl : RP E G f_88 f_102) _ t_6).2.2.trans hyo.2)
  have hKP := hKP.upd hWF x_105 t_1 (Or.inl (by decide))
  have hWF := wf_upd hWF h_104 x_105 (by rw [t_1]; exact ⟨0, v_96, v_97, rfl, ⟨by omega, by omega⟩, ⟨by omega, by omega⟩⟩)
  have tq_106 := tp_eq h_104
  have h_90 := h_90.ext x_105 (py_ne_kind h_90 hr_100 (by decide))
  have tq_107 := hy_eq h_90
  have h_84 := h_84.ext x_105 (py_ne_kind h_84 hr_100 (by decide))
  have h_70 := h_70.ext x_105 (py_ne_kind h_70 hr_100 (by decide))
  have h_48 := h_48.ext x_105 (py_ne_kind h_48 hr_100 (by decide))
  have tq_108 := rd_eq h_48
  refine lv_aload_n G0.1 G0.2.1 dX11_tellValley_59 rfl (lv_at hl 0 rfl) ?_
  obtain ⟨t_109, t_110, t_111, t_112, t_113, t_114, t_115, t_116⟩ := wt_9 hG ty_28
  obtain ⟨v_117, v_118, hr_121, b_119, b_120⟩ := wg_9 hWF ty_28
  have tq_122 := va_eq hr_121
  refine py_get (C := RX9) (T := TX9) (N := 10) (k := 9) (v := .int v_118) G0 hw in_X11_tellValley_X9 rfl hr_121 (by decide) (by decide +kernel) rfl dX11_tellValley_60 ?_
  have hvt : va_f f_102 r_27 = va_f f r_27 := by unfold va_f; rw [kp_f hKP ty_28 (by decide) (by decide) (fun _ => by decide)]
  have hGI : GI E G f_102 x := ⟨hGR.1, hGR.2.1, fun hm => absurd hm0 hm, hGR.2.2⟩
  have hyv : fv_l f_102 (G.2 x 5) = va_l f r_27 := by unfold fv_l; rw [hyo.1]; unfold va_l; rw [kp_f hKP ty_28 (by decide) (by decide) (fun _ => by decide)]
  have hyz := hyo.2
  exact py_iret G0 hr rfl hlk hw ⟨(by first | omega | (intro q; omega)), (by first | omega | (intro q; omega)), (by first | omega | (intro q; omega)), (by first | omega | (intro q; omega)), (by first | omega | (intro q; omega)), hWF, hKP, hGI⟩ dX11_tellValley_63
