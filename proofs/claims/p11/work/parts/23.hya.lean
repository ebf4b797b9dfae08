theorem dX11_buy_0 : decode cX11_buy 0 = .ok (.aload_n 0, 1) := by decide +kernel
theorem dX11_buy_1 : decode cX11_buy 1 = .ok (.iload_n 1, 1) := by decide +kernel
theorem dX11_buy_2 : decode cX11_buy 2 = .ok (.invokevirtual 246, 3) := by decide +kernel
theorem dX11_buy_5 : decode cX11_buy 5 = .ok (.ifCond .eq 26, 3) := by decide +kernel
theorem dX11_buy_8 : decode cX11_buy 8 = .ok (.iload_n 2, 1) := by decide +kernel
theorem dX11_buy_9 : decode cX11_buy 9 = .ok (.ifCond .eq 22, 3) := by decide +kernel
theorem dX11_buy_12 : decode cX11_buy 12 = .ok (.iload_n 2, 1) := by decide +kernel
theorem dX11_buy_13 : decode cX11_buy 13 = .ok (.invokestatic 249, 3) := by decide +kernel
theorem dX11_buy_16 : decode cX11_buy 16 = .ok (.ifCond .eq 15, 3) := by decide +kernel
theorem dX11_buy_19 : decode cX11_buy 19 = .ok (.aload_n 0, 1) := by decide +kernel
theorem dX11_buy_20 : decode cX11_buy 20 = .ok (.getfield 67, 3) := by decide +kernel
theorem dX11_buy_23 : decode cX11_buy 23 = .ok (.getfield 240, 3) := by decide +kernel
theorem dX11_buy_26 : decode cX11_buy 26 = .ok (.bipush 40, 2) := by decide +kernel
theorem dX11_buy_28 : decode cX11_buy 28 = .ok (.if_icmp .lt 5, 3) := by decide +kernel
theorem dX11_buy_31 : decode cX11_buy 31 = .ok (.iconst (-1), 1) := by decide +kernel
theorem dX11_buy_32 : decode cX11_buy 32 = .ok (.ireturn, 1) := by decide +kernel
theorem dX11_buy_33 : decode cX11_buy 33 = .ok (.aload_n 0, 1) := by decide +kernel
theorem dX11_buy_34 : decode cX11_buy 34 = .ok (.getfield 47, 3) := by decide +kernel
theorem dX11_buy_37 : decode cX11_buy 37 = .ok (.getfield 188, 3) := by decide +kernel
theorem dX11_buy_40 : decode cX11_buy 40 = .ok (.iload_n 1, 1) := by decide +kernel
theorem dX11_buy_41 : decode cX11_buy 41 = .ok (.iaload, 1) := by decide +kernel
theorem dX11_buy_42 : decode cX11_buy 42 = .ok (.iload_n 2, 1) := by decide +kernel
theorem dX11_buy_43 : decode cX11_buy 43 = .ok (.iadd, 1) := by decide +kernel
theorem dX11_buy_44 : decode cX11_buy 44 = .ok (.invokestatic 249, 3) := by decide +kernel
theorem dX11_buy_47 : decode cX11_buy 47 = .ok (.ifCond .ne 5, 3) := by decide +kernel
theorem dX11_buy_50 : decode cX11_buy 50 = .ok (.iconst (-1), 1) := by decide +kernel
theorem dX11_buy_51 : decode cX11_buy 51 = .ok (.ireturn, 1) := by decide +kernel
theorem dX11_buy_52 : decode cX11_buy 52 = .ok (.aload_n 0, 1) := by decide +kernel
theorem dX11_buy_53 : decode cX11_buy 53 = .ok (.getfield 67, 3) := by decide +kernel
theorem dX11_buy_56 : decode cX11_buy 56 = .ok (.iload_n 1, 1) := by decide +kernel
theorem dX11_buy_57 : decode cX11_buy 57 = .ok (.iload_n 2, 1) := by decide +kernel
theorem dX11_buy_58 : decode cX11_buy 58 = .ok (.invokevirtual 252, 3) := by decide +kernel
theorem dX11_buy_61 : decode cX11_buy 61 = .ok (.istore_n 3, 1) := by decide +kernel
theorem dX11_buy_62 : decode cX11_buy 62 = .ok (.aload_n 0, 1) := by decide +kernel
theorem dX11_buy_63 : decode cX11_buy 63 = .ok (.getfield 47, 3) := by decide +kernel
theorem dX11_buy_66 : decode cX11_buy 66 = .ok (.getfield 188, 3) := by decide +kernel
theorem dX11_buy_69 : decode cX11_buy 69 = .ok (.iload_n 1, 1) := by decide +kernel
theorem dX11_buy_70 : decode cX11_buy 70 = .ok (.dup2, 1) := by decide +kernel
theorem dX11_buy_71 : decode cX11_buy 71 = .ok (.iaload, 1) := by decide +kernel
theorem dX11_buy_72 : decode cX11_buy 72 = .ok (.iload_n 2, 1) := by decide +kernel
theorem dX11_buy_73 : decode cX11_buy 73 = .ok (.iadd, 1) := by decide +kernel
theorem dX11_buy_74 : decode cX11_buy 74 = .ok (.iastore, 1) := by decide +kernel
theorem dX11_buy_75 : decode cX11_buy 75 = .ok (.aload_n 0, 1) := by decide +kernel
theorem dX11_buy_76 : decode cX11_buy 76 = .ok (.getfield 47, 3) := by decide +kernel
theorem dX11_buy_79 : decode cX11_buy 79 = .ok (.getfield 195, 3) := by decide +kernel
theorem dX11_buy_82 : decode cX11_buy 82 = .ok (.iload_n 1, 1) := by decide +kernel
theorem dX11_buy_83 : decode cX11_buy 83 = .ok (.dup2, 1) := by decide +kernel
theorem dX11_buy_84 : decode cX11_buy 84 = .ok (.iaload, 1) := by decide +kernel
theorem dX11_buy_85 : decode cX11_buy 85 = .ok (.iload_n 3, 1) := by decide +kernel
theorem dX11_buy_86 : decode cX11_buy 86 = .ok (.iadd, 1) := by decide +kernel
theorem dX11_buy_87 : decode cX11_buy 87 = .ok (.iastore, 1) := by decide +kernel
theorem dX11_buy_88 : decode cX11_buy 88 = .ok (.iload_n 3, 1) := by decide +kernel
theorem dX11_buy_89 : decode cX11_buy 89 = .ok (.ireturn, 1) := by decide +kernel
theorem dX11_climb_0 : decode cX11_climb 0 = .ok (.aload_n 0, 1) := by decide +kernel
theorem dX11_climb_1 : decode cX11_climb 1 = .ok (.iload_n 1, 1) := by decide +kernel
theorem dX11_climb_2 : decode cX11_climb 2 = .ok (.invokevirtual 163, 3) := by decide +kernel
theorem dX11_climb_5 : decode cX11_climb 5 = .ok (.ifCond .eq 10, 3) := by decide +kernel
theorem dX11_climb_8 : decode cX11_climb 8 = .ok (.iload_n 2, 1) := by decide +kernel
theorem dX11_climb_9 : decode cX11_climb 9 = .ok (.invokestatic 267, 3) := by decide +kernel
theorem dX11_climb_12 : decode cX11_climb 12 = .ok (.ifCond .ne 6, 3) := by decide +kernel
theorem dX11_climb_15 : decode cX11_climb 15 = .ok (.ldc 166, 2) := by decide +kernel
theorem dX11_climb_17 : decode cX11_climb 17 = .ok (.ireturn, 1) := by decide +kernel
theorem dX11_climb_18 : decode cX11_climb 18 = .ok (.aload_n 0, 1) := by decide +kernel
theorem dX11_climb_19 : decode cX11_climb 19 = .ok (.getfield 60, 3) := by decide +kernel
theorem dX11_climb_22 : decode cX11_climb 22 = .ok (.getfield 304, 3) := by decide +kernel
theorem dX11_climb_25 : decode cX11_climb 25 = .ok (.ifCond .ne 13, 3) := by decide +kernel
theorem dX11_climb_28 : decode cX11_climb 28 = .ok (.iload_n 2, 1) := by decide +kernel
theorem dX11_climb_29 : decode cX11_climb 29 = .ok (.ifCond .ne 7, 3) := by decide +kernel
theorem dX11_climb_32 : decode cX11_climb 32 = .ok (.iconst 0, 1) := by decide +kernel
theorem dX11_climb_33 : decode cX11_climb 33 = .ok (.goto 4, 3) := by decide +kernel
theorem dX11_climb_36 : decode cX11_climb 36 = .ok (.iconst (-1), 1) := by decide +kernel
theorem dX11_climb_37 : decode cX11_climb 37 = .ok (.ireturn, 1) := by decide +kernel
theorem dX11_climb_38 : decode cX11_climb 38 = .ok (.iconst 0, 1) := by decide +kernel
theorem dX11_climb_39 : decode cX11_climb 39 = .ok (.istore_n 3, 1) := by decide +kernel
theorem dX11_climb_40 : decode cX11_climb 40 = .ok (.iconst 0, 1) := by decide +kernel
theorem dX11_climb_41 : decode cX11_climb 41 = .ok (.istore 4, 2) := by decide +kernel
theorem dX11_climb_43 : decode cX11_climb 43 = .ok (.iconst 0, 1) := by decide +kernel
theorem dX11_climb_44 : decode cX11_climb 44 = .ok (.istore 5, 2) := by decide +kernel
theorem dX11_climb_46 : decode cX11_climb 46 = .ok (.iload 5, 2) := by decide +kernel
theorem dX11_climb_48 : decode cX11_climb 48 = .ok (.aload_n 0, 1) := by decide +kernel
theorem dX11_climb_49 : decode cX11_climb 49 = .ok (.getfield 60, 3) := by decide +kernel
theorem dX11_climb_52 : decode cX11_climb 52 = .ok (.getfield 304, 3) := by decide +kernel
theorem dX11_climb_55 : decode cX11_climb 55 = .ok (.if_icmp .ge 34, 3) := by decide +kernel
theorem dX11_climb_58 : decode cX11_climb 58 = .ok (.aload_n 0, 1) := by decide +kernel
theorem dX11_climb_59 : decode cX11_climb 59 = .ok (.getfield 60, 3) := by decide +kernel
theorem dX11_climb_62 : decode cX11_climb 62 = .ok (.iload 5, 2) := by decide +kernel
theorem dX11_climb_64 : decode cX11_climb 64 = .ok (.iload_n 1, 1) := by decide +kernel
theorem dX11_climb_65 : decode cX11_climb 65 = .ok (.invokevirtual 311, 3) := by decide +kernel
theorem dX11_climb_68 : decode cX11_climb 68 = .ok (.istore 6, 2) := by decide +kernel
theorem dX11_climb_70 : decode cX11_climb 70 = .ok (.iload 6, 2) := by decide +kernel
theorem dX11_climb_72 : decode cX11_climb 72 = .ok (.iload_n 3, 1) := by decide +kernel
theorem dX11_climb_73 : decode cX11_climb 73 = .ok (.if_icmp .le 10, 3) := by decide +kernel
theorem dX11_climb_76 : decode cX11_climb 76 = .ok (.iload 6, 2) := by decide +kernel
theorem dX11_climb_78 : decode cX11_climb 78 = .ok (.istore_n 3, 1) := by decide +kernel
theorem dX11_climb_79 : decode cX11_climb 79 = .ok (.iload 5, 2) := by decide +kernel
theorem dX11_climb_81 : decode cX11_climb 81 = .ok (.istore 4, 2) := by decide +kernel
theorem dX11_climb_83 : decode cX11_climb 83 = .ok (.iinc 5 1, 3) := by decide +kernel
theorem dX11_climb_86 : decode cX11_climb 86 = .ok (.goto (-40), 3) := by decide +kernel
theorem dX11_climb_89 : decode cX11_climb 89 = .ok (.iload_n 2, 1) := by decide +kernel
theorem dX11_climb_90 : decode cX11_climb 90 = .ok (.ifCond .ne 7, 3) := by decide +kernel
theorem dX11_climb_93 : decode cX11_climb 93 = .ok (.iload_n 3, 1) := by decide +kernel
theorem dX11_climb_94 : decode cX11_climb 94 = .ok (.goto 5, 3) := by decide +kernel
theorem dX11_climb_97 : decode cX11_climb 97 = .ok (.iload 4, 2) := by decide +kernel
theorem dX11_climb_99 : decode cX11_climb 99 = .ok (.ireturn, 1) := by decide +kernel
theorem dX11_count_0 : decode cX11_count 0 = .ok (.iload_n 1, 1) := by decide +kernel
theorem dX11_count_1 : decode cX11_count 1 = .ok (.tableswitch 111 0 7 #[47, 58, 69, 74, 82, 90, 95, 103], 47) := by decide +kernel
theorem dX11_count_48 : decode cX11_count 48 = .ok (.aload_n 0, 1) := by decide +kernel
theorem dX11_count_49 : decode cX11_count 49 = .ok (.getfield 47, 3) := by decide +kernel
theorem dX11_count_52 : decode cX11_count 52 = .ok (.getfield 128, 3) := by decide +kernel
theorem dX11_count_55 : decode cX11_count 55 = .ok (.getfield 317, 3) := by decide +kernel
theorem dX11_count_58 : decode cX11_count 58 = .ok (.ireturn, 1) := by decide +kernel
theorem dX11_count_59 : decode cX11_count 59 = .ok (.aload_n 0, 1) := by decide +kernel
theorem dX11_count_60 : decode cX11_count 60 = .ok (.getfield 47, 3) := by decide +kernel
theorem dX11_count_63 : decode cX11_count 63 = .ok (.getfield 128, 3) := by decide +kernel
theorem dX11_count_66 : decode cX11_count 66 = .ok (.getfield 319, 3) := by decide +kernel
theorem dX11_count_69 : decode cX11_count 69 = .ok (.ireturn, 1) := by decide +kernel
theorem dX11_count_70 : decode cX11_count 70 = .ok (.aload_n 0, 1) := by decide +kernel
theorem dX11_count_71 : decode cX11_count 71 = .ok (.getfield 94, 3) := by decide +kernel
theorem dX11_count_74 : decode cX11_count 74 = .ok (.ireturn, 1) := by decide +kernel
theorem dX11_count_75 : decode cX11_count 75 = .ok (.aload_n 0, 1) := by decide +kernel
theorem dX11_count_76 : decode cX11_count 76 = .ok (.getfield 10, 3) := by decide +kernel
theorem dX11_count_79 : decode cX11_count 79 = .ok (.getfield 109, 3) := by decide +kernel
theorem dX11_count_82 : decode cX11_count 82 = .ok (.ireturn, 1) := by decide +kernel
theorem dX11_count_83 : decode cX11_count 83 = .ok (.aload_n 0, 1) := by decide +kernel
theorem dX11_count_84 : decode cX11_count 84 = .ok (.getfield 47, 3) := by decide +kernel
theorem dX11_count_87 : decode cX11_count 87 = .ok (.getfield 222, 3) := by decide +kernel
theorem dX11_count_90 : decode cX11_count 90 = .ok (.ireturn, 1) := by decide +kernel
theorem dX11_count_91 : decode cX11_count 91 = .ok (.aload_n 0, 1) := by decide +kernel
theorem dX11_count_92 : decode cX11_count 92 = .ok (.getfield 98, 3) := by decide +kernel
theorem dX11_count_95 : decode cX11_count 95 = .ok (.ireturn, 1) := by decide +kernel
theorem dX11_count_96 : decode cX11_count 96 = .ok (.aload_n 0, 1) := by decide +kernel
theorem dX11_count_97 : decode cX11_count 97 = .ok (.getfield 67, 3) := by decide +kernel
theorem dX11_count_100 : decode cX11_count 100 = .ok (.getfield 240, 3) := by decide +kernel
theorem dX11_count_103 : decode cX11_count 103 = .ok (.ireturn, 1) := by decide +kernel
theorem dX11_count_104 : decode cX11_count 104 = .ok (.aload_n 0, 1) := by decide +kernel
theorem dX11_count_105 : decode cX11_count 105 = .ok (.getfield 47, 3) := by decide +kernel
theorem dX11_count_108 : decode cX11_count 108 = .ok (.invokevirtual 350, 3) := by decide +kernel
theorem dX11_count_111 : decode cX11_count 111 = .ok (.ireturn, 1) := by decide +kernel
theorem dX11_count_112 : decode cX11_count 112 = .ok (.ldc 166, 2) := by decide +kernel
theorem dX11_count_114 : decode cX11_count 114 = .ok (.ireturn, 1) := by decide +kernel
theorem dX11_diary_0 : decode cX11_diary 0 = .ok (.aload_n 0, 1) := by decide +kernel
theorem dX11_diary_1 : decode cX11_diary 1 = .ok (.iload_n 1, 1) := by decide +kernel
theorem dX11_diary_2 : decode cX11_diary 2 = .ok (.invokevirtual 163, 3) := by decide +kernel
theorem dX11_diary_5 : decode cX11_diary 5 = .ok (.ifCond .eq 25, 3) := by decide +kernel
theorem dX11_diary_8 : decode cX11_diary 8 = .ok (.iload_n 2, 1) := by decide +kernel
theorem dX11_diary_9 : decode cX11_diary 9 = .ok (.ifCond .lt 21, 3) := by decide +kernel
theorem dX11_diary_12 : decode cX11_diary 12 = .ok (.iload_n 2, 1) := by decide +kernel
theorem dX11_diary_13 : decode cX11_diary 13 = .ok (.aload_n 0, 1) := by decide +kernel
theorem dX11_diary_14 : decode cX11_diary 14 = .ok (.getfield 60, 3) := by decide +kernel
theorem dX11_diary_17 : decode cX11_diary 17 = .ok (.getfield 304, 3) := by decide +kernel
theorem dX11_diary_20 : decode cX11_diary 20 = .ok (.if_icmp .ge 10, 3) := by decide +kernel
theorem dX11_diary_23 : decode cX11_diary 23 = .ok (.iload_n 3, 1) := by decide +kernel
theorem dX11_diary_24 : decode cX11_diary 24 = .ok (.invokestatic 267, 3) := by decide +kernel
theorem dX11_diary_27 : decode cX11_diary 27 = .ok (.ifCond .ne 6, 3) := by decide +kernel
theorem dX11_diary_30 : decode cX11_diary 30 = .ok (.ldc 166, 2) := by decide +kernel
theorem dX11_diary_32 : decode cX11_diary 32 = .ok (.ireturn, 1) := by decide +kernel
theorem dX11_diary_33 : decode cX11_diary 33 = .ok (.iload_n 3, 1) := by decide +kernel
theorem dX11_diary_34 : decode cX11_diary 34 = .ok (.ifCond .ne 15, 3) := by decide +kernel
theorem dX11_diary_37 : decode cX11_diary 37 = .ok (.aload_n 0, 1) := by decide +kernel
theorem dX11_diary_38 : decode cX11_diary 38 = .ok (.getfield 60, 3) := by decide +kernel
theorem dX11_diary_41 : decode cX11_diary 41 = .ok (.iload_n 2, 1) := by decide +kernel
theorem dX11_diary_42 : decode cX11_diary 42 = .ok (.iload_n 1, 1) := by decide +kernel
theorem dX11_diary_43 : decode cX11_diary 43 = .ok (.invokevirtual 305, 3) := by decide +kernel
theorem dX11_diary_46 : decode cX11_diary 46 = .ok (.goto 12, 3) := by decide +kernel
theorem dX11_diary_49 : decode cX11_diary 49 = .ok (.aload_n 0, 1) := by decide +kernel
theorem dX11_diary_50 : decode cX11_diary 50 = .ok (.getfield 60, 3) := by decide +kernel
theorem dX11_diary_53 : decode cX11_diary 53 = .ok (.iload_n 2, 1) := by decide +kernel
theorem dX11_diary_54 : decode cX11_diary 54 = .ok (.iload_n 1, 1) := by decide +kernel
theorem dX11_diary_55 : decode cX11_diary 55 = .ok (.invokevirtual 308, 3) := by decide +kernel
theorem dX11_diary_58 : decode cX11_diary 58 = .ok (.ireturn, 1) := by decide +kernel
theorem dX11_end_0 : decode cX11_end 0 = .ok (.iload_n 1, 1) := by decide +kernel
theorem dX11_end_1 : decode cX11_end 1 = .ok (.ifCond .lt 14, 3) := by decide +kernel
theorem dX11_end_4 : decode cX11_end 4 = .ok (.iload_n 1, 1) := by decide +kernel
theorem dX11_end_5 : decode cX11_end 5 = .ok (.aload_n 0, 1) := by decide +kernel
theorem dX11_end_6 : decode cX11_end 6 = .ok (.getfield 10, 3) := by decide +kernel
theorem dX11_end_9 : decode cX11_end 9 = .ok (.getfield 109, 3) := by decide +kernel
theorem dX11_end_12 : decode cX11_end 12 = .ok (.if_icmp .le 5, 3) := by decide +kernel
theorem dX11_end_15 : decode cX11_end 15 = .ok (.iconst 0, 1) := by decide +kernel
theorem dX11_end_16 : decode cX11_end 16 = .ok (.ireturn, 1) := by decide +kernel
theorem dX11_end_17 : decode cX11_end 17 = .ok (.aload_n 0, 1) := by decide +kernel
theorem dX11_end_18 : decode cX11_end 18 = .ok (.getfield 10, 3) := by decide +kernel
theorem dX11_end_21 : decode cX11_end 21 = .ok (.iload_n 1, 1) := by decide +kernel
theorem dX11_end_22 : decode cX11_end 22 = .ok (.putfield 109, 3) := by decide +kernel
theorem dX11_end_25 : decode cX11_end 25 = .ok (.iconst 1, 1) := by decide +kernel
theorem dX11_end_26 : decode cX11_end 26 = .ok (.ireturn, 1) := by decide +kernel
theorem dX11_family_0 : decode cX11_family 0 = .ok (.aload_n 0, 1) := by decide +kernel
theorem dX11_family_1 : decode cX11_family 1 = .ok (.iload_n 1, 1) := by decide +kernel
theorem dX11_family_2 : decode cX11_family 2 = .ok (.invokevirtual 163, 3) := by decide +kernel
theorem dX11_family_5 : decode cX11_family 5 = .ok (.ifCond .ne 6, 3) := by decide +kernel
theorem dX11_family_8 : decode cX11_family 8 = .ok (.ldc 166, 2) := by decide +kernel
theorem dX11_family_10 : decode cX11_family 10 = .ok (.ireturn, 1) := by decide +kernel
theorem dX11_family_11 : decode cX11_family 11 = .ok (.iload_n 2, 1) := by decide +kernel
theorem dX11_family_12 : decode cX11_family 12 = .ok (.tableswitch 163 0 9 #[56, 66, 76, 86, 96, 105, 115, 125, 135, 153], 56) := by decide +kernel
theorem dX11_family_68 : decode cX11_family 68 = .ok (.aload_n 0, 1) := by decide +kernel
theorem dX11_family_69 : decode cX11_family 69 = .ok (.getfield 47, 3) := by decide +kernel
theorem dX11_family_72 : decode cX11_family 72 = .ok (.getfield 167, 3) := by decide +kernel
theorem dX11_family_75 : decode cX11_family 75 = .ok (.iload_n 1, 1) := by decide +kernel
theorem dX11_family_76 : decode cX11_family 76 = .ok (.iaload, 1) := by decide +kernel
theorem dX11_family_77 : decode cX11_family 77 = .ok (.ireturn, 1) := by decide +kernel
theorem dX11_family_78 : decode cX11_family 78 = .ok (.aload_n 0, 1) := by decide +kernel
theorem dX11_family_79 : decode cX11_family 79 = .ok (.getfield 47, 3) := by decide +kernel
theorem dX11_family_82 : decode cX11_family 82 = .ok (.getfield 170, 3) := by decide +kernel
theorem dX11_family_85 : decode cX11_family 85 = .ok (.iload_n 1, 1) := by decide +kernel
theorem dX11_family_86 : decode cX11_family 86 = .ok (.iaload, 1) := by decide +kernel
theorem dX11_family_87 : decode cX11_family 87 = .ok (.ireturn, 1) := by decide +kernel
theorem dX11_family_88 : decode cX11_family 88 = .ok (.aload_n 0, 1) := by decide +kernel
theorem dX11_family_89 : decode cX11_family 89 = .ok (.getfield 47, 3) := by decide +kernel
theorem dX11_family_92 : decode cX11_family 92 = .ok (.getfield 173, 3) := by decide +kernel
theorem dX11_family_95 : decode cX11_family 95 = .ok (.iload_n 1, 1) := by decide +kernel
theorem dX11_family_96 : decode cX11_family 96 = .ok (.iaload, 1) := by decide +kernel
theorem dX11_family_97 : decode cX11_family 97 = .ok (.ireturn, 1) := by decide +kernel
theorem dX11_family_98 : decode cX11_family 98 = .ok (.aload_n 0, 1) := by decide +kernel
theorem dX11_family_99 : decode cX11_family 99 = .ok (.getfield 47, 3) := by decide +kernel
theorem dX11_family_102 : decode cX11_family 102 = .ok (.getfield 176, 3) := by decide +kernel
theorem dX11_family_105 : decode cX11_family 105 = .ok (.iload_n 1, 1) := by decide +kernel
theorem dX11_family_106 : decode cX11_family 106 = .ok (.iaload, 1) := by decide +kernel
theorem dX11_family_107 : decode cX11_family 107 = .ok (.ireturn, 1) := by decide +kernel
theorem dX11_family_108 : decode cX11_family 108 = .ok (.aload_n 0, 1) := by decide +kernel
theorem dX11_family_109 : decode cX11_family 109 = .ok (.getfield 47, 3) := by decide +kernel
theorem dX11_family_112 : decode cX11_family 112 = .ok (.iload_n 1, 1) := by decide +kernel
theorem dX11_family_113 : decode cX11_family 113 = .ok (.invokevirtual 179, 3) := by decide +kernel
theorem dX11_family_116 : decode cX11_family 116 = .ok (.ireturn, 1) := by decide +kernel
theorem dX11_family_117 : decode cX11_family 117 = .ok (.aload_n 0, 1) := by decide +kernel
theorem dX11_family_118 : decode cX11_family 118 = .ok (.getfield 47, 3) := by decide +kernel
theorem dX11_family_121 : decode cX11_family 121 = .ok (.getfield 182, 3) := by decide +kernel
theorem dX11_family_124 : decode cX11_family 124 = .ok (.iload_n 1, 1) := by decide +kernel
theorem dX11_family_125 : decode cX11_family 125 = .ok (.iaload, 1) := by decide +kernel
theorem dX11_family_126 : decode cX11_family 126 = .ok (.ireturn, 1) := by decide +kernel
theorem dX11_family_127 : decode cX11_family 127 = .ok (.aload_n 0, 1) := by decide +kernel
theorem dX11_family_128 : decode cX11_family 128 = .ok (.getfield 47, 3) := by decide +kernel
theorem dX11_family_131 : decode cX11_family 131 = .ok (.getfield 185, 3) := by decide +kernel
theorem dX11_family_134 : decode cX11_family 134 = .ok (.iload_n 1, 1) := by decide +kernel
theorem dX11_family_135 : decode cX11_family 135 = .ok (.iaload, 1) := by decide +kernel
theorem dX11_family_136 : decode cX11_family 136 = .ok (.ireturn, 1) := by decide +kernel
theorem dX11_family_137 : decode cX11_family 137 = .ok (.aload_n 0, 1) := by decide +kernel
theorem dX11_family_138 : decode cX11_family 138 = .ok (.getfield 47, 3) := by decide +kernel
theorem dX11_family_141 : decode cX11_family 141 = .ok (.getfield 188, 3) := by decide +kernel
theorem dX11_family_144 : decode cX11_family 144 = .ok (.iload_n 1, 1) := by decide +kernel
theorem dX11_family_145 : decode cX11_family 145 = .ok (.iaload, 1) := by decide +kernel
theorem dX11_family_146 : decode cX11_family 146 = .ok (.ireturn, 1) := by decide +kernel
theorem dX11_family_147 : decode cX11_family 147 = .ok (.aload_n 0, 1) := by decide +kernel
theorem dX11_family_148 : decode cX11_family 148 = .ok (.getfield 47, 3) := by decide +kernel
theorem dX11_family_151 : decode cX11_family 151 = .ok (.getfield 191, 3) := by decide +kernel
theorem dX11_family_154 : decode cX11_family 154 = .ok (.iload_n 1, 1) := by decide +kernel
theorem dX11_family_155 : decode cX11_family 155 = .ok (.baload, 1) := by decide +kernel
theorem dX11_family_156 : decode cX11_family 156 = .ok (.ifCond .eq 7, 3) := by decide +kernel
theorem dX11_family_159 : decode cX11_family 159 = .ok (.iconst 1, 1) := by decide +kernel
theorem dX11_family_160 : decode cX11_family 160 = .ok (.goto 4, 3) := by decide +kernel
theorem dX11_family_163 : decode cX11_family 163 = .ok (.iconst 0, 1) := by decide +kernel
theorem dX11_family_164 : decode cX11_family 164 = .ok (.ireturn, 1) := by decide +kernel
theorem dX11_family_165 : decode cX11_family 165 = .ok (.aload_n 0, 1) := by decide +kernel
theorem dX11_family_166 : decode cX11_family 166 = .ok (.getfield 47, 3) := by decide +kernel
theorem dX11_family_169 : decode cX11_family 169 = .ok (.getfield 195, 3) := by decide +kernel
theorem dX11_family_172 : decode cX11_family 172 = .ok (.iload_n 1, 1) := by decide +kernel
theorem dX11_family_173 : decode cX11_family 173 = .ok (.iaload, 1) := by decide +kernel
theorem dX11_family_174 : decode cX11_family 174 = .ok (.ireturn, 1) := by decide +kernel
theorem dX11_family_175 : decode cX11_family 175 = .ok (.ldc 166, 2) := by decide +kernel
theorem dX11_family_177 : decode cX11_family 177 = .ok (.ireturn, 1) := by decide +kernel
theorem dX11_fault_0 : decode cX11_fault 0 = .ok (.iload_n 1, 1) := by decide +kernel
theorem dX11_fault_1 : decode cX11_fault 1 = .ok (.ifCond .ne 15, 3) := by decide +kernel
theorem dX11_fault_4 : decode cX11_fault 4 = .ok (.aload_n 0, 1) := by decide +kernel
theorem dX11_fault_5 : decode cX11_fault 5 = .ok (.getfield 19, 3) := by decide +kernel
theorem dX11_fault_8 : decode cX11_fault 8 = .ok (.aload_n 0, 1) := by decide +kernel
theorem dX11_fault_9 : decode cX11_fault 9 = .ok (.getfield 10, 3) := by decide +kernel
theorem dX11_fault_12 : decode cX11_fault 12 = .ok (.invokevirtual 116, 3) := by decide +kernel
theorem dX11_fault_15 : decode cX11_fault 15 = .ok (.ireturn, 1) := by decide +kernel
theorem dX11_fault_16 : decode cX11_fault 16 = .ok (.iload_n 1, 1) := by decide +kernel
theorem dX11_fault_17 : decode cX11_fault 17 = .ok (.iconst 1, 1) := by decide +kernel
theorem dX11_fault_18 : decode cX11_fault 18 = .ok (.if_icmp .ne 17, 3) := by decide +kernel
theorem dX11_fault_21 : decode cX11_fault 21 = .ok (.aload_n 0, 1) := by decide +kernel
theorem dX11_fault_22 : decode cX11_fault 22 = .ok (.getfield 26, 3) := by decide +kernel
theorem dX11_fault_25 : decode cX11_fault 25 = .ok (.aload_n 0, 1) := by decide +kernel
theorem dX11_fault_26 : decode cX11_fault 26 = .ok (.getfield 10, 3) := by decide +kernel
theorem dX11_fault_29 : decode cX11_fault 29 = .ok (.invokevirtual 120, 3) := by decide +kernel
theorem dX11_fault_32 : decode cX11_fault 32 = .ok (.goto 5, 3) := by decide +kernel
theorem dX11_fault_35 : decode cX11_fault 35 = .ok (.bipush (-2), 2) := by decide +kernel
theorem dX11_fault_37 : decode cX11_fault 37 = .ok (.ireturn, 1) := by decide +kernel
theorem dX11_feed_0 : decode cX11_feed 0 = .ok (.iload_n 1, 1) := by decide +kernel
theorem dX11_feed_1 : decode cX11_feed 1 = .ok (.invokestatic 105, 3) := by decide +kernel
theorem dX11_feed_4 : decode cX11_feed 4 = .ok (.iload_n 2, 1) := by decide +kernel
theorem dX11_feed_5 : decode cX11_feed 5 = .ok (.invokestatic 105, 3) := by decide +kernel
theorem dX11_feed_8 : decode cX11_feed 8 = .ok (.iadd, 1) := by decide +kernel
theorem dX11_feed_9 : decode cX11_feed 9 = .ok (.iload_n 3, 1) := by decide +kernel
theorem dX11_feed_10 : decode cX11_feed 10 = .ok (.invokestatic 105, 3) := by decide +kernel
theorem dX11_feed_13 : decode cX11_feed 13 = .ok (.iadd, 1) := by decide +kernel
theorem dX11_feed_14 : decode cX11_feed 14 = .ok (.iload 4, 2) := by decide +kernel
theorem dX11_feed_16 : decode cX11_feed 16 = .ok (.invokestatic 105, 3) := by decide +kernel
theorem dX11_feed_19 : decode cX11_feed 19 = .ok (.iadd, 1) := by decide +kernel
theorem dX11_feed_20 : decode cX11_feed 20 = .ok (.iload 5, 2) := by decide +kernel
theorem dX11_feed_22 : decode cX11_feed 22 = .ok (.invokestatic 105, 3) := by decide +kernel
theorem dX11_feed_25 : decode cX11_feed 25 = .ok (.iadd, 1) := by decide +kernel
theorem dX11_feed_26 : decode cX11_feed 26 = .ok (.istore 6, 2) := by decide +kernel
theorem dX11_feed_28 : decode cX11_feed 28 = .ok (.aload_n 0, 1) := by decide +kernel
theorem dX11_feed_29 : decode cX11_feed 29 = .ok (.getfield 10, 3) := by decide +kernel
theorem dX11_feed_32 : decode cX11_feed 32 = .ok (.getfield 109, 3) := by decide +kernel
theorem dX11_feed_35 : decode cX11_feed 35 = .ok (.iload 6, 2) := by decide +kernel
theorem dX11_feed_37 : decode cX11_feed 37 = .ok (.iadd, 1) := by decide +kernel
theorem dX11_feed_38 : decode cX11_feed 38 = .ok (.sipush 160, 3) := by decide +kernel
theorem dX11_feed_41 : decode cX11_feed 41 = .ok (.if_icmp .le 5, 3) := by decide +kernel
theorem dX11_feed_44 : decode cX11_feed 44 = .ok (.iconst (-1), 1) := by decide +kernel
theorem dX11_feed_45 : decode cX11_feed 45 = .ok (.ireturn, 1) := by decide +kernel
theorem dX11_feed_46 : decode cX11_feed 46 = .ok (.aload_n 0, 1) := by decide +kernel
theorem dX11_feed_47 : decode cX11_feed 47 = .ok (.getfield 10, 3) := by decide +kernel
theorem dX11_feed_50 : decode cX11_feed 50 = .ok (.iload_n 1, 1) := by decide +kernel
theorem dX11_feed_51 : decode cX11_feed 51 = .ok (.invokevirtual 112, 3) := by decide +kernel
theorem dX11_feed_54 : decode cX11_feed 54 = .ok (.aload_n 0, 1) := by decide +kernel
theorem dX11_feed_55 : decode cX11_feed 55 = .ok (.getfield 10, 3) := by decide +kernel
theorem dX11_feed_58 : decode cX11_feed 58 = .ok (.iload_n 2, 1) := by decide +kernel
theorem dX11_feed_59 : decode cX11_feed 59 = .ok (.invokevirtual 112, 3) := by decide +kernel
theorem dX11_feed_62 : decode cX11_feed 62 = .ok (.aload_n 0, 1) := by decide +kernel
theorem dX11_feed_63 : decode cX11_feed 63 = .ok (.getfield 10, 3) := by decide +kernel
theorem dX11_feed_66 : decode cX11_feed 66 = .ok (.iload_n 3, 1) := by decide +kernel
theorem dX11_feed_67 : decode cX11_feed 67 = .ok (.invokevirtual 112, 3) := by decide +kernel
theorem dX11_feed_70 : decode cX11_feed 70 = .ok (.aload_n 0, 1) := by decide +kernel
theorem dX11_feed_71 : decode cX11_feed 71 = .ok (.getfield 10, 3) := by decide +kernel
theorem dX11_feed_74 : decode cX11_feed 74 = .ok (.iload 4, 2) := by decide +kernel
theorem dX11_feed_76 : decode cX11_feed 76 = .ok (.invokevirtual 112, 3) := by decide +kernel
theorem dX11_feed_79 : decode cX11_feed 79 = .ok (.aload_n 0, 1) := by decide +kernel
theorem dX11_feed_80 : decode cX11_feed 80 = .ok (.getfield 10, 3) := by decide +kernel
theorem dX11_feed_83 : decode cX11_feed 83 = .ok (.iload 5, 2) := by decide +kernel
theorem dX11_feed_85 : decode cX11_feed 85 = .ok (.invokevirtual 112, 3) := by decide +kernel
theorem dX11_feed_88 : decode cX11_feed 88 = .ok (.aload_n 0, 1) := by decide +kernel
theorem dX11_feed_89 : decode cX11_feed 89 = .ok (.getfield 10, 3) := by decide +kernel
theorem dX11_feed_92 : decode cX11_feed 92 = .ok (.getfield 109, 3) := by decide +kernel
theorem dX11_feed_95 : decode cX11_feed 95 = .ok (.ireturn, 1) := by decide +kernel
theorem dX11_full_0 : decode cX11_full 0 = .ok (.aload_n 0, 1) := by decide +kernel
theorem dX11_full_1 : decode cX11_full 1 = .ok (.invokevirtual 218, 3) := by decide +kernel
theorem dX11_full_4 : decode cX11_full 4 = .ok (.ifCond .eq 13, 3) := by decide +kernel
theorem dX11_full_7 : decode cX11_full 7 = .ok (.aload_n 0, 1) := by decide +kernel
theorem dX11_full_8 : decode cX11_full 8 = .ok (.getfield 47, 3) := by decide +kernel
theorem dX11_full_11 : decode cX11_full 11 = .ok (.invokevirtual 314, 3) := by decide +kernel
theorem dX11_full_14 : decode cX11_full 14 = .ok (.goto 4, 3) := by decide +kernel
theorem dX11_full_17 : decode cX11_full 17 = .ok (.iconst (-1), 1) := by decide +kernel
theorem dX11_full_18 : decode cX11_full 18 = .ok (.ireturn, 1) := by decide +kernel
theorem dX11_hasValley_0 : decode cX11_hasValley 0 = .ok (.aload_n 0, 1) := by decide +kernel
theorem dX11_hasValley_1 : decode cX11_hasValley 1 = .ok (.getfield 47, 3) := by decide +kernel
theorem dX11_hasValley_4 : decode cX11_hasValley 4 = .ok (.getfield 128, 3) := by decide +kernel
theorem dX11_hasValley_7 : decode cX11_hasValley 7 = .ok (.getfield 317, 3) := by decide +kernel
theorem dX11_hasValley_10 : decode cX11_hasValley 10 = .ok (.ifCond .le 7, 3) := by decide +kernel
theorem dX11_hasValley_13 : decode cX11_hasValley 13 = .ok (.iconst 1, 1) := by decide +kernel
theorem dX11_hasValley_14 : decode cX11_hasValley 14 = .ok (.goto 4, 3) := by decide +kernel
theorem dX11_hasValley_17 : decode cX11_hasValley 17 = .ok (.iconst 0, 1) := by decide +kernel
theorem dX11_hasValley_18 : decode cX11_hasValley 18 = .ok (.ireturn, 1) := by decide +kernel
theorem dX11_hungry_0 : decode cX11_hungry 0 = .ok (.aload_n 0, 1) := by decide +kernel
theorem dX11_hungry_1 : decode cX11_hungry 1 = .ok (.invokevirtual 218, 3) := by decide +kernel
theorem dX11_hungry_4 : decode cX11_hungry 4 = .ok (.ifCond .eq 10, 3) := by decide +kernel
theorem dX11_hungry_7 : decode cX11_hungry 7 = .ok (.iload_n 1, 1) := by decide +kernel
theorem dX11_hungry_8 : decode cX11_hungry 8 = .ok (.invokestatic 267, 3) := by decide +kernel
theorem dX11_hungry_11 : decode cX11_hungry 11 = .ok (.ifCond .ne 5, 3) := by decide +kernel
theorem dX11_hungry_14 : decode cX11_hungry 14 = .ok (.iconst (-1), 1) := by decide +kernel
theorem dX11_hungry_15 : decode cX11_hungry 15 = .ok (.ireturn, 1) := by decide +kernel
theorem dX11_hungry_16 : decode cX11_hungry 16 = .ok (.iconst 0, 1) := by decide +kernel
theorem dX11_hungry_17 : decode cX11_hungry 17 = .ok (.istore_n 2, 1) := by decide +kernel
theorem dX11_hungry_18 : decode cX11_hungry 18 = .ok (.iconst 0, 1) := by decide +kernel
theorem dX11_hungry_19 : decode cX11_hungry 19 = .ok (.istore_n 3, 1) := by decide +kernel
theorem dX11_hungry_20 : decode cX11_hungry 20 = .ok (.iconst 0, 1) := by decide +kernel
theorem dX11_hungry_21 : decode cX11_hungry 21 = .ok (.istore 4, 2) := by decide +kernel
theorem dX11_hungry_23 : decode cX11_hungry 23 = .ok (.iload 4, 2) := by decide +kernel
theorem dX11_hungry_25 : decode cX11_hungry 25 = .ok (.aload_n 0, 1) := by decide +kernel
theorem dX11_hungry_26 : decode cX11_hungry 26 = .ok (.getfield 47, 3) := by decide +kernel
theorem dX11_hungry_29 : decode cX11_hungry 29 = .ok (.getfield 128, 3) := by decide +kernel
theorem dX11_hungry_32 : decode cX11_hungry 32 = .ok (.getfield 317, 3) := by decide +kernel
theorem dX11_hungry_35 : decode cX11_hungry 35 = .ok (.if_icmp .ge 41, 3) := by decide +kernel
theorem dX11_hungry_38 : decode cX11_hungry 38 = .ok (.aload_n 0, 1) := by decide +kernel
theorem dX11_hungry_39 : decode cX11_hungry 39 = .ok (.getfield 47, 3) := by decide +kernel
theorem dX11_hungry_42 : decode cX11_hungry 42 = .ok (.iload 4, 2) := by decide +kernel
theorem dX11_hungry_44 : decode cX11_hungry 44 = .ok (.invokevirtual 160, 3) := by decide +kernel
theorem dX11_hungry_47 : decode cX11_hungry 47 = .ok (.istore 5, 2) := by decide +kernel
theorem dX11_hungry_49 : decode cX11_hungry 49 = .ok (.iload_n 3, 1) := by decide +kernel
theorem dX11_hungry_50 : decode cX11_hungry 50 = .ok (.iload 5, 2) := by decide +kernel
theorem dX11_hungry_52 : decode cX11_hungry 52 = .ok (.iadd, 1) := by decide +kernel
theorem dX11_hungry_53 : decode cX11_hungry 53 = .ok (.istore_n 3, 1) := by decide +kernel
theorem dX11_hungry_54 : decode cX11_hungry 54 = .ok (.iload_n 2, 1) := by decide +kernel
theorem dX11_hungry_55 : decode cX11_hungry 55 = .ok (.iload 5, 2) := by decide +kernel
theorem dX11_hungry_57 : decode cX11_hungry 57 = .ok (.ifCond .le 10, 3) := by decide +kernel
theorem dX11_hungry_60 : decode cX11_hungry 60 = .ok (.iconst 1, 1) := by decide +kernel
theorem dX11_hungry_61 : decode cX11_hungry 61 = .ok (.iload 4, 2) := by decide +kernel
theorem dX11_hungry_63 : decode cX11_hungry 63 = .ok (.ishl, 1) := by decide +kernel
theorem dX11_hungry_64 : decode cX11_hungry 64 = .ok (.goto 4, 3) := by decide +kernel
theorem dX11_hungry_67 : decode cX11_hungry 67 = .ok (.iconst 0, 1) := by decide +kernel
theorem dX11_hungry_68 : decode cX11_hungry 68 = .ok (.ior, 1) := by decide +kernel
theorem dX11_hungry_69 : decode cX11_hungry 69 = .ok (.istore_n 2, 1) := by decide +kernel
theorem dX11_hungry_70 : decode cX11_hungry 70 = .ok (.iinc 4 1, 3) := by decide +kernel
theorem dX11_hungry_73 : decode cX11_hungry 73 = .ok (.goto (-50), 3) := by decide +kernel
theorem dX11_hungry_76 : decode cX11_hungry 76 = .ok (.iload_n 1, 1) := by decide +kernel
theorem dX11_hungry_77 : decode cX11_hungry 77 = .ok (.ifCond .ne 7, 3) := by decide +kernel
theorem dX11_hungry_80 : decode cX11_hungry 80 = .ok (.iload_n 2, 1) := by decide +kernel
theorem dX11_hungry_81 : decode cX11_hungry 81 = .ok (.goto 4, 3) := by decide +kernel
theorem dX11_hungry_84 : decode cX11_hungry 84 = .ok (.iload_n 3, 1) := by decide +kernel
theorem dX11_hungry_85 : decode cX11_hungry 85 = .ok (.ireturn, 1) := by decide +kernel
theorem dX11_hush_0 : decode cX11_hush 0 = .ok (.aload_n 0, 1) := by decide +kernel
theorem dX11_hush_1 : decode cX11_hush 1 = .ok (.iload_n 1, 1) := by decide +kernel
theorem dX11_hush_2 : decode cX11_hush 2 = .ok (.invokevirtual 246, 3) := by decide +kernel
theorem dX11_hush_5 : decode cX11_hush 5 = .ok (.ifCond .eq 16, 3) := by decide +kernel
theorem dX11_hush_8 : decode cX11_hush 8 = .ok (.aload_n 0, 1) := by decide +kernel
theorem dX11_hush_9 : decode cX11_hush 9 = .ok (.getfield 47, 3) := by decide +kernel
theorem dX11_hush_12 : decode cX11_hush 12 = .ok (.getfield 191, 3) := by decide +kernel
theorem dX11_hush_15 : decode cX11_hush 15 = .ok (.iload_n 1, 1) := by decide +kernel
theorem dX11_hush_16 : decode cX11_hush 16 = .ok (.baload, 1) := by decide +kernel
theorem dX11_hush_17 : decode cX11_hush 17 = .ok (.iload_n 2, 1) := by decide +kernel
theorem dX11_hush_18 : decode cX11_hush 18 = .ok (.if_icmp .ne 5, 3) := by decide +kernel
theorem dX11_hush_21 : decode cX11_hush 21 = .ok (.iconst 0, 1) := by decide +kernel
theorem dX11_hush_22 : decode cX11_hush 22 = .ok (.ireturn, 1) := by decide +kernel
theorem dX11_hush_23 : decode cX11_hush 23 = .ok (.aload_n 0, 1) := by decide +kernel
theorem dX11_hush_24 : decode cX11_hush 24 = .ok (.getfield 47, 3) := by decide +kernel
theorem dX11_hush_27 : decode cX11_hush 27 = .ok (.getfield 191, 3) := by decide +kernel
theorem dX11_hush_30 : decode cX11_hush 30 = .ok (.iload_n 1, 1) := by decide +kernel
theorem dX11_hush_31 : decode cX11_hush 31 = .ok (.iload_n 2, 1) := by decide +kernel
theorem dX11_hush_32 : decode cX11_hush 32 = .ok (.bastore, 1) := by decide +kernel
theorem dX11_hush_33 : decode cX11_hush 33 = .ok (.iconst 1, 1) := by decide +kernel
theorem dX11_hush_34 : decode cX11_hush 34 = .ok (.ireturn, 1) := by decide +kernel
theorem dX11_hut_0 : decode cX11_hut 0 = .ok (.aload_n 0, 1) := by decide +kernel
theorem dX11_hut_1 : decode cX11_hut 1 = .ok (.iload_n 1, 1) := by decide +kernel
theorem dX11_hut_2 : decode cX11_hut 2 = .ok (.invokevirtual 132, 3) := by decide +kernel
theorem dX11_hut_5 : decode cX11_hut 5 = .ok (.ifCond .eq 15, 3) := by decide +kernel
theorem dX11_hut_8 : decode cX11_hut 8 = .ok (.aload_n 0, 1) := by decide +kernel
theorem dX11_hut_9 : decode cX11_hut 9 = .ok (.getfield 47, 3) := by decide +kernel
theorem dX11_hut_12 : decode cX11_hut 12 = .ok (.iload_n 1, 1) := by decide +kernel
theorem dX11_hut_13 : decode cX11_hut 13 = .ok (.iload_n 2, 1) := by decide +kernel
theorem dX11_hut_14 : decode cX11_hut 14 = .ok (.invokevirtual 198, 3) := by decide +kernel
theorem dX11_hut_17 : decode cX11_hut 17 = .ok (.goto 4, 3) := by decide +kernel
theorem dX11_hut_20 : decode cX11_hut 20 = .ok (.iconst (-1), 1) := by decide +kernel
theorem dX11_hut_21 : decode cX11_hut 21 = .ok (.ireturn, 1) := by decide +kernel
theorem dX11_isFamily_0 : decode cX11_isFamily 0 = .ok (.iload_n 1, 1) := by decide +kernel
theorem dX11_isFamily_1 : decode cX11_isFamily 1 = .ok (.ifCond .lt 21, 3) := by decide +kernel
theorem dX11_isFamily_4 : decode cX11_isFamily 4 = .ok (.iload_n 1, 1) := by decide +kernel
theorem dX11_isFamily_5 : decode cX11_isFamily 5 = .ok (.aload_n 0, 1) := by decide +kernel
theorem dX11_isFamily_6 : decode cX11_isFamily 6 = .ok (.getfield 47, 3) := by decide +kernel
theorem dX11_isFamily_9 : decode cX11_isFamily 9 = .ok (.getfield 128, 3) := by decide +kernel
theorem dX11_isFamily_12 : decode cX11_isFamily 12 = .ok (.getfield 319, 3) := by decide +kernel
theorem dX11_isFamily_15 : decode cX11_isFamily 15 = .ok (.if_icmp .ge 7, 3) := by decide +kernel
theorem dX11_isFamily_18 : decode cX11_isFamily 18 = .ok (.iconst 1, 1) := by decide +kernel
theorem dX11_isFamily_19 : decode cX11_isFamily 19 = .ok (.goto 4, 3) := by decide +kernel
theorem dX11_isFamily_22 : decode cX11_isFamily 22 = .ok (.iconst 0, 1) := by decide +kernel
theorem dX11_isFamily_23 : decode cX11_isFamily 23 = .ok (.ireturn, 1) := by decide +kernel
theorem dX11_isLaw_0 : decode cX11_isLaw 0 = .ok (.iload_n 1, 1) := by decide +kernel
theorem dX11_isLaw_1 : decode cX11_isLaw 1 = .ok (.ifCond .lt 15, 3) := by decide +kernel
theorem dX11_isLaw_4 : decode cX11_isLaw 4 = .ok (.iload_n 1, 1) := by decide +kernel
theorem dX11_isLaw_5 : decode cX11_isLaw 5 = .ok (.aload_n 0, 1) := by decide +kernel
theorem dX11_isLaw_6 : decode cX11_isLaw 6 = .ok (.getfield 94, 3) := by decide +kernel
theorem dX11_isLaw_9 : decode cX11_isLaw 9 = .ok (.if_icmp .ge 7, 3) := by decide +kernel
theorem dX11_isLaw_12 : decode cX11_isLaw 12 = .ok (.iconst 1, 1) := by decide +kernel
theorem dX11_isLaw_13 : decode cX11_isLaw 13 = .ok (.goto 4, 3) := by decide +kernel
theorem dX11_isLaw_16 : decode cX11_isLaw 16 = .ok (.iconst 0, 1) := by decide +kernel
theorem dX11_isLaw_17 : decode cX11_isLaw 17 = .ok (.ireturn, 1) := by decide +kernel
theorem dX11_isLevel_0 : decode cX11_isLevel 0 = .ok (.iload_n 1, 1) := by decide +kernel
theorem dX11_isLevel_1 : decode cX11_isLevel 1 = .ok (.ifCond .lt 21, 3) := by decide +kernel
theorem dX11_isLevel_4 : decode cX11_isLevel 4 = .ok (.iload_n 1, 1) := by decide +kernel
theorem dX11_isLevel_5 : decode cX11_isLevel 5 = .ok (.aload_n 0, 1) := by decide +kernel
theorem dX11_isLevel_6 : decode cX11_isLevel 6 = .ok (.getfield 47, 3) := by decide +kernel
theorem dX11_isLevel_9 : decode cX11_isLevel 9 = .ok (.getfield 128, 3) := by decide +kernel
theorem dX11_isLevel_12 : decode cX11_isLevel 12 = .ok (.getfield 317, 3) := by decide +kernel
theorem dX11_isLevel_15 : decode cX11_isLevel 15 = .ok (.if_icmp .ge 7, 3) := by decide +kernel
theorem dX11_isLevel_18 : decode cX11_isLevel 18 = .ok (.iconst 1, 1) := by decide +kernel
theorem dX11_isLevel_19 : decode cX11_isLevel 19 = .ok (.goto 4, 3) := by decide +kernel
theorem dX11_isLevel_22 : decode cX11_isLevel 22 = .ok (.iconst 0, 1) := by decide +kernel
theorem dX11_isLevel_23 : decode cX11_isLevel 23 = .ok (.ireturn, 1) := by decide +kernel
theorem dX11_isZeroOrOne_0 : decode cX11_isZeroOrOne 0 = .ok (.iload_n 0, 1) := by decide +kernel
theorem dX11_isZeroOrOne_1 : decode cX11_isZeroOrOne 1 = .ok (.ifCond .eq 8, 3) := by decide +kernel
theorem dX11_isZeroOrOne_4 : decode cX11_isZeroOrOne 4 = .ok (.iload_n 0, 1) := by decide +kernel
theorem dX11_isZeroOrOne_5 : decode cX11_isZeroOrOne 5 = .ok (.iconst 1, 1) := by decide +kernel
theorem dX11_isZeroOrOne_6 : decode cX11_isZeroOrOne 6 = .ok (.if_icmp .ne 7, 3) := by decide +kernel
theorem dX11_isZeroOrOne_9 : decode cX11_isZeroOrOne 9 = .ok (.iconst 1, 1) := by decide +kernel
theorem dX11_isZeroOrOne_10 : decode cX11_isZeroOrOne 10 = .ok (.goto 4, 3) := by decide +kernel
theorem dX11_isZeroOrOne_13 : decode cX11_isZeroOrOne 13 = .ok (.iconst 0, 1) := by decide +kernel
theorem dX11_isZeroOrOne_14 : decode cX11_isZeroOrOne 14 = .ok (.ireturn, 1) := by decide +kernel
theorem dX11_law_0 : decode cX11_law 0 = .ok (.iload_n 1, 1) := by decide +kernel
theorem dX11_law_1 : decode cX11_law 1 = .ok (.iconst (-1), 1) := by decide +kernel
theorem dX11_law_2 : decode cX11_law 2 = .ok (.if_icmp .eq 13, 3) := by decide +kernel
theorem dX11_law_5 : decode cX11_law 5 = .ok (.aload_n 0, 1) := by decide +kernel
theorem dX11_law_6 : decode cX11_law 6 = .ok (.iload_n 1, 1) := by decide +kernel
theorem dX11_law_7 : decode cX11_law 7 = .ok (.invokevirtual 202, 3) := by decide +kernel
theorem dX11_law_10 : decode cX11_law 10 = .ok (.ifCond .ne 5, 3) := by decide +kernel
theorem dX11_law_13 : decode cX11_law 13 = .ok (.iconst 0, 1) := by decide +kernel
theorem dX11_law_14 : decode cX11_law 14 = .ok (.ireturn, 1) := by decide +kernel
theorem dX11_law_15 : decode cX11_law 15 = .ok (.aload_n 0, 1) := by decide +kernel
theorem dX11_law_16 : decode cX11_law 16 = .ok (.iload_n 1, 1) := by decide +kernel
theorem dX11_law_17 : decode cX11_law 17 = .ok (.putfield 98, 3) := by decide +kernel
theorem dX11_law_20 : decode cX11_law 20 = .ok (.iconst 1, 1) := by decide +kernel
theorem dX11_law_21 : decode cX11_law 21 = .ok (.ireturn, 1) := by decide +kernel
theorem dX11_lawOf_0 : decode cX11_lawOf 0 = .ok (.aload_n 0, 1) := by decide +kernel
theorem dX11_lawOf_1 : decode cX11_lawOf 1 = .ok (.iload_n 1, 1) := by decide +kernel
theorem dX11_lawOf_2 : decode cX11_lawOf 2 = .ok (.invokevirtual 202, 3) := by decide +kernel
theorem dX11_lawOf_5 : decode cX11_lawOf 5 = .ok (.ifCond .eq 12, 3) := by decide +kernel
theorem dX11_lawOf_8 : decode cX11_lawOf 8 = .ok (.aload_n 0, 1) := by decide +kernel
theorem dX11_lawOf_9 : decode cX11_lawOf 9 = .ok (.getfield 32, 3) := by decide +kernel
theorem dX11_lawOf_12 : decode cX11_lawOf 12 = .ok (.iload_n 1, 1) := by decide +kernel
theorem dX11_lawOf_13 : decode cX11_lawOf 13 = .ok (.aaload, 1) := by decide +kernel
theorem dX11_lawOf_14 : decode cX11_lawOf 14 = .ok (.goto 7, 3) := by decide +kernel
theorem dX11_lawOf_17 : decode cX11_lawOf 17 = .ok (.aload_n 0, 1) := by decide +kernel
theorem dX11_lawOf_18 : decode cX11_lawOf 18 = .ok (.getfield 40, 3) := by decide +kernel
theorem dX11_lawOf_21 : decode cX11_lawOf 21 = .ok (.areturn, 1) := by decide +kernel
theorem dX11_leanest_0 : decode cX11_leanest 0 = .ok (.aload_n 0, 1) := by decide +kernel
theorem dX11_leanest_1 : decode cX11_leanest 1 = .ok (.getfield 60, 3) := by decide +kernel
theorem dX11_leanest_4 : decode cX11_leanest 4 = .ok (.getfield 304, 3) := by decide +kernel
theorem dX11_leanest_7 : decode cX11_leanest 7 = .ok (.ifCond .eq 10, 3) := by decide +kernel
theorem dX11_leanest_10 : decode cX11_leanest 10 = .ok (.iload_n 1, 1) := by decide +kernel
theorem dX11_leanest_11 : decode cX11_leanest 11 = .ok (.invokestatic 267, 3) := by decide +kernel
theorem dX11_leanest_14 : decode cX11_leanest 14 = .ok (.ifCond .ne 5, 3) := by decide +kernel
theorem dX11_leanest_17 : decode cX11_leanest 17 = .ok (.iconst (-1), 1) := by decide +kernel
theorem dX11_leanest_18 : decode cX11_leanest 18 = .ok (.ireturn, 1) := by decide +kernel
theorem dX11_leanest_19 : decode cX11_leanest 19 = .ok (.iconst 0, 1) := by decide +kernel
theorem dX11_leanest_20 : decode cX11_leanest 20 = .ok (.istore_n 2, 1) := by decide +kernel
theorem dX11_leanest_21 : decode cX11_leanest 21 = .ok (.aload_n 0, 1) := by decide +kernel
theorem dX11_leanest_22 : decode cX11_leanest 22 = .ok (.getfield 60, 3) := by decide +kernel
theorem dX11_leanest_25 : decode cX11_leanest 25 = .ok (.iconst 0, 1) := by decide +kernel
theorem dX11_leanest_26 : decode cX11_leanest 26 = .ok (.invokevirtual 333, 3) := by decide +kernel
theorem dX11_leanest_29 : decode cX11_leanest 29 = .ok (.istore_n 3, 1) := by decide +kernel
theorem dX11_leanest_30 : decode cX11_leanest 30 = .ok (.iconst 1, 1) := by decide +kernel
theorem dX11_leanest_31 : decode cX11_leanest 31 = .ok (.istore 4, 2) := by decide +kernel
theorem dX11_leanest_33 : decode cX11_leanest 33 = .ok (.iload 4, 2) := by decide +kernel
theorem dX11_leanest_35 : decode cX11_leanest 35 = .ok (.aload_n 0, 1) := by decide +kernel
theorem dX11_leanest_36 : decode cX11_leanest 36 = .ok (.getfield 60, 3) := by decide +kernel
theorem dX11_leanest_39 : decode cX11_leanest 39 = .ok (.getfield 304, 3) := by decide +kernel
theorem dX11_leanest_42 : decode cX11_leanest 42 = .ok (.if_icmp .ge 32, 3) := by decide +kernel
theorem dX11_leanest_45 : decode cX11_leanest 45 = .ok (.aload_n 0, 1) := by decide +kernel
theorem dX11_leanest_46 : decode cX11_leanest 46 = .ok (.getfield 60, 3) := by decide +kernel
theorem dX11_leanest_49 : decode cX11_leanest 49 = .ok (.iload 4, 2) := by decide +kernel
theorem dX11_leanest_51 : decode cX11_leanest 51 = .ok (.invokevirtual 333, 3) := by decide +kernel
theorem dX11_leanest_54 : decode cX11_leanest 54 = .ok (.istore 5, 2) := by decide +kernel
theorem dX11_leanest_56 : decode cX11_leanest 56 = .ok (.iload 5, 2) := by decide +kernel
theorem dX11_leanest_58 : decode cX11_leanest 58 = .ok (.iload_n 3, 1) := by decide +kernel
theorem dX11_leanest_59 : decode cX11_leanest 59 = .ok (.if_icmp .ge 9, 3) := by decide +kernel
theorem dX11_leanest_62 : decode cX11_leanest 62 = .ok (.iload 5, 2) := by decide +kernel
theorem dX11_leanest_64 : decode cX11_leanest 64 = .ok (.istore_n 3, 1) := by decide +kernel
theorem dX11_leanest_65 : decode cX11_leanest 65 = .ok (.iload 4, 2) := by decide +kernel
theorem dX11_leanest_67 : decode cX11_leanest 67 = .ok (.istore_n 2, 1) := by decide +kernel
theorem dX11_leanest_68 : decode cX11_leanest 68 = .ok (.iinc 4 1, 3) := by decide +kernel
theorem dX11_leanest_71 : decode cX11_leanest 71 = .ok (.goto (-38), 3) := by decide +kernel
theorem dX11_leanest_74 : decode cX11_leanest 74 = .ok (.iload_n 1, 1) := by decide +kernel
theorem dX11_leanest_75 : decode cX11_leanest 75 = .ok (.ifCond .ne 7, 3) := by decide +kernel
theorem dX11_leanest_78 : decode cX11_leanest 78 = .ok (.iload_n 2, 1) := by decide +kernel
theorem dX11_leanest_79 : decode cX11_leanest 79 = .ok (.goto 4, 3) := by decide +kernel
theorem dX11_leanest_82 : decode cX11_leanest 82 = .ok (.iload_n 3, 1) := by decide +kernel
theorem dX11_leanest_83 : decode cX11_leanest 83 = .ok (.ireturn, 1) := by decide +kernel
theorem dX11_leap_0 : decode cX11_leap 0 = .ok (.aload_n 0, 1) := by decide +kernel
theorem dX11_leap_1 : decode cX11_leap 1 = .ok (.iload_n 1, 1) := by decide +kernel
theorem dX11_leap_2 : decode cX11_leap 2 = .ok (.invokevirtual 163, 3) := by decide +kernel
theorem dX11_leap_5 : decode cX11_leap 5 = .ok (.ifCond .ne 6, 3) := by decide +kernel
theorem dX11_leap_8 : decode cX11_leap 8 = .ok (.ldc 166, 2) := by decide +kernel
theorem dX11_leap_10 : decode cX11_leap 10 = .ok (.ireturn, 1) := by decide +kernel
theorem dX11_leap_11 : decode cX11_leap 11 = .ok (.iconst 0, 1) := by decide +kernel
theorem dX11_leap_12 : decode cX11_leap 12 = .ok (.istore_n 2, 1) := by decide +kernel
theorem dX11_leap_13 : decode cX11_leap 13 = .ok (.iconst 1, 1) := by decide +kernel
theorem dX11_leap_14 : decode cX11_leap 14 = .ok (.istore_n 3, 1) := by decide +kernel
theorem dX11_leap_15 : decode cX11_leap 15 = .ok (.iload_n 3, 1) := by decide +kernel
theorem dX11_leap_16 : decode cX11_leap 16 = .ok (.aload_n 0, 1) := by decide +kernel
theorem dX11_leap_17 : decode cX11_leap 17 = .ok (.getfield 60, 3) := by decide +kernel
theorem dX11_leap_20 : decode cX11_leap 20 = .ok (.getfield 304, 3) := by decide +kernel
theorem dX11_leap_23 : decode cX11_leap 23 = .ok (.if_icmp .ge 58, 3) := by decide +kernel
theorem dX11_leap_26 : decode cX11_leap 26 = .ok (.aload_n 0, 1) := by decide +kernel
theorem dX11_leap_27 : decode cX11_leap 27 = .ok (.getfield 60, 3) := by decide +kernel
theorem dX11_leap_30 : decode cX11_leap 30 = .ok (.iload_n 3, 1) := by decide +kernel
theorem dX11_leap_31 : decode cX11_leap 31 = .ok (.iconst 1, 1) := by decide +kernel
theorem dX11_leap_32 : decode cX11_leap 32 = .ok (.isub, 1) := by decide +kernel
theorem dX11_leap_33 : decode cX11_leap 33 = .ok (.iload_n 1, 1) := by decide +kernel
theorem dX11_leap_34 : decode cX11_leap 34 = .ok (.invokevirtual 305, 3) := by decide +kernel
theorem dX11_leap_37 : decode cX11_leap 37 = .ok (.istore 4, 2) := by decide +kernel
theorem dX11_leap_39 : decode cX11_leap 39 = .ok (.aload_n 0, 1) := by decide +kernel
theorem dX11_leap_40 : decode cX11_leap 40 = .ok (.getfield 60, 3) := by decide +kernel
theorem dX11_leap_43 : decode cX11_leap 43 = .ok (.iload_n 3, 1) := by decide +kernel
theorem dX11_leap_44 : decode cX11_leap 44 = .ok (.iload_n 1, 1) := by decide +kernel
theorem dX11_leap_45 : decode cX11_leap 45 = .ok (.invokevirtual 305, 3) := by decide +kernel
theorem dX11_leap_48 : decode cX11_leap 48 = .ok (.istore 5, 2) := by decide +kernel
theorem dX11_leap_50 : decode cX11_leap 50 = .ok (.iload 4, 2) := by decide +kernel
theorem dX11_leap_52 : decode cX11_leap 52 = .ok (.iconst (-1), 1) := by decide +kernel
theorem dX11_leap_53 : decode cX11_leap 53 = .ok (.if_icmp .eq 22, 3) := by decide +kernel
theorem dX11_leap_56 : decode cX11_leap 56 = .ok (.iload 5, 2) := by decide +kernel
theorem dX11_leap_58 : decode cX11_leap 58 = .ok (.iconst (-1), 1) := by decide +kernel
theorem dX11_leap_59 : decode cX11_leap 59 = .ok (.if_icmp .eq 16, 3) := by decide +kernel
theorem dX11_leap_62 : decode cX11_leap 62 = .ok (.iload_n 2, 1) := by decide +kernel
theorem dX11_leap_63 : decode cX11_leap 63 = .ok (.iload 5, 2) := by decide +kernel
theorem dX11_leap_65 : decode cX11_leap 65 = .ok (.iload 4, 2) := by decide +kernel
theorem dX11_leap_67 : decode cX11_leap 67 = .ok (.isub, 1) := by decide +kernel
theorem dX11_leap_68 : decode cX11_leap 68 = .ok (.invokestatic 325, 3) := by decide +kernel
theorem dX11_leap_71 : decode cX11_leap 71 = .ok (.invokestatic 330, 3) := by decide +kernel
theorem dX11_leap_74 : decode cX11_leap 74 = .ok (.istore_n 2, 1) := by decide +kernel
theorem dX11_leap_75 : decode cX11_leap 75 = .ok (.iinc 3 1, 3) := by decide +kernel
theorem dX11_leap_78 : decode cX11_leap 78 = .ok (.goto (-63), 3) := by decide +kernel
theorem dX11_leap_81 : decode cX11_leap 81 = .ok (.iload_n 2, 1) := by decide +kernel
theorem dX11_leap_82 : decode cX11_leap 82 = .ok (.ireturn, 1) := by decide +kernel
theorem dX11_lives_0 : decode cX11_lives 0 = .ok (.aload_n 0, 1) := by decide +kernel
theorem dX11_lives_1 : decode cX11_lives 1 = .ok (.iload_n 1, 1) := by decide +kernel
theorem dX11_lives_2 : decode cX11_lives 2 = .ok (.invokevirtual 163, 3) := by decide +kernel
theorem dX11_lives_5 : decode cX11_lives 5 = .ok (.ifCond .eq 19, 3) := by decide +kernel
theorem dX11_lives_8 : decode cX11_lives 8 = .ok (.aload_n 0, 1) := by decide +kernel
theorem dX11_lives_9 : decode cX11_lives 9 = .ok (.getfield 47, 3) := by decide +kernel
theorem dX11_lives_12 : decode cX11_lives 12 = .ok (.getfield 167, 3) := by decide +kernel
theorem dX11_lives_15 : decode cX11_lives 15 = .ok (.iload_n 1, 1) := by decide +kernel
theorem dX11_lives_16 : decode cX11_lives 16 = .ok (.iaload, 1) := by decide +kernel
theorem dX11_lives_17 : decode cX11_lives 17 = .ok (.ifCond .le 7, 3) := by decide +kernel
theorem dX11_lives_20 : decode cX11_lives 20 = .ok (.iconst 1, 1) := by decide +kernel
theorem dX11_lives_21 : decode cX11_lives 21 = .ok (.goto 4, 3) := by decide +kernel
theorem dX11_lives_24 : decode cX11_lives 24 = .ok (.iconst 0, 1) := by decide +kernel
theorem dX11_lives_25 : decode cX11_lives 25 = .ok (.ireturn, 1) := by decide +kernel
theorem dX11_mayBeBought_0 : decode cX11_mayBeBought 0 = .ok (.iload_n 0, 1) := by decide +kernel
theorem dX11_mayBeBought_1 : decode cX11_mayBeBought 1 = .ok (.bipush (-3), 2) := by decide +kernel
theorem dX11_mayBeBought_3 : decode cX11_mayBeBought 3 = .ok (.if_icmp .lt 12, 3) := by decide +kernel
theorem dX11_mayBeBought_6 : decode cX11_mayBeBought 6 = .ok (.iload_n 0, 1) := by decide +kernel
theorem dX11_mayBeBought_7 : decode cX11_mayBeBought 7 = .ok (.iconst 3, 1) := by decide +kernel
theorem dX11_mayBeBought_8 : decode cX11_mayBeBought 8 = .ok (.if_icmp .gt 7, 3) := by decide +kernel
theorem dX11_mayBeBought_11 : decode cX11_mayBeBought 11 = .ok (.iconst 1, 1) := by decide +kernel
theorem dX11_mayBeBought_12 : decode cX11_mayBeBought 12 = .ok (.goto 4, 3) := by decide +kernel
theorem dX11_mayBeBought_15 : decode cX11_mayBeBought 15 = .ok (.iconst 0, 1) := by decide +kernel
theorem dX11_mayBeBought_16 : decode cX11_mayBeBought 16 = .ok (.ireturn, 1) := by decide +kernel
theorem dX11_mayBeTried_0 : decode cX11_mayBeTried 0 = .ok (.iload_n 0, 1) := by decide +kernel
theorem dX11_mayBeTried_1 : decode cX11_mayBeTried 1 = .ok (.iconst 1, 1) := by decide +kernel
theorem dX11_mayBeTried_2 : decode cX11_mayBeTried 2 = .ok (.if_icmp .lt 24, 3) := by decide +kernel
theorem dX11_mayBeTried_5 : decode cX11_mayBeTried 5 = .ok (.iload_n 0, 1) := by decide +kernel
theorem dX11_mayBeTried_6 : decode cX11_mayBeTried 6 = .ok (.bipush 20, 2) := by decide +kernel
theorem dX11_mayBeTried_8 : decode cX11_mayBeTried 8 = .ok (.if_icmp .gt 18, 3) := by decide +kernel
theorem dX11_mayBeTried_11 : decode cX11_mayBeTried 11 = .ok (.iload_n 1, 1) := by decide +kernel
theorem dX11_mayBeTried_12 : decode cX11_mayBeTried 12 = .ok (.iconst 1, 1) := by decide +kernel
theorem dX11_mayBeTried_13 : decode cX11_mayBeTried 13 = .ok (.if_icmp .lt 13, 3) := by decide +kernel
theorem dX11_mayBeTried_16 : decode cX11_mayBeTried 16 = .ok (.iload_n 1, 1) := by decide +kernel
theorem dX11_mayBeTried_17 : decode cX11_mayBeTried 17 = .ok (.bipush 10, 2) := by decide +kernel
theorem dX11_mayBeTried_19 : decode cX11_mayBeTried 19 = .ok (.if_icmp .gt 7, 3) := by decide +kernel
theorem dX11_mayBeTried_22 : decode cX11_mayBeTried 22 = .ok (.iconst 1, 1) := by decide +kernel
theorem dX11_mayBeTried_23 : decode cX11_mayBeTried 23 = .ok (.goto 4, 3) := by decide +kernel
theorem dX11_mayBeTried_26 : decode cX11_mayBeTried 26 = .ok (.iconst 0, 1) := by decide +kernel
theorem dX11_mayBeTried_27 : decode cX11_mayBeTried 27 = .ok (.ireturn, 1) := by decide +kernel
theorem dX11_met_0 : decode cX11_met 0 = .ok (.aload_n 0, 1) := by decide +kernel
theorem dX11_met_1 : decode cX11_met 1 = .ok (.iload_n 1, 1) := by decide +kernel
theorem dX11_met_2 : decode cX11_met 2 = .ok (.invokevirtual 163, 3) := by decide +kernel
theorem dX11_met_5 : decode cX11_met 5 = .ok (.ifCond .eq 23, 3) := by decide +kernel
theorem dX11_met_8 : decode cX11_met 8 = .ok (.aload_n 0, 1) := by decide +kernel
theorem dX11_met_9 : decode cX11_met 9 = .ok (.iload_n 2, 1) := by decide +kernel
theorem dX11_met_10 : decode cX11_met 10 = .ok (.invokevirtual 163, 3) := by decide +kernel
theorem dX11_met_13 : decode cX11_met 13 = .ok (.ifCond .eq 15, 3) := by decide +kernel
theorem dX11_met_16 : decode cX11_met 16 = .ok (.iload_n 1, 1) := by decide +kernel
theorem dX11_met_17 : decode cX11_met 17 = .ok (.iload_n 2, 1) := by decide +kernel
theorem dX11_met_18 : decode cX11_met 18 = .ok (.if_icmp .eq 10, 3) := by decide +kernel
theorem dX11_met_21 : decode cX11_met 21 = .ok (.iload_n 3, 1) := by decide +kernel
theorem dX11_met_22 : decode cX11_met 22 = .ok (.invokestatic 267, 3) := by decide +kernel
theorem dX11_met_25 : decode cX11_met 25 = .ok (.ifCond .ne 6, 3) := by decide +kernel
theorem dX11_met_28 : decode cX11_met 28 = .ok (.ldc 166, 2) := by decide +kernel
theorem dX11_met_30 : decode cX11_met 30 = .ok (.ireturn, 1) := by decide +kernel
theorem dX11_met_31 : decode cX11_met 31 = .ok (.iconst 0, 1) := by decide +kernel
theorem dX11_met_32 : decode cX11_met 32 = .ok (.istore 4, 2) := by decide +kernel
theorem dX11_met_34 : decode cX11_met 34 = .ok (.iconst (-1), 1) := by decide +kernel
theorem dX11_met_35 : decode cX11_met 35 = .ok (.istore 5, 2) := by decide +kernel
theorem dX11_met_37 : decode cX11_met 37 = .ok (.iconst 0, 1) := by decide +kernel
theorem dX11_met_38 : decode cX11_met 38 = .ok (.istore 6, 2) := by decide +kernel
theorem dX11_met_40 : decode cX11_met 40 = .ok (.iload 6, 2) := by decide +kernel
theorem dX11_met_42 : decode cX11_met 42 = .ok (.aload_n 0, 1) := by decide +kernel
theorem dX11_met_43 : decode cX11_met 43 = .ok (.getfield 60, 3) := by decide +kernel
theorem dX11_met_46 : decode cX11_met 46 = .ok (.getfield 304, 3) := by decide +kernel
theorem dX11_met_49 : decode cX11_met 49 = .ok (.if_icmp .ge 49, 3) := by decide +kernel
theorem dX11_met_52 : decode cX11_met 52 = .ok (.aload_n 0, 1) := by decide +kernel
theorem dX11_met_53 : decode cX11_met 53 = .ok (.getfield 60, 3) := by decide +kernel
theorem dX11_met_56 : decode cX11_met 56 = .ok (.iload 6, 2) := by decide +kernel
theorem dX11_met_58 : decode cX11_met 58 = .ok (.iload_n 1, 1) := by decide +kernel
theorem dX11_met_59 : decode cX11_met 59 = .ok (.invokevirtual 305, 3) := by decide +kernel
theorem dX11_met_62 : decode cX11_met 62 = .ok (.istore 7, 2) := by decide +kernel
theorem dX11_met_64 : decode cX11_met 64 = .ok (.iload 7, 2) := by decide +kernel
theorem dX11_met_66 : decode cX11_met 66 = .ok (.iconst (-1), 1) := by decide +kernel
theorem dX11_met_67 : decode cX11_met 67 = .ok (.if_icmp .eq 25, 3) := by decide +kernel
theorem dX11_met_70 : decode cX11_met 70 = .ok (.iload 7, 2) := by decide +kernel
theorem dX11_met_72 : decode cX11_met 72 = .ok (.aload_n 0, 1) := by decide +kernel
theorem dX11_met_73 : decode cX11_met 73 = .ok (.getfield 60, 3) := by decide +kernel
theorem dX11_met_76 : decode cX11_met 76 = .ok (.iload 6, 2) := by decide +kernel
theorem dX11_met_78 : decode cX11_met 78 = .ok (.iload_n 2, 1) := by decide +kernel
theorem dX11_met_79 : decode cX11_met 79 = .ok (.invokevirtual 305, 3) := by decide +kernel
theorem dX11_met_82 : decode cX11_met 82 = .ok (.if_icmp .ne 10, 3) := by decide +kernel
theorem dX11_met_85 : decode cX11_met 85 = .ok (.iinc 4 1, 3) := by decide +kernel
theorem dX11_met_88 : decode cX11_met 88 = .ok (.iload 6, 2) := by decide +kernel
theorem dX11_met_90 : decode cX11_met 90 = .ok (.istore 5, 2) := by decide +kernel
theorem dX11_met_92 : decode cX11_met 92 = .ok (.iinc 6 1, 3) := by decide +kernel
theorem dX11_met_95 : decode cX11_met 95 = .ok (.goto (-55), 3) := by decide +kernel
theorem dX11_met_98 : decode cX11_met 98 = .ok (.iload_n 3, 1) := by decide +kernel
theorem dX11_met_99 : decode cX11_met 99 = .ok (.ifCond .ne 8, 3) := by decide +kernel
theorem dX11_met_102 : decode cX11_met 102 = .ok (.iload 4, 2) := by decide +kernel
theorem dX11_met_104 : decode cX11_met 104 = .ok (.goto 5, 3) := by decide +kernel
theorem dX11_met_107 : decode cX11_met 107 = .ok (.iload 5, 2) := by decide +kernel
theorem dX11_met_109 : decode cX11_met 109 = .ok (.ireturn, 1) := by decide +kernel
theorem dX11_most_0 : decode cX11_most 0 = .ok (.aload_n 0, 1) := by decide +kernel
theorem dX11_most_1 : decode cX11_most 1 = .ok (.invokevirtual 218, 3) := by decide +kernel
theorem dX11_most_4 : decode cX11_most 4 = .ok (.ifCond .eq 10, 3) := by decide +kernel
theorem dX11_most_7 : decode cX11_most 7 = .ok (.iload_n 1, 1) := by decide +kernel
theorem dX11_most_8 : decode cX11_most 8 = .ok (.invokestatic 267, 3) := by decide +kernel
theorem dX11_most_11 : decode cX11_most 11 = .ok (.ifCond .ne 5, 3) := by decide +kernel
theorem dX11_most_14 : decode cX11_most 14 = .ok (.iconst (-1), 1) := by decide +kernel
theorem dX11_most_15 : decode cX11_most 15 = .ok (.ireturn, 1) := by decide +kernel
theorem dX11_most_16 : decode cX11_most 16 = .ok (.aload_n 0, 1) := by decide +kernel
theorem dX11_most_17 : decode cX11_most 17 = .ok (.getfield 81, 3) := by decide +kernel
theorem dX11_most_20 : decode cX11_most 20 = .ok (.aload_n 0, 1) := by decide +kernel
theorem dX11_most_21 : decode cX11_most 21 = .ok (.getfield 47, 3) := by decide +kernel
theorem dX11_most_24 : decode cX11_most 24 = .ok (.invokevirtual 270, 3) := by decide +kernel
theorem dX11_most_27 : decode cX11_most 27 = .ok (.istore_n 2, 1) := by decide +kernel
theorem dX11_most_28 : decode cX11_most 28 = .ok (.iload_n 1, 1) := by decide +kernel
theorem dX11_most_29 : decode cX11_most 29 = .ok (.ifCond .ne 10, 3) := by decide +kernel
theorem dX11_most_32 : decode cX11_most 32 = .ok (.iload_n 2, 1) := by decide +kernel
theorem dX11_most_33 : decode cX11_most 33 = .ok (.invokestatic 273, 3) := by decide +kernel
theorem dX11_most_36 : decode cX11_most 36 = .ok (.goto 4, 3) := by decide +kernel
theorem dX11_most_39 : decode cX11_most 39 = .ok (.iload_n 2, 1) := by decide +kernel
theorem dX11_most_40 : decode cX11_most 40 = .ok (.ireturn, 1) := by decide +kernel
theorem dX11_needs_0 : decode cX11_needs 0 = .ok (.aload_n 0, 1) := by decide +kernel
theorem dX11_needs_1 : decode cX11_needs 1 = .ok (.iload_n 1, 1) := by decide +kernel
theorem dX11_needs_2 : decode cX11_needs 2 = .ok (.invokevirtual 163, 3) := by decide +kernel
theorem dX11_needs_5 : decode cX11_needs 5 = .ok (.ifCond .eq 14, 3) := by decide +kernel
theorem dX11_needs_8 : decode cX11_needs 8 = .ok (.aload_n 0, 1) := by decide +kernel
theorem dX11_needs_9 : decode cX11_needs 9 = .ok (.getfield 47, 3) := by decide +kernel
theorem dX11_needs_12 : decode cX11_needs 12 = .ok (.iload_n 1, 1) := by decide +kernel
theorem dX11_needs_13 : decode cX11_needs 13 = .ok (.invokevirtual 278, 3) := by decide +kernel
theorem dX11_needs_16 : decode cX11_needs 16 = .ok (.ifCond .ne 5, 3) := by decide +kernel
theorem dX11_needs_19 : decode cX11_needs 19 = .ok (.iconst (-1), 1) := by decide +kernel
theorem dX11_needs_20 : decode cX11_needs 20 = .ok (.ireturn, 1) := by decide +kernel
theorem dX11_needs_21 : decode cX11_needs 21 = .ok (.aload_n 0, 1) := by decide +kernel
theorem dX11_needs_22 : decode cX11_needs 22 = .ok (.getfield 81, 3) := by decide +kernel
theorem dX11_needs_25 : decode cX11_needs 25 = .ok (.aload_n 0, 1) := by decide +kernel
theorem dX11_needs_26 : decode cX11_needs 26 = .ok (.getfield 47, 3) := by decide +kernel
theorem dX11_needs_29 : decode cX11_needs 29 = .ok (.iload_n 1, 1) := by decide +kernel
theorem dX11_needs_30 : decode cX11_needs 30 = .ok (.invokevirtual 281, 3) := by decide +kernel
theorem dX11_needs_33 : decode cX11_needs 33 = .ok (.ireturn, 1) := by decide +kernel
theorem dX11_rank_0 : decode cX11_rank 0 = .ok (.aload_n 0, 1) := by decide +kernel
theorem dX11_rank_1 : decode cX11_rank 1 = .ok (.iload_n 1, 1) := by decide +kernel
theorem dX11_rank_2 : decode cX11_rank 2 = .ok (.invokevirtual 163, 3) := by decide +kernel
theorem dX11_rank_5 : decode cX11_rank 5 = .ok (.ifCond .ne 5, 3) := by decide +kernel
theorem dX11_rank_8 : decode cX11_rank 8 = .ok (.iconst (-1), 1) := by decide +kernel
theorem dX11_rank_9 : decode cX11_rank 9 = .ok (.ireturn, 1) := by decide +kernel
theorem dX11_rank_10 : decode cX11_rank 10 = .ok (.iconst 0, 1) := by decide +kernel
theorem dX11_rank_11 : decode cX11_rank 11 = .ok (.istore_n 2, 1) := by decide +kernel
theorem dX11_rank_12 : decode cX11_rank 12 = .ok (.iload_n 2, 1) := by decide +kernel
theorem dX11_rank_13 : decode cX11_rank 13 = .ok (.aload_n 0, 1) := by decide +kernel
theorem dX11_rank_14 : decode cX11_rank 14 = .ok (.getfield 47, 3) := by decide +kernel
theorem dX11_rank_17 : decode cX11_rank 17 = .ok (.getfield 128, 3) := by decide +kernel
theorem dX11_rank_20 : decode cX11_rank 20 = .ok (.getfield 319, 3) := by decide +kernel
theorem dX11_rank_23 : decode cX11_rank 23 = .ok (.if_icmp .ge 23, 3) := by decide +kernel
theorem dX11_rank_26 : decode cX11_rank 26 = .ok (.aload_n 0, 1) := by decide +kernel
theorem dX11_rank_27 : decode cX11_rank 27 = .ok (.getfield 47, 3) := by decide +kernel
theorem dX11_rank_30 : decode cX11_rank 30 = .ok (.iload_n 2, 1) := by decide +kernel
theorem dX11_rank_31 : decode cX11_rank 31 = .ok (.invokevirtual 322, 3) := by decide +kernel
theorem dX11_rank_34 : decode cX11_rank 34 = .ok (.iload_n 1, 1) := by decide +kernel
theorem dX11_rank_35 : decode cX11_rank 35 = .ok (.if_icmp .ne 5, 3) := by decide +kernel
theorem dX11_rank_38 : decode cX11_rank 38 = .ok (.iload_n 2, 1) := by decide +kernel
theorem dX11_rank_39 : decode cX11_rank 39 = .ok (.ireturn, 1) := by decide +kernel
theorem dX11_rank_40 : decode cX11_rank 40 = .ok (.iinc 2 1, 3) := by decide +kernel
theorem dX11_rank_43 : decode cX11_rank 43 = .ok (.goto (-31), 3) := by decide +kernel
theorem dX11_rank_46 : decode cX11_rank 46 = .ok (.iconst (-1), 1) := by decide +kernel
theorem dX11_rank_47 : decode cX11_rank 47 = .ok (.ireturn, 1) := by decide +kernel
theorem dX11_seed_0 : decode cX11_seed 0 = .ok (.aload_n 0, 1) := by decide +kernel
theorem dX11_seed_1 : decode cX11_seed 1 = .ok (.getfield 47, 3) := by decide +kernel
theorem dX11_seed_4 : decode cX11_seed 4 = .ok (.lload_n 1, 1) := by decide +kernel
theorem dX11_seed_5 : decode cX11_seed 5 = .ok (.putfield 214, 3) := by decide +kernel
theorem dX11_seed_8 : decode cX11_seed 8 = .ok (.iconst 1, 1) := by decide +kernel
theorem dX11_seed_9 : decode cX11_seed 9 = .ok (.ireturn, 1) := by decide +kernel
theorem dX11_set_0 : decode cX11_set 0 = .ok (.iload_n 2, 1) := by decide +kernel
theorem dX11_set_1 : decode cX11_set 1 = .ok (.ifCond .ge 5, 3) := by decide +kernel
theorem dX11_set_4 : decode cX11_set 4 = .ok (.iconst 0, 1) := by decide +kernel
theorem dX11_set_5 : decode cX11_set 5 = .ok (.ireturn, 1) := by decide +kernel
theorem dX11_set_6 : decode cX11_set 6 = .ok (.iload_n 1, 1) := by decide +kernel
theorem dX11_set_7 : decode cX11_set 7 = .ok (.ifCond .ne 19, 3) := by decide +kernel
theorem dX11_set_10 : decode cX11_set 10 = .ok (.iload_n 2, 1) := by decide +kernel
theorem dX11_set_11 : decode cX11_set 11 = .ok (.bipush 100, 2) := by decide +kernel
theorem dX11_set_13 : decode cX11_set 13 = .ok (.if_icmp .gt 13, 3) := by decide +kernel
theorem dX11_set_16 : decode cX11_set 16 = .ok (.aload_n 0, 1) := by decide +kernel
theorem dX11_set_17 : decode cX11_set 17 = .ok (.getfield 74, 3) := by decide +kernel
theorem dX11_set_20 : decode cX11_set 20 = .ok (.iload_n 2, 1) := by decide +kernel
theorem dX11_set_21 : decode cX11_set 21 = .ok (.putfield 205, 3) := by decide +kernel
theorem dX11_set_24 : decode cX11_set 24 = .ok (.iconst 1, 1) := by decide +kernel
theorem dX11_set_25 : decode cX11_set 25 = .ok (.ireturn, 1) := by decide +kernel
theorem dX11_set_26 : decode cX11_set 26 = .ok (.iload_n 1, 1) := by decide +kernel
theorem dX11_set_27 : decode cX11_set 27 = .ok (.iconst 1, 1) := by decide +kernel
theorem dX11_set_28 : decode cX11_set 28 = .ok (.if_icmp .ne 27, 3) := by decide +kernel
theorem dX11_set_31 : decode cX11_set 31 = .ok (.iload_n 2, 1) := by decide +kernel
theorem dX11_set_32 : decode cX11_set 32 = .ok (.iconst 1, 1) := by decide +kernel
theorem dX11_set_33 : decode cX11_set 33 = .ok (.if_icmp .gt 22, 3) := by decide +kernel
theorem dX11_set_36 : decode cX11_set 36 = .ok (.aload_n 0, 1) := by decide +kernel
theorem dX11_set_37 : decode cX11_set 37 = .ok (.getfield 74, 3) := by decide +kernel
theorem dX11_set_40 : decode cX11_set 40 = .ok (.iload_n 2, 1) := by decide +kernel
theorem dX11_set_41 : decode cX11_set 41 = .ok (.iconst 1, 1) := by decide +kernel
theorem dX11_set_42 : decode cX11_set 42 = .ok (.if_icmp .ne 7, 3) := by decide +kernel
theorem dX11_set_45 : decode cX11_set 45 = .ok (.iconst 1, 1) := by decide +kernel
theorem dX11_set_46 : decode cX11_set 46 = .ok (.goto 4, 3) := by decide +kernel
theorem dX11_set_49 : decode cX11_set 49 = .ok (.iconst 0, 1) := by decide +kernel
theorem dX11_set_50 : decode cX11_set 50 = .ok (.putfield 208, 3) := by decide +kernel
theorem dX11_set_53 : decode cX11_set 53 = .ok (.iconst 1, 1) := by decide +kernel
theorem dX11_set_54 : decode cX11_set 54 = .ok (.ireturn, 1) := by decide +kernel
theorem dX11_set_55 : decode cX11_set 55 = .ok (.iload_n 1, 1) := by decide +kernel
theorem dX11_set_56 : decode cX11_set 56 = .ok (.iconst 2, 1) := by decide +kernel
theorem dX11_set_57 : decode cX11_set 57 = .ok (.if_icmp .ne 19, 3) := by decide +kernel
theorem dX11_set_60 : decode cX11_set 60 = .ok (.iload_n 2, 1) := by decide +kernel
theorem dX11_set_61 : decode cX11_set 61 = .ok (.bipush 99, 2) := by decide +kernel
theorem dX11_set_63 : decode cX11_set 63 = .ok (.if_icmp .gt 13, 3) := by decide +kernel
theorem dX11_set_66 : decode cX11_set 66 = .ok (.aload_n 0, 1) := by decide +kernel
theorem dX11_set_67 : decode cX11_set 67 = .ok (.getfield 67, 3) := by decide +kernel
theorem dX11_set_70 : decode cX11_set 70 = .ok (.iload_n 2, 1) := by decide +kernel
theorem dX11_set_71 : decode cX11_set 71 = .ok (.putfield 211, 3) := by decide +kernel
theorem dX11_set_74 : decode cX11_set 74 = .ok (.iconst 1, 1) := by decide +kernel
theorem dX11_set_75 : decode cX11_set 75 = .ok (.ireturn, 1) := by decide +kernel
theorem dX11_set_76 : decode cX11_set 76 = .ok (.iconst 0, 1) := by decide +kernel
theorem dX11_set_77 : decode cX11_set 77 = .ok (.ireturn, 1) := by decide +kernel
theorem dX11_undo_0 : decode cX11_undo 0 = .ok (.aload_n 0, 1) := by decide +kernel
theorem dX11_undo_1 : decode cX11_undo 1 = .ok (.getfield 67, 3) := by decide +kernel
theorem dX11_undo_4 : decode cX11_undo 4 = .ok (.getfield 240, 3) := by decide +kernel
theorem dX11_undo_7 : decode cX11_undo 7 = .ok (.iconst 1, 1) := by decide +kernel
theorem dX11_undo_8 : decode cX11_undo 8 = .ok (.if_icmp .ge 5, 3) := by decide +kernel
theorem dX11_undo_11 : decode cX11_undo 11 = .ok (.iconst (-1), 1) := by decide +kernel
theorem dX11_undo_12 : decode cX11_undo 12 = .ok (.ireturn, 1) := by decide +kernel
theorem dX11_undo_13 : decode cX11_undo 13 = .ok (.aload_n 0, 1) := by decide +kernel
theorem dX11_undo_14 : decode cX11_undo 14 = .ok (.getfield 67, 3) := by decide +kernel
theorem dX11_undo_17 : decode cX11_undo 17 = .ok (.getfield 240, 3) := by decide +kernel
theorem dX11_undo_20 : decode cX11_undo 20 = .ok (.iconst 1, 1) := by decide +kernel
theorem dX11_undo_21 : decode cX11_undo 21 = .ok (.isub, 1) := by decide +kernel
theorem dX11_undo_22 : decode cX11_undo 22 = .ok (.istore_n 1, 1) := by decide +kernel
theorem dX11_undo_23 : decode cX11_undo 23 = .ok (.aload_n 0, 1) := by decide +kernel
theorem dX11_undo_24 : decode cX11_undo 24 = .ok (.getfield 67, 3) := by decide +kernel
theorem dX11_undo_27 : decode cX11_undo 27 = .ok (.getfield 255, 3) := by decide +kernel
theorem dX11_undo_30 : decode cX11_undo 30 = .ok (.iload_n 1, 1) := by decide +kernel
theorem dX11_undo_31 : decode cX11_undo 31 = .ok (.iaload, 1) := by decide +kernel
theorem dX11_undo_32 : decode cX11_undo 32 = .ok (.istore_n 2, 1) := by decide +kernel
theorem dX11_undo_33 : decode cX11_undo 33 = .ok (.aload_n 0, 1) := by decide +kernel
theorem dX11_undo_34 : decode cX11_undo 34 = .ok (.getfield 47, 3) := by decide +kernel
theorem dX11_undo_37 : decode cX11_undo 37 = .ok (.getfield 188, 3) := by decide +kernel
theorem dX11_undo_40 : decode cX11_undo 40 = .ok (.iload_n 2, 1) := by decide +kernel
theorem dX11_undo_41 : decode cX11_undo 41 = .ok (.dup2, 1) := by decide +kernel
theorem dX11_undo_42 : decode cX11_undo 42 = .ok (.iaload, 1) := by decide +kernel
theorem dX11_undo_43 : decode cX11_undo 43 = .ok (.aload_n 0, 1) := by decide +kernel
theorem dX11_undo_44 : decode cX11_undo 44 = .ok (.getfield 67, 3) := by decide +kernel
theorem dX11_undo_47 : decode cX11_undo 47 = .ok (.getfield 258, 3) := by decide +kernel
theorem dX11_undo_50 : decode cX11_undo 50 = .ok (.iload_n 1, 1) := by decide +kernel
theorem dX11_undo_51 : decode cX11_undo 51 = .ok (.iaload, 1) := by decide +kernel
theorem dX11_undo_52 : decode cX11_undo 52 = .ok (.isub, 1) := by decide +kernel
theorem dX11_undo_53 : decode cX11_undo 53 = .ok (.iastore, 1) := by decide +kernel
theorem dX11_undo_54 : decode cX11_undo 54 = .ok (.aload_n 0, 1) := by decide +kernel
theorem dX11_undo_55 : decode cX11_undo 55 = .ok (.getfield 47, 3) := by decide +kernel
theorem dX11_undo_58 : decode cX11_undo 58 = .ok (.getfield 195, 3) := by decide +kernel
theorem dX11_undo_61 : decode cX11_undo 61 = .ok (.iload_n 2, 1) := by decide +kernel
theorem dX11_undo_62 : decode cX11_undo 62 = .ok (.dup2, 1) := by decide +kernel
theorem dX11_undo_63 : decode cX11_undo 63 = .ok (.iaload, 1) := by decide +kernel
theorem dX11_undo_64 : decode cX11_undo 64 = .ok (.aload_n 0, 1) := by decide +kernel
theorem dX11_undo_65 : decode cX11_undo 65 = .ok (.getfield 67, 3) := by decide +kernel
theorem dX11_undo_68 : decode cX11_undo 68 = .ok (.getfield 261, 3) := by decide +kernel
theorem dX11_undo_71 : decode cX11_undo 71 = .ok (.iload_n 1, 1) := by decide +kernel
theorem dX11_undo_72 : decode cX11_undo 72 = .ok (.iaload, 1) := by decide +kernel
theorem dX11_undo_73 : decode cX11_undo 73 = .ok (.isub, 1) := by decide +kernel
theorem dX11_undo_74 : decode cX11_undo 74 = .ok (.iastore, 1) := by decide +kernel
theorem dX11_undo_75 : decode cX11_undo 75 = .ok (.aload_n 0, 1) := by decide +kernel
theorem dX11_undo_76 : decode cX11_undo 76 = .ok (.getfield 67, 3) := by decide +kernel
theorem dX11_undo_79 : decode cX11_undo 79 = .ok (.iload_n 1, 1) := by decide +kernel
theorem dX11_undo_80 : decode cX11_undo 80 = .ok (.putfield 240, 3) := by decide +kernel
theorem dX11_undo_83 : decode cX11_undo 83 = .ok (.iload_n 2, 1) := by decide +kernel
theorem dX11_undo_84 : decode cX11_undo 84 = .ok (.ireturn, 1) := by decide +kernel
theorem dX11_waiting_0 : decode cX11_waiting 0 = .ok (.aload_n 0, 1) := by decide +kernel
theorem dX11_waiting_1 : decode cX11_waiting 1 = .ok (.invokevirtual 218, 3) := by decide +kernel
theorem dX11_waiting_4 : decode cX11_waiting 4 = .ok (.ifCond .eq 13, 3) := by decide +kernel
theorem dX11_waiting_7 : decode cX11_waiting 7 = .ok (.aload_n 0, 1) := by decide +kernel
theorem dX11_waiting_8 : decode cX11_waiting 8 = .ok (.getfield 47, 3) := by decide +kernel
theorem dX11_waiting_11 : decode cX11_waiting 11 = .ok (.invokevirtual 264, 3) := by decide +kernel
theorem dX11_waiting_14 : decode cX11_waiting 14 = .ok (.goto 4, 3) := by decide +kernel
theorem dX11_waiting_17 : decode cX11_waiting 17 = .ok (.iconst (-1), 1) := by decide +kernel
theorem dX11_waiting_18 : decode cX11_waiting 18 = .ok (.ireturn, 1) := by decide +kernel
def w_X11_isZeroOrOne : List Cond := .code yX11_isZeroOrOne cX11_isZeroOrOne 1 (some .boolean) :: ([] ++ ([]))
set_option maxHeartbeats 4000000 in
set_option maxRecDepth 100000 in
theorem c_X11_isZeroOrOne (l : Launch) (E : py_E) (G : wf_G) (L : List Nat) (f : py_F) (sz : Nat) (a : Int32) (hG : GT G) (hWF : WF E G L f) : Met l yX11_isZeroOrOne w_X11_isZeroOrOne ({ frames := 0, cells := 0, slots := 0, locals := 0 }) (py_Pc E [.int a] L f sz) (py_Qi E L f sz (fun r L1 f1 => (0 ≤ r.toInt ∧ r.toInt ≤ 1) ∧ (r.toInt ≠ 0 → a.toInt = 0 ∨ a.toInt = 1) ∧ L = L1 ∧ f = f1)) 0 0 (va_A (va_pl L f) sz) := by
  refine Met.ofW (cc := cX11_isZeroOrOne) (maxL := 1) (ret := (some .boolean)) (by decide) rfl ?_
  intro p e s m args below meth c s₁ B hml hv
  obtain ⟨rfl, rfl, hw⟩ := py_start hv
  have G0 : CallFix p m c cX11_isZeroOrOne 1 s _ w_X11_isZeroOrOne RX11 := ⟨B.exec, B.bytes, hml, findClass_of_methodNamed B.named, atoms_spec (ws := w_X11_isZeroOrOne) B.pre⟩
  have hr := B.returns
  have hlk := B.notSynchronized
  have kcm1 : (-1 : Int32).toInt = -1 := rfl
  have kc0 : (0 : Int32).toInt = 0 := rfl
  have kc1 : (1 : Int32).toInt = 1 := rfl
  have hl := lv_entry ([.int a]) (n := 1) (Nat.le_of_ble_eq_true rfl)
  rw [lg_entry_eq]
  generalize (lg_sl ([.int a]) ++ List.replicate (1 - (lg_sl ([.int a])).length) Slot.unset).toArray = ls at hl ⊢
  have hl : lv_has ls 1 [(0, .int a)] := hl
  have hRP : RP E G f f := RP.refl
  refine lv_iload_n G0.1 G0.2.1 dX11_isZeroOrOne_0 rfl (lv_at hl 0 rfl) ?_
  have jn_14 : ∀ (v_1 : Int32) (H_j14 : Heap) (locs : List Loc) (ls : Array Slot), (0 ≤ v_1.toInt ∧ v_1.toInt ≤ 1) → py_W E (va_A (va_pl L f) s.heap.size) s L f H_j14 locs → lv_has ls 1 [(0, .int a)] → W p l e (headSpec w_X11_isZeroOrOne ({ frames := 0, cells := 0, slots := 0, locals := 0 })).room s m ([.int a] : List Value).toArray below meth c H_j14 locs 0 0 (MQ below (py_Qi E L f s.heap.size (fun r L1 f1 => (0 ≤ r.toInt ∧ r.toInt ≤ 1) ∧ (r.toInt ≠ 0 → a.toInt = 0 ∨ a.toInt = 1) ∧ L = L1 ∧ f = f1)) ([.int a] : List Value).toArray s 0 0 (va_A (va_pl L f) s.heap.size)) (F0 m 14 ls [.int v_1]) := by
    intro v_1 H_j14 locs ls bv_1 hw hl
    exact py_iret G0 hr (ti_bool (by omega) (by omega)) hlk hw ⟨⟨by omega, by omega⟩, (by first | omega | (intro q; omega)), rfl, rfl⟩ dX11_isZeroOrOne_14
  refine lv_if_eq (tgt := 9) G0.1 G0.2.1 dX11_isZeroOrOne_1 (by decide) (fun c_2 => ?_) (fun c_2 => ?_)
  · skip
    have tc_2 := ti_eq c_2
    refine lv_iconst (v := 1) G0.1 G0.2.1 dX11_isZeroOrOne_9 (by decide) ?_
    refine lv_goto (tgt := 14) G0.1 G0.2.1 dX11_isZeroOrOne_10 (by decide) ?_
    exact jn_14 1 _ _ ls ⟨by omega, by omega⟩ hw (lv_sub hl [0] rfl)
  · skip
    have tc_2 := ti_ne c_2
    refine lv_iload_n G0.1 G0.2.1 dX11_isZeroOrOne_4 rfl (lv_at hl 0 rfl) ?_
    refine lv_iconst (v := 1) G0.1 G0.2.1 dX11_isZeroOrOne_5 (by decide) ?_
    refine lv_icmp_ne (tgt := 13) G0.1 G0.2.1 dX11_isZeroOrOne_6 (by decide) (fun c_3 => ?_) (fun c_3 => ?_)
    · skip
      have tc_3 := ti_ne c_3
      refine lv_iconst (v := 0) G0.1 G0.2.1 dX11_isZeroOrOne_13 (by decide) ?_
      exact jn_14 0 _ _ ls ⟨by omega, by omega⟩ hw (lv_sub hl [0] rfl)
    · skip
      have tc_3 := ti_eq c_3
      refine lv_iconst (v := 1) G0.1 G0.2.1 dX11_isZeroOrOne_9 (by decide) ?_
      refine lv_goto (tgt := 14) G0.1 G0.2.1 dX11_isZeroOrOne_10 (by decide) ?_
      exact jn_14 1 _ _ ls ⟨by omega, by omega⟩ hw (lv_sub hl [0] rfl)

def w_X11_mayBeBought : List Cond := .code yX11_mayBeBought cX11_mayBeBought 1 (some .boolean) :: ([] ++ ([]))
set_option maxHeartbeats 4000000 in
set_option maxRecDepth 100000 in
theorem c_X11_mayBeBought (l : Launch) (E : py_E) (G : wf_G) (L : List Nat) (f : py_F) (sz : Nat) (a : Int32) (hG : GT G) (hWF : WF E G L f) : Met l yX11_mayBeBought w_X11_mayBeBought ({ frames := 0, cells := 0, slots := 0, locals := 0 }) (py_Pc E [.int a] L f sz) (py_Qi E L f sz (fun r L1 f1 => (0 ≤ r.toInt ∧ r.toInt ≤ 1) ∧ (r.toInt ≠ 0 → -3 ≤ a.toInt ∧ a.toInt ≤ 3) ∧ L = L1 ∧ f = f1)) 0 0 (va_A (va_pl L f) sz) := by
  refine Met.ofW (cc := cX11_mayBeBought) (maxL := 1) (ret := (some .boolean)) (by decide) rfl ?_
  intro p e s m args below meth c s₁ B hml hv
  obtain ⟨rfl, rfl, hw⟩ := py_start hv
  have G0 : CallFix p m c cX11_mayBeBought 1 s _ w_X11_mayBeBought RX11 := ⟨B.exec, B.bytes, hml, findClass_of_methodNamed B.named, atoms_spec (ws := w_X11_mayBeBought) B.pre⟩
  have hr := B.returns
  have hlk := B.notSynchronized
  have kcm3 : (-3 : Int32).toInt = -3 := rfl
  have kcm1 : (-1 : Int32).toInt = -1 := rfl
  have kc0 : (0 : Int32).toInt = 0 := rfl
  have kc1 : (1 : Int32).toInt = 1 := rfl
  have kc3 : (3 : Int32).toInt = 3 := rfl
  have hl := lv_entry ([.int a]) (n := 1) (Nat.le_of_ble_eq_true rfl)
  rw [lg_entry_eq]
  generalize (lg_sl ([.int a]) ++ List.replicate (1 - (lg_sl ([.int a])).length) Slot.unset).toArray = ls at hl ⊢
  have hl : lv_has ls 1 [(0, .int a)] := hl
  have hRP : RP E G f f := RP.refl
  refine lv_iload_n G0.1 G0.2.1 dX11_mayBeBought_0 rfl (lv_at hl 0 rfl) ?_
  refine lv_bipush (v := (-3)) G0.1 G0.2.1 dX11_mayBeBought_1 (by decide) ?_
  have jn_16 : ∀ (v_1 : Int32) (H_j16 : Heap) (locs : List Loc) (ls : Array Slot), (0 ≤ v_1.toInt ∧ v_1.toInt ≤ 1) → py_W E (va_A (va_pl L f) s.heap.size) s L f H_j16 locs → lv_has ls 1 [(0, .int a)] → W p l e (headSpec w_X11_mayBeBought ({ frames := 0, cells := 0, slots := 0, locals := 0 })).room s m ([.int a] : List Value).toArray below meth c H_j16 locs 0 0 (MQ below (py_Qi E L f s.heap.size (fun r L1 f1 => (0 ≤ r.toInt ∧ r.toInt ≤ 1) ∧ (r.toInt ≠ 0 → -3 ≤ a.toInt ∧ a.toInt ≤ 3) ∧ L = L1 ∧ f = f1)) ([.int a] : List Value).toArray s 0 0 (va_A (va_pl L f) s.heap.size)) (F0 m 16 ls [.int v_1]) := by
    intro v_1 H_j16 locs ls bv_1 hw hl
    exact py_iret G0 hr (ti_bool (by omega) (by omega)) hlk hw ⟨⟨by omega, by omega⟩, (by first | omega | (intro q; omega)), rfl, rfl⟩ dX11_mayBeBought_16
  refine lv_icmp_lt (tgt := 15) G0.1 G0.2.1 dX11_mayBeBought_3 (by decide) (fun c_2 => ?_) (fun c_2 => ?_)
  · skip
    have tc_2 := ti_lt c_2
    refine lv_iconst (v := 0) G0.1 G0.2.1 dX11_mayBeBought_15 (by decide) ?_
    exact jn_16 0 _ _ ls ⟨by omega, by omega⟩ hw (lv_sub hl [0] rfl)
  · skip
    have tc_2 := ti_nlt c_2
    refine lv_iload_n G0.1 G0.2.1 dX11_mayBeBought_6 rfl (lv_at hl 0 rfl) ?_
    refine lv_iconst (v := 3) G0.1 G0.2.1 dX11_mayBeBought_7 (by decide) ?_
    refine lv_icmp_gt (tgt := 15) G0.1 G0.2.1 dX11_mayBeBought_8 (by decide) (fun c_3 => ?_) (fun c_3 => ?_)
    · skip
      have tc_3 := ti_lt c_3
      refine lv_iconst (v := 0) G0.1 G0.2.1 dX11_mayBeBought_15 (by decide) ?_
      exact jn_16 0 _ _ ls ⟨by omega, by omega⟩ hw (lv_sub hl [0] rfl)
    · skip
      have tc_3 := ti_nlt c_3
      refine lv_iconst (v := 1) G0.1 G0.2.1 dX11_mayBeBought_11 (by decide) ?_
      refine lv_goto (tgt := 16) G0.1 G0.2.1 dX11_mayBeBought_12 (by decide) ?_
      exact jn_16 1 _ _ ls ⟨by omega, by omega⟩ hw (lv_sub hl [0] rfl)

def w_X11_mayBeTried : List Cond := .code yX11_mayBeTried cX11_mayBeTried 2 (some .boolean) :: ([] ++ ([]))
set_option maxHeartbeats 4000000 in
set_option maxRecDepth 100000 in
theorem c_X11_mayBeTried (l : Launch) (E : py_E) (G : wf_G) (L : List Nat) (f : py_F) (sz : Nat) (a : Int32) (b : Int32) (hG : GT G) (hWF : WF E G L f) : Met l yX11_mayBeTried w_X11_mayBeTried ({ frames := 0, cells := 0, slots := 0, locals := 0 }) (py_Pc E [.int a, .int b] L f sz) (py_Qi E L f sz (fun r L1 f1 => (0 ≤ r.toInt ∧ r.toInt ≤ 1) ∧ (r.toInt ≠ 0 → 1 ≤ a.toInt ∧ a.toInt ≤ 20 ∧ 1 ≤ b.toInt ∧ b.toInt ≤ 10) ∧ L = L1 ∧ f = f1)) 0 0 (va_A (va_pl L f) sz) := by
  refine Met.ofW (cc := cX11_mayBeTried) (maxL := 2) (ret := (some .boolean)) (by decide) rfl ?_
  intro p e s m args below meth c s₁ B hml hv
  obtain ⟨rfl, rfl, hw⟩ := py_start hv
  have G0 : CallFix p m c cX11_mayBeTried 2 s _ w_X11_mayBeTried RX11 := ⟨B.exec, B.bytes, hml, findClass_of_methodNamed B.named, atoms_spec (ws := w_X11_mayBeTried) B.pre⟩
  have hr := B.returns
  have hlk := B.notSynchronized
  have kcm1 : (-1 : Int32).toInt = -1 := rfl
  have kc0 : (0 : Int32).toInt = 0 := rfl
  have kc1 : (1 : Int32).toInt = 1 := rfl
  have kc10 : (10 : Int32).toInt = 10 := rfl
  have kc20 : (20 : Int32).toInt = 20 := rfl
  have hl := lv_entry ([.int a, .int b]) (n := 2) (Nat.le_of_ble_eq_true rfl)
  rw [lg_entry_eq]
  generalize (lg_sl ([.int a, .int b]) ++ List.replicate (2 - (lg_sl ([.int a, .int b])).length) Slot.unset).toArray = ls at hl ⊢
  have hl : lv_has ls 2 [(0, .int a), (1, .int b)] := hl
  have hRP : RP E G f f := RP.refl
  refine lv_iload_n G0.1 G0.2.1 dX11_mayBeTried_0 rfl (lv_at hl 0 rfl) ?_
  refine lv_iconst (v := 1) G0.1 G0.2.1 dX11_mayBeTried_1 (by decide) ?_
  have jn_27 : ∀ (v_1 : Int32) (H_j27 : Heap) (locs : List Loc) (ls : Array Slot), (0 ≤ v_1.toInt ∧ v_1.toInt ≤ 1) → py_W E (va_A (va_pl L f) s.heap.size) s L f H_j27 locs → lv_has ls 2 [(0, .int a), (1, .int b)] → W p l e (headSpec w_X11_mayBeTried ({ frames := 0, cells := 0, slots := 0, locals := 0 })).room s m ([.int a, .int b] : List Value).toArray below meth c H_j27 locs 0 0 (MQ below (py_Qi E L f s.heap.size (fun r L1 f1 => (0 ≤ r.toInt ∧ r.toInt ≤ 1) ∧ (r.toInt ≠ 0 → 1 ≤ a.toInt ∧ a.toInt ≤ 20 ∧ 1 ≤ b.toInt ∧ b.toInt ≤ 10) ∧ L = L1 ∧ f = f1)) ([.int a, .int b] : List Value).toArray s 0 0 (va_A (va_pl L f) s.heap.size)) (F0 m 27 ls [.int v_1]) := by
    intro v_1 H_j27 locs ls bv_1 hw hl
    exact py_iret G0 hr (ti_bool (by omega) (by omega)) hlk hw ⟨⟨by omega, by omega⟩, (by first | omega | (intro q; omega)), rfl, rfl⟩ dX11_mayBeTried_27
  refine lv_icmp_lt (tgt := 26) G0.1 G0.2.1 dX11_mayBeTried_2 (by decide) (fun c_2 => ?_) (fun c_2 => ?_)
  · skip
    have tc_2 := ti_lt c_2
    refine lv_iconst (v := 0) G0.1 G0.2.1 dX11_mayBeTried_26 (by decide) ?_
    exact jn_27 0 _ _ ls ⟨by omega, by omega⟩ hw (lv_sub hl [0, 1] rfl)
  · skip
    have tc_2 := ti_nlt c_2
    refine lv_iload_n G0.1 G0.2.1 dX11_mayBeTried_5 rfl (lv_at hl 0 rfl) ?_
    refine lv_bipush (v := 20) G0.1 G0.2.1 dX11_mayBeTried_6 (by decide) ?_
    refine lv_icmp_gt (tgt := 26) G0.1 G0.2.1 dX11_mayBeTried_8 (by decide) (fun c_3 => ?_) (fun c_3 => ?_)
    · skip
      have tc_3 := ti_lt c_3
      refine lv_iconst (v := 0) G0.1 G0.2.1 dX11_mayBeTried_26 (by decide) ?_
      exact jn_27 0 _ _ ls ⟨by omega, by omega⟩ hw (lv_sub hl [0, 1] rfl)
    · skip
      have tc_3 := ti_nlt c_3
      refine lv_iload_n G0.1 G0.2.1 dX11_mayBeTried_11 rfl (lv_at hl 1 rfl) ?_
      refine lv_iconst (v := 1) G0.1 G0.2.1 dX11_mayBeTried_12 (by decide) ?_
      refine lv_icmp_lt (tgt := 26) G0.1 G0.2.1 dX11_mayBeTried_13 (by decide) (fun c_4 => ?_) (fun c_4 => ?_)
      · skip
        have tc_4 := ti_lt c_4
        refine lv_iconst (v := 0) G0.1 G0.2.1 dX11_mayBeTried_26 (by decide) ?_
        exact jn_27 0 _ _ ls ⟨by omega, by omega⟩ hw (lv_sub hl [0, 1] rfl)
      · skip
        have tc_4 := ti_nlt c_4
        refine lv_iload_n G0.1 G0.2.1 dX11_mayBeTried_16 rfl (lv_at hl 1 rfl) ?_
        refine lv_bipush (v := 10) G0.1 G0.2.1 dX11_mayBeTried_17 (by decide) ?_
        refine lv_icmp_gt (tgt := 26) G0.1 G0.2.1 dX11_mayBeTried_19 (by decide) (fun c_5 => ?_) (fun c_5 => ?_)
        · skip
          have tc_5 := ti_lt c_5
          refine lv_iconst (v := 0) G0.1 G0.2.1 dX11_mayBeTried_26 (by decide) ?_
          exact jn_27 0 _ _ ls ⟨by omega, by omega⟩ hw (lv_sub hl [0, 1] rfl)
        · skip
          have tc_5 := ti_nlt c_5
          refine lv_iconst (v := 1) G0.1 G0.2.1 dX11_mayBeTried_22 (by decide) ?_
          refine lv_goto (tgt := 27) G0.1 G0.2.1 dX11_mayBeTried_23 (by decide) ?_
          exact jn_27 1 _ _ ls ⟨by omega, by omega⟩ hw (lv_sub hl [0, 1] rfl)

def w_X11_hasValley : List Cond := .code yX11_hasValley cX11_hasValley 1 (some .boolean) :: ([Cond.fieldLink RX11 47 "HeadYear" "folk" "LHeadYear$Folk;", Cond.fieldLink RX11 128 "HeadYear$Folk" "valley" "LHeadYear$Valley;", Cond.fieldLink RX11 317 "HeadYear$Valley" "levels" "I"] ++ (u_ws RX11 TX11 16 ++ (u_ws RX2 TX2 12 ++ (u_ws RX9 TX9 10 ++ ([])))))
theorem in_X11_hasValley_X11 : ∀ w ∈ u_ws RX11 TX11 16, w ∈ w_X11_hasValley := fun _ h => List.mem_cons_of_mem _ (List.mem_append_right _ (List.mem_append_left _ h))
theorem in_X11_hasValley_X2 : ∀ w ∈ u_ws RX2 TX2 12, w ∈ w_X11_hasValley := fun _ h => List.mem_cons_of_mem _ (List.mem_append_right _ (List.mem_append_right _ (List.mem_append_left _ h)))
theorem in_X11_hasValley_X9 : ∀ w ∈ u_ws RX9 TX9 10, w ∈ w_X11_hasValley := fun _ h => List.mem_cons_of_mem _ (List.mem_append_right _ (List.mem_append_right _ (List.mem_append_right _ (List.mem_append_left _ h))))
set_option maxHeartbeats 4000000 in
set_option maxRecDepth 100000 in
theorem c_X11_hasValley (l : Launch) (E : py_E) (G : wf_G) (L : List Nat) (f : py_F) (sz : Nat) (x : Nat) (hG : GT G) (hWF : WF E G L f) (Tx : G.1 x = 12) : Met l yX11_hasValley w_X11_hasValley ({ frames := 0, cells := 0, slots := 0, locals := 0 }) (py_Pc E [.ref x] L f sz) (py_Qi E L f sz (fun r L1 f1 => (0 ≤ r.toInt ∧ r.toInt ≤ 1) ∧ (r.toInt ≠ 0 → 1 ≤ fv_l f (G.2 x 5)) ∧ L = L1 ∧ f = f1)) 0 0 (va_A (va_pl L f) sz) := by
  refine Met.ofW (cc := cX11_hasValley) (maxL := 1) (ret := (some .boolean)) (by decide) rfl ?_
  intro p e s m args below meth c s₁ B hml hv
  obtain ⟨rfl, rfl, hw⟩ := py_start hv
  have G0 : CallFix p m c cX11_hasValley 1 s _ w_X11_hasValley RX11 := ⟨B.exec, B.bytes, hml, findClass_of_methodNamed B.named, atoms_spec (ws := w_X11_hasValley) B.pre⟩
  have hr := B.returns
  have hlk := B.notSynchronized
  have kcm1 : (-1 : Int32).toInt = -1 := rfl
  have kc0 : (0 : Int32).toInt = 0 := rfl
  have kc1 : (1 : Int32).toInt = 1 := rfl
  have hl := lv_entry ([.ref x]) (n := 1) (Nat.le_of_ble_eq_true rfl)
  rw [lg_entry_eq]
  generalize (lg_sl ([.ref x]) ++ List.replicate (1 - (lg_sl ([.ref x])).length) Slot.unset).toArray = ls at hl ⊢
  have hl : lv_has ls 1 [(0, .ref x)] := hl
  have hRP : RP E G f f := RP.refl
  refine lv_aload_n G0.1 G0.2.1 dX11_hasValley_0 rfl (lv_at hl 0 rfl) ?_
  obtain ⟨t_1, t_2, t_3, t_4, t_5, t_6, t_7, t_8, t_9, t_10, t_11, t_12, t_13, tx_14, tx_15, tx_16, tx_17⟩ := wt_11 hG Tx
  obtain ⟨v_18, v_19, v_20, hr_24, b_21, b_22, b_23⟩ := wg_11 hWF Tx
  refine py_get (C := RX11) (T := TX11) (N := 16) (k := 5) (v := .ref (G.2 x 5)) G0 hw in_X11_hasValley_X11 rfl hr_24 (by decide) (by decide +kernel) rfl dX11_hasValley_1 ?_
  obtain ⟨t_25, t_26, t_27, t_28, t_29, t_30, t_31, t_32, t_33⟩ := wt_2 hG t_6
  obtain ⟨r_34, y_35, v_36, hr_39, ty_37, b_38⟩ := wg_2 hWF t_6
  have tq_40 := fo_eq hr_39
  refine py_get (C := RX2) (T := TX2) (N := 12) (k := 9) (v := .ref r_34) G0 hw in_X11_hasValley_X2 rfl hr_39 (by decide) (by decide +kernel) rfl dX11_hasValley_4 ?_
  obtain ⟨t_41, t_42, t_43, t_44, t_45, t_46, t_47, t_48⟩ := wt_9 hG ty_37
  obtain ⟨v_49, v_50, hr_53, b_51, b_52⟩ := wg_9 hWF ty_37
  have tq_54 := va_eq hr_53
  refine py_get (C := RX9) (T := TX9) (N := 10) (k := 8) (v := .int v_49) G0 hw in_X11_hasValley_X9 rfl hr_53 (by decide) (by decide +kernel) rfl dX11_hasValley_7 ?_
  have jn_18 : ∀ (v_55 : Int32) (H_j18 : Heap) (locs : List Loc) (ls : Array Slot), (0 ≤ v_55.toInt ∧ v_55.toInt ≤ 1) → py_W E (va_A (va_pl L f) s.heap.size) s L f H_j18 locs → lv_has ls 1 [(0, .ref x)] → W p l e (headSpec w_X11_hasValley ({ frames := 0, cells := 0, slots := 0, locals := 0 })).room s m ([.ref x] : List Value).toArray below meth c H_j18 locs 0 0 (MQ below (py_Qi E L f s.heap.size (fun r L1 f1 => (0 ≤ r.toInt ∧ r.toInt ≤ 1) ∧ (r.toInt ≠ 0 → 1 ≤ fv_l f (G.2 x 5)) ∧ L = L1 ∧ f = f1)) ([.ref x] : List Value).toArray s 0 0 (va_A (va_pl L f) s.heap.size)) (F0 m 18 ls [.int v_55]) := by
    intro v_55 H_j18 locs ls bv_55 hw hl
    exact py_iret G0 hr (ti_bool (by omega) (by omega)) hlk hw ⟨⟨by omega, by omega⟩, (by first | omega | (intro q; omega)), rfl, rfl⟩ dX11_hasValley_18
  refine lv_if_le (tgt := 17) G0.1 G0.2.1 dX11_hasValley_10 (by decide) (fun c_56 => ?_) (fun c_56 => ?_)
  · skip
    have tc_56 := ti_le c_56
    refine lv_iconst (v := 0) G0.1 G0.2.1 dX11_hasValley_17 (by decide) ?_
    exact jn_18 0 _ _ ls ⟨by omega, by omega⟩ hw (lv_sub hl [0] rfl)
  · skip
    have tc_56 := ti_nle c_56
    refine lv_iconst (v := 1) G0.1 G0.2.1 dX11_hasValley_13 (by decide) ?_
    refine lv_goto (tgt := 18) G0.1 G0.2.1 dX11_hasValley_14 (by decide) ?_
    exact jn_18 1 _ _ ls ⟨by omega, by omega⟩ hw (lv_sub hl [0] rfl)

def w_X11_isLevel : List Cond := .code yX11_isLevel cX11_isLevel 2 (some .boolean) :: ([Cond.fieldLink RX11 47 "HeadYear" "folk" "LHeadYear$Folk;", Cond.fieldLink RX11 128 "HeadYear$Folk" "valley" "LHeadYear$Valley;", Cond.fieldLink RX11 317 "HeadYear$Valley" "levels" "I"] ++ (u_ws RX11 TX11 16 ++ (u_ws RX2 TX2 12 ++ (u_ws RX9 TX9 10 ++ ([])))))
theorem in_X11_isLevel_X11 : ∀ w ∈ u_ws RX11 TX11 16, w ∈ w_X11_isLevel := fun _ h => List.mem_cons_of_mem _ (List.mem_append_right _ (List.mem_append_left _ h))
theorem in_X11_isLevel_X2 : ∀ w ∈ u_ws RX2 TX2 12, w ∈ w_X11_isLevel := fun _ h => List.mem_cons_of_mem _ (List.mem_append_right _ (List.mem_append_right _ (List.mem_append_left _ h)))
theorem in_X11_isLevel_X9 : ∀ w ∈ u_ws RX9 TX9 10, w ∈ w_X11_isLevel := fun _ h => List.mem_cons_of_mem _ (List.mem_append_right _ (List.mem_append_right _ (List.mem_append_right _ (List.mem_append_left _ h))))
set_option maxHeartbeats 4000000 in
set_option maxRecDepth 100000 in
theorem c_X11_isLevel (l : Launch) (E : py_E) (G : wf_G) (L : List Nat) (f : py_F) (sz : Nat) (x : Nat) (a : Int32) (hG : GT G) (hWF : WF E G L f) (Tx : G.1 x = 12) : Met l yX11_isLevel w_X11_isLevel ({ frames := 0, cells := 0, slots := 0, locals := 0 }) (py_Pc E [.ref x, .int a] L f sz) (py_Qi E L f sz (fun r L1 f1 => (0 ≤ r.toInt ∧ r.toInt ≤ 1) ∧ (r.toInt ≠ 0 → 0 ≤ a.toInt ∧ a.toInt ≤ 7 ∧ a.toInt < fv_l f (G.2 x 5)) ∧ L = L1 ∧ f = f1)) 0 0 (va_A (va_pl L f) sz) := by
  refine Met.ofW (cc := cX11_isLevel) (maxL := 2) (ret := (some .boolean)) (by decide) rfl ?_
  intro p e s m args below meth c s₁ B hml hv
  obtain ⟨rfl, rfl, hw⟩ := py_start hv
  have G0 : CallFix p m c cX11_isLevel 2 s _ w_X11_isLevel RX11 := ⟨B.exec, B.bytes, hml, findClass_of_methodNamed B.named, atoms_spec (ws := w_X11_isLevel) B.pre⟩
  have hr := B.returns
  have hlk := B.notSynchronized
  have kcm1 : (-1 : Int32).toInt = -1 := rfl
  have kc0 : (0 : Int32).toInt = 0 := rfl
  have kc1 : (1 : Int32).toInt = 1 := rfl
  have hl := lv_entry ([.ref x, .int a]) (n := 2) (Nat.le_of_ble_eq_true rfl)
  rw [lg_entry_eq]
  generalize (lg_sl ([.ref x, .int a]) ++ List.replicate (2 - (lg_sl ([.ref x, .int a])).length) Slot.unset).toArray = ls at hl ⊢
  have hl : lv_has ls 2 [(0, .ref x), (1, .int a)] := hl
  have hRP : RP E G f f := RP.refl
  refine lv_iload_n G0.1 G0.2.1 dX11_isLevel_0 rfl (lv_at hl 1 rfl) ?_
  have jn_23 : ∀ (v_1 : Int32) (H_j23 : Heap) (locs : List Loc) (ls : Array Slot), (0 ≤ v_1.toInt ∧ v_1.toInt ≤ 1) → py_W E (va_A (va_pl L f) s.heap.size) s L f H_j23 locs → lv_has ls 2 [(0, .ref x), (1, .int a)] → W p l e (headSpec w_X11_isLevel ({ frames := 0, cells := 0, slots := 0, locals := 0 })).room s m ([.ref x, .int a] : List Value).toArray below meth c H_j23 locs 0 0 (MQ below (py_Qi E L f s.heap.size (fun r L1 f1 => (0 ≤ r.toInt ∧ r.toInt ≤ 1) ∧ (r.toInt ≠ 0 → 0 ≤ a.toInt ∧ a.toInt ≤ 7 ∧ a.toInt < fv_l f (G.2 x 5)) ∧ L = L1 ∧ f = f1)) ([.ref x, .int a] : List Value).toArray s 0 0 (va_A (va_pl L f) s.heap.size)) (F0 m 23 ls [.int v_1]) := by
    intro v_1 H_j23 locs ls bv_1 hw hl
    exact py_iret G0 hr (ti_bool (by omega) (by omega)) hlk hw ⟨⟨by omega, by omega⟩, (by first | omega | (intro q; omega)), rfl, rfl⟩ dX11_isLevel_23
  refine lv_if_lt (tgt := 22) G0.1 G0.2.1 dX11_isLevel_1 (by decide) (fun c_2 => ?_) (fun c_2 => ?_)
  · skip
    have tc_2 := ti_lt c_2
    refine lv_iconst (v := 0) G0.1 G0.2.1 dX11_isLevel_22 (by decide) ?_
    exact jn_23 0 _ _ ls ⟨by omega, by omega⟩ hw (lv_sub hl [0, 1] rfl)
  · skip
    have tc_2 := ti_nlt c_2
    refine lv_iload_n G0.1 G0.2.1 dX11_isLevel_4 rfl (lv_at hl 1 rfl) ?_
    refine lv_aload_n G0.1 G0.2.1 dX11_isLevel_5 rfl (lv_at hl 0 rfl) ?_
    obtain ⟨t_3, t_4, t_5, t_6, t_7, t_8, t_9, t_10, t_11, t_12, t_13, t_14, t_15, tx_16, tx_17, tx_18, tx_19⟩ := wt_11 hG Tx
    obtain ⟨v_20, v_21, v_22, hr_26, b_23, b_24, b_25⟩ := wg_11 hWF Tx
    refine py_get (C := RX11) (T := TX11) (N := 16) (k := 5) (v := .ref (G.2 x 5)) G0 hw in_X11_isLevel_X11 rfl hr_26 (by decide) (by decide +kernel) rfl dX11_isLevel_6 ?_
    obtain ⟨t_27, t_28, t_29, t_30, t_31, t_32, t_33, t_34, t_35⟩ := wt_2 hG t_8
    obtain ⟨r_36, y_37, v_38, hr_41, ty_39, b_40⟩ := wg_2 hWF t_8
    have tq_42 := fo_eq hr_41
    refine py_get (C := RX2) (T := TX2) (N := 12) (k := 9) (v := .ref r_36) G0 hw in_X11_isLevel_X2 rfl hr_41 (by decide) (by decide +kernel) rfl dX11_isLevel_9 ?_
    obtain ⟨t_43, t_44, t_45, t_46, t_47, t_48, t_49, t_50⟩ := wt_9 hG ty_39
    obtain ⟨v_51, v_52, hr_55, b_53, b_54⟩ := wg_9 hWF ty_39
    have tq_56 := va_eq hr_55
    refine py_get (C := RX9) (T := TX9) (N := 10) (k := 8) (v := .int v_51) G0 hw in_X11_isLevel_X9 rfl hr_55 (by decide) (by decide +kernel) rfl dX11_isLevel_12 ?_
    refine lv_icmp_ge (tgt := 22) G0.1 G0.2.1 dX11_isLevel_15 (by decide) (fun c_57 => ?_) (fun c_57 => ?_)
    · skip
      have tc_57 := ti_le c_57
      refine lv_iconst (v := 0) G0.1 G0.2.1 dX11_isLevel_22 (by decide) ?_
      exact jn_23 0 _ _ ls ⟨by omega, by omega⟩ hw (lv_sub hl [0, 1] rfl)
    · skip
      have tc_57 := ti_nle c_57
      refine lv_iconst (v := 1) G0.1 G0.2.1 dX11_isLevel_18 (by decide) ?_
      refine lv_goto (tgt := 23) G0.1 G0.2.1 dX11_isLevel_19 (by decide) ?_
      exact jn_23 1 _ _ ls ⟨by omega, by omega⟩ hw (lv_sub hl [0, 1] rfl)

def w_X11_isFamily : List Cond := .code yX11_isFamily cX11_isFamily 2 (some .boolean) :: ([Cond.fieldLink RX11 47 "HeadYear" "folk" "LHeadYear$Folk;", Cond.fieldLink RX11 128 "HeadYear$Folk" "valley" "LHeadYear$Valley;", Cond.fieldLink RX11 319 "HeadYear$Valley" "families" "I"] ++ (u_ws RX11 TX11 16 ++ (u_ws RX2 TX2 12 ++ (u_ws RX9 TX9 10 ++ ([])))))
theorem in_X11_isFamily_X11 : ∀ w ∈ u_ws RX11 TX11 16, w ∈ w_X11_isFamily := fun _ h => List.mem_cons_of_mem _ (List.mem_append_right _ (List.mem_append_left _ h))
theorem in_X11_isFamily_X2 : ∀ w ∈ u_ws RX2 TX2 12, w ∈ w_X11_isFamily := fun _ h => List.mem_cons_of_mem _ (List.mem_append_right _ (List.mem_append_right _ (List.mem_append_left _ h)))
theorem in_X11_isFamily_X9 : ∀ w ∈ u_ws RX9 TX9 10, w ∈ w_X11_isFamily := fun _ h => List.mem_cons_of_mem _ (List.mem_append_right _ (List.mem_append_right _ (List.mem_append_right _ (List.mem_append_left _ h))))
set_option maxHeartbeats 4000000 in
set_option maxRecDepth 100000 in
theorem c_X11_isFamily (l : Launch) (E : py_E) (G : wf_G) (L : List Nat) (f : py_F) (sz : Nat) (x : Nat) (a : Int32) (hG : GT G) (hWF : WF E G L f) (Tx : G.1 x = 12) : Met l yX11_isFamily w_X11_isFamily ({ frames := 0, cells := 0, slots := 0, locals := 0 }) (py_Pc E [.ref x, .int a] L f sz) (py_Qi E L f sz (fun r L1 f1 => (0 ≤ r.toInt ∧ r.toInt ≤ 1) ∧ (r.toInt ≠ 0 → 0 ≤ a.toInt ∧ a.toInt ≤ 9 ∧ a.toInt < fv_f f (G.2 x 5)) ∧ L = L1 ∧ f = f1)) 0 0 (va_A (va_pl L f) sz) := by
  refine Met.ofW (cc := cX11_isFamily) (maxL := 2) (ret := (some .boolean)) (by decide) rfl ?_
  intro p e s m args below meth c s₁ B hml hv
  obtain ⟨rfl, rfl, hw⟩ := py_start hv
  have G0 : CallFix p m c cX11_isFamily 2 s _ w_X11_isFamily RX11 := ⟨B.exec, B.bytes, hml, findClass_of_methodNamed B.named, atoms_spec (ws := w_X11_isFamily) B.pre⟩
  have hr := B.returns
  have hlk := B.notSynchronized
  have kcm1 : (-1 : Int32).toInt = -1 := rfl
  have kc0 : (0 : Int32).toInt = 0 := rfl
  have kc1 : (1 : Int32).toInt = 1 := rfl
  have hl := lv_entry ([.ref x, .int a]) (n := 2) (Nat.le_of_ble_eq_true rfl)
  rw [lg_entry_eq]
  generalize (lg_sl ([.ref x, .int a]) ++ List.replicate (2 - (lg_sl ([.ref x, .int a])).length) Slot.unset).toArray = ls at hl ⊢
  have hl : lv_has ls 2 [(0, .ref x), (1, .int a)] := hl
  have hRP : RP E G f f := RP.refl
  refine lv_iload_n G0.1 G0.2.1 dX11_isFamily_0 rfl (lv_at hl 1 rfl) ?_
  have jn_23 : ∀ (v_1 : Int32) (H_j23 : Heap) (locs : List Loc) (ls : Array Slot), (0 ≤ v_1.toInt ∧ v_1.toInt ≤ 1) → py_W E (va_A (va_pl L f) s.heap.size) s L f H_j23 locs → lv_has ls 2 [(0, .ref x), (1, .int a)] → W p l e (headSpec w_X11_isFamily ({ frames := 0, cells := 0, slots := 0, locals := 0 })).room s m ([.ref x, .int a] : List Value).toArray below meth c H_j23 locs 0 0 (MQ below (py_Qi E L f s.heap.size (fun r L1 f1 => (0 ≤ r.toInt ∧ r.toInt ≤ 1) ∧ (r.toInt ≠ 0 → 0 ≤ a.toInt ∧ a.toInt ≤ 9 ∧ a.toInt < fv_f f (G.2 x 5)) ∧ L = L1 ∧ f = f1)) ([.ref x, .int a] : List Value).toArray s 0 0 (va_A (va_pl L f) s.heap.size)) (F0 m 23 ls [.int v_1]) := by
    intro v_1 H_j23 locs ls bv_1 hw hl
    exact py_iret G0 hr (ti_bool (by omega) (by omega)) hlk hw ⟨⟨by omega, by omega⟩, (by first | omega | (intro q; omega)), rfl, rfl⟩ dX11_isFamily_23
  refine lv_if_lt (tgt := 22) G0.1 G0.2.1 dX11_isFamily_1 (by decide) (fun c_2 => ?_) (fun c_2 => ?_)
  · skip
    have tc_2 := ti_lt c_2
    refine lv_iconst (v := 0) G0.1 G0.2.1 dX11_isFamily_22 (by decide) ?_
    exact jn_23 0 _ _ ls ⟨by omega, by omega⟩ hw (lv_sub hl [0, 1] rfl)
  · skip
    have tc_2 := ti_nlt c_2
    refine lv_iload_n G0.1 G0.2.1 dX11_isFamily_4 rfl (lv_at hl 1 rfl) ?_
    refine lv_aload_n G0.1 G0.2.1 dX11_isFamily_5 rfl (lv_at hl 0 rfl) ?_
    obtain ⟨t_3, t_4, t_5, t_6, t_7, t_8, t_9, t_10, t_11, t_12, t_13, t_14, t_15, tx_16, tx_17, tx_18, tx_19⟩ := wt_11 hG Tx
    obtain ⟨v_20, v_21, v_22, hr_26, b_23, b_24, b_25⟩ := wg_11 hWF Tx
    refine py_get (C := RX11) (T := TX11) (N := 16) (k := 5) (v := .ref (G.2 x 5)) G0 hw in_X11_isFamily_X11 rfl hr_26 (by decide) (by decide +kernel) rfl dX11_isFamily_6 ?_
    obtain ⟨t_27, t_28, t_29, t_30, t_31, t_32, t_33, t_34, t_35⟩ := wt_2 hG t_8
    obtain ⟨r_36, y_37, v_38, hr_41, ty_39, b_40⟩ := wg_2 hWF t_8
    have tq_42 := fo_eq hr_41
    refine py_get (C := RX2) (T := TX2) (N := 12) (k := 9) (v := .ref r_36) G0 hw in_X11_isFamily_X2 rfl hr_41 (by decide) (by decide +kernel) rfl dX11_isFamily_9 ?_
    obtain ⟨t_43, t_44, t_45, t_46, t_47, t_48, t_49, t_50⟩ := wt_9 hG ty_39
    obtain ⟨v_51, v_52, hr_55, b_53, b_54⟩ := wg_9 hWF ty_39
    have tq_56 := va_eq hr_55
    refine py_get (C := RX9) (T := TX9) (N := 10) (k := 9) (v := .int v_52) G0 hw in_X11_isFamily_X9 rfl hr_55 (by decide) (by decide +kernel) rfl dX11_isFamily_12 ?_
    refine lv_icmp_ge (tgt := 22) G0.1 G0.2.1 dX11_isFamily_15 (by decide) (fun c_57 => ?_) (fun c_57 => ?_)
    · skip
      have tc_57 := ti_le c_57
      refine lv_iconst (v := 0) G0.1 G0.2.1 dX11_isFamily_22 (by decide) ?_
      exact jn_23 0 _ _ ls ⟨by omega, by omega⟩ hw (lv_sub hl [0, 1] rfl)
    · skip
      have tc_57 := ti_nle c_57
      refine lv_iconst (v := 1) G0.1 G0.2.1 dX11_isFamily_18 (by decide) ?_
      refine lv_goto (tgt := 23) G0.1 G0.2.1 dX11_isFamily_19 (by decide) ?_
      exact jn_23 1 _ _ ls ⟨by omega, by omega⟩ hw (lv_sub hl [0, 1] rfl)

def w_X11_lives : List Cond := .code yX11_lives cX11_lives 2 (some .boolean) :: ([Cond.methodLink RX11 163 yX11_isFamily, Cond.instanceMethod yX11_isFamily, Cond.selects RX11 yX11_isFamily yX11_isFamily, Cond.initialized RX11, Cond.fieldLink RX11 47 "HeadYear" "folk" "LHeadYear$Folk;", Cond.fieldLink RX11 167 "HeadYear$Folk" "heads" "[I"] ++ (u_ws RX11 TX11 16 ++ (u_ws RX2 TX2 12 ++ (w_X11_isFamily ++ ([])))))
theorem in_X11_lives_X11 : ∀ w ∈ u_ws RX11 TX11 16, w ∈ w_X11_lives := fun _ h => List.mem_cons_of_mem _ (List.mem_append_right _ (List.mem_append_left _ h))
theorem in_X11_lives_X2 : ∀ w ∈ u_ws RX2 TX2 12, w ∈ w_X11_lives := fun _ h => List.mem_cons_of_mem _ (List.mem_append_right _ (List.mem_append_right _ (List.mem_append_left _ h)))
theorem gg_X11_lives_X11_isFamily : GoodIn w_X11_lives w_X11_isFamily := goodIn_sub (fun _ h => List.mem_cons_of_mem _ (List.mem_append_right _ (List.mem_append_right _ (List.mem_append_right _ (List.mem_append_left _ h))))) (by decide +kernel)
theorem g_X11_lives_X11_isFamily_163 : GoodIn w_X11_lives (wsV RX11 163 RX11 yX11_isFamily w_X11_isFamily) := goodIn_app (goodIn_of _ (by decide +kernel)) gg_X11_lives_X11_isFamily
set_option maxHeartbeats 4000000 in
set_option maxRecDepth 100000 in
theorem c_X11_lives (l : Launch) (E : py_E) (G : wf_G) (L : List Nat) (f : py_F) (sz : Nat) (x : Nat) (a : Int32) (hG : GT G) (hWF : WF E G L f) (Tx : G.1 x = 12) : Met l yX11_lives w_X11_lives ({ frames := 1, cells := 0, slots := 0, locals := 21 }) (py_Pc E [.ref x, .int a] L f sz) (py_Qi E L f sz (fun r L1 f1 => (0 ≤ r.toInt ∧ r.toInt ≤ 1) ∧ (r.toInt ≠ 0 → 0 ≤ a.toInt ∧ a.toInt ≤ 9 ∧ a.toInt < fv_f f (G.2 x 5) ∧ 1 ≤ ari f (G.2 (G.2 x 5) 0) a) ∧ L = L1 ∧ f = f1)) 0 0 (va_A (va_pl L f) sz) := by
  refine Met.ofW (cc := cX11_lives) (maxL := 2) (ret := (some .boolean)) (by decide) rfl ?_
  intro p e s m args below meth c s₁ B hml hv
  obtain ⟨rfl, rfl, hw⟩ := py_start hv
  have G0 : CallFix p m c cX11_lives 2 s _ w_X11_lives RX11 := ⟨B.exec, B.bytes, hml, findClass_of_methodNamed B.named, atoms_spec (ws := w_X11_lives) B.pre⟩
  have hr := B.returns
  have hlk := B.notSynchronized
  have kcm1 : (-1 : Int32).toInt = -1 := rfl
  have kc0 : (0 : Int32).toInt = 0 := rfl
  have kc1 : (1 : Int32).toInt = 1 := rfl
  have hl := lv_entry ([.ref x, .int a]) (n := 2) (Nat.le_of_ble_eq_true rfl)
  rw [lg_entry_eq]
  generalize (lg_sl ([.ref x, .int a]) ++ List.replicate (2 - (lg_sl ([.ref x, .int a])).length) Slot.unset).toArray = ls at hl ⊢
  have hl : lv_has ls 2 [(0, .ref x), (1, .int a)] := hl
  have hRP : RP E G f f := RP.refl
  refine lv_aload_n G0.1 G0.2.1 dX11_lives_0 rfl (lv_at hl 0 rfl) ?_
  refine lv_iload_n G0.1 G0.2.1 dX11_lives_1 rfl (lv_at hl 1 rfl) ?_
  obtain ⟨t_1, t_2, t_3, t_4, t_5, t_6, t_7, t_8, t_9, t_10, t_11, t_12, t_13, tx_14, tx_15, tx_16, tx_17⟩ := wt_11 hG Tx
  obtain ⟨v_18, v_19, v_20, hr_24, b_21, b_22, b_23⟩ := wg_11 hWF Tx
  refine py_calli hw (va_runV (As := [.int a]) (rest := []) G0 (c_X11_isFamily l E G L f s.heap.size x a hG hWF Tx) (cwV 1 G0.2.2.2.2 g_X11_lives_X11_isFamily_163 rfl rfl rfl (by decide +kernel) ⟨(Nat.le_of_ble_eq_true rfl), (Nat.le_of_ble_eq_true rfl)⟩) (py_preV hw (C := RX11) (T := TX11) (N := 16) rfl hr_24) rfl rfl hl.1 rfl (lv_room (Nat.le_of_ble_eq_true rfl)) dX11_lives_2 ⟨(Nat.le_of_ble_eq_true rfl), (Nat.le_of_ble_eq_true rfl)⟩) (fun r_29 L_25 f_26 H_27 locs hp_28 hw => ?_)
  obtain ⟨b_31, en_30, rfl, rfl⟩ := hp_28
  have jn_25 : ∀ (v_32 : Int32) (H_j25 : Heap) (locs : List Loc) (ls : Array Slot), (0 ≤ v_32.toInt ∧ v_32.toInt ≤ 1) → py_W E (va_A (va_pl L f) s.heap.size) s L f H_j25 locs → lv_has ls 2 [(0, .ref x), (1, .int a)] → W p l e (headSpec w_X11_lives ({ frames := 1, cells := 0, slots := 0, locals := 21 })).room s m ([.ref x, .int a] : List Value).toArray below meth c H_j25 locs 0 0 (MQ below (py_Qi E L f s.heap.size (fun r L1 f1 => (0 ≤ r.toInt ∧ r.toInt ≤ 1) ∧ (r.toInt ≠ 0 → 0 ≤ a.toInt ∧ a.toInt ≤ 9 ∧ a.toInt < fv_f f (G.2 x 5) ∧ 1 ≤ ari f (G.2 (G.2 x 5) 0) a) ∧ L = L1 ∧ f = f1)) ([.ref x, .int a] : List Value).toArray s 0 0 (va_A (va_pl L f) s.heap.size)) (F0 m 25 ls [.int v_32]) := by
    intro v_32 H_j25 locs ls bv_32 hw hl
    exact py_iret G0 hr (ti_bool (by omega) (by omega)) hlk hw ⟨⟨by omega, by omega⟩, (by first | omega | (intro q; omega)), rfl, rfl⟩ dX11_lives_25
  refine lv_if_eq (tgt := 24) G0.1 G0.2.1 dX11_lives_5 (by decide) (fun c_33 => ?_) (fun c_33 => ?_)
  · skip
    have tc_33 := ti_eq c_33
    refine lv_iconst (v := 0) G0.1 G0.2.1 dX11_lives_24 (by decide) ?_
    exact jn_25 0 _ _ ls ⟨by omega, by omega⟩ hw (lv_sub hl [0, 1] rfl)
  · skip
    have tc_33 := ti_ne c_33
    refine lv_aload_n G0.1 G0.2.1 dX11_lives_8 rfl (lv_at hl 0 rfl) ?_
    refine py_get (C := RX11) (T := TX11) (N := 16) (k := 5) (v := .ref (G.2 x 5)) G0 hw in_X11_lives_X11 rfl hr_24 (by decide) (by decide +kernel) rfl dX11_lives_9 ?_
    obtain ⟨t_34, t_35, t_36, t_37, t_38, t_39, t_40, t_41, t_42⟩ := wt_2 hG t_6
    obtain ⟨r_43, y_44, v_45, hr_48, ty_46, b_47⟩ := wg_2 hWF t_6
    have tq_49 := fo_eq hr_48
    refine py_get (C := RX2) (T := TX2) (N := 12) (k := 0) (v := .ref (G.2 (G.2 x 5) 0)) G0 hw in_X11_lives_X2 rfl hr_48 (by decide) (by decide +kernel) rfl dX11_lives_12 ?_
    refine lv_iload_n G0.1 G0.2.1 dX11_lives_15 rfl (lv_at hl 1 rfl) ?_
    obtain ⟨g_50, ha_51, hi_52⟩ := wf_arr (n := 10) (lo := 0) (hi := 20) hWF t_34 (by omega) (wf_own0 E G _ (G.2 x 5))
    have rg_53 : vp_in a 10 := ti_in (by omega) (by omega)
    refine py_iald G0 hw ha_51 rg_53 dX11_lives_16 ?_
    refine lv_topi (fun x_54 ex_54 => ?_)
    have bx_54 := ti_at hi_52 rg_53 ex_54
    have qx_54 := ari_ld ha_51 ex_54
    refine lv_if_le (tgt := 24) G0.1 G0.2.1 dX11_lives_17 (by decide) (fun c_55 => ?_) (fun c_55 => ?_)
    · skip
      have tc_55 := ti_le c_55
      refine lv_iconst (v := 0) G0.1 G0.2.1 dX11_lives_24 (by decide) ?_
      exact jn_25 0 _ _ ls ⟨by omega, by omega⟩ hw (lv_sub hl [0, 1] rfl)
    · skip
      have tc_55 := ti_nle c_55
      refine lv_iconst (v := 1) G0.1 G0.2.1 dX11_lives_20 (by decide) ?_
      refine lv_goto (tgt := 25) G0.1 G0.2.1 dX11_lives_21 (by decide) ?_
      exact jn_25 1 _ _ ls ⟨by omega, by omega⟩ hw (lv_sub hl [0, 1] rfl)

def w_X11_isLaw : List Cond := .code yX11_isLaw cX11_isLaw 2 (some .boolean) :: ([Cond.fieldLink RX11 94 "HeadYear" "lawCount" "I"] ++ (u_ws RX11 TX11 16 ++ ([])))
theorem in_X11_isLaw_X11 : ∀ w ∈ u_ws RX11 TX11 16, w ∈ w_X11_isLaw := fun _ h => List.mem_cons_of_mem _ (List.mem_append_right _ (List.mem_append_left _ h))
set_option maxHeartbeats 4000000 in
set_option maxRecDepth 100000 in
theorem c_X11_isLaw (l : Launch) (E : py_E) (G : wf_G) (L : List Nat) (f : py_F) (sz : Nat) (x : Nat) (a : Int32) (hG : GT G) (hWF : WF E G L f) (Tx : G.1 x = 12) : Met l yX11_isLaw w_X11_isLaw ({ frames := 0, cells := 0, slots := 0, locals := 0 }) (py_Pc E [.ref x, .int a] L f sz) (py_Qi E L f sz (fun r L1 f1 => (0 ≤ r.toInt ∧ r.toInt ≤ 1) ∧ (r.toInt ≠ 0 → 0 ≤ a.toInt ∧ a.toInt < hy_n f x) ∧ L = L1 ∧ f = f1)) 0 0 (va_A (va_pl L f) sz) := by
  refine Met.ofW (cc := cX11_isLaw) (maxL := 2) (ret := (some .boolean)) (by decide) rfl ?_
  intro p e s m args below meth c s₁ B hml hv
  obtain ⟨rfl, rfl, hw⟩ := py_start hv
  have G0 : CallFix p m c cX11_isLaw 2 s _ w_X11_isLaw RX11 := ⟨B.exec, B.bytes, hml, findClass_of_methodNamed B.named, atoms_spec (ws := w_X11_isLaw) B.pre⟩
  have hr := B.returns
  have hlk := B.notSynchronized
  have kcm1 : (-1 : Int32).toInt = -1 := rfl
  have kc0 : (0 : Int32).toInt = 0 := rfl
  have kc1 : (1 : Int32).toInt = 1 := rfl
  have hl := lv_entry ([.ref x, .int a]) (n := 2) (Nat.le_of_ble_eq_true rfl)
  rw [lg_entry_eq]
  generalize (lg_sl ([.ref x, .int a]) ++ List.replicate (2 - (lg_sl ([.ref x, .int a])).length) Slot.unset).toArray = ls at hl ⊢
  have hl : lv_has ls 2 [(0, .ref x), (1, .int a)] := hl
  have hRP : RP E G f f := RP.refl
  refine lv_iload_n G0.1 G0.2.1 dX11_isLaw_0 rfl (lv_at hl 1 rfl) ?_
  have jn_17 : ∀ (v_1 : Int32) (H_j17 : Heap) (locs : List Loc) (ls : Array Slot), (0 ≤ v_1.toInt ∧ v_1.toInt ≤ 1) → py_W E (va_A (va_pl L f) s.heap.size) s L f H_j17 locs → lv_has ls 2 [(0, .ref x), (1, .int a)] → W p l e (headSpec w_X11_isLaw ({ frames := 0, cells := 0, slots := 0, locals := 0 })).room s m ([.ref x, .int a] : List Value).toArray below meth c H_j17 locs 0 0 (MQ below (py_Qi E L f s.heap.size (fun r L1 f1 => (0 ≤ r.toInt ∧ r.toInt ≤ 1) ∧ (r.toInt ≠ 0 → 0 ≤ a.toInt ∧ a.toInt < hy_n f x) ∧ L = L1 ∧ f = f1)) ([.ref x, .int a] : List Value).toArray s 0 0 (va_A (va_pl L f) s.heap.size)) (F0 m 17 ls [.int v_1]) := by
    intro v_1 H_j17 locs ls bv_1 hw hl
    exact py_iret G0 hr (ti_bool (by omega) (by omega)) hlk hw ⟨⟨by omega, by omega⟩, (by first | omega | (intro q; omega)), rfl, rfl⟩ dX11_isLaw_17
  refine lv_if_lt (tgt := 16) G0.1 G0.2.1 dX11_isLaw_1 (by decide) (fun c_2 => ?_) (fun c_2 => ?_)
  · skip
    have tc_2 := ti_lt c_2
    refine lv_iconst (v := 0) G0.1 G0.2.1 dX11_isLaw_16 (by decide) ?_
    exact jn_17 0 _ _ ls ⟨by omega, by omega⟩ hw (lv_sub hl [0, 1] rfl)
  · skip
    have tc_2 := ti_nlt c_2
    refine lv_iload_n G0.1 G0.2.1 dX11_isLaw_4 rfl (lv_at hl 1 rfl) ?_
    refine lv_aload_n G0.1 G0.2.1 dX11_isLaw_5 rfl (lv_at hl 0 rfl) ?_
    obtain ⟨t_3, t_4, t_5, t_6, t_7, t_8, t_9, t_10, t_11, t_12, t_13, t_14, t_15, tx_16, tx_17, tx_18, tx_19⟩ := wt_11 hG Tx
    obtain ⟨v_20, v_21, v_22, hr_26, b_23, b_24, b_25⟩ := wg_11 hWF Tx
    refine py_get (C := RX11) (T := TX11) (N := 16) (k := 13) (v := .int v_20) G0 hw in_X11_isLaw_X11 rfl hr_26 (by decide) (by decide +kernel) rfl dX11_isLaw_6 ?_
    refine lv_icmp_ge (tgt := 16) G0.1 G0.2.1 dX11_isLaw_9 (by decide) (fun c_27 => ?_) (fun c_27 => ?_)
    · skip
      have tc_27 := ti_le c_27
      refine lv_iconst (v := 0) G0.1 G0.2.1 dX11_isLaw_16 (by decide) ?_
      exact jn_17 0 _ _ ls ⟨by omega, by omega⟩ hw (lv_sub hl [0, 1] rfl)
    · skip
      have tc_27 := ti_nle c_27
      refine lv_iconst (v := 1) G0.1 G0.2.1 dX11_isLaw_12 (by decide) ?_
      refine lv_goto (tgt := 17) G0.1 G0.2.1 dX11_isLaw_13 (by decide) ?_
      exact jn_17 1 _ _ ls ⟨by omega, by omega⟩ hw (lv_sub hl [0, 1] rfl)

def w_X11_lawOf : List Cond := .code yX11_lawOf cX11_lawOf 2 (some (.object "HeadYear$Law")) :: ([Cond.methodLink RX11 202 yX11_isLaw, Cond.instanceMethod yX11_isLaw, Cond.selects RX11 yX11_isLaw yX11_isLaw, Cond.initialized RX11, Cond.fieldLink RX11 40 "HeadYear" "noLaw" "LHeadYear$Law;", Cond.fieldLink RX11 32 "HeadYear" "laws" "[LHeadYear$Law;"] ++ (u_ws RX11 TX11 16 ++ (w_X11_isLaw ++ ([]))))
theorem in_X11_lawOf_X11 : ∀ w ∈ u_ws RX11 TX11 16, w ∈ w_X11_lawOf := fun _ h => List.mem_cons_of_mem _ (List.mem_append_right _ (List.mem_append_left _ h))
theorem gg_X11_lawOf_X11_isLaw : GoodIn w_X11_lawOf w_X11_isLaw := goodIn_sub (fun _ h => List.mem_cons_of_mem _ (List.mem_append_right _ (List.mem_append_right _ (List.mem_append_left _ h)))) (by decide +kernel)
theorem g_X11_lawOf_X11_isLaw_202 : GoodIn w_X11_lawOf (wsV RX11 202 RX11 yX11_isLaw w_X11_isLaw) := goodIn_app (goodIn_of _ (by decide +kernel)) gg_X11_lawOf_X11_isLaw
set_option maxHeartbeats 4000000 in
set_option maxRecDepth 100000 in
theorem c_X11_lawOf (l : Launch) (E : py_E) (G : wf_G) (L : List Nat) (f : py_F) (sz : Nat) (x : Nat) (a : Int32) (hG : GT G) (hWF : WF E G L f) (Tx : G.1 x = 12) (hq0 : LO f (G.2 x 3) (hy_n f x)) : Met l yX11_lawOf w_X11_lawOf ({ frames := 1, cells := 0, slots := 0, locals := 21 }) (py_Pc E [.ref x, .int a] L f sz) (py_Qr E L f sz (fun r L1 f1 => (G.1 r = 4) ∧ L = L1 ∧ f = f1)) 0 0 (va_A (va_pl L f) sz) := by
  refine Met.ofW (cc := cX11_lawOf) (maxL := 2) (ret := (some (.object "HeadYear$Law"))) (by decide) rfl ?_
  intro p e s m args below meth c s₁ B hml hv
  obtain ⟨rfl, rfl, hw⟩ := py_start hv
  have G0 : CallFix p m c cX11_lawOf 2 s _ w_X11_lawOf RX11 := ⟨B.exec, B.bytes, hml, findClass_of_methodNamed B.named, atoms_spec (ws := w_X11_lawOf) B.pre⟩
  have hr := B.returns
  have hlk := B.notSynchronized
  have kcm1 : (-1 : Int32).toInt = -1 := rfl
  have kc0 : (0 : Int32).toInt = 0 := rfl
  have kc1 : (1 : Int32).toInt = 1 := rfl
  have hl := lv_entry ([.ref x, .int a]) (n := 2) (Nat.le_of_ble_eq_true rfl)
  rw [lg_entry_eq]
  generalize (lg_sl ([.ref x, .int a]) ++ List.replicate (2 - (lg_sl ([.ref x, .int a])).length) Slot.unset).toArray = ls at hl ⊢
  have hl : lv_has ls 2 [(0, .ref x), (1, .int a)] := hl
  have hRP : RP E G f f := RP.refl
  have hLO := hq0
  refine lv_aload_n G0.1 G0.2.1 dX11_lawOf_0 rfl (lv_at hl 0 rfl) ?_
  refine lv_iload_n G0.1 G0.2.1 dX11_lawOf_1 rfl (lv_at hl 1 rfl) ?_
  obtain ⟨t_1, t_2, t_3, t_4, t_5, t_6, t_7, t_8, t_9, t_10, t_11, t_12, t_13, tx_14, tx_15, tx_16, tx_17⟩ := wt_11 hG Tx
  obtain ⟨v_18, v_19, v_20, hr_24, b_21, b_22, b_23⟩ := wg_11 hWF Tx
  refine py_calli hw (va_runV (As := [.int a]) (rest := []) G0 (c_X11_isLaw l E G L f s.heap.size x a hG hWF Tx) (cwV 1 G0.2.2.2.2 g_X11_lawOf_X11_isLaw_202 rfl rfl rfl (by decide +kernel) ⟨(Nat.le_of_ble_eq_true rfl), (Nat.le_of_ble_eq_true rfl)⟩) (py_preV hw (C := RX11) (T := TX11) (N := 16) rfl hr_24) rfl rfl hl.1 rfl (lv_room (Nat.le_of_ble_eq_true rfl)) dX11_lawOf_2 ⟨(Nat.le_of_ble_eq_true rfl), (Nat.le_of_ble_eq_true rfl)⟩) (fun r_29 L_25 f_26 H_27 locs hp_28 hw => ?_)
  obtain ⟨b_31, en_30, rfl, rfl⟩ := hp_28
  have jn_21 : ∀ (v_32 : Nat) (H_j21 : Heap) (locs : List Loc) (ls : Array Slot), G.1 v_32 = 4 → py_W E (va_A (va_pl L f) s.heap.size) s L f H_j21 locs → lv_has ls 2 [(0, .ref x), (1, .int a)] → W p l e (headSpec w_X11_lawOf ({ frames := 1, cells := 0, slots := 0, locals := 21 })).room s m ([.ref x, .int a] : List Value).toArray below meth c H_j21 locs 0 0 (MQ below (py_Qr E L f s.heap.size (fun r L1 f1 => (G.1 r = 4) ∧ L = L1 ∧ f = f1)) ([.ref x, .int a] : List Value).toArray s 0 0 (va_A (va_pl L f) s.heap.size)) (F0 m 21 ls [.ref v_32]) := by
    intro v_32 H_j21 locs ls tyv_32 hw hl
    exact py_rret G0 hr (Or.inl ⟨_, rfl⟩) hlk hw ⟨tyv_32, rfl, rfl⟩ dX11_lawOf_21
  refine lv_if_eq (tgt := 17) G0.1 G0.2.1 dX11_lawOf_5 (by decide) (fun c_33 => ?_) (fun c_33 => ?_)
  · skip
    have tc_33 := ti_eq c_33
    refine lv_aload_n G0.1 G0.2.1 dX11_lawOf_17 rfl (lv_at hl 0 rfl) ?_
    refine py_get (C := RX11) (T := TX11) (N := 16) (k := 4) (v := .ref (G.2 x 4)) G0 hw in_X11_lawOf_X11 rfl hr_24 (by decide) (by decide +kernel) rfl dX11_lawOf_18 ?_
    exact jn_21 (G.2 x 4) _ _ ls t_5 hw (lv_sub hl [0, 1] rfl)
  · skip
    have tc_33 := ti_ne c_33
    refine lv_aload_n G0.1 G0.2.1 dX11_lawOf_8 rfl (lv_at hl 0 rfl) ?_
    refine py_get (C := RX11) (T := TX11) (N := 16) (k := 3) (v := .ref (G.2 x 3)) G0 hw in_X11_lawOf_X11 rfl hr_24 (by decide) (by decide +kernel) rfl dX11_lawOf_9 ?_
    refine lv_iload_n G0.1 G0.2.1 dX11_lawOf_12 rfl (lv_at hl 1 rfl) ?_
    obtain ⟨g_34, ha_35, hc_36⟩ := wf_l22 hWF t_4
    have rg_39 : vp_in a 4 := ti_in (by omega) (by omega)
    obtain ⟨z_37, ez_38⟩ := Option.ne_none_iff_exists'.mp (hLO _ g_34 ha_35.2 a.toNatClampNeg (by have hz := (st_nat rg_39).1; omega))
    refine py_aaldS G0 hw ha_35 rg_39 ez_38 dX11_lawOf_13 ?_
    refine lv_goto (tgt := 21) G0.1 G0.2.1 dX11_lawOf_14 (by decide) ?_
    exact jn_21 z_37 _ _ ls (hc_36 _ _ ez_38) hw (lv_sub hl [0, 1] rfl)

def w_X11_feed : List Cond := .code yX11_feed cX11_feed 7 (some .int) :: ([Cond.methodLink RX11 105 yX8_bytesOf, Cond.static yX8_bytesOf, Cond.initialized RX8, Cond.fieldLink RX11 10 "HeadYear" "tape" "LHeadYear$Tape;", Cond.fieldLink RX11 109 "HeadYear$Tape" "length" "I", Cond.methodLink RX11 112 yX8_append, Cond.instanceMethod yX8_append, Cond.selects RX8 yX8_append yX8_append] ++ (u_ws RX11 TX11 16 ++ (u_ws RX8 TX8 4 ++ (w_X8_bytesOf ++ (w_X8_append ++ ([]))))))
theorem in_X11_feed_X11 : ∀ w ∈ u_ws RX11 TX11 16, w ∈ w_X11_feed := fun _ h => List.mem_cons_of_mem _ (List.mem_append_right _ (List.mem_append_left _ h))
theorem in_X11_feed_X8 : ∀ w ∈ u_ws RX8 TX8 4, w ∈ w_X11_feed := fun _ h => List.mem_cons_of_mem _ (List.mem_append_right _ (List.mem_append_right _ (List.mem_append_left _ h)))
theorem gg_X11_feed_X8_bytesOf : GoodIn w_X11_feed w_X8_bytesOf := goodIn_sub (fun _ h => List.mem_cons_of_mem _ (List.mem_append_right _ (List.mem_append_right _ (List.mem_append_right _ (List.mem_append_left _ h))))) (by decide +kernel)
theorem gg_X11_feed_X8_append : GoodIn w_X11_feed w_X8_append := goodIn_sub (fun _ h => List.mem_cons_of_mem _ (List.mem_append_right _ (List.mem_append_right _ (List.mem_append_right _ (List.mem_append_right _ (List.mem_append_left _ h)))))) (by decide +kernel)
theorem g_X11_feed_X8_append_112 : GoodIn w_X11_feed (wsV RX11 112 RX8 yX8_append w_X8_append) := goodIn_app (goodIn_of _ (by decide +kernel)) gg_X11_feed_X8_append
theorem g_X11_feed_X8_bytesOf_105 : GoodIn w_X11_feed (va_wsS RX11 105 yX8_bytesOf w_X8_bytesOf) := goodIn_app (goodIn_of _ (by decide +kernel)) gg_X11_feed_X8_bytesOf
set_option maxHeartbeats 4000000 in
set_option maxRecDepth 100000 in
theorem c_X11_feed (l : Launch) (E : py_E) (G : wf_G) (L : List Nat) (f : py_F) (sz : Nat) (x : Nat) (a : Int32) (b : Int32) (q : Int32) (d : Int32) (v : Int32) (hG : GT G) (hWF : WF E G L f) (Tx : G.1 x = 12) (hq0 : GI E G f x) : Met l yX11_feed w_X11_feed ({ frames := 1, cells := 0, slots := 0, locals := 23 }) (py_Pc E [.ref x, .int a, .int b, .int q, .int d, .int v] L f sz) (py_Qi E L f sz (fun _ L1 f1 => WF E G L1 f1 ∧ KP G [9, 20] false f f1 ∧ GI E G f1 x)) 0 0 (va_A (va_pl L f) sz) := by
  refine Met.ofW (cc := cX11_feed) (maxL := 7) (ret := (some .int)) (by decide) rfl ?_
  intro p e s m args below meth c s₁ B hml hv
  obtain ⟨rfl, rfl, hw⟩ := py_start hv
  have G0 : CallFix p m c cX11_feed 7 s _ w_X11_feed RX11 := ⟨B.exec, B.bytes, hml, findClass_of_methodNamed B.named, atoms_spec (ws := w_X11_feed) B.pre⟩
  have hr := B.returns
  have hlk := B.notSynchronized
  have kcm1 : (-1 : Int32).toInt = -1 := rfl
  have kc0 : (0 : Int32).toInt = 0 := rfl
  have kc1 : (1 : Int32).toInt = 1 := rfl
  have kc160 : (160 : Int32).toInt = 160 := rfl
  have hGI := hq0
  have hKP : KP G [9, 20] false f f := KP.refl
  obtain ⟨t_1, t_2, t_3, t_4, t_5, t_6, t_7, t_8, t_9, t_10, t_11, t_12, t_13, tx_14, tx_15, tx_16, tx_17⟩ := wt_11 hG Tx
  refine lv_iload_n G0.1 G0.2.1 dX11_feed_0 rfl (lv_at hl 1 rfl) ?_
  refine py_calli hw (va_runS (As := [.int a]) (rest := []) G0 (c_X8_bytesOf l E G L f s.heap.size a hG hWF) (va_cwS 1 G0.2.2.2.2 g_X11_feed_X8_bytesOf_105 rfl rfl rfl (by decide +kernel) ⟨(Nat.le_of_ble_eq_true rfl), (Nat.le_of_ble_eq_true rfl)⟩) (py_preS hw) rfl rfl hl.1 rfl (lv_room (Nat.le_of_ble_eq_true rfl)) dX11_feed_1 ⟨(Nat.le_of_ble_eq_true rfl), (Nat.le_of_ble_eq_true rfl)⟩) (fun r_22 L_18 f_19 H_20 locs hp_21 hw => ?_)
  obtain ⟨rfl, rfl⟩ := hp_21
  have br_22 := wf_free r_22
  refine lv_iload_n G0.1 G0.2.1 dX11_feed_4 rfl (lv_at hl 2 rfl) ?_
  refine py_calli hw (va_runS (As := [.int b]) (rest := [.int r_22]) G0 (c_X8_bytesOf l E G L f H_20.size b hG hWF) (va_cwS 1 G0.2.2.2.2 g_X11_feed_X8_bytesOf_105 rfl rfl rfl (by decide +kernel) ⟨(Nat.le_of_ble_eq_true rfl), (Nat.le_of_ble_eq_true rfl)⟩) (py_preS hw) rfl rfl hl.1 rfl (lv_room (Nat.le_of_ble_eq_true rfl)) dX11_feed_5 ⟨(Nat.le_of_ble_eq_true rfl), (Nat.le_of_ble_eq_true rfl)⟩) (fun r_27 L_23 f_24 H_25 locs hp_26 hw => ?_)
  obtain ⟨rfl, rfl⟩ := hp_26
  have br_27 := wf_free r_27
  refine lv_iadd G0.1 G0.2.1 dX11_feed_8 ?_
  refine lv_topi (fun x_28 ex_28 => ?_)
  first | have tx_28 := ti_add ex_28 (by omega) (by omega) | skip
  refine lv_iload_n G0.1 G0.2.1 dX11_feed_9 rfl (lv_at hl 3 rfl) ?_
  refine py_calli hw (va_runS (As := [.int q]) (rest := [.int x_28]) G0 (c_X8_bytesOf l E G L f H_25.size q hG hWF) (va_cwS 1 G0.2.2.2.2 g_X11_feed_X8_bytesOf_105 rfl rfl rfl (by decide +kernel) ⟨(Nat.le_of_ble_eq_true rfl), (Nat.le_of_ble_eq_true rfl)⟩) (py_preS hw) rfl rfl hl.1 rfl (lv_room (Nat.le_of_ble_eq_true rfl)) dX11_feed_10 ⟨(Nat.le_of_ble_eq_true rfl), (Nat.le_of_ble_eq_true rfl)⟩) (fun r_33 L_29 f_30 H_31 locs hp_32 hw => ?_)
  obtain ⟨rfl, rfl⟩ := hp_32
  have br_33 := wf_free r_33
  refine lv_iadd G0.1 G0.2.1 dX11_feed_13 ?_
  refine lv_topi (fun x_34 ex_34 => ?_)
  first | have tx_34 := ti_add ex_34 (by omega) (by omega) | skip
  refine lv_iload G0.1 G0.2.1 dX11_feed_14 (lv_at hl 4 rfl) ?_
  refine py_calli hw (va_runS (As := [.int d]) (rest := [.int x_34]) G0 (c_X8_bytesOf l E G L f H_31.size d hG hWF) (va_cwS 1 G0.2.2.2.2 g_X11_feed_X8_bytesOf_105 rfl rfl rfl (by decide +kernel) ⟨(Nat.le_of_ble_eq_true rfl), (Nat.le_of_ble_eq_true rfl)⟩) (py_preS hw) rfl rfl hl.1 rfl (lv_room (Nat.le_of_ble_eq_true rfl)) dX11_feed_16 ⟨(Nat.le_of_ble_eq_true rfl), (Nat.le_of_ble_eq_true rfl)⟩) (fun r_39 L_35 f_36 H_37 locs hp_38 hw => ?_)
  obtain ⟨rfl, rfl⟩ := hp_38
  have br_39 := wf_free r_39
  refine lv_iadd G0.1 G0.2.1 dX11_feed_19 ?_
  refine lv_topi (fun x_40 ex_40 => ?_)
  first | have tx_40 := ti_add ex_40 (by omega) (by omega) | skip
  refine lv_iload G0.1 G0.2.1 dX11_feed_20 (lv_at hl 5 rfl) ?_
  refine py_calli hw (va_runS (As := [.int v]) (rest := [.int x_40]) G0 (c_X8_bytesOf l E G L f H_37.size v hG hWF) (va_cwS 1 G0.2.2.2.2 g_X11_feed_X8_bytesOf_105 rfl rfl rfl (by decide +kernel) ⟨(Nat.le_of_ble_eq_true rfl), (Nat.le_of_ble_eq_true rfl)⟩) (py_preS hw) rfl rfl hl.1 rfl (lv_room (Nat.le_of_ble_eq_true rfl)) dX11_feed_22 ⟨(Nat.le_of_ble_eq_true rfl), (Nat.le_of_ble_eq_true rfl)⟩) (fun r_45 L_41 f_42 H_43 locs hp_44 hw => ?_)
  obtain ⟨rfl, rfl⟩ := hp_44
  have br_45 := wf_free r_45
  refine lv_iadd G0.1 G0.2.1 dX11_feed_25 ?_
  refine lv_topi (fun x_46 ex_46 => ?_)
  first | have tx_46 := ti_add ex_46 (by omega) (by omega) | skip
  refine lv_istore (lv' := [(6, .int x_46), (0, .ref x), (1, .int a), (2, .int b), (3, .int q), (4, .int d), (5, .int v)]) G0.1 G0.2.1 dX11_feed_26 hl (by decide) rfl (fun ls hl => ?_)
  refine lv_aload_n G0.1 G0.2.1 dX11_feed_28 rfl (lv_at hl 1 rfl) ?_
  obtain ⟨v_47, v_48, v_49, hr_53, b_50, b_51, b_52⟩ := wg_11 hWF Tx
  refine py_get (C := RX11) (T := TX11) (N := 16) (k := 0) (v := .ref (G.2 x 0)) G0 hw in_X11_feed_X11 rfl hr_53 (by decide) (by decide +kernel) rfl dX11_feed_29 ?_
  have t_54 := wt_8 hG t_1
  obtain ⟨v_55, v_56, v_57, hr_60, b_58, b_59⟩ := wg_8 hWF t_1
  have bv_57 := wf_free v_57
  have tq_61 := tp_eq hr_60
  refine py_get (C := RX8) (T := TX8) (N := 4) (k := 1) (v := .int v_55) G0 hw in_X11_feed_X8 rfl hr_60 (by decide) (by decide +kernel) rfl dX11_feed_32 ?_
  refine lv_iload G0.1 G0.2.1 dX11_feed_35 (lv_at hl 0 rfl) ?_
  refine lv_iadd G0.1 G0.2.1 dX11_feed_37 ?_
  refine lv_topi (fun x_62 ex_62 => ?_)
  first | have tx_62 := ti_add ex_62 (by omega) (by omega) | skip
  refine lv_sipush (v := 160) G0.1 G0.2.1 dX11_feed_38 (by decide) ?_
  refine lv_icmp_le (tgt := 46) G0.1 G0.2.1 dX11_feed_41 (by decide) (fun c_63 => ?_) (fun c_63 => ?_)
  · skip
    have tc_63 := ti_le c_63
    refine lv_aload_n G0.1 G0.2.1 dX11_feed_46 rfl (lv_at hl 1 rfl) ?_
    refine py_get (C := RX11) (T := TX11) (N := 16) (k := 0) (v := .ref (G.2 x 0)) G0 hw in_X11_feed_X11 rfl hr_53 (by decide) (by decide +kernel) rfl dX11_feed_47 ?_
    refine lv_iload_n G0.1 G0.2.1 dX11_feed_50 rfl (lv_at hl 2 rfl) ?_
    refine py_callv hw (va_runV (As := [.int a]) (rest := []) G0 (c_X8_append l E G L f H_43.size (G.2 x 0) a hG hWF t_1) (cwV 1 G0.2.2.2.2 g_X11_feed_X8_append_112 rfl rfl rfl (by decide +kernel) ⟨(Nat.le_of_ble_eq_true rfl), (Nat.le_of_ble_eq_true rfl)⟩) (py_preV hw (C := RX8) (T := TX8) (N := 4) rfl hr_60) rfl rfl hl.1 rfl (lv_room (Nat.le_of_ble_eq_true rfl)) dX11_feed_51 ⟨(Nat.le_of_ble_eq_true rfl), (Nat.le_of_ble_eq_true rfl)⟩) (fun L_64 f_65 H_66 locs hp_67 hw => ?_)
    have ht_71 := fo_ty hWF t_6
    obtain ⟨hWF, hq_69, kp_70⟩ := hp_67
    have hGI := hGI.kp hG Tx ht_71 hq_69 kp_70 (by decide)
    have hKP := hKP.trans kp_70 (by decide) (by decide)
    have hr_53 := kp_at kp_70 hWF Tx (by decide) (by decide) (by decide) hr_53
    refine lv_aload_n G0.1 G0.2.1 dX11_feed_54 rfl (lv_at hl 1 rfl) ?_
    refine py_get (C := RX11) (T := TX11) (N := 16) (k := 0) (v := .ref (G.2 x 0)) G0 hw in_X11_feed_X11 rfl hr_53 (by decide) (by decide +kernel) rfl dX11_feed_55 ?_
    refine lv_iload_n G0.1 G0.2.1 dX11_feed_58 rfl (lv_at hl 3 rfl) ?_
    obtain ⟨v_72, v_73, v_74, hr_77, b_75, b_76⟩ := wg_8 hWF t_1
    have bv_74 := wf_free v_74
    have tq_78 := tp_eq hr_77
    refine py_callv hw (va_runV (As := [.int b]) (rest := []) G0 (c_X8_append l E G L_64 f_65 H_66.size (G.2 x 0) b hG hWF t_1) (cwV 1 G0.2.2.2.2 g_X11_feed_X8_append_112 rfl rfl rfl (by decide +kernel) ⟨(Nat.le_of_ble_eq_true rfl), (Nat.le_of_ble_eq_true rfl)⟩) (py_preV hw (C := RX8) (T := TX8) (N := 4) rfl hr_77) rfl rfl hl.1 rfl (lv_room (Nat.le_of_ble_eq_true rfl)) dX11_feed_59 ⟨(Nat.le_of_ble_eq_true rfl), (Nat.le_of_ble_eq_true rfl)⟩) (fun L_79 f_80 H_81 locs hp_82 hw => ?_)
    have ht_86 := fo_ty hWF t_6
    obtain ⟨hWF, hq_84, kp_85⟩ := hp_82
    have hGI := hGI.kp hG Tx ht_86 hq_84 kp_85 (by decide)
    have hKP := hKP.trans kp_85 (by decide) (by decide)
    have hr_53 := kp_at kp_85 hWF Tx (by decide) (by decide) (by decide) hr_53
    refine lv_aload_n G0.1 G0.2.1 dX11_feed_62 rfl (lv_at hl 1 rfl) ?_
    refine py_get (C := RX11) (T := TX11) (N := 16) (k := 0) (v := .ref (G.2 x 0)) G0 hw in_X11_feed_X11 rfl hr_53 (by decide) (by decide +kernel) rfl dX11_feed_63 ?_
    refine lv_iload_n G0.1 G0.2.1 dX11_feed_66 rfl (lv_at hl 4 rfl) ?_
    obtain ⟨v_87, v_88, v_89, hr_92, b_90, b_91⟩ := wg_8 hWF t_1
    have bv_89 := wf_free v_89
    have tq_93 := tp_eq hr_92
    refine py_callv hw (va_runV (As := [.int q]) (rest := []) G0 (c_X8_append l E G L_79 f_80 H_81.size (G.2 x 0) q hG hWF t_1) (cwV 1 G0.2.2.2.2 g_X11_feed_X8_append_112 rfl rfl rfl (by decide +kernel) ⟨(Nat.le_of_ble_eq_true rfl), (Nat.le_of_ble_eq_true rfl)⟩) (py_preV hw (C := RX8) (T := TX8) (N := 4) rfl hr_92) rfl rfl hl.1 rfl (lv_room (Nat.le_of_ble_eq_true rfl)) dX11_feed_67 ⟨(Nat.le_of_ble_eq_true rfl), (Nat.le_of_ble_eq_true rfl)⟩) (fun L_94 f_95 H_96 locs hp_97 hw => ?_)
    have ht_101 := fo_ty hWF t_6
    obtain ⟨hWF, hq_99, kp_100⟩ := hp_97
    have hGI := hGI.kp hG Tx ht_101 hq_99 kp_100 (by decide)
    have hKP := hKP.trans kp_100 (by decide) (by decide)
    have hr_53 := kp_at kp_100 hWF Tx (by decide) (by decide) (by decide) hr_53
    refine lv_aload_n G0.1 G0.2.1 dX11_feed_70 rfl (lv_at hl 1 rfl) ?_
    refine py_get (C := RX11) (T := TX11) (N := 16) (k := 0) (v := .ref (G.2 x 0)) G0 hw in_X11_feed_X11 rfl hr_53 (by decide) (by decide +kernel) rfl dX11_feed_71 ?_
    refine lv_iload G0.1 G0.2.1 dX11_feed_74 (lv_at hl 5 rfl) ?_
    obtain ⟨v_102, v_103, v_104, hr_107, b_105, b_106⟩ := wg_8 hWF t_1
    have bv_104 := wf_free v_104
    have tq_108 := tp_eq hr_107
    refine py_callv hw (va_runV (As := [.int d]) (rest := []) G0 (c_X8_append l E G L_94 f_95 H_96.size (G.2 x 0) d hG hWF t_1) (cwV 1 G0.2.2.2.2 g_X11_feed_X8_append_112 rfl rfl rfl (by decide +kernel) ⟨(Nat.le_of_ble_eq_true rfl), (Nat.le_of_ble_eq_true rfl)⟩) (py_preV hw (C := RX8) (T := TX8) (N := 4) rfl hr_107) rfl rfl hl.1 rfl (lv_room (Nat.le_of_ble_eq_true rfl)) dX11_feed_76 ⟨(Nat.le_of_ble_eq_true rfl), (Nat.le_of_ble_eq_true rfl)⟩) (fun L_109 f_110 H_111 locs hp_112 hw => ?_)
    have ht_116 := fo_ty hWF t_6
    obtain ⟨hWF, hq_114, kp_115⟩ := hp_112
    have hGI := hGI.kp hG Tx ht_116 hq_114 kp_115 (by decide)
    have hKP := hKP.trans kp_115 (by decide) (by decide)
    have hr_53 := kp_at kp_115 hWF Tx (by decide) (by decide) (by decide) hr_53
    refine lv_aload_n G0.1 G0.2.1 dX11_feed_79 rfl (lv_at hl 1 rfl) ?_
    refine py_get (C := RX11) (T := TX11) (N := 16) (k := 0) (v := .ref (G.2 x 0)) G0 hw in_X11_feed_X11 rfl hr_53 (by decide) (by decide +kernel) rfl dX11_feed_80 ?_
    refine lv_iload G0.1 G0.2.1 dX11_feed_83 (lv_at hl 6 rfl) ?_
    obtain ⟨v_117, v_118, v_119, hr_122, b_120, b_121⟩ := wg_8 hWF t_1
    have bv_119 := wf_free v_119
    have tq_123 := tp_eq hr_122
    refine py_callv hw (va_runV (As := [.int v]) (rest := []) G0 (c_X8_append l E G L_109 f_110 H_111.size (G.2 x 0) v hG hWF t_1) (cwV 1 G0.2.2.2.2 g_X11_feed_X8_append_112 rfl rfl rfl (by decide +kernel) ⟨(Nat.le_of_ble_eq_true rfl), (Nat.le_of_ble_eq_true rfl)⟩) (py_preV hw (C := RX8) (T := TX8) (N := 4) rfl hr_122) rfl rfl hl.1 rfl (lv_room (Nat.le_of_ble_eq_true rfl)) dX11_feed_85 ⟨(Nat.le_of_ble_eq_true rfl), (Nat.le_of_ble_eq_true rfl)⟩) (fun L_124 f_125 H_126 locs hp_127 hw => ?_)
    have ht_131 := fo_ty hWF t_6
    obtain ⟨hWF, hq_129, kp_130⟩ := hp_127
    have hGI := hGI.kp hG Tx ht_131 hq_129 kp_130 (by decide)
    have hKP := hKP.trans kp_130 (by decide) (by decide)
    have hr_53 := kp_at kp_130 hWF Tx (by decide) (by decide) (by decide) hr_53
    refine lv_aload_n G0.1 G0.2.1 dX11_feed_88 rfl (lv_at hl 1 rfl) ?_
    refine py_get (C := RX11) (T := TX11) (N := 16) (k := 0) (v := .ref (G.2 x 0)) G0 hw in_X11_feed_X11 rfl hr_53 (by decide) (by decide +kernel) rfl dX11_feed_89 ?_
    obtain ⟨v_132, v_133, v_134, hr_137, b_135, b_136⟩ := wg_8 hWF t_1
    have bv_134 := wf_free v_134
    have tq_138 := tp_eq hr_137
    refine py_get (C := RX8) (T := TX8) (N := 4) (k := 1) (v := .int v_132) G0 hw in_X11_feed_X8 rfl hr_137 (by decide) (by decide +kernel) rfl dX11_feed_92 ?_
    exact py_iret G0 hr rfl hlk hw ⟨hWF, hKP, hGI⟩ dX11_feed_95
  · skip
    have tc_63 := ti_nle c_63
    refine lv_iconst (v := (-1)) G0.1 G0.2.1 dX11_feed_44 (by decide) ?_
    exact py_iret G0 hr rfl hlk hw ⟨hWF, hKP, hGI⟩ dX11_feed_45

def w_X11_end : List Cond := .code yX11_end cX11_end 2 (some .boolean) :: ([Cond.fieldLink RX11 10 "HeadYear" "tape" "LHeadYear$Tape;", Cond.fieldLink RX11 109 "HeadYear$Tape" "length" "I"] ++ (u_ws RX11 TX11 16 ++ (u_ws RX8 TX8 4 ++ ([]))))
theorem in_X11_end_X11 : ∀ w ∈ u_ws RX11 TX11 16, w ∈ w_X11_end := fun _ h => List.mem_cons_of_mem _ (List.mem_append_right _ (List.mem_append_left _ h))
theorem in_X11_end_X8 : ∀ w ∈ u_ws RX8 TX8 4, w ∈ w_X11_end := fun _ h => List.mem_cons_of_mem _ (List.mem_append_right _ (List.mem_append_right _ (List.mem_append_left _ h)))
set_option maxHeartbeats 4000000 in
set_option maxRecDepth 100000 in
theorem c_X11_end (l : Launch) (E : py_E) (G : wf_G) (L : List Nat) (f : py_F) (sz : Nat) (x : Nat) (a : Int32) (hG : GT G) (hWF : WF E G L f) (Tx : G.1 x = 12) (hq0 : GI E G f x) : Met l yX11_end w_X11_end ({ frames := 0, cells := 0, slots := 0, locals := 0 }) (py_Pc E [.ref x, .int a] L f sz) (py_Qi E L f sz (fun r L1 f1 => (0 ≤ r.toInt ∧ r.toInt ≤ 1) ∧ WF E G L1 f1 ∧ KP G [9] false f f1 ∧ GI E G f1 x)) 0 0 (va_A (va_pl L f) sz) := by
  refine Met.ofW (cc := cX11_end) (maxL := 2) (ret := (some .boolean)) (by decide) rfl ?_
  intro p e s m args below meth c s₁ B hml hv
  obtain ⟨rfl, rfl, hw⟩ := py_start hv
  have G0 : CallFix p m c cX11_end 2 s _ w_X11_end RX11 := ⟨B.exec, B.bytes, hml, findClass_of_methodNamed B.named, atoms_spec (ws := w_X11_end) B.pre⟩
  have hr := B.returns
  have hlk := B.notSynchronized
  have kcm1 : (-1 : Int32).toInt = -1 := rfl
  have kc0 : (0 : Int32).toInt = 0 := rfl
  have kc1 : (1 : Int32).toInt = 1 := rfl
  have hGI := hq0
  have hKP : KP G [9] false f f := KP.refl
  obtain ⟨t_1, t_2, t_3, t_4, t_5, t_6, t_7, t_8, t_9, t_10, t_11, t_12, t_13, tx_14, tx_15, tx_16, tx_17⟩ := wt_11 hG Tx
  refine lv_iload_n G0.1 G0.2.1 dX11_end_0 rfl (lv_at hl 1 rfl) ?_
  refine lv_if_lt (tgt := 15) G0.1 G0.2.1 dX11_end_1 (by decide) (fun c_18 => ?_) (fun c_18 => ?_)
  · skip
    have tc_18 := ti_lt c_18
    refine lv_iconst (v := 0) G0.1 G0.2.1 dX11_end_15 (by decide) ?_
    exact py_iret G0 hr rfl hlk hw ⟨⟨by omega, by omega⟩, hWF, hKP, hGI⟩ dX11_end_16
  · skip
    have tc_18 := ti_nlt c_18
    refine lv_iload_n G0.1 G0.2.1 dX11_end_4 rfl (lv_at hl 1 rfl) ?_
    refine lv_aload_n G0.1 G0.2.1 dX11_end_5 rfl (lv_at hl 0 rfl) ?_
    obtain ⟨v_19, v_20, v_21, hr_25, b_22, b_23, b_24⟩ := wg_11 hWF Tx
    refine py_get (C := RX11) (T := TX11) (N := 16) (k := 0) (v := .ref (G.2 x 0)) G0 hw in_X11_end_X11 rfl hr_25 (by decide) (by decide +kernel) rfl dX11_end_6 ?_
    have t_26 := wt_8 hG t_1
    obtain ⟨v_27, v_28, v_29, hr_32, b_30, b_31⟩ := wg_8 hWF t_1
    have bv_29 := wf_free v_29
    have tq_33 := tp_eq hr_32
    refine py_get (C := RX8) (T := TX8) (N := 4) (k := 1) (v := .int v_27) G0 hw in_X11_end_X8 rfl hr_32 (by decide) (by decide +kernel) rfl dX11_end_9 ?_
    refine lv_icmp_le (tgt := 17) G0.1 G0.2.1 dX11_end_12 (by decide) (fun c_34 => ?_) (fun c_34 => ?_)
    · skip
      have tc_34 := ti_le c_34
      refine lv_aload_n G0.1 G0.2.1 dX11_end_17 rfl (lv_at hl 0 rfl) ?_
      refine py_get (C := RX11) (T := TX11) (N := 16) (k := 0) (v := .ref (G.2 x 0)) G0 hw in_X11_end_X11 rfl hr_25 (by decide) (by decide +kernel) rfl dX11_end_18 ?_
      refine lv_iload_n G0.1 G0.2.1 dX11_end_21 rfl (lv_at hl 1 rfl) ?_
      refine py_put (C := RX8) (T := TX8) (N := 4) (k := 1) (v := .int a) (fs' := [.ref (G.2 (G.2 x 0) 0), .int a, .int v_28, .int v_29]) (ty0 := tyX8) G0 hw tyX8_ok nmX8 in_X11_end_X8 rfl hr_32 (by decide) (by decide +kernel) rfl rfl rfl rfl (Nat.le_of_ble_eq_true rfl) rfl dX11_end_22 (fun f_35 H_36 locs h_37 x_38 hw => ?_)
      have hGI := hGI.kp hG Tx (fo_ty hWF t_6) (rp_upd hG hWF x_38 hr_32.2 h_37.2 (rp_code hG t_1 (by decide)) rfl : RP E G f f_35) (KP.refl.upd hWF x_38 t_1 (Or.inl (by decide)) : KP G [9] false f f_35) (by decide)
      have hKP := hKP.upd hWF x_38 t_1 (Or.inl (by decide))
      have hWF := wf_upd hWF h_37 x_38 (by rw [t_1]; exact ⟨a, v_28, v_29, rfl, ⟨by omega, by omega⟩, ⟨by omega, by omega⟩⟩)
      have tq_39 := tp_eq h_37
      have hr_25 := hr_25.ext x_38 (py_ne_kind hr_25 hr_32 (by decide))
      refine lv_iconst (v := 1) G0.1 G0.2.1 dX11_end_25 (by decide) ?_
      exact py_iret G0 hr rfl hlk hw ⟨⟨by omega, by omega⟩, hWF, hKP, hGI⟩ dX11_end_26
    · skip
      have tc_34 := ti_nle c_34
      refine lv_iconst (v := 0) G0.1 G0.2.1 dX11_end_15 (by decide) ?_
      exact py_iret G0 hr rfl hlk hw ⟨⟨by omega, by omega⟩, hWF, hKP, hGI⟩ dX11_end_16

def w_X11_fault : List Cond := .code yX11_fault cX11_fault 2 (some .int) :: ([Cond.fieldLink RX11 26 "HeadYear" "lawReader" "LHeadYear$LawReader;", Cond.fieldLink RX11 10 "HeadYear" "tape" "LHeadYear$Tape;", Cond.methodLink RX11 120 yX4_faultOf, Cond.instanceMethod yX4_faultOf, Cond.selects RX4 yX4_faultOf yX4_faultOf, Cond.initialized RX4, Cond.fieldLink RX11 19 "HeadYear" "valleyReader" "LHeadYear$ValleyReader;", Cond.methodLink RX11 116 yX10_faultOf, Cond.instanceMethod yX10_faultOf, Cond.selects RX10 yX10_faultOf yX10_faultOf, Cond.initialized RX10] ++ (u_ws RX11 TX11 16 ++ (w_X4_faultOf ++ (w_X10_faultOf ++ ([])))))
theorem in_X11_fault_X11 : ∀ w ∈ u_ws RX11 TX11 16, w ∈ w_X11_fault := fun _ h => List.mem_cons_of_mem _ (List.mem_append_right _ (List.mem_append_left _ h))
theorem gg_X11_fault_X4_faultOf : GoodIn w_X11_fault w_X4_faultOf := goodIn_sub (fun _ h => List.mem_cons_of_mem _ (List.mem_append_right _ (List.mem_append_right _ (List.mem_append_left _ h)))) (by decide +kernel)
theorem gg_X11_fault_X10_faultOf : GoodIn w_X11_fault w_X10_faultOf := goodIn_sub (fun _ h => List.mem_cons_of_mem _ (List.mem_append_right _ (List.mem_append_right _ (List.mem_append_right _ (List.mem_append_left _ h))))) (by decide +kernel)
theorem g_X11_fault_X10_faultOf_116 : GoodIn w_X11_fault (wsV RX11 116 RX10 yX10_faultOf w_X10_faultOf) := goodIn_app (goodIn_of _ (by decide +kernel)) gg_X11_fault_X10_faultOf
theorem g_X11_fault_X4_faultOf_120 : GoodIn w_X11_fault (wsV RX11 120 RX4 yX4_faultOf w_X4_faultOf) := goodIn_app (goodIn_of _ (by decide +kernel)) gg_X11_fault_X4_faultOf
set_option maxHeartbeats 4000000 in
set_option maxRecDepth 100000 in
theorem c_X11_fault (l : Launch) (E : py_E) (G : wf_G) (L : List Nat) (f : py_F) (sz : Nat) (x : Nat) (a : Int32) (hG : GT G) (hWF : WF E G L f) (Tx : G.1 x = 12) (hq0 : GI E G f x) : Met l yX11_fault w_X11_fault ({ frames := 62, cells := 0, slots := 0, locals := 3315 }) (py_Pc E [.ref x, .int a] L f sz) (py_Qi E L f sz (fun _ L1 f1 => WF E G L1 f1 ∧ KP G [9, 36, 10, 24, 27, 25, 26, 4, 20] false f f1 ∧ GI E G f1 x)) 0 0 (va_A (va_pl L f) sz) := by
  refine Met.ofW (cc := cX11_fault) (maxL := 2) (ret := (some .int)) (by decide) rfl ?_
  intro p e s m args below meth c s₁ B hml hv
  obtain ⟨rfl, rfl, hw⟩ := py_start hv
  have G0 : CallFix p m c cX11_fault 2 s _ w_X11_fault RX11 := ⟨B.exec, B.bytes, hml, findClass_of_methodNamed B.named, atoms_spec (ws := w_X11_fault) B.pre⟩
  have hr := B.returns
  have hlk := B.notSynchronized
  have kcm2 : (-2 : Int32).toInt = -2 := rfl
  have kcm1 : (-1 : Int32).toInt = -1 := rfl
  have kc0 : (0 : Int32).toInt = 0 := rfl
  have kc1 : (1 : Int32).toInt = 1 := rfl
  have hGI := hq0
  have hKP : KP G [9, 36, 10, 24, 27, 25, 26, 4, 20] false f f := KP.refl
  obtain ⟨t_1, t_2, t_3, t_4, t_5, t_6, t_7, t_8, t_9, t_10, t_11, t_12, t_13, tx_14, tx_15, tx_16, tx_17⟩ := wt_11 hG Tx
  refine lv_iload_n G0.1 G0.2.1 dX11_fault_0 rfl (lv_at hl 1 rfl) ?_
  refine lv_if_ne (tgt := 16) G0.1 G0.2.1 dX11_fault_1 (by decide) (fun c_18 => ?_) (fun c_18 => ?_)
  · skip
    have tc_18 := ti_ne c_18
    refine lv_iload_n G0.1 G0.2.1 dX11_fault_16 rfl (lv_at hl 1 rfl) ?_
    refine lv_iconst (v := 1) G0.1 G0.2.1 dX11_fault_17 (by decide) ?_
    have jn_37 : ∀ (v_19 : Int32) (L_j37 : List Nat) (f_j37 : py_F) (H_j37 : Heap) (locs : List Loc) (ls : Array Slot), WF E G L_j37 f_j37 → KP G [9, 36, 10, 24, 27, 25, 26, 4, 20] false f f_j37 → GI E G f_j37 x → py_W E (va_A (va_pl L f) s.heap.size) s L_j37 f_j37 H_j37 locs → lv_has ls 2 [(0, .ref x), (1, .int a)] → W p l e (headSpec w_X11_fault ({ frames := 62, cells := 0, slots := 0, locals := 3315 })).room s m ([.ref x, .int a] : List Value).toArray below meth c H_j37 locs 0 0 (MQ below (py_Qi E L f s.heap.size (fun _ L1 f1 => WF E G L1 f1 ∧ KP G [9, 36, 10, 24, 27, 25, 26, 4, 20] false f f1 ∧ GI E G f1 x)) ([.ref x, .int a] : List Value).toArray s 0 0 (va_A (va_pl L f) s.heap.size)) (F0 m 37 ls [.int v_19]) := by
      intro v_19 L_j37 f_j37 H_j37 locs ls hWF hKP hGI hw hl
      exact py_iret G0 hr rfl hlk hw ⟨hWF, hKP, hGI⟩ dX11_fault_37
    refine lv_icmp_ne (tgt := 35) G0.1 G0.2.1 dX11_fault_18 (by decide) (fun c_20 => ?_) (fun c_20 => ?_)
    · skip
      have tc_20 := ti_ne c_20
      refine lv_bipush (v := (-2)) G0.1 G0.2.1 dX11_fault_35 (by decide) ?_
      exact jn_37 (-2) L f _ _ ls hWF hKP hGI hw (lv_sub hl [0, 1] rfl)
    · skip
      have tc_20 := ti_eq c_20
      refine lv_aload_n G0.1 G0.2.1 dX11_fault_21 rfl (lv_at hl 0 rfl) ?_
      obtain ⟨v_21, v_22, v_23, hr_27, b_24, b_25, b_26⟩ := wg_11 hWF Tx
      refine py_get (C := RX11) (T := TX11) (N := 16) (k := 2) (v := .ref (G.2 x 2)) G0 hw in_X11_fault_X11 rfl hr_27 (by decide) (by decide +kernel) rfl dX11_fault_22 ?_
      refine lv_aload_n G0.1 G0.2.1 dX11_fault_25 rfl (lv_at hl 0 rfl) ?_
      refine py_get (C := RX11) (T := TX11) (N := 16) (k := 0) (v := .ref (G.2 x 0)) G0 hw in_X11_fault_X11 rfl hr_27 (by decide) (by decide +kernel) rfl dX11_fault_26 ?_
      obtain ⟨r_28, hr_30, ty_29⟩ := wg_4 hWF t_3
      refine py_calli hw (va_runV (As := [.ref (G.2 x 0)]) (rest := []) G0 (c_X4_faultOf l E G L f s.heap.size (G.2 x 2) (G.2 x 0) hG hWF t_3 t_1) (cwV 1 G0.2.2.2.2 g_X11_fault_X4_faultOf_120 rfl rfl rfl (by decide +kernel) ⟨(Nat.le_of_ble_eq_true rfl), (Nat.le_of_ble_eq_true rfl)⟩) (py_preV hw (C := RX4) (T := TX4) (N := 1) rfl hr_30) rfl rfl hl.1 rfl (lv_room (Nat.le_of_ble_eq_true rfl)) dX11_fault_29 ⟨(Nat.le_of_ble_eq_true rfl), (Nat.le_of_ble_eq_true rfl)⟩) (fun r_35 L_31 f_32 H_33 locs hp_34 hw => ?_)
      have ht_39 := fo_ty hWF t_6
      obtain ⟨b_36, hWF, hq_37, kp_38⟩ := hp_34
      have hGI := hGI.kp hG Tx ht_39 hq_37 kp_38 (by decide)
      have hKP := hKP.trans kp_38 (by decide) (by decide)
      have hr_27 := kp_at kp_38 hWF Tx (by decide) (by decide) (by decide) hr_27
      have hr_30 := kp_at kp_38 hWF t_3 (by decide) (by decide) (by decide) hr_30
      refine lv_goto (tgt := 37) G0.1 G0.2.1 dX11_fault_32 (by decide) ?_
      exact jn_37 r_35 L_31 f_32 _ _ ls hWF hKP hGI hw (lv_sub hl [0, 1] rfl)
  · skip
    have tc_18 := ti_eq c_18
    refine lv_aload_n G0.1 G0.2.1 dX11_fault_4 rfl (lv_at hl 0 rfl) ?_
    obtain ⟨v_40, v_41, v_42, hr_46, b_43, b_44, b_45⟩ := wg_11 hWF Tx
    refine py_get (C := RX11) (T := TX11) (N := 16) (k := 1) (v := .ref (G.2 x 1)) G0 hw in_X11_fault_X11 rfl hr_46 (by decide) (by decide +kernel) rfl dX11_fault_5 ?_
    refine lv_aload_n G0.1 G0.2.1 dX11_fault_8 rfl (lv_at hl 0 rfl) ?_
    refine py_get (C := RX11) (T := TX11) (N := 16) (k := 0) (v := .ref (G.2 x 0)) G0 hw in_X11_fault_X11 rfl hr_46 (by decide) (by decide +kernel) rfl dX11_fault_9 ?_
    have t_47 := wt_10 hG t_2
    obtain ⟨r_48, hr_50, ty_49⟩ := wg_10 hWF t_2
    have tq_51 := rd_eq hr_50
    refine py_calli hw (va_runV (As := [.ref (G.2 x 0)]) (rest := []) G0 (c_X10_faultOf l E G L f s.heap.size (G.2 x 1) (G.2 x 0) hG hWF t_2 t_1) (cwV 1 G0.2.2.2.2 g_X11_fault_X10_faultOf_116 rfl rfl rfl (by decide +kernel) ⟨(Nat.le_of_ble_eq_true rfl), (Nat.le_of_ble_eq_true rfl)⟩) (py_preV hw (C := RX10) (T := TX10) (N := 2) rfl hr_50) rfl rfl hl.1 rfl (lv_room (Nat.le_of_ble_eq_true rfl)) dX11_fault_12 ⟨(Nat.le_of_ble_eq_true rfl), (Nat.le_of_ble_eq_true rfl)⟩) (fun r_56 L_52 f_53 H_54 locs hp_55 hw => ?_)
    have ht_62 := fo_ty hWF t_6
    obtain ⟨b_58, en_57, hWF, hq_59, kp_60, vo_61⟩ := hp_55
    have hGI := hGI.vo hG Tx ht_62 hq_59 kp_60 vo_61 (by decide)
    have hKP := hKP.trans kp_60 (by decide) (by decide)
    have hr_46 := kp_at kp_60 hWF Tx (by decide) (by decide) (by decide) hr_46
    have hr_50 := kp_at kp_60 hWF t_2 (by decide) (by decide) (by decide) hr_50
    have tq_63 := rd_eq hr_50
    exact py_iret G0 hr rfl hlk hw ⟨hWF, hKP, hGI⟩ dX11_fault_15

def w_X11_family : List Cond := .code yX11_family cX11_family 3 (some .int) :: ([Cond.methodLink RX11 163 yX11_isFamily, Cond.instanceMethod yX11_isFamily, Cond.selects RX11 yX11_isFamily yX11_isFamily, Cond.initialized RX11, Cond.fieldLink RX11 47 "HeadYear" "folk" "LHeadYear$Folk;", Cond.fieldLink RX11 167 "HeadYear$Folk" "heads" "[I", Cond.fieldLink RX11 170 "HeadYear$Folk" "level" "[I", Cond.fieldLink RX11 173 "HeadYear$Folk" "hut" "[I", Cond.fieldLink RX11 176 "HeadYear$Folk" "debt" "[I", Cond.methodLink RX11 179 yX2_want, Cond.instanceMethod yX2_want, Cond.selects RX2 yX2_want yX2_want, Cond.initialized RX2, Cond.fieldLink RX11 182 "HeadYear$Folk" "born" "[I", Cond.fieldLink RX11 185 "HeadYear$Folk" "dead" "[I", Cond.fieldLink RX11 188 "HeadYear$Folk" "bought" "[I", Cond.fieldLink RX11 191 "HeadYear$Folk" "hushed" "[Z", Cond.fieldLink RX11 195 "HeadYear$Folk" "spent" "[I", Cond.constant RX11 166 (-1000000)] ++ (u_ws RX11 TX11 16 ++ (u_ws RX2 TX2 12 ++ (w_X11_isFamily ++ (w_X2_want ++ ([]))))))
theorem in_X11_family_X11 : ∀ w ∈ u_ws RX11 TX11 16, w ∈ w_X11_family := fun _ h => List.mem_cons_of_mem _ (List.mem_append_right _ (List.mem_append_left _ h))
theorem in_X11_family_X2 : ∀ w ∈ u_ws RX2 TX2 12, w ∈ w_X11_family := fun _ h => List.mem_cons_of_mem _ (List.mem_append_right _ (List.mem_append_right _ (List.mem_append_left _ h)))
theorem gg_X11_family_X11_isFamily : GoodIn w_X11_family w_X11_isFamily := goodIn_sub (fun _ h => List.mem_cons_of_mem _ (List.mem_append_right _ (List.mem_append_right _ (List.mem_append_right _ (List.mem_append_left _ h))))) (by decide +kernel)
theorem gg_X11_family_X2_want : GoodIn w_X11_family w_X2_want := goodIn_sub (fun _ h => List.mem_cons_of_mem _ (List.mem_append_right _ (List.mem_append_right _ (List.mem_append_right _ (List.mem_append_right _ (List.mem_append_left _ h)))))) (by decide +kernel)
theorem g_X11_family_X11_isFamily_163 : GoodIn w_X11_family (wsV RX11 163 RX11 yX11_isFamily w_X11_isFamily) := goodIn_app (goodIn_of _ (by decide +kernel)) gg_X11_family_X11_isFamily
theorem g_X11_family_X2_want_179 : GoodIn w_X11_family (wsV RX11 179 RX2 yX2_want w_X2_want) := goodIn_app (goodIn_of _ (by decide +kernel)) gg_X11_family_X2_want
theorem sw_X11_family_12 (x : Int32) : x = 0 ∨ x = 1 ∨ x = 2 ∨ x = 3 ∨ x = 4 ∨ x = 5 ∨ x = 6 ∨ x = 7 ∨ x = 8 ∨ x = 9 ∨ (x.toInt < 0 ∨ 9 < x.toInt) := by
  by_cases h0 : x = 0
  · exact Or.inl h0
  by_cases h1 : x = 1
  · exact Or.inr (Or.inl h1)
  by_cases h2 : x = 2
  · exact Or.inr (Or.inr (Or.inl h2))
  by_cases h3 : x = 3
  · exact Or.inr (Or.inr (Or.inr (Or.inl h3)))
  by_cases h4 : x = 4
  · exact Or.inr (Or.inr (Or.inr (Or.inr (Or.inl h4))))
  by_cases h5 : x = 5
  · exact Or.inr (Or.inr (Or.inr (Or.inr (Or.inr (Or.inl h5)))))
  by_cases h6 : x = 6
  · exact Or.inr (Or.inr (Or.inr (Or.inr (Or.inr (Or.inr (Or.inl h6))))))
  by_cases h7 : x = 7
  · exact Or.inr (Or.inr (Or.inr (Or.inr (Or.inr (Or.inr (Or.inr (Or.inl h7)))))))
  by_cases h8 : x = 8
  · exact Or.inr (Or.inr (Or.inr (Or.inr (Or.inr (Or.inr (Or.inr (Or.inr (Or.inl h8))))))))
  by_cases h9 : x = 9
  · exact Or.inr (Or.inr (Or.inr (Or.inr (Or.inr (Or.inr (Or.inr (Or.inr (Or.inr (Or.inl h9)))))))))
  have t0 := ti_ne h0
  have k0 : (0 : Int32).toInt = 0 := rfl
  have t1 := ti_ne h1
  have k1 : (1 : Int32).toInt = 1 := rfl
  have t2 := ti_ne h2
  have k2 : (2 : Int32).toInt = 2 := rfl
  have t3 := ti_ne h3
  have k3 : (3 : Int32).toInt = 3 := rfl
  have t4 := ti_ne h4
  have k4 : (4 : Int32).toInt = 4 := rfl
  have t5 := ti_ne h5
  have k5 : (5 : Int32).toInt = 5 := rfl
  have t6 := ti_ne h6
  have k6 : (6 : Int32).toInt = 6 := rfl
  have t7 := ti_ne h7
  have k7 : (7 : Int32).toInt = 7 := rfl
  have t8 := ti_ne h8
  have k8 : (8 : Int32).toInt = 8 := rfl
  have t9 := ti_ne h9
  have k9 : (9 : Int32).toInt = 9 := rfl
  exact Or.inr (Or.inr (Or.inr (Or.inr (Or.inr (Or.inr (Or.inr (Or.inr (Or.inr (Or.inr ((by omega)))))))))))
set_option maxHeartbeats 4000000 in
set_option maxRecDepth 100000 in
theorem c_X11_family (l : Launch) (E : py_E) (G : wf_G) (L : List Nat) (f : py_F) (sz : Nat) (x : Nat) (a : Int32) (b : Int32) (hG : GT G) (hWF : WF E G L f) (Tx : G.1 x = 12) : Met l yX11_family w_X11_family ({ frames := 2, cells := 0, slots := 0, locals := 46 }) (py_Pc E [.ref x, .int a, .int b] L f sz) (py_Qi E L f sz (fun _ L1 f1 => L = L1 ∧ f = f1)) 0 0 (va_A (va_pl L f) sz) := by
  refine Met.ofW (cc := cX11_family) (maxL := 3) (ret := (some .int)) (by decide) rfl ?_
  intro p e s m args below meth c s₁ B hml hv
  obtain ⟨rfl, rfl, hw⟩ := py_start hv
  have G0 : CallFix p m c cX11_family 3 s _ w_X11_family RX11 := ⟨B.exec, B.bytes, hml, findClass_of_methodNamed B.named, atoms_spec (ws := w_X11_family) B.pre⟩
  have hr := B.returns
  have hlk := B.notSynchronized
  have kcm1000000 : (-1000000 : Int32).toInt = -1000000 := rfl
  have kcm1 : (-1 : Int32).toInt = -1 := rfl
  have kc0 : (0 : Int32).toInt = 0 := rfl
  have kc1 : (1 : Int32).toInt = 1 := rfl
  have kc2 : (2 : Int32).toInt = 2 := rfl
  have kc3 : (3 : Int32).toInt = 3 := rfl
  have kc4 : (4 : Int32).toInt = 4 := rfl
  have kc5 : (5 : Int32).toInt = 5 := rfl
  have kc6 : (6 : Int32).toInt = 6 := rfl
  have kc7 : (7 : Int32).toInt = 7 := rfl
  have kc8 : (8 : Int32).toInt = 8 := rfl
  have kc9 : (9 : Int32).toInt = 9 := rfl
  have hl := lv_entry ([.ref x, .int a, .int b]) (n := 3) (Nat.le_of_ble_eq_true rfl)
  rw [lg_entry_eq]
  generalize (lg_sl ([.ref x, .int a, .int b]) ++ List.replicate (3 - (lg_sl ([.ref x, .int a, .int b])).length) Slot.unset).toArray = ls at hl ⊢
  have hl : lv_has ls 3 [(0, .ref x), (1, .int a), (2, .int b)] := hl
  have hRP : RP E G f f := RP.refl
  refine lv_aload_n G0.1 G0.2.1 dX11_family_0 rfl (lv_at hl 0 rfl) ?_
  refine lv_iload_n G0.1 G0.2.1 dX11_family_1 rfl (lv_at hl 1 rfl) ?_
  obtain ⟨t_1, t_2, t_3, t_4, t_5, t_6, t_7, t_8, t_9, t_10, t_11, t_12, t_13, tx_14, tx_15, tx_16, tx_17⟩ := wt_11 hG Tx
  obtain ⟨v_18, v_19, v_20, hr_24, b_21, b_22, b_23⟩ := wg_11 hWF Tx
  refine py_calli hw (va_runV (As := [.int a]) (rest := []) G0 (c_X11_isFamily l E G L f s.heap.size x a hG hWF Tx) (cwV 1 G0.2.2.2.2 g_X11_family_X11_isFamily_163 rfl rfl rfl (by decide +kernel) ⟨(Nat.le_of_ble_eq_true rfl), (Nat.le_of_ble_eq_true rfl)⟩) (py_preV hw (C := RX11) (T := TX11) (N := 16) rfl hr_24) rfl rfl hl.1 rfl (lv_room (Nat.le_of_ble_eq_true rfl)) dX11_family_2 ⟨(Nat.le_of_ble_eq_true rfl), (Nat.le_of_ble_eq_true rfl)⟩) (fun r_29 L_25 f_26 H_27 locs hp_28 hw => ?_)
  obtain ⟨b_31, en_30, rfl, rfl⟩ := hp_28
  refine lv_if_ne (tgt := 11) G0.1 G0.2.1 dX11_family_5 (by decide) (fun c_32 => ?_) (fun c_32 => ?_)
  · skip
    have tc_32 := ti_ne c_32
    refine lv_iload_n G0.1 G0.2.1 dX11_family_11 rfl (lv_at hl 2 rfl) ?_
    rcases sw_X11_family_12 b with e_sw | e_sw | e_sw | e_sw | e_sw | e_sw | e_sw | e_sw | e_sw | e_sw | e_sw
    · skip
      have te := ti_eq e_sw
      refine lv_tableIn (off := 56) (tgt := 68) G0.1 G0.2.1 dX11_family_12 (by omega) (by omega) (by rw [e_sw]; decide) (by decide) ?_
      refine lv_aload_n G0.1 G0.2.1 dX11_family_68 rfl (lv_at hl 0 rfl) ?_
      refine py_get (C := RX11) (T := TX11) (N := 16) (k := 5) (v := .ref (G.2 x 5)) G0 hw in_X11_family_X11 rfl hr_24 (by decide) (by decide +kernel) rfl dX11_family_69 ?_
      obtain ⟨t_33, t_34, t_35, t_36, t_37, t_38, t_39, t_40, t_41⟩ := wt_2 hG t_6
      obtain ⟨r_42, y_43, v_44, hr_47, ty_45, b_46⟩ := wg_2 hWF t_6
      refine py_get (C := RX2) (T := TX2) (N := 12) (k := 0) (v := .ref (G.2 (G.2 x 5) 0)) G0 hw in_X11_family_X2 rfl hr_47 (by decide) (by decide +kernel) rfl dX11_family_72 ?_
      refine lv_iload_n G0.1 G0.2.1 dX11_family_75 rfl (lv_at hl 1 rfl) ?_
      obtain ⟨g_48, ha_49, hi_50⟩ := wf_arr (n := 10) (lo := 0) (hi := 20) hWF t_33 (by omega) (wf_own0 E G _ (G.2 x 5))
      have rg_51 : vp_in a 10 := ti_in (by omega) (by omega)
      refine py_iald G0 hw ha_49 rg_51 dX11_family_76 ?_
      refine lv_topi (fun x_52 ex_52 => ?_)
      have bx_52 := ti_at hi_50 rg_51 ex_52
      exact py_iret G0 hr rfl hlk hw ⟨rfl, rfl⟩ dX11_family_77
    · skip
      have te := ti_eq e_sw
      refine lv_tableIn (off := 66) (tgt := 78) G0.1 G0.2.1 dX11_family_12 (by omega) (by omega) (by rw [e_sw]; decide) (by decide) ?_
      refine lv_aload_n G0.1 G0.2.1 dX11_family_78 rfl (lv_at hl 0 rfl) ?_
      refine py_get (C := RX11) (T := TX11) (N := 16) (k := 5) (v := .ref (G.2 x 5)) G0 hw in_X11_family_X11 rfl hr_24 (by decide) (by decide +kernel) rfl dX11_family_79 ?_
      obtain ⟨t_53, t_54, t_55, t_56, t_57, t_58, t_59, t_60, t_61⟩ := wt_2 hG t_6
      obtain ⟨r_62, y_63, v_64, hr_67, ty_65, b_66⟩ := wg_2 hWF t_6
      refine py_get (C := RX2) (T := TX2) (N := 12) (k := 1) (v := .ref (G.2 (G.2 x 5) 1)) G0 hw in_X11_family_X2 rfl hr_67 (by decide) (by decide +kernel) rfl dX11_family_82 ?_
      refine lv_iload_n G0.1 G0.2.1 dX11_family_85 rfl (lv_at hl 1 rfl) ?_
      obtain ⟨g_68, ha_69, hi_70⟩ := wf_arr (n := 10) (lo := (-1)) (hi := 7) hWF t_54 (by omega) (wf_own1 E G _ (G.2 x 5))
      have rg_71 : vp_in a 10 := ti_in (by omega) (by omega)
      refine py_iald G0 hw ha_69 rg_71 dX11_family_86 ?_
      refine lv_topi (fun x_72 ex_72 => ?_)
      have bx_72 := ti_at hi_70 rg_71 ex_72
      exact py_iret G0 hr rfl hlk hw ⟨rfl, rfl⟩ dX11_family_87
    · skip
      have te := ti_eq e_sw
      refine lv_tableIn (off := 76) (tgt := 88) G0.1 G0.2.1 dX11_family_12 (by omega) (by omega) (by rw [e_sw]; decide) (by decide) ?_
      refine lv_aload_n G0.1 G0.2.1 dX11_family_88 rfl (lv_at hl 0 rfl) ?_
      refine py_get (C := RX11) (T := TX11) (N := 16) (k := 5) (v := .ref (G.2 x 5)) G0 hw in_X11_family_X11 rfl hr_24 (by decide) (by decide +kernel) rfl dX11_family_89 ?_
      obtain ⟨t_73, t_74, t_75, t_76, t_77, t_78, t_79, t_80, t_81⟩ := wt_2 hG t_6
      obtain ⟨r_82, y_83, v_84, hr_87, ty_85, b_86⟩ := wg_2 hWF t_6
      refine py_get (C := RX2) (T := TX2) (N := 12) (k := 2) (v := .ref (G.2 (G.2 x 5) 2)) G0 hw in_X11_family_X2 rfl hr_87 (by decide) (by decide +kernel) rfl dX11_family_92 ?_
      refine lv_iload_n G0.1 G0.2.1 dX11_family_95 rfl (lv_at hl 1 rfl) ?_
      obtain ⟨g_88, ha_89, hi_90⟩ := wf_arr (n := 10) (lo := (-2147483648)) (hi := 2147483647) hWF t_75 (by decide) (fun _ => rfl)
      have rg_91 : vp_in a 10 := ti_in (by omega) (by omega)
      refine py_iald G0 hw ha_89 rg_91 dX11_family_96 ?_
      refine lv_topi (fun x_92 ex_92 => ?_)
      have bx_92 := wf_free x_92
      exact py_iret G0 hr rfl hlk hw ⟨rfl, rfl⟩ dX11_family_97
    · skip
      have te := ti_eq e_sw
      refine lv_tableIn (off := 86) (tgt := 98) G0.1 G0.2.1 dX11_family_12 (by omega) (by omega) (by rw [e_sw]; decide) (by decide) ?_
      refine lv_aload_n G0.1 G0.2.1 dX11_family_98 rfl (lv_at hl 0 rfl) ?_
      refine py_get (C := RX11) (T := TX11) (N := 16) (k := 5) (v := .ref (G.2 x 5)) G0 hw in_X11_family_X11 rfl hr_24 (by decide) (by decide +kernel) rfl dX11_family_99 ?_
      obtain ⟨t_93, t_94, t_95, t_96, t_97, t_98, t_99, t_100, t_101⟩ := wt_2 hG t_6
      obtain ⟨r_102, y_103, v_104, hr_107, ty_105, b_106⟩ := wg_2 hWF t_6
      refine py_get (C := RX2) (T := TX2) (N := 12) (k := 3) (v := .ref (G.2 (G.2 x 5) 3)) G0 hw in_X11_family_X2 rfl hr_107 (by decide) (by decide +kernel) rfl dX11_family_102 ?_
      refine lv_iload_n G0.1 G0.2.1 dX11_family_105 rfl (lv_at hl 1 rfl) ?_
      obtain ⟨g_108, ha_109, hi_110⟩ := wf_arr (n := 10) (lo := (-2147483648)) (hi := 2147483647) hWF t_96 (by decide) (fun _ => rfl)
      have rg_111 : vp_in a 10 := ti_in (by omega) (by omega)
      refine py_iald G0 hw ha_109 rg_111 dX11_family_106 ?_
      refine lv_topi (fun x_112 ex_112 => ?_)
      have bx_112 := wf_free x_112
      exact py_iret G0 hr rfl hlk hw ⟨rfl, rfl⟩ dX11_family_107
    · skip
      have te := ti_eq e_sw
      refine lv_tableIn (off := 96) (tgt := 108) G0.1 G0.2.1 dX11_family_12 (by omega) (by omega) (by rw [e_sw]; decide) (by decide) ?_
      refine lv_aload_n G0.1 G0.2.1 dX11_family_108 rfl (lv_at hl 0 rfl) ?_
      refine py_get (C := RX11) (T := TX11) (N := 16) (k := 5) (v := .ref (G.2 x 5)) G0 hw in_X11_family_X11 rfl hr_24 (by decide) (by decide +kernel) rfl dX11_family_109 ?_
      refine lv_iload_n G0.1 G0.2.1 dX11_family_112 rfl (lv_at hl 1 rfl) ?_
      obtain ⟨t_113, t_114, t_115, t_116, t_117, t_118, t_119, t_120, t_121⟩ := wt_2 hG t_6
      obtain ⟨r_122, y_123, v_124, hr_127, ty_125, b_126⟩ := wg_2 hWF t_6
      refine py_calli hw (va_runV (As := [.int a]) (rest := []) G0 (c_X2_want l E G L f H_27.size (G.2 x 5) a hG hWF t_6 ⟨by omega, by omega⟩) (cwV 1 G0.2.2.2.2 g_X11_family_X2_want_179 rfl rfl rfl (by decide +kernel) ⟨(Nat.le_of_ble_eq_true rfl), (Nat.le_of_ble_eq_true rfl)⟩) (py_preV hw (C := RX2) (T := TX2) (N := 12) rfl hr_127) rfl rfl hl.1 rfl (lv_room (Nat.le_of_ble_eq_true rfl)) dX11_family_113 ⟨(Nat.le_of_ble_eq_true rfl), (Nat.le_of_ble_eq_true rfl)⟩) (fun r_132 L_128 f_129 H_130 locs hp_131 hw => ?_)
      obtain ⟨b_134, en_133, rfl, rfl⟩ := hp_131
      exact py_iret G0 hr rfl hlk hw ⟨rfl, rfl⟩ dX11_family_116
    · skip
      have te := ti_eq e_sw
      refine lv_tableIn (off := 105) (tgt := 117) G0.1 G0.2.1 dX11_family_12 (by omega) (by omega) (by rw [e_sw]; decide) (by decide) ?_
      refine lv_aload_n G0.1 G0.2.1 dX11_family_117 rfl (lv_at hl 0 rfl) ?_
      refine py_get (C := RX11) (T := TX11) (N := 16) (k := 5) (v := .ref (G.2 x 5)) G0 hw in_X11_family_X11 rfl hr_24 (by decide) (by decide +kernel) rfl dX11_family_118 ?_
      obtain ⟨t_135, t_136, t_137, t_138, t_139, t_140, t_141, t_142, t_143⟩ := wt_2 hG t_6
      obtain ⟨r_144, y_145, v_146, hr_149, ty_147, b_148⟩ := wg_2 hWF t_6
      refine py_get (C := RX2) (T := TX2) (N := 12) (k := 4) (v := .ref (G.2 (G.2 x 5) 4)) G0 hw in_X11_family_X2 rfl hr_149 (by decide) (by decide +kernel) rfl dX11_family_121 ?_
      refine lv_iload_n G0.1 G0.2.1 dX11_family_124 rfl (lv_at hl 1 rfl) ?_
      obtain ⟨g_150, ha_151, hi_152⟩ := wf_arr (n := 10) (lo := (-2147483648)) (hi := 2147483647) hWF t_139 (by decide) (fun _ => rfl)
      have rg_153 : vp_in a 10 := ti_in (by omega) (by omega)
      refine py_iald G0 hw ha_151 rg_153 dX11_family_125 ?_
      refine lv_topi (fun x_154 ex_154 => ?_)
      have bx_154 := wf_free x_154
      exact py_iret G0 hr rfl hlk hw ⟨rfl, rfl⟩ dX11_family_126
    · skip
      have te := ti_eq e_sw
      refine lv_tableIn (off := 115) (tgt := 127) G0.1 G0.2.1 dX11_family_12 (by omega) (by omega) (by rw [e_sw]; decide) (by decide) ?_
      refine lv_aload_n G0.1 G0.2.1 dX11_family_127 rfl (lv_at hl 0 rfl) ?_
      refine py_get (C := RX11) (T := TX11) (N := 16) (k := 5) (v := .ref (G.2 x 5)) G0 hw in_X11_family_X11 rfl hr_24 (by decide) (by decide +kernel) rfl dX11_family_128 ?_
      obtain ⟨t_155, t_156, t_157, t_158, t_159, t_160, t_161, t_162, t_163⟩ := wt_2 hG t_6
      obtain ⟨r_164, y_165, v_166, hr_169, ty_167, b_168⟩ := wg_2 hWF t_6
      refine py_get (C := RX2) (T := TX2) (N := 12) (k := 5) (v := .ref (G.2 (G.2 x 5) 5)) G0 hw in_X11_family_X2 rfl hr_169 (by decide) (by decide +kernel) rfl dX11_family_131 ?_
      refine lv_iload_n G0.1 G0.2.1 dX11_family_134 rfl (lv_at hl 1 rfl) ?_
      obtain ⟨g_170, ha_171, hi_172⟩ := wf_arr (n := 10) (lo := (-2147483648)) (hi := 2147483647) hWF t_160 (by decide) (fun _ => rfl)
      have rg_173 : vp_in a 10 := ti_in (by omega) (by omega)
      refine py_iald G0 hw ha_171 rg_173 dX11_family_135 ?_
      refine lv_topi (fun x_174 ex_174 => ?_)
      have bx_174 := wf_free x_174
      exact py_iret G0 hr rfl hlk hw ⟨rfl, rfl⟩ dX11_family_136
    · skip
      have te := ti_eq e_sw
      refine lv_tableIn (off := 125) (tgt := 137) G0.1 G0.2.1 dX11_family_12 (by omega) (by omega) (by rw [e_sw]; decide) (by decide) ?_
      refine lv_aload_n G0.1 G0.2.1 dX11_family_137 rfl (lv_at hl 0 rfl) ?_
      refine py_get (C := RX11) (T := TX11) (N := 16) (k := 5) (v := .ref (G.2 x 5)) G0 hw in_X11_family_X11 rfl hr_24 (by decide) (by decide +kernel) rfl dX11_family_138 ?_
      obtain ⟨t_175, t_176, t_177, t_178, t_179, t_180, t_181, t_182, t_183⟩ := wt_2 hG t_6
      obtain ⟨r_184, y_185, v_186, hr_189, ty_187, b_188⟩ := wg_2 hWF t_6
      refine py_get (C := RX2) (T := TX2) (N := 12) (k := 6) (v := .ref (G.2 (G.2 x 5) 6)) G0 hw in_X11_family_X2 rfl hr_189 (by decide) (by decide +kernel) rfl dX11_family_141 ?_
      refine lv_iload_n G0.1 G0.2.1 dX11_family_144 rfl (lv_at hl 1 rfl) ?_
      obtain ⟨g_190, ha_191, hi_192⟩ := wf_arr (n := 10) (lo := (-2147483648)) (hi := 2147483647) hWF t_181 (by decide) (fun _ => rfl)
      have rg_193 : vp_in a 10 := ti_in (by omega) (by omega)
      refine py_iald G0 hw ha_191 rg_193 dX11_family_145 ?_
      refine lv_topi (fun x_194 ex_194 => ?_)
      have bx_194 := wf_free x_194
      exact py_iret G0 hr rfl hlk hw ⟨rfl, rfl⟩ dX11_family_146
    · skip
      have te := ti_eq e_sw
      refine lv_tableIn (off := 135) (tgt := 147) G0.1 G0.2.1 dX11_family_12 (by omega) (by omega) (by rw [e_sw]; decide) (by decide) ?_
      refine lv_aload_n G0.1 G0.2.1 dX11_family_147 rfl (lv_at hl 0 rfl) ?_
      refine py_get (C := RX11) (T := TX11) (N := 16) (k := 5) (v := .ref (G.2 x 5)) G0 hw in_X11_family_X11 rfl hr_24 (by decide) (by decide +kernel) rfl dX11_family_148 ?_
      obtain ⟨t_195, t_196, t_197, t_198, t_199, t_200, t_201, t_202, t_203⟩ := wt_2 hG t_6
      obtain ⟨r_204, y_205, v_206, hr_209, ty_207, b_208⟩ := wg_2 hWF t_6
      refine py_get (C := RX2) (T := TX2) (N := 12) (k := 8) (v := .ref (G.2 (G.2 x 5) 8)) G0 hw in_X11_family_X2 rfl hr_209 (by decide) (by decide +kernel) rfl dX11_family_151 ?_
      refine lv_iload_n G0.1 G0.2.1 dX11_family_154 rfl (lv_at hl 1 rfl) ?_
      obtain ⟨g_210, ha_211⟩ := wf_z30 hWF t_203
      have rg_212 : vp_in a 10 := ti_in (by omega) (by omega)
      refine py_zald G0 hw ha_211 rg_212 dX11_family_155 ?_
      refine lv_topi (fun x_213 ex_213 => ?_)
      have jn_164 : ∀ (v_214 : Int32) (H_j164 : Heap) (locs : List Loc) (ls : Array Slot), (0 ≤ v_214.toInt ∧ v_214.toInt ≤ 1) → py_W E (va_A (va_pl L f) s.heap.size) s L f H_j164 locs → lv_has ls 3 [(0, .ref x), (1, .int a), (2, .int b)] → W p l e (headSpec w_X11_family ({ frames := 2, cells := 0, slots := 0, locals := 46 })).room s m ([.ref x, .int a, .int b] : List Value).toArray below meth c H_j164 locs 0 0 (MQ below (py_Qi E L f s.heap.size (fun _ L1 f1 => L = L1 ∧ f = f1)) ([.ref x, .int a, .int b] : List Value).toArray s 0 0 (va_A (va_pl L f) s.heap.size)) (F0 m 164 ls [.int v_214]) := by
        intro v_214 H_j164 locs ls bv_214 hw hl
        exact py_iret G0 hr rfl hlk hw ⟨rfl, rfl⟩ dX11_family_164
      refine lv_if_eq (tgt := 163) G0.1 G0.2.1 dX11_family_156 (by decide) (fun c_215 => ?_) (fun c_215 => ?_)
      · skip
        have tc_215 := ti_eq c_215
        refine lv_iconst (v := 0) G0.1 G0.2.1 dX11_family_163 (by decide) ?_
        exact jn_164 0 _ _ ls ⟨by omega, by omega⟩ hw (lv_sub hl [0, 1, 2] rfl)
      · skip
        have tc_215 := ti_ne c_215
        refine lv_iconst (v := 1) G0.1 G0.2.1 dX11_family_159 (by decide) ?_
        refine lv_goto (tgt := 164) G0.1 G0.2.1 dX11_family_160 (by decide) ?_
        exact jn_164 1 _ _ ls ⟨by omega, by omega⟩ hw (lv_sub hl [0, 1, 2] rfl)
    · skip
      have te := ti_eq e_sw
      refine lv_tableIn (off := 153) (tgt := 165) G0.1 G0.2.1 dX11_family_12 (by omega) (by omega) (by rw [e_sw]; decide) (by decide) ?_
      refine lv_aload_n G0.1 G0.2.1 dX11_family_165 rfl (lv_at hl 0 rfl) ?_
      refine py_get (C := RX11) (T := TX11) (N := 16) (k := 5) (v := .ref (G.2 x 5)) G0 hw in_X11_family_X11 rfl hr_24 (by decide) (by decide +kernel) rfl dX11_family_166 ?_
      obtain ⟨t_216, t_217, t_218, t_219, t_220, t_221, t_222, t_223, t_224⟩ := wt_2 hG t_6
      obtain ⟨r_225, y_226, v_227, hr_230, ty_228, b_229⟩ := wg_2 hWF t_6
      refine py_get (C := RX2) (T := TX2) (N := 12) (k := 7) (v := .ref (G.2 (G.2 x 5) 7)) G0 hw in_X11_family_X2 rfl hr_230 (by decide) (by decide +kernel) rfl dX11_family_169 ?_
      refine lv_iload_n G0.1 G0.2.1 dX11_family_172 rfl (lv_at hl 1 rfl) ?_
      obtain ⟨g_231, ha_232, hi_233⟩ := wf_arr (n := 10) (lo := (-2147483648)) (hi := 2147483647) hWF t_223 (by decide) (fun _ => rfl)
      have rg_234 : vp_in a 10 := ti_in (by omega) (by omega)
      refine py_iald G0 hw ha_232 rg_234 dX11_family_173 ?_
      refine lv_topi (fun x_235 ex_235 => ?_)
      have bx_235 := wf_free x_235
      exact py_iret G0 hr rfl hlk hw ⟨rfl, rfl⟩ dX11_family_174
    · skip
      refine lv_tableOut (tgt := 175) G0.1 G0.2.1 dX11_family_12 e_sw (by decide) ?_
      refine lv_ldc (v := (-1000000)) G0.1 G0.2.1 G0.2.2.2.1 (G0.2.2.2.2 (Cond.constant RX11 166 (-1000000)) (by decide +kernel)) dX11_family_175 ?_
      exact py_iret G0 hr rfl hlk hw ⟨rfl, rfl⟩ dX11_family_177
  · skip
    have tc_32 := ti_eq c_32
    refine lv_ldc (v := (-1000000)) G0.1 G0.2.1 G0.2.2.2.1 (G0.2.2.2.2 (Cond.constant RX11 166 (-1000000)) (by decide +kernel)) dX11_family_8 ?_
    exact py_iret G0 hr rfl hlk hw ⟨rfl, rfl⟩ dX11_family_10

def w_X11_hut : List Cond := .code yX11_hut cX11_hut 3 (some .int) :: ([Cond.methodLink RX11 132 yX11_isLevel, Cond.instanceMethod yX11_isLevel, Cond.selects RX11 yX11_isLevel yX11_isLevel, Cond.initialized RX11, Cond.fieldLink RX11 47 "HeadYear" "folk" "LHeadYear$Folk;", Cond.methodLink RX11 198 yX2_dweller, Cond.instanceMethod yX2_dweller, Cond.selects RX2 yX2_dweller yX2_dweller, Cond.initialized RX2] ++ (u_ws RX11 TX11 16 ++ (w_X11_isLevel ++ (w_X2_dweller ++ ([])))))
theorem in_X11_hut_X11 : ∀ w ∈ u_ws RX11 TX11 16, w ∈ w_X11_hut := fun _ h => List.mem_cons_of_mem _ (List.mem_append_right _ (List.mem_append_left _ h))
theorem gg_X11_hut_X11_isLevel : GoodIn w_X11_hut w_X11_isLevel := goodIn_sub (fun _ h => List.mem_cons_of_mem _ (List.mem_append_right _ (List.mem_append_right _ (List.mem_append_left _ h)))) (by decide +kernel)
theorem gg_X11_hut_X2_dweller : GoodIn w_X11_hut w_X2_dweller := goodIn_sub (fun _ h => List.mem_cons_of_mem _ (List.mem_append_right _ (List.mem_append_right _ (List.mem_append_right _ (List.mem_append_left _ h))))) (by decide +kernel)
theorem g_X11_hut_X11_isLevel_132 : GoodIn w_X11_hut (wsV RX11 132 RX11 yX11_isLevel w_X11_isLevel) := goodIn_app (goodIn_of _ (by decide +kernel)) gg_X11_hut_X11_isLevel
theorem g_X11_hut_X2_dweller_198 : GoodIn w_X11_hut (wsV RX11 198 RX2 yX2_dweller w_X2_dweller) := goodIn_app (goodIn_of _ (by decide +kernel)) gg_X11_hut_X2_dweller
set_option maxHeartbeats 4000000 in
set_option maxRecDepth 100000 in
theorem c_X11_hut (l : Launch) (E : py_E) (G : wf_G) (L : List Nat) (f : py_F) (sz : Nat) (x : Nat) (a : Int32) (b : Int32) (hG : GT G) (hWF : WF E G L f) (Tx : G.1 x = 12) : Met l yX11_hut w_X11_hut ({ frames := 1, cells := 0, slots := 0, locals := 23 }) (py_Pc E [.ref x, .int a, .int b] L f sz) (py_Qi E L f sz (fun _ L1 f1 => L = L1 ∧ f = f1)) 0 0 (va_A (va_pl L f) sz) := by
  refine Met.ofW (cc := cX11_hut) (maxL := 3) (ret := (some .int)) (by decide) rfl ?_
  intro p e s m args below meth c s₁ B hml hv
  obtain ⟨rfl, rfl, hw⟩ := py_start hv
  have G0 : CallFix p m c cX11_hut 3 s _ w_X11_hut RX11 := ⟨B.exec, B.bytes, hml, findClass_of_methodNamed B.named, atoms_spec (ws := w_X11_hut) B.pre⟩
  have hr := B.returns
  have hlk := B.notSynchronized
  have kcm1 : (-1 : Int32).toInt = -1 := rfl
  have kc0 : (0 : Int32).toInt = 0 := rfl
  have kc1 : (1 : Int32).toInt = 1 := rfl
  have hl := lv_entry ([.ref x, .int a, .int b]) (n := 3) (Nat.le_of_ble_eq_true rfl)
  rw [lg_entry_eq]
  generalize (lg_sl ([.ref x, .int a, .int b]) ++ List.replicate (3 - (lg_sl ([.ref x, .int a, .int b])).length) Slot.unset).toArray = ls at hl ⊢
  have hl : lv_has ls 3 [(0, .ref x), (1, .int a), (2, .int b)] := hl
  have hRP : RP E G f f := RP.refl
  refine lv_aload_n G0.1 G0.2.1 dX11_hut_0 rfl (lv_at hl 0 rfl) ?_
  refine lv_iload_n G0.1 G0.2.1 dX11_hut_1 rfl (lv_at hl 1 rfl) ?_
  obtain ⟨t_1, t_2, t_3, t_4, t_5, t_6, t_7, t_8, t_9, t_10, t_11, t_12, t_13, tx_14, tx_15, tx_16, tx_17⟩ := wt_11 hG Tx
  obtain ⟨v_18, v_19, v_20, hr_24, b_21, b_22, b_23⟩ := wg_11 hWF Tx
  refine py_calli hw (va_runV (As := [.int a]) (rest := []) G0 (c_X11_isLevel l E G L f s.heap.size x a hG hWF Tx) (cwV 1 G0.2.2.2.2 g_X11_hut_X11_isLevel_132 rfl rfl rfl (by decide +kernel) ⟨(Nat.le_of_ble_eq_true rfl), (Nat.le_of_ble_eq_true rfl)⟩) (py_preV hw (C := RX11) (T := TX11) (N := 16) rfl hr_24) rfl rfl hl.1 rfl (lv_room (Nat.le_of_ble_eq_true rfl)) dX11_hut_2 ⟨(Nat.le_of_ble_eq_true rfl), (Nat.le_of_ble_eq_true rfl)⟩) (fun r_29 L_25 f_26 H_27 locs hp_28 hw => ?_)
  obtain ⟨b_31, en_30, rfl, rfl⟩ := hp_28
  have jn_21 : ∀ (v_32 : Int32) (H_j21 : Heap) (locs : List Loc) (ls : Array Slot), py_W E (va_A (va_pl L f) s.heap.size) s L f H_j21 locs → lv_has ls 3 [(0, .ref x), (1, .int a), (2, .int b)] → W p l e (headSpec w_X11_hut ({ frames := 1, cells := 0, slots := 0, locals := 23 })).room s m ([.ref x, .int a, .int b] : List Value).toArray below meth c H_j21 locs 0 0 (MQ below (py_Qi E L f s.heap.size (fun _ L1 f1 => L = L1 ∧ f = f1)) ([.ref x, .int a, .int b] : List Value).toArray s 0 0 (va_A (va_pl L f) s.heap.size)) (F0 m 21 ls [.int v_32]) := by
    intro v_32 H_j21 locs ls hw hl
    exact py_iret G0 hr rfl hlk hw ⟨rfl, rfl⟩ dX11_hut_21
  refine lv_if_eq (tgt := 20) G0.1 G0.2.1 dX11_hut_5 (by decide) (fun c_33 => ?_) (fun c_33 => ?_)
  · skip
    have tc_33 := ti_eq c_33
    refine lv_iconst (v := (-1)) G0.1 G0.2.1 dX11_hut_20 (by decide) ?_
    exact jn_21 (-1) _ _ ls hw (lv_sub hl [0, 1, 2] rfl)
  · skip
    have tc_33 := ti_ne c_33
    refine lv_aload_n G0.1 G0.2.1 dX11_hut_8 rfl (lv_at hl 0 rfl) ?_
    refine py_get (C := RX11) (T := TX11) (N := 16) (k := 5) (v := .ref (G.2 x 5)) G0 hw in_X11_hut_X11 rfl hr_24 (by decide) (by decide +kernel) rfl dX11_hut_9 ?_
    refine lv_iload_n G0.1 G0.2.1 dX11_hut_12 rfl (lv_at hl 1 rfl) ?_
    refine lv_iload_n G0.1 G0.2.1 dX11_hut_13 rfl (lv_at hl 2 rfl) ?_
    obtain ⟨t_34, t_35, t_36, t_37, t_38, t_39, t_40, t_41, t_42⟩ := wt_2 hG t_6
    obtain ⟨r_43, y_44, v_45, hr_48, ty_46, b_47⟩ := wg_2 hWF t_6
    refine py_calli hw (va_runV (As := [.int a, .int b]) (rest := []) G0 (c_X2_dweller l E G L f H_27.size (G.2 x 5) a b hG hWF t_6) (cwV 2 G0.2.2.2.2 g_X11_hut_X2_dweller_198 rfl rfl rfl (by decide +kernel) ⟨(Nat.le_of_ble_eq_true rfl), (Nat.le_of_ble_eq_true rfl)⟩) (py_preV hw (C := RX2) (T := TX2) (N := 12) rfl hr_48) rfl rfl hl.1 rfl (lv_room (Nat.le_of_ble_eq_true rfl)) dX11_hut_14 ⟨(Nat.le_of_ble_eq_true rfl), (Nat.le_of_ble_eq_true rfl)⟩) (fun r_53 L_49 f_50 H_51 locs hp_52 hw => ?_)
    obtain ⟨rfl, rfl⟩ := hp_52
    have br_53 := wf_free r_53
    refine lv_goto (tgt := 21) G0.1 G0.2.1 dX11_hut_17 (by decide) ?_
    exact jn_21 r_53 _ _ ls hw (lv_sub hl [0, 1, 2] rfl)

def w_X11_law : List Cond := .code yX11_law cX11_law 2 (some .boolean) :: ([Cond.fieldLink RX11 98 "HeadYear" "heldLaw" "I", Cond.methodLink RX11 202 yX11_isLaw, Cond.instanceMethod yX11_isLaw, Cond.selects RX11 yX11_isLaw yX11_isLaw, Cond.initialized RX11] ++ (u_ws RX11 TX11 16 ++ (w_X11_isLaw ++ ([]))))
theorem in_X11_law_X11 : ∀ w ∈ u_ws RX11 TX11 16, w ∈ w_X11_law := fun _ h => List.mem_cons_of_mem _ (List.mem_append_right _ (List.mem_append_left _ h))
theorem gg_X11_law_X11_isLaw : GoodIn w_X11_law w_X11_isLaw := goodIn_sub (fun _ h => List.mem_cons_of_mem _ (List.mem_append_right _ (List.mem_append_right _ (List.mem_append_left _ h)))) (by decide +kernel)
theorem g_X11_law_X11_isLaw_202 : GoodIn w_X11_law (wsV RX11 202 RX11 yX11_isLaw w_X11_isLaw) := goodIn_app (goodIn_of _ (by decide +kernel)) gg_X11_law_X11_isLaw
set_option maxHeartbeats 4000000 in
set_option maxRecDepth 100000 in
theorem c_X11_law (l : Launch) (E : py_E) (G : wf_G) (L : List Nat) (f : py_F) (sz : Nat) (x : Nat) (a : Int32) (hG : GT G) (hWF : WF E G L f) (Tx : G.1 x = 12) (hq0 : GI E G f x) : Met l yX11_law w_X11_law ({ frames := 1, cells := 0, slots := 0, locals := 21 }) (py_Pc E [.ref x, .int a] L f sz) (py_Qi E L f sz (fun r L1 f1 => (0 ≤ r.toInt ∧ r.toInt ≤ 1) ∧ WF E G L1 f1 ∧ KP G [12] false f f1 ∧ GI E G f1 x)) 0 0 (va_A (va_pl L f) sz) := by
  refine Met.ofW (cc := cX11_law) (maxL := 2) (ret := (some .boolean)) (by decide) rfl ?_
  intro p e s m args below meth c s₁ B hml hv
  obtain ⟨rfl, rfl, hw⟩ := py_start hv
  have G0 : CallFix p m c cX11_law 2 s _ w_X11_law RX11 := ⟨B.exec, B.bytes, hml, findClass_of_methodNamed B.named, atoms_spec (ws := w_X11_law) B.pre⟩
  have hr := B.returns
  have hlk := B.notSynchronized
  have kcm1 : (-1 : Int32).toInt = -1 := rfl
  have kc0 : (0 : Int32).toInt = 0 := rfl
  have kc1 : (1 : Int32).toInt = 1 := rfl
  have hGI := hq0
  have hKP : KP G [12] false f f := KP.refl
  obtain ⟨t_1, t_2, t_3, t_4, t_5, t_6, t_7, t_8, t_9, t_10, t_11, t_12, t_13, tx_14, tx_15, tx_16, tx_17⟩ := wt_11 hG Tx
  refine lv_iload_n G0.1 G0.2.1 dX11_law_0 rfl (lv_at hl 1 rfl) ?_
  refine lv_iconst (v := (-1)) G0.1 G0.2.1 dX11_law_1 (by decide) ?_
  refine lv_icmp_eq (tgt := 15) G0.1 G0.2.1 dX11_law_2 (by decide) (fun c_18 => ?_) (fun c_18 => ?_)
  · skip
    have tc_18 := ti_eq c_18
    refine lv_aload_n G0.1 G0.2.1 dX11_law_15 rfl (lv_at hl 0 rfl) ?_
    refine lv_iload_n G0.1 G0.2.1 dX11_law_16 rfl (lv_at hl 1 rfl) ?_
    obtain ⟨v_19, v_20, v_21, hr_25, b_22, b_23, b_24⟩ := wg_11 hWF Tx
    refine py_put (C := RX11) (T := TX11) (N := 16) (k := 14) (v := .int a) (fs' := [.ref (G.2 x 0), .ref (G.2 x 1), .ref (G.2 x 2), .ref (G.2 x 3), .ref (G.2 x 4), .ref (G.2 x 5), .ref (G.2 x 6), .ref (G.2 x 7), .ref (G.2 x 8), .ref (G.2 x 9), .ref (G.2 x 10), .ref (G.2 x 11), .ref (G.2 x 12), .int v_19, .int a, .int v_21]) (ty0 := tyX11) G0 hw tyX11_ok nmX11 in_X11_law_X11 rfl hr_25 (by decide) (by decide +kernel) rfl rfl rfl rfl (Nat.le_of_ble_eq_true rfl) rfl dX11_law_17 (fun f_26 H_27 locs h_28 x_29 hw => ?_)
    have hGI := hGI.own hG hWF Tx x_29 (rp_upd hG hWF x_29 hr_25.2 h_28.2 (rp_code hG Tx (by decide)) rfl : RP E G f f_26) (by have z1 := hy_eq hr_25; have z2 := hy_eq h_28; omega) (by first | exact Or.inl (by have z1 := hy_eq hr_25; have z2 := hy_eq h_28; omega) | exact Or.inr him)
    have hKP := hKP.upd hWF x_29 Tx (Or.inl (by decide))
    have hWF := wf_upd hWF h_28 x_29 (by rw [Tx]; exact ⟨v_19, a, v_21, rfl, ⟨by omega, by omega⟩, ⟨by omega, by omega⟩, ⟨by omega, by omega⟩⟩)
    refine lv_iconst (v := 1) G0.1 G0.2.1 dX11_law_20 (by decide) ?_
    exact py_iret G0 hr rfl hlk hw ⟨⟨by omega, by omega⟩, hWF, hKP, hGI⟩ dX11_law_21
  · skip
    have tc_18 := ti_ne c_18
    refine lv_aload_n G0.1 G0.2.1 dX11_law_5 rfl (lv_at hl 0 rfl) ?_
    refine lv_iload_n G0.1 G0.2.1 dX11_law_6 rfl (lv_at hl 1 rfl) ?_
    obtain ⟨v_30, v_31, v_32, hr_36, b_33, b_34, b_35⟩ := wg_11 hWF Tx
    refine py_calli hw (va_runV (As := [.int a]) (rest := []) G0 (c_X11_isLaw l E G L f s.heap.size x a hG hWF Tx) (cwV 1 G0.2.2.2.2 g_X11_law_X11_isLaw_202 rfl rfl rfl (by decide +kernel) ⟨(Nat.le_of_ble_eq_true rfl), (Nat.le_of_ble_eq_true rfl)⟩) (py_preV hw (C := RX11) (T := TX11) (N := 16) rfl hr_36) rfl rfl hl.1 rfl (lv_room (Nat.le_of_ble_eq_true rfl)) dX11_law_7 ⟨(Nat.le_of_ble_eq_true rfl), (Nat.le_of_ble_eq_true rfl)⟩) (fun r_41 L_37 f_38 H_39 locs hp_40 hw => ?_)
    obtain ⟨b_43, en_42, rfl, rfl⟩ := hp_40
    refine lv_if_ne (tgt := 15) G0.1 G0.2.1 dX11_law_10 (by decide) (fun c_44 => ?_) (fun c_44 => ?_)
    · skip
      have tc_44 := ti_ne c_44
      refine lv_aload_n G0.1 G0.2.1 dX11_law_15 rfl (lv_at hl 0 rfl) ?_
      refine lv_iload_n G0.1 G0.2.1 dX11_law_16 rfl (lv_at hl 1 rfl) ?_
      refine py_put (C := RX11) (T := TX11) (N := 16) (k := 14) (v := .int a) (fs' := [.ref (G.2 x 0), .ref (G.2 x 1), .ref (G.2 x 2), .ref (G.2 x 3), .ref (G.2 x 4), .ref (G.2 x 5), .ref (G.2 x 6), .ref (G.2 x 7), .ref (G.2 x 8), .ref (G.2 x 9), .ref (G.2 x 10), .ref (G.2 x 11), .ref (G.2 x 12), .int v_30, .int a, .int v_32]) (ty0 := tyX11) G0 hw tyX11_ok nmX11 in_X11_law_X11 rfl hr_36 (by decide) (by decide +kernel) rfl rfl rfl rfl (Nat.le_of_ble_eq_true rfl) rfl dX11_law_17 (fun f_45 H_46 locs h_47 x_48 hw => ?_)
      have hGI := hGI.own hG hWF Tx x_48 (rp_upd hG hWF x_48 hr_36.2 h_47.2 (rp_code hG Tx (by decide)) rfl : RP E G f f_45) (by have z1 := hy_eq hr_36; have z2 := hy_eq h_47; omega) (by first | exact Or.inl (by have z1 := hy_eq hr_36; have z2 := hy_eq h_47; omega) | exact Or.inr him)
      have hKP := hKP.upd hWF x_48 Tx (Or.inl (by decide))
      have hWF := wf_upd hWF h_47 x_48 (by rw [Tx]; exact ⟨v_30, a, v_32, rfl, ⟨by omega, by omega⟩, ⟨by omega, by omega⟩, ⟨by omega, by omega⟩⟩)
      refine lv_iconst (v := 1) G0.1 G0.2.1 dX11_law_20 (by decide) ?_
      exact py_iret G0 hr rfl hlk hw ⟨⟨by omega, by omega⟩, hWF, hKP, hGI⟩ dX11_law_21
    · skip
      have tc_44 := ti_eq c_44
      refine lv_iconst (v := 0) G0.1 G0.2.1 dX11_law_13 (by decide) ?_
      exact py_iret G0 hr rfl hlk hw ⟨⟨by omega, by omega⟩, hWF, hKP, hGI⟩ dX11_law_14

def w_X11_set : List Cond := .code yX11_set cX11_set 3 (some .boolean) :: ([Cond.fieldLink RX11 67 "HeadYear" "buyings" "LHeadYear$Buyings;", Cond.fieldLink RX11 211 "HeadYear$Buyings" "price" "I", Cond.fieldLink RX11 74 "HeadYear" "seasons" "LHeadYear$Seasons;", Cond.fieldLink RX11 208 "HeadYear$Seasons" "luck" "Z", Cond.fieldLink RX11 205 "HeadYear$Seasons" "find" "I"] ++ (u_ws RX11 TX11 16 ++ (u_ws RX0 TX0 5 ++ (u_ws RX7 TX7 5 ++ ([])))))
theorem in_X11_set_X11 : ∀ w ∈ u_ws RX11 TX11 16, w ∈ w_X11_set := fun _ h => List.mem_cons_of_mem _ (List.mem_append_right _ (List.mem_append_left _ h))
theorem in_X11_set_X0 : ∀ w ∈ u_ws RX0 TX0 5, w ∈ w_X11_set := fun _ h => List.mem_cons_of_mem _ (List.mem_append_right _ (List.mem_append_right _ (List.mem_append_left _ h)))
theorem in_X11_set_X7 : ∀ w ∈ u_ws RX7 TX7 5, w ∈ w_X11_set := fun _ h => List.mem_cons_of_mem _ (List.mem_append_right _ (List.mem_append_right _ (List.mem_append_right _ (List.mem_append_left _ h))))
set_option maxHeartbeats 4000000 in
set_option maxRecDepth 100000 in
theorem c_X11_set (l : Launch) (E : py_E) (G : wf_G) (L : List Nat) (f : py_F) (sz : Nat) (x : Nat) (a : Int32) (b : Int32) (hG : GT G) (hWF : WF E G L f) (Tx : G.1 x = 12) (hq0 : GI E G f x) : Met l yX11_set w_X11_set ({ frames := 0, cells := 0, slots := 0, locals := 0 }) (py_Pc E [.ref x, .int a, .int b] L f sz) (py_Qi E L f sz (fun r L1 f1 => (0 ≤ r.toInt ∧ r.toInt ≤ 1) ∧ WF E G L1 f1 ∧ KP G [8, 1] false f f1 ∧ GI E G f1 x)) 0 0 (va_A (va_pl L f) sz) := by
  refine Met.ofW (cc := cX11_set) (maxL := 3) (ret := (some .boolean)) (by decide) rfl ?_
  intro p e s m args below meth c s₁ B hml hv
  obtain ⟨rfl, rfl, hw⟩ := py_start hv
  have G0 : CallFix p m c cX11_set 3 s _ w_X11_set RX11 := ⟨B.exec, B.bytes, hml, findClass_of_methodNamed B.named, atoms_spec (ws := w_X11_set) B.pre⟩
  have hr := B.returns
  have hlk := B.notSynchronized
  have kcm1 : (-1 : Int32).toInt = -1 := rfl
  have kc0 : (0 : Int32).toInt = 0 := rfl
  have kc1 : (1 : Int32).toInt = 1 := rfl
  have kc2 : (2 : Int32).toInt = 2 := rfl
  have kc99 : (99 : Int32).toInt = 99 := rfl
  have kc100 : (100 : Int32).toInt = 100 := rfl
  have hGI := hq0
  have hKP : KP G [8, 1] false f f := KP.refl
  obtain ⟨t_1, t_2, t_3, t_4, t_5, t_6, t_7, t_8, t_9, t_10, t_11, t_12, t_13, tx_14, tx_15, tx_16, tx_17⟩ := wt_11 hG Tx
  refine lv_iload_n G0.1 G0.2.1 dX11_set_0 rfl (lv_at hl 2 rfl) ?_
  refine lv_if_ge (tgt := 6) G0.1 G0.2.1 dX11_set_1 (by decide) (fun c_18 => ?_) (fun c_18 => ?_)
  · skip
    have tc_18 := ti_le c_18
    refine lv_iload_n G0.1 G0.2.1 dX11_set_6 rfl (lv_at hl 1 rfl) ?_
    refine lv_if_ne (tgt := 26) G0.1 G0.2.1 dX11_set_7 (by decide) (fun c_19 => ?_) (fun c_19 => ?_)
    · skip
      have tc_19 := ti_ne c_19
      refine lv_iload_n G0.1 G0.2.1 dX11_set_26 rfl (lv_at hl 1 rfl) ?_
      refine lv_iconst (v := 1) G0.1 G0.2.1 dX11_set_27 (by decide) ?_
      refine lv_icmp_ne (tgt := 55) G0.1 G0.2.1 dX11_set_28 (by decide) (fun c_20 => ?_) (fun c_20 => ?_)
      · skip
        have tc_20 := ti_ne c_20
        refine lv_iload_n G0.1 G0.2.1 dX11_set_55 rfl (lv_at hl 1 rfl) ?_
        refine lv_iconst (v := 2) G0.1 G0.2.1 dX11_set_56 (by decide) ?_
        refine lv_icmp_ne (tgt := 76) G0.1 G0.2.1 dX11_set_57 (by decide) (fun c_21 => ?_) (fun c_21 => ?_)
        · skip
          have tc_21 := ti_ne c_21
          refine lv_iconst (v := 0) G0.1 G0.2.1 dX11_set_76 (by decide) ?_
          exact py_iret G0 hr rfl hlk hw ⟨⟨by omega, by omega⟩, hWF, hKP, hGI⟩ dX11_set_77
        · skip
          have tc_21 := ti_eq c_21
          refine lv_iload_n G0.1 G0.2.1 dX11_set_60 rfl (lv_at hl 2 rfl) ?_
          refine lv_bipush (v := 99) G0.1 G0.2.1 dX11_set_61 (by decide) ?_
          refine lv_icmp_gt (tgt := 76) G0.1 G0.2.1 dX11_set_63 (by decide) (fun c_22 => ?_) (fun c_22 => ?_)
          · skip
            have tc_22 := ti_lt c_22
            refine lv_iconst (v := 0) G0.1 G0.2.1 dX11_set_76 (by decide) ?_
            exact py_iret G0 hr rfl hlk hw ⟨⟨by omega, by omega⟩, hWF, hKP, hGI⟩ dX11_set_77
          · skip
            have tc_22 := ti_nlt c_22
            refine lv_aload_n G0.1 G0.2.1 dX11_set_66 rfl (lv_at hl 0 rfl) ?_
            obtain ⟨v_23, v_24, v_25, hr_29, b_26, b_27, b_28⟩ := wg_11 hWF Tx
            refine py_get (C := RX11) (T := TX11) (N := 16) (k := 9) (v := .ref (G.2 x 9)) G0 hw in_X11_set_X11 rfl hr_29 (by decide) (by decide +kernel) rfl dX11_set_67 ?_
            refine lv_iload_n G0.1 G0.2.1 dX11_set_70 rfl (lv_at hl 2 rfl) ?_
            obtain ⟨t_30, t_31, t_32⟩ := wt_0 hG t_10
            obtain ⟨v_33, v_34, hr_37, b_35, b_36⟩ := wg_0 hWF t_10
            refine py_put (C := RX0) (T := TX0) (N := 5) (k := 4) (v := .int b) (fs' := [.ref (G.2 (G.2 x 9) 0), .ref (G.2 (G.2 x 9) 1), .ref (G.2 (G.2 x 9) 2), .int v_33, .int b]) (ty0 := tyX0) G0 hw tyX0_ok nmX0 in_X11_set_X0 rfl hr_37 (by decide) (by decide +kernel) rfl rfl rfl rfl (Nat.le_of_ble_eq_true rfl) rfl dX11_set_71 (fun f_38 H_39 locs h_40 x_41 hw => ?_)
            have hGI := hGI.kp hG Tx (fo_ty hWF t_6) (rp_upd hG hWF x_41 hr_37.2 h_40.2 (rp_code hG t_10 (by decide)) rfl : RP E G f f_38) (KP.refl.upd hWF x_41 t_10 (Or.inl (by decide)) : KP G [1] false f f_38) (by decide)
            have hKP := hKP.upd hWF x_41 t_10 (Or.inl (by decide))
            have hWF := wf_upd hWF h_40 x_41 (by rw [t_10]; exact ⟨v_33, b, rfl, ⟨by omega, by omega⟩, ⟨by omega, by omega⟩⟩)
            have hr_29 := hr_29.ext x_41 (py_ne_kind hr_29 hr_37 (by decide))
            refine lv_iconst (v := 1) G0.1 G0.2.1 dX11_set_74 (by decide) ?_
            exact py_iret G0 hr rfl hlk hw ⟨⟨by omega, by omega⟩, hWF, hKP, hGI⟩ dX11_set_75
      · skip
        have tc_20 := ti_eq c_20
        refine lv_iload_n G0.1 G0.2.1 dX11_set_31 rfl (lv_at hl 2 rfl) ?_
        refine lv_iconst (v := 1) G0.1 G0.2.1 dX11_set_32 (by decide) ?_
        refine lv_icmp_gt (tgt := 55) G0.1 G0.2.1 dX11_set_33 (by decide) (fun c_42 => ?_) (fun c_42 => ?_)
        · skip
          have tc_42 := ti_lt c_42
          refine lv_iload_n G0.1 G0.2.1 dX11_set_55 rfl (lv_at hl 1 rfl) ?_
          refine lv_iconst (v := 2) G0.1 G0.2.1 dX11_set_56 (by decide) ?_
          refine lv_icmp_ne (tgt := 76) G0.1 G0.2.1 dX11_set_57 (by decide) (fun c_43 => ?_) (fun c_43 => ?_)
          · skip
            have tc_43 := ti_ne c_43
            refine lv_iconst (v := 0) G0.1 G0.2.1 dX11_set_76 (by decide) ?_
            exact py_iret G0 hr rfl hlk hw ⟨⟨by omega, by omega⟩, hWF, hKP, hGI⟩ dX11_set_77
          · skip
            have tc_43 := ti_eq c_43
            refine lv_iload_n G0.1 G0.2.1 dX11_set_60 rfl (lv_at hl 2 rfl) ?_
            refine lv_bipush (v := 99) G0.1 G0.2.1 dX11_set_61 (by decide) ?_
            refine lv_icmp_gt (tgt := 76) G0.1 G0.2.1 dX11_set_63 (by decide) (fun c_44 => ?_) (fun c_44 => ?_)
            · skip
              have tc_44 := ti_lt c_44
              refine lv_iconst (v := 0) G0.1 G0.2.1 dX11_set_76 (by decide) ?_
              exact py_iret G0 hr rfl hlk hw ⟨⟨by omega, by omega⟩, hWF, hKP, hGI⟩ dX11_set_77
            · skip
              have tc_44 := ti_nlt c_44
              refine lv_aload_n G0.1 G0.2.1 dX11_set_66 rfl (lv_at hl 0 rfl) ?_
              obtain ⟨v_45, v_46, v_47, hr_51, b_48, b_49, b_50⟩ := wg_11 hWF Tx
              refine py_get (C := RX11) (T := TX11) (N := 16) (k := 9) (v := .ref (G.2 x 9)) G0 hw in_X11_set_X11 rfl hr_51 (by decide) (by decide +kernel) rfl dX11_set_67 ?_
              refine lv_iload_n G0.1 G0.2.1 dX11_set_70 rfl (lv_at hl 2 rfl) ?_
              obtain ⟨t_52, t_53, t_54⟩ := wt_0 hG t_10
              obtain ⟨v_55, v_56, hr_59, b_57, b_58⟩ := wg_0 hWF t_10
              refine py_put (C := RX0) (T := TX0) (N := 5) (k := 4) (v := .int b) (fs' := [.ref (G.2 (G.2 x 9) 0), .ref (G.2 (G.2 x 9) 1), .ref (G.2 (G.2 x 9) 2), .int v_55, .int b]) (ty0 := tyX0) G0 hw tyX0_ok nmX0 in_X11_set_X0 rfl hr_59 (by decide) (by decide +kernel) rfl rfl rfl rfl (Nat.le_of_ble_eq_true rfl) rfl dX11_set_71 (fun f_60 H_61 locs h_62 x_63 hw => ?_)
              have hGI := hGI.kp hG Tx (fo_ty hWF t_6) (rp_upd hG hWF x_63 hr_59.2 h_62.2 (rp_code hG t_10 (by decide)) rfl : RP E G f f_60) (KP.refl.upd hWF x_63 t_10 (Or.inl (by decide)) : KP G [1] false f f_60) (by decide)
              have hKP := hKP.upd hWF x_63 t_10 (Or.inl (by decide))
              have hWF := wf_upd hWF h_62 x_63 (by rw [t_10]; exact ⟨v_55, b, rfl, ⟨by omega, by omega⟩, ⟨by omega, by omega⟩⟩)
              have hr_51 := hr_51.ext x_63 (py_ne_kind hr_51 hr_59 (by decide))
              refine lv_iconst (v := 1) G0.1 G0.2.1 dX11_set_74 (by decide) ?_
              exact py_iret G0 hr rfl hlk hw ⟨⟨by omega, by omega⟩, hWF, hKP, hGI⟩ dX11_set_75
        · skip
          have tc_42 := ti_nlt c_42
          refine lv_aload_n G0.1 G0.2.1 dX11_set_36 rfl (lv_at hl 0 rfl) ?_
          obtain ⟨v_64, v_65, v_66, hr_70, b_67, b_68, b_69⟩ := wg_11 hWF Tx
          refine py_get (C := RX11) (T := TX11) (N := 16) (k := 10) (v := .ref (G.2 x 10)) G0 hw in_X11_set_X11 rfl hr_70 (by decide) (by decide +kernel) rfl dX11_set_37 ?_
          refine lv_iload_n G0.1 G0.2.1 dX11_set_40 rfl (lv_at hl 2 rfl) ?_
          refine lv_iconst (v := 1) G0.1 G0.2.1 dX11_set_41 (by decide) ?_
          have jn_50 : ∀ (v_71 : Int32) (H_j50 : Heap) (locs : List Loc) (ls : Array Slot), (0 ≤ v_71.toInt ∧ v_71.toInt ≤ 1) → py_W E (va_A (va_pl L f) s.heap.size) s L f H_j50 locs → lv_has ls 3 [(0, .ref x), (1, .int a), (2, .int b)] → W p l e (headSpec w_X11_set ({ frames := 0, cells := 0, slots := 0, locals := 0 })).room s m ([.ref x, .int a, .int b] : List Value).toArray below meth c H_j50 locs 0 0 (MQ below (py_Qi E L f s.heap.size (fun r L1 f1 => (0 ≤ r.toInt ∧ r.toInt ≤ 1) ∧ WF E G L1 f1 ∧ KP G [8, 1] false f f1 ∧ GI E G f1 x)) ([.ref x, .int a, .int b] : List Value).toArray s 0 0 (va_A (va_pl L f) s.heap.size)) (F0 m 50 ls [.int v_71, .ref (G.2 x 10)]) := by
            intro v_71 H_j50 locs ls bv_71 hw hl
            obtain ⟨t_72, t_73, t_74⟩ := wt_7 hG t_11
            obtain ⟨v_75, v_76, hr_78, b_77⟩ := wg_7 hWF t_11
            have bv_75 := wf_free v_75
            refine py_put (C := RX7) (T := TX7) (N := 5) (k := 4) (v := .int v_71) (fs' := [.ref (G.2 (G.2 x 10) 0), .ref (G.2 (G.2 x 10) 1), .ref (G.2 (G.2 x 10) 2), .int v_75, .int v_71]) (ty0 := tyX7) G0 hw tyX7_ok nmX7 in_X11_set_X7 rfl hr_78 (by decide) (by decide +kernel) rfl rfl (ti_bool (by omega) (by omega)) rfl (Nat.le_of_ble_eq_true rfl) rfl dX11_set_50 (fun f_79 H_80 locs h_81 x_82 hw => ?_)
            have hGI := hGI.kp hG Tx (fo_ty hWF t_6) (rp_upd hG hWF x_82 hr_78.2 h_81.2 (rp_code hG t_11 (by decide)) rfl : RP E G f f_79) (KP.refl.upd hWF x_82 t_11 (Or.inl (by decide)) : KP G [8] false f f_79) (by decide)
            have hKP := hKP.upd hWF x_82 t_11 (Or.inl (by decide))
            have hWF := wf_upd hWF h_81 x_82 (by rw [t_11]; exact ⟨v_75, v_71, rfl, ⟨by omega, by omega⟩⟩)
            have hr_70 := hr_70.ext x_82 (py_ne_kind hr_70 hr_78 (by decide))
            refine lv_iconst (v := 1) G0.1 G0.2.1 dX11_set_53 (by decide) ?_
            exact py_iret G0 hr rfl hlk hw ⟨⟨by omega, by omega⟩, hWF, hKP, hGI⟩ dX11_set_54
          refine lv_icmp_ne (tgt := 49) G0.1 G0.2.1 dX11_set_42 (by decide) (fun c_83 => ?_) (fun c_83 => ?_)
          · skip
            have tc_83 := ti_ne c_83
            refine lv_iconst (v := 0) G0.1 G0.2.1 dX11_set_49 (by decide) ?_
            exact jn_50 0 _ _ ls ⟨by omega, by omega⟩ hw (lv_sub hl [0, 1, 2] rfl)
          · skip
            have tc_83 := ti_eq c_83
            refine lv_iconst (v := 1) G0.1 G0.2.1 dX11_set_45 (by decide) ?_
            refine lv_goto (tgt := 50) G0.1 G0.2.1 dX11_set_46 (by decide) ?_
            exact jn_50 1 _ _ ls ⟨by omega, by omega⟩ hw (lv_sub hl [0, 1, 2] rfl)
    · skip
      have tc_19 := ti_eq c_19
      refine lv_iload_n G0.1 G0.2.1 dX11_set_10 rfl (lv_at hl 2 rfl) ?_
      refine lv_bipush (v := 100) G0.1 G0.2.1 dX11_set_11 (by decide) ?_
      refine lv_icmp_gt (tgt := 26) G0.1 G0.2.1 dX11_set_13 (by decide) (fun c_84 => ?_) (fun c_84 => ?_)
      · skip
        have tc_84 := ti_lt c_84
        refine lv_iload_n G0.1 G0.2.1 dX11_set_26 rfl (lv_at hl 1 rfl) ?_
        refine lv_iconst (v := 1) G0.1 G0.2.1 dX11_set_27 (by decide) ?_
        refine lv_icmp_ne (tgt := 55) G0.1 G0.2.1 dX11_set_28 (by decide) (fun c_85 => ?_) (fun c_85 => ?_)
        · skip
          have tc_85 := ti_ne c_85
          refine lv_iload_n G0.1 G0.2.1 dX11_set_55 rfl (lv_at hl 1 rfl) ?_
          refine lv_iconst (v := 2) G0.1 G0.2.1 dX11_set_56 (by decide) ?_
          refine lv_icmp_ne (tgt := 76) G0.1 G0.2.1 dX11_set_57 (by decide) (fun c_86 => ?_) (fun c_86 => ?_)
          · skip
            have tc_86 := ti_ne c_86
            refine lv_iconst (v := 0) G0.1 G0.2.1 dX11_set_76 (by decide) ?_
            exact py_iret G0 hr rfl hlk hw ⟨⟨by omega, by omega⟩, hWF, hKP, hGI⟩ dX11_set_77
          · skip
            have tc_86 := ti_eq c_86
            refine lv_iload_n G0.1 G0.2.1 dX11_set_60 rfl (lv_at hl 2 rfl) ?_
            refine lv_bipush (v := 99) G0.1 G0.2.1 dX11_set_61 (by decide) ?_
            refine lv_icmp_gt (tgt := 76) G0.1 G0.2.1 dX11_set_63 (by decide) (fun c_87 => ?_) (fun c_87 => ?_)
            · skip
              have tc_87 := ti_lt c_87
              refine lv_iconst (v := 0) G0.1 G0.2.1 dX11_set_76 (by decide) ?_
              exact py_iret G0 hr rfl hlk hw ⟨⟨by omega, by omega⟩, hWF, hKP, hGI⟩ dX11_set_77
            · skip
              have tc_87 := ti_nlt c_87
              refine lv_aload_n G0.1 G0.2.1 dX11_set_66 rfl (lv_at hl 0 rfl) ?_
              obtain ⟨v_88, v_89, v_90, hr_94, b_91, b_92, b_93⟩ := wg_11 hWF Tx
              refine py_get (C := RX11) (T := TX11) (N := 16) (k := 9) (v := .ref (G.2 x 9)) G0 hw in_X11_set_X11 rfl hr_94 (by decide) (by decide +kernel) rfl dX11_set_67 ?_
              refine lv_iload_n G0.1 G0.2.1 dX11_set_70 rfl (lv_at hl 2 rfl) ?_
              obtain ⟨t_95, t_96, t_97⟩ := wt_0 hG t_10
              obtain ⟨v_98, v_99, hr_102, b_100, b_101⟩ := wg_0 hWF t_10
              refine py_put (C := RX0) (T := TX0) (N := 5) (k := 4) (v := .int b) (fs' := [.ref (G.2 (G.2 x 9) 0), .ref (G.2 (G.2 x 9) 1), .ref (G.2 (G.2 x 9) 2), .int v_98, .int b]) (ty0 := tyX0) G0 hw tyX0_ok nmX0 in_X11_set_X0 rfl hr_102 (by decide) (by decide +kernel) rfl rfl rfl rfl (Nat.le_of_ble_eq_true rfl) rfl dX11_set_71 (fun f_103 H_104 locs h_105 x_106 hw => ?_)
              have hGI := hGI.kp hG Tx (fo_ty hWF t_6) (rp_upd hG hWF x_106 hr_102.2 h_105.2 (rp_code hG t_10 (by decide)) rfl : RP E G f f_103) (KP.refl.upd hWF x_106 t_10 (Or.inl (by decide)) : KP G [1] false f f_103) (by decide)
              have hKP := hKP.upd hWF x_106 t_10 (Or.inl (by decide))
              have hWF := wf_upd hWF h_105 x_106 (by rw [t_10]; exact ⟨v_98, b, rfl, ⟨by omega, by omega⟩, ⟨by omega, by omega⟩⟩)
              have hr_94 := hr_94.ext x_106 (py_ne_kind hr_94 hr_102 (by decide))
              refine lv_iconst (v := 1) G0.1 G0.2.1 dX11_set_74 (by decide) ?_
              exact py_iret G0 hr rfl hlk hw ⟨⟨by omega, by omega⟩, hWF, hKP, hGI⟩ dX11_set_75
        · skip
          have tc_85 := ti_eq c_85
          refine lv_iload_n G0.1 G0.2.1 dX11_set_31 rfl (lv_at hl 2 rfl) ?_
          refine lv_iconst (v := 1) G0.1 G0.2.1 dX11_set_32 (by decide) ?_
          refine lv_icmp_gt (tgt := 55) G0.1 G0.2.1 dX11_set_33 (by decide) (fun c_107 => ?_) (fun c_107 => ?_)
          · skip
            have tc_107 := ti_lt c_107
            refine lv_iload_n G0.1 G0.2.1 dX11_set_55 rfl (lv_at hl 1 rfl) ?_
            refine lv_iconst (v := 2) G0.1 G0.2.1 dX11_set_56 (by decide) ?_
            refine lv_icmp_ne (tgt := 76) G0.1 G0.2.1 dX11_set_57 (by decide) (fun c_108 => ?_) (fun c_108 => ?_)
            · skip
              have tc_108 := ti_ne c_108
              refine lv_iconst (v := 0) G0.1 G0.2.1 dX11_set_76 (by decide) ?_
              exact py_iret G0 hr rfl hlk hw ⟨⟨by omega, by omega⟩, hWF, hKP, hGI⟩ dX11_set_77
            · skip
              have tc_108 := ti_eq c_108
              refine lv_iload_n G0.1 G0.2.1 dX11_set_60 rfl (lv_at hl 2 rfl) ?_
              refine lv_bipush (v := 99) G0.1 G0.2.1 dX11_set_61 (by decide) ?_
              refine lv_icmp_gt (tgt := 76) G0.1 G0.2.1 dX11_set_63 (by decide) (fun c_109 => ?_) (fun c_109 => ?_)
              · skip
                have tc_109 := ti_lt c_109
                refine lv_iconst (v := 0) G0.1 G0.2.1 dX11_set_76 (by decide) ?_
                exact py_iret G0 hr rfl hlk hw ⟨⟨by omega, by omega⟩, hWF, hKP, hGI⟩ dX11_set_77
              · skip
                have tc_109 := ti_nlt c_109
                refine lv_aload_n G0.1 G0.2.1 dX11_set_66 rfl (lv_at hl 0 rfl) ?_
                obtain ⟨v_110, v_111, v_112, hr_116, b_113, b_114, b_115⟩ := wg_11 hWF Tx
                refine py_get (C := RX11) (T := TX11) (N := 16) (k := 9) (v := .ref (G.2 x 9)) G0 hw in_X11_set_X11 rfl hr_116 (by decide) (by decide +kernel) rfl dX11_set_67 ?_
                refine lv_iload_n G0.1 G0.2.1 dX11_set_70 rfl (lv_at hl 2 rfl) ?_
                obtain ⟨t_117, t_118, t_119⟩ := wt_0 hG t_10
                obtain ⟨v_120, v_121, hr_124, b_122, b_123⟩ := wg_0 hWF t_10
                refine py_put (C := RX0) (T := TX0) (N := 5) (k := 4) (v := .int b) (fs' := [.ref (G.2 (G.2 x 9) 0), .ref (G.2 (G.2 x 9) 1), .ref (G.2 (G.2 x 9) 2), .int v_120, .int b]) (ty0 := tyX0) G0 hw tyX0_ok nmX0 in_X11_set_X0 rfl hr_124 (by decide) (by decide +kernel) rfl rfl rfl rfl (Nat.le_of_ble_eq_true rfl) rfl dX11_set_71 (fun f_125 H_126 locs h_127 x_128 hw => ?_)
                have hGI := hGI.kp hG Tx (fo_ty hWF t_6) (rp_upd hG hWF x_128 hr_124.2 h_127.2 (rp_code hG t_10 (by decide)) rfl : RP E G f f_125) (KP.refl.upd hWF x_128 t_10 (Or.inl (by decide)) : KP G [1] false f f_125) (by decide)
                have hKP := hKP.upd hWF x_128 t_10 (Or.inl (by decide))
                have hWF := wf_upd hWF h_127 x_128 (by rw [t_10]; exact ⟨v_120, b, rfl, ⟨by omega, by omega⟩, ⟨by omega, by omega⟩⟩)
                have hr_116 := hr_116.ext x_128 (py_ne_kind hr_116 hr_124 (by decide))
                refine lv_iconst (v := 1) G0.1 G0.2.1 dX11_set_74 (by decide) ?_
                exact py_iret G0 hr rfl hlk hw ⟨⟨by omega, by omega⟩, hWF, hKP, hGI⟩ dX11_set_75
          · skip
            have tc_107 := ti_nlt c_107
            refine lv_aload_n G0.1 G0.2.1 dX11_set_36 rfl (lv_at hl 0 rfl) ?_
            obtain ⟨v_129, v_130, v_131, hr_135, b_132, b_133, b_134⟩ := wg_11 hWF Tx
            refine py_get (C := RX11) (T := TX11) (N := 16) (k := 10) (v := .ref (G.2 x 10)) G0 hw in_X11_set_X11 rfl hr_135 (by decide) (by decide +kernel) rfl dX11_set_37 ?_
            refine lv_iload_n G0.1 G0.2.1 dX11_set_40 rfl (lv_at hl 2 rfl) ?_
            refine lv_iconst (v := 1) G0.1 G0.2.1 dX11_set_41 (by decide) ?_
            have jn_50 : ∀ (v_136 : Int32) (H_j50 : Heap) (locs : List Loc) (ls : Array Slot), (0 ≤ v_136.toInt ∧ v_136.toInt ≤ 1) → py_W E (va_A (va_pl L f) s.heap.size) s L f H_j50 locs → lv_has ls 3 [(0, .ref x), (1, .int a), (2, .int b)] → W p l e (headSpec w_X11_set ({ frames := 0, cells := 0, slots := 0, locals := 0 })).room s m ([.ref x, .int a, .int b] : List Value).toArray below meth c H_j50 locs 0 0 (MQ below (py_Qi E L f s.heap.size (fun r L1 f1 => (0 ≤ r.toInt ∧ r.toInt ≤ 1) ∧ WF E G L1 f1 ∧ KP G [8, 1] false f f1 ∧ GI E G f1 x)) ([.ref x, .int a, .int b] : List Value).toArray s 0 0 (va_A (va_pl L f) s.heap.size)) (F0 m 50 ls [.int v_136, .ref (G.2 x 10)]) := by
              intro v_136 H_j50 locs ls bv_136 hw hl
              obtain ⟨t_137, t_138, t_139⟩ := wt_7 hG t_11
              obtain ⟨v_140, v_141, hr_143, b_142⟩ := wg_7 hWF t_11
              have bv_140 := wf_free v_140
              refine py_put (C := RX7) (T := TX7) (N := 5) (k := 4) (v := .int v_136) (fs' := [.ref (G.2 (G.2 x 10) 0), .ref (G.2 (G.2 x 10) 1), .ref (G.2 (G.2 x 10) 2), .int v_140, .int v_136]) (ty0 := tyX7) G0 hw tyX7_ok nmX7 in_X11_set_X7 rfl hr_143 (by decide) (by decide +kernel) rfl rfl (ti_bool (by omega) (by omega)) rfl (Nat.le_of_ble_eq_true rfl) rfl dX11_set_50 (fun f_144 H_145 locs h_146 x_147 hw => ?_)
              have hGI := hGI.kp hG Tx (fo_ty hWF t_6) (rp_upd hG hWF x_147 hr_143.2 h_146.2 (rp_code hG t_11 (by decide)) rfl : RP E G f f_144) (KP.refl.upd hWF x_147 t_11 (Or.inl (by decide)) : KP G [8] false f f_144) (by decide)
              have hKP := hKP.upd hWF x_147 t_11 (Or.inl (by decide))
              have hWF := wf_upd hWF h_146 x_147 (by rw [t_11]; exact ⟨v_140, v_136, rfl, ⟨by omega, by omega⟩⟩)
              have hr_135 := hr_135.ext x_147 (py_ne_kind hr_135 hr_143 (by decide))
              refine lv_iconst (v := 1) G0.1 G0.2.1 dX11_set_53 (by decide) ?_
              exact py_iret G0 hr rfl hlk hw ⟨⟨by omega, by omega⟩, hWF, hKP, hGI⟩ dX11_set_54
            refine lv_icmp_ne (tgt := 49) G0.1 G0.2.1 dX11_set_42 (by decide) (fun c_148 => ?_) (fun c_148 => ?_)
            · skip
              have tc_148 := ti_ne c_148
              refine lv_iconst (v := 0) G0.1 G0.2.1 dX11_set_49 (by decide) ?_
              exact jn_50 0 _ _ ls ⟨by omega, by omega⟩ hw (lv_sub hl [0, 1, 2] rfl)
            · skip
              have tc_148 := ti_eq c_148
              refine lv_iconst (v := 1) G0.1 G0.2.1 dX11_set_45 (by decide) ?_
              refine lv_goto (tgt := 50) G0.1 G0.2.1 dX11_set_46 (by decide) ?_
              exact jn_50 1 _ _ ls ⟨by omega, by omega⟩ hw (lv_sub hl [0, 1, 2] rfl)
      · skip
        have tc_84 := ti_nlt c_84
        refine lv_aload_n G0.1 G0.2.1 dX11_set_16 rfl (lv_at hl 0 rfl) ?_
        obtain ⟨v_149, v_150, v_151, hr_155, b_152, b_153, b_154⟩ := wg_11 hWF Tx
        refine py_get (C := RX11) (T := TX11) (N := 16) (k := 10) (v := .ref (G.2 x 10)) G0 hw in_X11_set_X11 rfl hr_155 (by decide) (by decide +kernel) rfl dX11_set_17 ?_
        refine lv_iload_n G0.1 G0.2.1 dX11_set_20 rfl (lv_at hl 2 rfl) ?_
        obtain ⟨t_156, t_157, t_158⟩ := wt_7 hG t_11
        obtain ⟨v_159, v_160, hr_162, b_161⟩ := wg_7 hWF t_11
        have bv_159 := wf_free v_159
        refine py_put (C := RX7) (T := TX7) (N := 5) (k := 3) (v := .int b) (fs' := [.ref (G.2 (G.2 x 10) 0), .ref (G.2 (G.2 x 10) 1), .ref (G.2 (G.2 x 10) 2), .int b, .int v_160]) (ty0 := tyX7) G0 hw tyX7_ok nmX7 in_X11_set_X7 rfl hr_162 (by decide) (by decide +kernel) rfl rfl rfl rfl (Nat.le_of_ble_eq_true rfl) rfl dX11_set_21 (fun f_163 H_164 locs h_165 x_166 hw => ?_)
        have hGI := hGI.kp hG Tx (fo_ty hWF t_6) (rp_upd hG hWF x_166 hr_162.2 h_165.2 (rp_code hG t_11 (by decide)) rfl : RP E G f f_163) (KP.refl.upd hWF x_166 t_11 (Or.inl (by decide)) : KP G [8] false f f_163) (by decide)
        have hKP := hKP.upd hWF x_166 t_11 (Or.inl (by decide))
        have hWF := wf_upd hWF h_165 x_166 (by rw [t_11]; exact ⟨b, v_160, rfl, ⟨by omega, by omega⟩⟩)
        have hr_155 := hr_155.ext x_166 (py_ne_kind hr_155 hr_162 (by decide))
        refine lv_iconst (v := 1) G0.1 G0.2.1 dX11_set_24 (by decide) ?_
        exact py_iret G0 hr rfl hlk hw ⟨⟨by omega, by omega⟩, hWF, hKP, hGI⟩ dX11_set_25
  · skip
    have tc_18 := ti_nle c_18
    refine lv_iconst (v := 0) G0.1 G0.2.1 dX11_set_4 (by decide) ?_
    exact py_iret G0 hr rfl hlk hw ⟨⟨by omega, by omega⟩, hWF, hKP, hGI⟩ dX11_set_5

def w_X11_seed : List Cond := .code yX11_seed cX11_seed 3 (some .boolean) :: ([Cond.fieldLink RX11 47 "HeadYear" "folk" "LHeadYear$Folk;", Cond.fieldLink RX11 214 "HeadYear$Folk" "x" "J"] ++ (u_ws RX11 TX11 16 ++ (u_ws RX2 TX2 12 ++ ([]))))
theorem in_X11_seed_X11 : ∀ w ∈ u_ws RX11 TX11 16, w ∈ w_X11_seed := fun _ h => List.mem_cons_of_mem _ (List.mem_append_right _ (List.mem_append_left _ h))
theorem in_X11_seed_X2 : ∀ w ∈ u_ws RX2 TX2 12, w ∈ w_X11_seed := fun _ h => List.mem_cons_of_mem _ (List.mem_append_right _ (List.mem_append_right _ (List.mem_append_left _ h)))
set_option maxHeartbeats 4000000 in
set_option maxRecDepth 100000 in
theorem c_X11_seed (l : Launch) (E : py_E) (G : wf_G) (L : List Nat) (f : py_F) (sz : Nat) (x : Nat) (v : Int64) (hG : GT G) (hWF : WF E G L f) (Tx : G.1 x = 12) (hq0 : GI E G f x) : Met l yX11_seed w_X11_seed ({ frames := 0, cells := 0, slots := 0, locals := 0 }) (py_Pc E [.ref x, .long v] L f sz) (py_Qi E L f sz (fun r L1 f1 => (0 ≤ r.toInt ∧ r.toInt ≤ 1) ∧ WF E G L1 f1 ∧ KP G [3] false f f1 ∧ GI E G f1 x)) 0 0 (va_A (va_pl L f) sz) := by
  refine Met.ofW (cc := cX11_seed) (maxL := 3) (ret := (some .boolean)) (by decide) rfl ?_
  intro p e s m args below meth c s₁ B hml hv
  obtain ⟨rfl, rfl, hw⟩ := py_start hv
  have G0 : CallFix p m c cX11_seed 3 s _ w_X11_seed RX11 := ⟨B.exec, B.bytes, hml, findClass_of_methodNamed B.named, atoms_spec (ws := w_X11_seed) B.pre⟩
  have hr := B.returns
  have hlk := B.notSynchronized
  have kcm1 : (-1 : Int32).toInt = -1 := rfl
  have kc0 : (0 : Int32).toInt = 0 := rfl
  have kc1 : (1 : Int32).toInt = 1 := rfl
  have hGI := hq0
  have hKP : KP G [3] false f f := KP.refl
  obtain ⟨t_1, t_2, t_3, t_4, t_5, t_6, t_7, t_8, t_9, t_10, t_11, t_12, t_13, tx_14, tx_15, tx_16, tx_17⟩ := wt_11 hG Tx
  refine lv_aload_n G0.1 G0.2.1 dX11_seed_0 rfl (lv_at hl 0 rfl) ?_
  obtain ⟨v_18, v_19, v_20, hr_24, b_21, b_22, b_23⟩ := wg_11 hWF Tx
  refine py_get (C := RX11) (T := TX11) (N := 16) (k := 5) (v := .ref (G.2 x 5)) G0 hw in_X11_seed_X11 rfl hr_24 (by decide) (by decide +kernel) rfl dX11_seed_1 ?_
  refine lv_lload_n G0.1 G0.2.1 dX11_seed_4 rfl (lv_at hl 1 rfl) ?_
  obtain ⟨t_25, t_26, t_27, t_28, t_29, t_30, t_31, t_32, t_33⟩ := wt_2 hG t_6
  obtain ⟨r_34, y_35, v_36, hr_39, ty_37, b_38⟩ := wg_2 hWF t_6
  refine py_put (C := RX2) (T := TX2) (N := 12) (k := 10) (v := .long v) (fs' := [.ref (G.2 (G.2 x 5) 0), .ref (G.2 (G.2 x 5) 1), .ref (G.2 (G.2 x 5) 2), .ref (G.2 (G.2 x 5) 3), .ref (G.2 (G.2 x 5) 4), .ref (G.2 (G.2 x 5) 5), .ref (G.2 (G.2 x 5) 6), .ref (G.2 (G.2 x 5) 7), .ref (G.2 (G.2 x 5) 8), .ref r_34, .long v, .int v_36]) (ty0 := tyX2) G0 hw tyX2_ok nmX2 in_X11_seed_X2 rfl hr_39 (by decide) (by decide +kernel) rfl rfl rfl rfl (Nat.le_of_ble_eq_true rfl) rfl dX11_seed_5 (fun f_40 H_41 locs h_42 x_43 hw => ?_)
  have hGI := hGI.kp hG Tx (fo_ty hWF t_6) (rp_upd hG hWF x_43 hr_39.2 h_42.2 (rp_code hG t_6 (by decide)) rfl : RP E G f f_40) (KP.refl.upd hWF x_43 t_6 (Or.inl (by decide)) : KP G [3] false f f_40) (by decide)
  have hKP := hKP.upd hWF x_43 t_6 (Or.inl (by decide))
  have hWF := wf_upd hWF h_42 x_43 (by rw [t_6]; exact ⟨r_34, v, v_36, rfl, ty_37, ⟨by omega, by omega⟩⟩)
  have hr_24 := hr_24.ext x_43 (py_ne_kind hr_24 hr_39 (by decide))
  refine lv_iconst (v := 1) G0.1 G0.2.1 dX11_seed_8 (by decide) ?_
  exact py_iret G0 hr rfl hlk hw ⟨⟨by omega, by omega⟩, hWF, hKP, hGI⟩ dX11_seed_9

def w_X11_buy : List Cond := .code yX11_buy cX11_buy 4 (some .int) :: ([Cond.methodLink RX11 246 yX11_lives, Cond.instanceMethod yX11_lives, Cond.selects RX11 yX11_lives yX11_lives, Cond.initialized RX11, Cond.methodLink RX11 249 yX11_mayBeBought, Cond.static yX11_mayBeBought, Cond.fieldLink RX11 67 "HeadYear" "buyings" "LHeadYear$Buyings;", Cond.fieldLink RX11 240 "HeadYear$Buyings" "count" "I", Cond.fieldLink RX11 47 "HeadYear" "folk" "LHeadYear$Folk;", Cond.fieldLink RX11 188 "HeadYear$Folk" "bought" "[I", Cond.methodLink RX11 252 yX0_add, Cond.instanceMethod yX0_add, Cond.selects RX0 yX0_add yX0_add, Cond.initialized RX0, Cond.fieldLink RX11 195 "HeadYear$Folk" "spent" "[I"] ++ (u_ws RX11 TX11 16 ++ (u_ws RX0 TX0 5 ++ (u_ws RX2 TX2 12 ++ (w_X11_lives ++ (w_X11_mayBeBought ++ (w_X0_add ++ ([]))))))))
theorem in_X11_buy_X11 : ∀ w ∈ u_ws RX11 TX11 16, w ∈ w_X11_buy := fun _ h => List.mem_cons_of_mem _ (List.mem_append_right _ (List.mem_append_left _ h))
theorem in_X11_buy_X0 : ∀ w ∈ u_ws RX0 TX0 5, w ∈ w_X11_buy := fun _ h => List.mem_cons_of_mem _ (List.mem_append_right _ (List.mem_append_right _ (List.mem_append_left _ h)))
theorem in_X11_buy_X2 : ∀ w ∈ u_ws RX2 TX2 12, w ∈ w_X11_buy := fun _ h => List.mem_cons_of_mem _ (List.mem_append_right _ (List.mem_append_right _ (List.mem_append_right _ (List.mem_append_left _ h))))
theorem gg_X11_buy_X11_lives : GoodIn w_X11_buy w_X11_lives := goodIn_sub (fun _ h => List.mem_cons_of_mem _ (List.mem_append_right _ (List.mem_append_right _ (List.mem_append_right _ (List.mem_append_right _ (List.mem_append_left _ h)))))) (by decide +kernel)
theorem gg_X11_buy_X11_mayBeBought : GoodIn w_X11_buy w_X11_mayBeBought := goodIn_sub (fun _ h => List.mem_cons_of_mem _ (List.mem_append_right _ (List.mem_append_right _ (List.mem_append_right _ (List.mem_append_right _ (List.mem_append_right _ (List.mem_append_left _ h))))))) (by decide +kernel)
theorem gg_X11_buy_X0_add : GoodIn w_X11_buy w_X0_add := goodIn_sub (fun _ h => List.mem_cons_of_mem _ (List.mem_append_right _ (List.mem_append_right _ (List.mem_append_right _ (List.mem_append_right _ (List.mem_append_right _ (List.mem_append_right _ (List.mem_append_left _ h)))))))) (by decide +kernel)
theorem g_X11_buy_X0_add_252 : GoodIn w_X11_buy (wsV RX11 252 RX0 yX0_add w_X0_add) := goodIn_app (goodIn_of _ (by decide +kernel)) gg_X11_buy_X0_add
theorem g_X11_buy_X11_lives_246 : GoodIn w_X11_buy (wsV RX11 246 RX11 yX11_lives w_X11_lives) := goodIn_app (goodIn_of _ (by decide +kernel)) gg_X11_buy_X11_lives
theorem g_X11_buy_X11_mayBeBought_249 : GoodIn w_X11_buy (va_wsS RX11 249 yX11_mayBeBought w_X11_mayBeBought) := goodIn_app (goodIn_of _ (by decide +kernel)) gg_X11_buy_X11_mayBeBought
set_option maxHeartbeats 4000000 in
set_option maxRecDepth 100000 in
theorem c_X11_buy (l : Launch) (E : py_E) (G : wf_G) (L : List Nat) (f : py_F) (sz : Nat) (x : Nat) (a : Int32) (b : Int32) (hG : GT G) (hWF : WF E G L f) (Tx : G.1 x = 12) (hq0 : GI E G f x) : Met l yX11_buy w_X11_buy ({ frames := 2, cells := 0, slots := 0, locals := 47 }) (py_Pc E [.ref x, .int a, .int b] L f sz) (py_Qi E L f sz (fun _ L1 f1 => WF E G L1 f1 ∧ KP G [1, 28, 29, 26] false f f1 ∧ GI E G f1 x)) 0 0 (va_A (va_pl L f) sz) := by
  refine Met.ofW (cc := cX11_buy) (maxL := 4) (ret := (some .int)) (by decide) rfl ?_
  intro p e s m args below meth c s₁ B hml hv
  obtain ⟨rfl, rfl, hw⟩ := py_start hv
  have G0 : CallFix p m c cX11_buy 4 s _ w_X11_buy RX11 := ⟨B.exec, B.bytes, hml, findClass_of_methodNamed B.named, atoms_spec (ws := w_X11_buy) B.pre⟩
  have hr := B.returns
  have hlk := B.notSynchronized
  have kcm1 : (-1 : Int32).toInt = -1 := rfl
  have kc0 : (0 : Int32).toInt = 0 := rfl
  have kc1 : (1 : Int32).toInt = 1 := rfl
  have kc40 : (40 : Int32).toInt = 40 := rfl
  have hGI := hq0
  have hKP : KP G [1, 28, 29, 26] false f f := KP.refl
  obtain ⟨t_1, t_2, t_3, t_4, t_5, t_6, t_7, t_8, t_9, t_10, t_11, t_12, t_13, tx_14, tx_15, tx_16, tx_17⟩ := wt_11 hG Tx
  refine lv_aload_n G0.1 G0.2.1 dX11_buy_0 rfl (lv_at hl 0 rfl) ?_
  refine lv_iload_n G0.1 G0.2.1 dX11_buy_1 rfl (lv_at hl 1 rfl) ?_
  obtain ⟨v_18, v_19, v_20, hr_24, b_21, b_22, b_23⟩ := wg_11 hWF Tx
  refine py_calli hw (va_runV (As := [.int a]) (rest := []) G0 (c_X11_lives l E G L f s.heap.size x a hG hWF Tx) (cwV 1 G0.2.2.2.2 g_X11_buy_X11_lives_246 rfl rfl rfl (by decide +kernel) ⟨(Nat.le_of_ble_eq_true rfl), (Nat.le_of_ble_eq_true rfl)⟩) (py_preV hw (C := RX11) (T := TX11) (N := 16) rfl hr_24) rfl rfl hl.1 rfl (lv_room (Nat.le_of_ble_eq_true rfl)) dX11_buy_2 ⟨(Nat.le_of_ble_eq_true rfl), (Nat.le_of_ble_eq_true rfl)⟩) (fun r_29 L_25 f_26 H_27 locs hp_28 hw => ?_)
  obtain ⟨b_31, en_30, rfl, rfl⟩ := hp_28
  refine lv_if_eq (tgt := 31) G0.1 G0.2.1 dX11_buy_5 (by decide) (fun c_32 => ?_) (fun c_32 => ?_)
  · skip
    have tc_32 := ti_eq c_32
    refine lv_iconst (v := (-1)) G0.1 G0.2.1 dX11_buy_31 (by decide) ?_
    exact py_iret G0 hr rfl hlk hw ⟨hWF, hKP, hGI⟩ dX11_buy_32
  · skip
    have tc_32 := ti_ne c_32
    refine lv_iload_n G0.1 G0.2.1 dX11_buy_8 rfl (lv_at hl 2 rfl) ?_
    refine lv_if_eq (tgt := 31) G0.1 G0.2.1 dX11_buy_9 (by decide) (fun c_33 => ?_) (fun c_33 => ?_)
    · skip
      have tc_33 := ti_eq c_33
      refine lv_iconst (v := (-1)) G0.1 G0.2.1 dX11_buy_31 (by decide) ?_
      exact py_iret G0 hr rfl hlk hw ⟨hWF, hKP, hGI⟩ dX11_buy_32
    · skip
      have tc_33 := ti_ne c_33
      refine lv_iload_n G0.1 G0.2.1 dX11_buy_12 rfl (lv_at hl 2 rfl) ?_
      refine py_calli hw (va_runS (As := [.int b]) (rest := []) G0 (c_X11_mayBeBought l E G L f H_27.size b hG hWF) (va_cwS 1 G0.2.2.2.2 g_X11_buy_X11_mayBeBought_249 rfl rfl rfl (by decide +kernel) ⟨(Nat.le_of_ble_eq_true rfl), (Nat.le_of_ble_eq_true rfl)⟩) (py_preS hw) rfl rfl hl.1 rfl (lv_room (Nat.le_of_ble_eq_true rfl)) dX11_buy_13 ⟨(Nat.le_of_ble_eq_true rfl), (Nat.le_of_ble_eq_true rfl)⟩) (fun r_38 L_34 f_35 H_36 locs hp_37 hw => ?_)
      obtain ⟨b_40, en_39, rfl, rfl⟩ := hp_37
      refine lv_if_eq (tgt := 31) G0.1 G0.2.1 dX11_buy_16 (by decide) (fun c_41 => ?_) (fun c_41 => ?_)
      · skip
        have tc_41 := ti_eq c_41
        refine lv_iconst (v := (-1)) G0.1 G0.2.1 dX11_buy_31 (by decide) ?_
        exact py_iret G0 hr rfl hlk hw ⟨hWF, hKP, hGI⟩ dX11_buy_32
      · skip
        have tc_41 := ti_ne c_41
        refine lv_aload_n G0.1 G0.2.1 dX11_buy_19 rfl (lv_at hl 0 rfl) ?_
        refine py_get (C := RX11) (T := TX11) (N := 16) (k := 9) (v := .ref (G.2 x 9)) G0 hw in_X11_buy_X11 rfl hr_24 (by decide) (by decide +kernel) rfl dX11_buy_20 ?_
        obtain ⟨t_42, t_43, t_44⟩ := wt_0 hG t_10
        obtain ⟨v_45, v_46, hr_49, b_47, b_48⟩ := wg_0 hWF t_10
        refine py_get (C := RX0) (T := TX0) (N := 5) (k := 3) (v := .int v_45) G0 hw in_X11_buy_X0 rfl hr_49 (by decide) (by decide +kernel) rfl dX11_buy_23 ?_
        refine lv_bipush (v := 40) G0.1 G0.2.1 dX11_buy_26 (by decide) ?_
        refine lv_icmp_lt (tgt := 33) G0.1 G0.2.1 dX11_buy_28 (by decide) (fun c_50 => ?_) (fun c_50 => ?_)
        · skip
          have tc_50 := ti_lt c_50
          refine lv_aload_n G0.1 G0.2.1 dX11_buy_33 rfl (lv_at hl 0 rfl) ?_
          refine py_get (C := RX11) (T := TX11) (N := 16) (k := 5) (v := .ref (G.2 x 5)) G0 hw in_X11_buy_X11 rfl hr_24 (by decide) (by decide +kernel) rfl dX11_buy_34 ?_
          obtain ⟨t_51, t_52, t_53, t_54, t_55, t_56, t_57, t_58, t_59⟩ := wt_2 hG t_6
          obtain ⟨r_60, y_61, v_62, hr_65, ty_63, b_64⟩ := wg_2 hWF t_6
          refine py_get (C := RX2) (T := TX2) (N := 12) (k := 6) (v := .ref (G.2 (G.2 x 5) 6)) G0 hw in_X11_buy_X2 rfl hr_65 (by decide) (by decide +kernel) rfl dX11_buy_37 ?_
          refine lv_iload_n G0.1 G0.2.1 dX11_buy_40 rfl (lv_at hl 1 rfl) ?_
          obtain ⟨g_66, ha_67, hi_68⟩ := wf_arr (n := 10) (lo := (-2147483648)) (hi := 2147483647) hWF t_57 (by decide) (fun _ => rfl)
          have rg_69 : vp_in a 10 := ti_in (by omega) (by omega)
          refine py_iald G0 hw ha_67 rg_69 dX11_buy_41 ?_
          refine lv_topi (fun x_70 ex_70 => ?_)
          have bx_70 := wf_free x_70
          refine lv_iload_n G0.1 G0.2.1 dX11_buy_42 rfl (lv_at hl 2 rfl) ?_
          refine lv_iadd G0.1 G0.2.1 dX11_buy_43 ?_
          refine lv_topi (fun x_71 ex_71 => ?_)
          first | have tx_71 := ti_add ex_71 (by omega) (by omega) | skip
          refine py_calli hw (va_runS (As := [.int x_71]) (rest := []) G0 (c_X11_mayBeBought l E G L f H_36.size x_71 hG hWF) (va_cwS 1 G0.2.2.2.2 g_X11_buy_X11_mayBeBought_249 rfl rfl rfl (by decide +kernel) ⟨(Nat.le_of_ble_eq_true rfl), (Nat.le_of_ble_eq_true rfl)⟩) (py_preS hw) rfl rfl hl.1 rfl (lv_room (Nat.le_of_ble_eq_true rfl)) dX11_buy_44 ⟨(Nat.le_of_ble_eq_true rfl), (Nat.le_of_ble_eq_true rfl)⟩) (fun r_76 L_72 f_73 H_74 locs hp_75 hw => ?_)
          obtain ⟨b_78, en_77, rfl, rfl⟩ := hp_75
          refine lv_if_ne (tgt := 52) G0.1 G0.2.1 dX11_buy_47 (by decide) (fun c_79 => ?_) (fun c_79 => ?_)
          · skip
            have tc_79 := ti_ne c_79
            refine lv_aload_n G0.1 G0.2.1 dX11_buy_52 rfl (lv_at hl 0 rfl) ?_
            refine py_get (C := RX11) (T := TX11) (N := 16) (k := 9) (v := .ref (G.2 x 9)) G0 hw in_X11_buy_X11 rfl hr_24 (by decide) (by decide +kernel) rfl dX11_buy_53 ?_
            refine lv_iload_n G0.1 G0.2.1 dX11_buy_56 rfl (lv_at hl 1 rfl) ?_
            refine lv_iload_n G0.1 G0.2.1 dX11_buy_57 rfl (lv_at hl 2 rfl) ?_
            refine py_calli hw (va_runV (As := [.int a, .int b]) (rest := []) G0 (c_X0_add l E G L f H_74.size (G.2 x 9) a b hG hWF t_10 ⟨by omega, by omega⟩) (cwV 2 G0.2.2.2.2 g_X11_buy_X0_add_252 rfl rfl rfl (by decide +kernel) ⟨(Nat.le_of_ble_eq_true rfl), (Nat.le_of_ble_eq_true rfl)⟩) (py_preV hw (C := RX0) (T := TX0) (N := 5) rfl hr_49) rfl rfl hl.1 rfl (lv_room (Nat.le_of_ble_eq_true rfl)) dX11_buy_58 ⟨(Nat.le_of_ble_eq_true rfl), (Nat.le_of_ble_eq_true rfl)⟩) (fun r_84 L_80 f_81 H_82 locs hp_83 hw => ?_)
            have ht_87 := fo_ty hWF t_6
            obtain ⟨hWF, hq_85, kp_86⟩ := hp_83
            have hGI := hGI.kp hG Tx ht_87 hq_85 kp_86 (by decide)
            have hKP := hKP.trans kp_86 (by decide) (by decide)
            have hr_24 := kp_at kp_86 hWF Tx (by decide) (by decide) (by decide) hr_24
            have hr_65 := kp_at kp_86 hWF t_6 (by decide) (by decide) (by decide) hr_65
            have ha_67 := kp_at kp_86 hWF t_57 (by decide) (by decide) (by decide) ha_67
            have br_84 := wf_free r_84
            refine lv_istore_n (lv' := [(3, .int r_84), (0, .ref x), (1, .int a), (2, .int b)]) G0.1 G0.2.1 dX11_buy_61 rfl hl (by decide) rfl (fun ls hl => ?_)
            refine lv_aload_n G0.1 G0.2.1 dX11_buy_62 rfl (lv_at hl 1 rfl) ?_
            refine py_get (C := RX11) (T := TX11) (N := 16) (k := 5) (v := .ref (G.2 x 5)) G0 hw in_X11_buy_X11 rfl hr_24 (by decide) (by decide +kernel) rfl dX11_buy_63 ?_
            refine py_get (C := RX2) (T := TX2) (N := 12) (k := 6) (v := .ref (G.2 (G.2 x 5) 6)) G0 hw in_X11_buy_X2 rfl hr_65 (by decide) (by decide +kernel) rfl dX11_buy_66 ?_
            refine lv_iload_n G0.1 G0.2.1 dX11_buy_69 rfl (lv_at hl 2 rfl) ?_
            refine lv_dup2_11 G0.1 G0.2.1 dX11_buy_70 rfl rfl ?_
            have rg_88 : vp_in a 10 := ti_in (by omega) (by omega)
            refine py_iald G0 hw ha_67 rg_88 dX11_buy_71 ?_
            refine lv_topi (fun x_89 ex_89 => ?_)
            have bx_89 := wf_free x_89
            refine lv_iload_n G0.1 G0.2.1 dX11_buy_72 rfl (lv_at hl 3 rfl) ?_
            refine lv_iadd G0.1 G0.2.1 dX11_buy_73 ?_
            refine lv_topi (fun x_90 ex_90 => ?_)
            first | have tx_90 := ti_add ex_90 (by omega) (by omega) | skip
            have rg_91 : vp_in a 10 := ti_in (by omega) (by omega)
            refine py_iast G0 hw ha_67 rg_91 dX11_buy_74 (fun f_92 H_93 locs h_94 x_95 hw => ?_)
            have hGI := hGI.kp hG Tx (fo_ty hWF t_6) (rp_upd hG hWF x_95 ha_67.2 h_94.2 (rp_code hG t_57 (by decide)) rfl : RP E G f_81 f_92) (KP.refl.upd hWF x_95 t_57 (Or.inl (by decide)) : KP G [26] false f_81 f_92) (by decide)
            have hKP := hKP.upd hWF x_95 t_57 (Or.inl (by decide))
            have hi_96 := wf_inu (k := (a : Int32).toNatClampNeg) (x := x_90) hi_68 (wf_free x_90).1 (wf_free x_90).2
            have hWF := wf_upd hWF h_94 x_95 (by rw [t_57]; exact ⟨_, rfl, hi_96⟩)
            have hr_24 := hr_24.ext x_95 (py_ne_arr hr_24 ha_67)
            have hr_65 := hr_65.ext x_95 (py_ne_arr hr_65 ha_67)
            refine lv_aload_n G0.1 G0.2.1 dX11_buy_75 rfl (lv_at hl 1 rfl) ?_
            refine py_get (C := RX11) (T := TX11) (N := 16) (k := 5) (v := .ref (G.2 x 5)) G0 hw in_X11_buy_X11 rfl hr_24 (by decide) (by decide +kernel) rfl dX11_buy_76 ?_
            refine py_get (C := RX2) (T := TX2) (N := 12) (k := 7) (v := .ref (G.2 (G.2 x 5) 7)) G0 hw in_X11_buy_X2 rfl hr_65 (by decide) (by decide +kernel) rfl dX11_buy_79 ?_
            refine lv_iload_n G0.1 G0.2.1 dX11_buy_82 rfl (lv_at hl 2 rfl) ?_
            refine lv_dup2_11 G0.1 G0.2.1 dX11_buy_83 rfl rfl ?_
            obtain ⟨g_97, ha_98, hi_99⟩ := wf_arr (n := 10) (lo := (-2147483648)) (hi := 2147483647) hWF t_58 (by decide) (fun _ => rfl)
            have rg_100 : vp_in a 10 := ti_in (by omega) (by omega)
            refine py_iald G0 hw ha_98 rg_100 dX11_buy_84 ?_
            refine lv_topi (fun x_101 ex_101 => ?_)
            have bx_101 := wf_free x_101
            refine lv_iload_n G0.1 G0.2.1 dX11_buy_85 rfl (lv_at hl 0 rfl) ?_
            refine lv_iadd G0.1 G0.2.1 dX11_buy_86 ?_
            refine lv_topi (fun x_102 ex_102 => ?_)
            first | have tx_102 := ti_add ex_102 (by omega) (by omega) | skip
            have rg_103 : vp_in a 10 := ti_in (by omega) (by omega)
            refine py_iast G0 hw ha_98 rg_103 dX11_buy_87 (fun f_104 H_105 locs h_106 x_107 hw => ?_)
            have hGI := hGI.kp hG Tx (fo_ty hWF t_6) (rp_upd hG hWF x_107 ha_98.2 h_106.2 (rp_code hG t_58 (by decide)) rfl : RP E G f_92 f_104) (KP.refl.upd hWF x_107 t_58 (Or.inl (by decide)) : KP G [26] false f_92 f_104) (by decide)
            have hKP := hKP.upd hWF x_107 t_58 (Or.inl (by decide))
            have hi_108 := wf_inu (k := (a : Int32).toNatClampNeg) (x := x_102) hi_99 (wf_free x_102).1 (wf_free x_102).2
            have hWF := wf_upd hWF h_106 x_107 (by rw [t_58]; exact ⟨_, rfl, hi_108⟩)
            have hr_24 := hr_24.ext x_107 (py_ne_arr hr_24 ha_98)
            have hr_65 := hr_65.ext x_107 (py_ne_arr hr_65 ha_98)
            refine lv_iload_n G0.1 G0.2.1 dX11_buy_88 rfl (lv_at hl 0 rfl) ?_
            exact py_iret G0 hr rfl hlk hw ⟨hWF, hKP, hGI⟩ dX11_buy_89
          · skip
            have tc_79 := ti_eq c_79
            refine lv_iconst (v := (-1)) G0.1 G0.2.1 dX11_buy_50 (by decide) ?_
            exact py_iret G0 hr rfl hlk hw ⟨hWF, hKP, hGI⟩ dX11_buy_51
        · skip
          have tc_50 := ti_nlt c_50
          refine lv_iconst (v := (-1)) G0.1 G0.2.1 dX11_buy_31 (by decide) ?_
          exact py_iret G0 hr rfl hlk hw ⟨hWF, hKP, hGI⟩ dX11_buy_32

def w_X11_undo : List Cond := .code yX11_undo cX11_undo 3 (some .int) :: ([Cond.fieldLink RX11 67 "HeadYear" "buyings" "LHeadYear$Buyings;", Cond.fieldLink RX11 240 "HeadYear$Buyings" "count" "I", Cond.fieldLink RX11 255 "HeadYear$Buyings" "family" "[I", Cond.fieldLink RX11 47 "HeadYear" "folk" "LHeadYear$Folk;", Cond.fieldLink RX11 188 "HeadYear$Folk" "bought" "[I", Cond.fieldLink RX11 258 "HeadYear$Buyings" "levels" "[I", Cond.fieldLink RX11 195 "HeadYear$Folk" "spent" "[I", Cond.fieldLink RX11 261 "HeadYear$Buyings" "cost" "[I"] ++ (u_ws RX11 TX11 16 ++ (u_ws RX0 TX0 5 ++ (u_ws RX2 TX2 12 ++ ([])))))
theorem in_X11_undo_X11 : ∀ w ∈ u_ws RX11 TX11 16, w ∈ w_X11_undo := fun _ h => List.mem_cons_of_mem _ (List.mem_append_right _ (List.mem_append_left _ h))
theorem in_X11_undo_X0 : ∀ w ∈ u_ws RX0 TX0 5, w ∈ w_X11_undo := fun _ h => List.mem_cons_of_mem _ (List.mem_append_right _ (List.mem_append_right _ (List.mem_append_left _ h)))
theorem in_X11_undo_X2 : ∀ w ∈ u_ws RX2 TX2 12, w ∈ w_X11_undo := fun _ h => List.mem_cons_of_mem _ (List.mem_append_right _ (List.mem_append_right _ (List.mem_append_right _ (List.mem_append_left _ h))))
set_option maxHeartbeats 4000000 in
set_option maxRecDepth 100000 in
theorem c_X11_undo (l : Launch) (E : py_E) (G : wf_G) (L : List Nat) (f : py_F) (sz : Nat) (x : Nat) (hG : GT G) (hWF : WF E G L f) (Tx : G.1 x = 12) (hq0 : GI E G f x) : Met l yX11_undo w_X11_undo ({ frames := 0, cells := 0, slots := 0, locals := 0 }) (py_Pc E [.ref x] L f sz) (py_Qi E L f sz (fun _ L1 f1 => WF E G L1 f1 ∧ KP G [1, 26] false f f1 ∧ GI E G f1 x)) 0 0 (va_A (va_pl L f) sz) := by
  refine Met.ofW (cc := cX11_undo) (maxL := 3) (ret := (some .int)) (by decide) rfl ?_
  intro p e s m args below meth c s₁ B hml hv
  obtain ⟨rfl, rfl, hw⟩ := py_start hv
  have G0 : CallFix p m c cX11_undo 3 s _ w_X11_undo RX11 := ⟨B.exec, B.bytes, hml, findClass_of_methodNamed B.named, atoms_spec (ws := w_X11_undo) B.pre⟩
  have hr := B.returns
  have hlk := B.notSynchronized
  have kcm1 : (-1 : Int32).toInt = -1 := rfl
  have kc0 : (0 : Int32).toInt = 0 := rfl
  have kc1 : (1 : Int32).toInt = 1 := rfl
  have hGI := hq0
  have hKP : KP G [1, 26] false f f := KP.refl
  obtain ⟨t_1, t_2, t_3, t_4, t_5, t_6, t_7, t_8, t_9, t_10, t_11, t_12, t_13, tx_14, tx_15, tx_16, tx_17⟩ := wt_11 hG Tx
  refine lv_aload_n G0.1 G0.2.1 dX11_undo_0 rfl (lv_at hl 0 rfl) ?_
  obtain ⟨v_18, v_19, v_20, hr_24, b_21, b_22, b_23⟩ := wg_11 hWF Tx
  refine py_get (C := RX11) (T := TX11) (N := 16) (k := 9) (v := .ref (G.2 x 9)) G0 hw in_X11_undo_X11 rfl hr_24 (by decide) (by decide +kernel) rfl dX11_undo_1 ?_
  obtain ⟨t_25, t_26, t_27⟩ := wt_0 hG t_10
  obtain ⟨v_28, v_29, hr_32, b_30, b_31⟩ := wg_0 hWF t_10
  refine py_get (C := RX0) (T := TX0) (N := 5) (k := 3) (v := .int v_28) G0 hw in_X11_undo_X0 rfl hr_32 (by decide) (by decide +kernel) rfl dX11_undo_4 ?_
  refine lv_iconst (v := 1) G0.1 G0.2.1 dX11_undo_7 (by decide) ?_
  refine lv_icmp_ge (tgt := 13) G0.1 G0.2.1 dX11_undo_8 (by decide) (fun c_33 => ?_) (fun c_33 => ?_)
  · skip
    have tc_33 := ti_le c_33
    refine lv_aload_n G0.1 G0.2.1 dX11_undo_13 rfl (lv_at hl 0 rfl) ?_
    refine py_get (C := RX11) (T := TX11) (N := 16) (k := 9) (v := .ref (G.2 x 9)) G0 hw in_X11_undo_X11 rfl hr_24 (by decide) (by decide +kernel) rfl dX11_undo_14 ?_
    refine py_get (C := RX0) (T := TX0) (N := 5) (k := 3) (v := .int v_28) G0 hw in_X11_undo_X0 rfl hr_32 (by decide) (by decide +kernel) rfl dX11_undo_17 ?_
    refine lv_iconst (v := 1) G0.1 G0.2.1 dX11_undo_20 (by decide) ?_
    refine lv_isub G0.1 G0.2.1 dX11_undo_21 ?_
    refine lv_topi (fun x_34 ex_34 => ?_)
    first | have tx_34 := ti_sub ex_34 (by omega) (by omega) | skip
    refine lv_istore_n (lv' := [(1, .int x_34), (0, .ref x)]) G0.1 G0.2.1 dX11_undo_22 rfl hl (by decide) rfl (fun ls hl => ?_)
    refine lv_aload_n G0.1 G0.2.1 dX11_undo_23 rfl (lv_at hl 1 rfl) ?_
    refine py_get (C := RX11) (T := TX11) (N := 16) (k := 9) (v := .ref (G.2 x 9)) G0 hw in_X11_undo_X11 rfl hr_24 (by decide) (by decide +kernel) rfl dX11_undo_24 ?_
    refine py_get (C := RX0) (T := TX0) (N := 5) (k := 0) (v := .ref (G.2 (G.2 x 9) 0)) G0 hw in_X11_undo_X0 rfl hr_32 (by decide) (by decide +kernel) rfl dX11_undo_27 ?_
    refine lv_iload_n G0.1 G0.2.1 dX11_undo_30 rfl (lv_at hl 0 rfl) ?_
    obtain ⟨g_35, ha_36, hi_37⟩ := wf_arr (n := 40) (lo := 0) (hi := 9) hWF t_25 (by decide) (fun _ => rfl)
    have rg_38 : vp_in x_34 40 := ti_in (by omega) (by omega)
    refine py_iald G0 hw ha_36 rg_38 dX11_undo_31 ?_
    refine lv_topi (fun x_39 ex_39 => ?_)
    have bx_39 := ti_at hi_37 rg_38 ex_39
    refine lv_istore_n (lv' := [(2, .int x_39), (1, .int x_34), (0, .ref x)]) G0.1 G0.2.1 dX11_undo_32 rfl hl (by decide) rfl (fun ls hl => ?_)
    refine lv_aload_n G0.1 G0.2.1 dX11_undo_33 rfl (lv_at hl 2 rfl) ?_
    refine py_get (C := RX11) (T := TX11) (N := 16) (k := 5) (v := .ref (G.2 x 5)) G0 hw in_X11_undo_X11 rfl hr_24 (by decide) (by decide +kernel) rfl dX11_undo_34 ?_
    obtain ⟨t_40, t_41, t_42, t_43, t_44, t_45, t_46, t_47, t_48⟩ := wt_2 hG t_6
    obtain ⟨r_49, y_50, v_51, hr_54, ty_52, b_53⟩ := wg_2 hWF t_6
    refine py_get (C := RX2) (T := TX2) (N := 12) (k := 6) (v := .ref (G.2 (G.2 x 5) 6)) G0 hw in_X11_undo_X2 rfl hr_54 (by decide) (by decide +kernel) rfl dX11_undo_37 ?_
    refine lv_iload_n G0.1 G0.2.1 dX11_undo_40 rfl (lv_at hl 0 rfl) ?_
    refine lv_dup2_11 G0.1 G0.2.1 dX11_undo_41 rfl rfl ?_
    obtain ⟨g_55, ha_56, hi_57⟩ := wf_arr (n := 10) (lo := (-2147483648)) (hi := 2147483647) hWF t_46 (by decide) (fun _ => rfl)
    have rg_58 : vp_in x_39 10 := ti_in (by omega) (by omega)
    refine py_iald G0 hw ha_56 rg_58 dX11_undo_42 ?_
    refine lv_topi (fun x_59 ex_59 => ?_)
    have bx_59 := wf_free x_59
    refine lv_aload_n G0.1 G0.2.1 dX11_undo_43 rfl (lv_at hl 2 rfl) ?_
    refine py_get (C := RX11) (T := TX11) (N := 16) (k := 9) (v := .ref (G.2 x 9)) G0 hw in_X11_undo_X11 rfl hr_24 (by decide) (by decide +kernel) rfl dX11_undo_44 ?_
    refine py_get (C := RX0) (T := TX0) (N := 5) (k := 1) (v := .ref (G.2 (G.2 x 9) 1)) G0 hw in_X11_undo_X0 rfl hr_32 (by decide) (by decide +kernel) rfl dX11_undo_47 ?_
    refine lv_iload_n G0.1 G0.2.1 dX11_undo_50 rfl (lv_at hl 1 rfl) ?_
    obtain ⟨g_60, ha_61, hi_62⟩ := wf_arr (n := 40) (lo := (-2147483648)) (hi := 2147483647) hWF t_26 (by decide) (fun _ => rfl)
    have rg_63 : vp_in x_34 40 := ti_in (by omega) (by omega)
    refine py_iald G0 hw ha_61 rg_63 dX11_undo_51 ?_
    refine lv_topi (fun x_64 ex_64 => ?_)
    have bx_64 := wf_free x_64
    refine lv_isub G0.1 G0.2.1 dX11_undo_52 ?_
    refine lv_topi (fun x_65 ex_65 => ?_)
    first | have tx_65 := ti_sub ex_65 (by omega) (by omega) | skip
    have rg_66 : vp_in x_39 10 := ti_in (by omega) (by omega)
    refine py_iast G0 hw ha_56 rg_66 dX11_undo_53 (fun f_67 H_68 locs h_69 x_70 hw => ?_)
    have hGI := hGI.kp hG Tx (fo_ty hWF t_6) (rp_upd hG hWF x_70 ha_56.2 h_69.2 (rp_code hG t_46 (by decide)) rfl : RP E G f f_67) (KP.refl.upd hWF x_70 t_46 (Or.inl (by decide)) : KP G [26] false f f_67) (by decide)
    have hKP := hKP.upd hWF x_70 t_46 (Or.inl (by decide))
    have hi_71 := wf_inu (k := (x_39 : Int32).toNatClampNeg) (x := x_65) hi_57 (wf_free x_65).1 (wf_free x_65).2
    have hWF := wf_upd hWF h_69 x_70 (by rw [t_46]; exact ⟨_, rfl, hi_71⟩)
    have hr_24 := hr_24.ext x_70 (py_ne_arr hr_24 ha_56)
    have hr_32 := hr_32.ext x_70 (py_ne_arr hr_32 ha_56)
    have hr_54 := hr_54.ext x_70 (py_ne_arr hr_54 ha_56)
    have ha_36 := ha_36.ext x_70 (wf_ne t_25 t_46 (by decide))
    have ha_61 := ha_61.ext x_70 (wf_ne t_26 t_46 (by decide))
    refine lv_aload_n G0.1 G0.2.1 dX11_undo_54 rfl (lv_at hl 2 rfl) ?_
    refine py_get (C := RX11) (T := TX11) (N := 16) (k := 5) (v := .ref (G.2 x 5)) G0 hw in_X11_undo_X11 rfl hr_24 (by decide) (by decide +kernel) rfl dX11_undo_55 ?_
    refine py_get (C := RX2) (T := TX2) (N := 12) (k := 7) (v := .ref (G.2 (G.2 x 5) 7)) G0 hw in_X11_undo_X2 rfl hr_54 (by decide) (by decide +kernel) rfl dX11_undo_58 ?_
    refine lv_iload_n G0.1 G0.2.1 dX11_undo_61 rfl (lv_at hl 0 rfl) ?_
    refine lv_dup2_11 G0.1 G0.2.1 dX11_undo_62 rfl rfl ?_
    obtain ⟨g_72, ha_73, hi_74⟩ := wf_arr (n := 10) (lo := (-2147483648)) (hi := 2147483647) hWF t_47 (by decide) (fun _ => rfl)
    have rg_75 : vp_in x_39 10 := ti_in (by omega) (by omega)
    refine py_iald G0 hw ha_73 rg_75 dX11_undo_63 ?_
    refine lv_topi (fun x_76 ex_76 => ?_)
    have bx_76 := wf_free x_76
    refine lv_aload_n G0.1 G0.2.1 dX11_undo_64 rfl (lv_at hl 2 rfl) ?_
    refine py_get (C := RX11) (T := TX11) (N := 16) (k := 9) (v := .ref (G.2 x 9)) G0 hw in_X11_undo_X11 rfl hr_24 (by decide) (by decide +kernel) rfl dX11_undo_65 ?_
    refine py_get (C := RX0) (T := TX0) (N := 5) (k := 2) (v := .ref (G.2 (G.2 x 9) 2)) G0 hw in_X11_undo_X0 rfl hr_32 (by decide) (by decide +kernel) rfl dX11_undo_68 ?_
    refine lv_iload_n G0.1 G0.2.1 dX11_undo_71 rfl (lv_at hl 1 rfl) ?_
    obtain ⟨g_77, ha_78, hi_79⟩ := wf_arr (n := 40) (lo := (-2147483648)) (hi := 2147483647) hWF t_27 (by decide) (fun _ => rfl)
    have rg_80 : vp_in x_34 40 := ti_in (by omega) (by omega)
    refine py_iald G0 hw ha_78 rg_80 dX11_undo_72 ?_
    refine lv_topi (fun x_81 ex_81 => ?_)
    have bx_81 := wf_free x_81
    refine lv_isub G0.1 G0.2.1 dX11_undo_73 ?_
    refine lv_topi (fun x_82 ex_82 => ?_)
    first | have tx_82 := ti_sub ex_82 (by omega) (by omega) | skip
    have rg_83 : vp_in x_39 10 := ti_in (by omega) (by omega)
    refine py_iast G0 hw ha_73 rg_83 dX11_undo_74 (fun f_84 H_85 locs h_86 x_87 hw => ?_)
    have hGI := hGI.kp hG Tx (fo_ty hWF t_6) (rp_upd hG hWF x_87 ha_73.2 h_86.2 (rp_code hG t_47 (by decide)) rfl : RP E G f_67 f_84) (KP.refl.upd hWF x_87 t_47 (Or.inl (by decide)) : KP G [26] false f_67 f_84) (by decide)
    have hKP := hKP.upd hWF x_87 t_47 (Or.inl (by decide))
    have hi_88 := wf_inu (k := (x_39 : Int32).toNatClampNeg) (x := x_82) hi_74 (wf_free x_82).1 (wf_free x_82).2
    have hWF := wf_upd hWF h_86 x_87 (by rw [t_47]; exact ⟨_, rfl, hi_88⟩)
    have hr_24 := hr_24.ext x_87 (py_ne_arr hr_24 ha_73)
    have hr_32 := hr_32.ext x_87 (py_ne_arr hr_32 ha_73)
    have hr_54 := hr_54.ext x_87 (py_ne_arr hr_54 ha_73)
    have ha_36 := ha_36.ext x_87 (wf_ne t_25 t_47 (by decide))
    have ha_61 := ha_61.ext x_87 (wf_ne t_26 t_47 (by decide))
    have ha_78 := ha_78.ext x_87 (wf_ne t_27 t_47 (by decide))
    refine lv_aload_n G0.1 G0.2.1 dX11_undo_75 rfl (lv_at hl 2 rfl) ?_
    refine py_get (C := RX11) (T := TX11) (N := 16) (k := 9) (v := .ref (G.2 x 9)) G0 hw in_X11_undo_X11 rfl hr_24 (by decide) (by decide +kernel) rfl dX11_undo_76 ?_
    refine lv_iload_n G0.1 G0.2.1 dX11_undo_79 rfl (lv_at hl 1 rfl) ?_
    refine py_put (C := RX0) (T := TX0) (N := 5) (k := 3) (v := .int x_34) (fs' := [.ref (G.2 (G.2 x 9) 0), .ref (G.2 (G.2 x 9) 1), .ref (G.2 (G.2 x 9) 2), .int x_34, .int v_29]) (ty0 := tyX0) G0 hw tyX0_ok nmX0 in_X11_undo_X0 rfl hr_32 (by decide) (by decide +kernel) rfl rfl rfl rfl (Nat.le_of_ble_eq_true rfl) rfl dX11_undo_80 (fun f_89 H_90 locs h_91 x_92 hw => ?_)
    have hGI := hGI.kp hG Tx (fo_ty hWF t_6) (rp_upd hG hWF x_92 hr_32.2 h_91.2 (rp_code hG t_10 (by decide)) rfl : RP E G f_84 f_89) (KP.refl.upd hWF x_92 t_10 (Or.inl (by decide)) : KP G [1] false f_84 f_89) (by decide)
    have hKP := hKP.upd hWF x_92 t_10 (Or.inl (by decide))
    have hWF := wf_upd hWF h_91 x_92 (by rw [t_10]; exact ⟨x_34, v_29, rfl, ⟨by omega, by omega⟩, ⟨by omega, by omega⟩⟩)
    have h_86 := h_86.ext x_92 (Ne.symm (py_ne_arr hr_32 h_86))
    have ha_36 := ha_36.ext x_92 (Ne.symm (py_ne_arr hr_32 ha_36))
    have ha_61 := ha_61.ext x_92 (Ne.symm (py_ne_arr hr_32 ha_61))
    have ha_78 := ha_78.ext x_92 (Ne.symm (py_ne_arr hr_32 ha_78))
    have hr_24 := hr_24.ext x_92 (py_ne_kind hr_24 hr_32 (by decide))
    have hr_54 := hr_54.ext x_92 (py_ne_kind hr_54 hr_32 (by decide))
    refine lv_iload_n G0.1 G0.2.1 dX11_undo_83 rfl (lv_at hl 0 rfl) ?_
    exact py_iret G0 hr rfl hlk hw ⟨hWF, hKP, hGI⟩ dX11_undo_84
  · skip
    have tc_33 := ti_nle c_33
    refine lv_iconst (v := (-1)) G0.1 G0.2.1 dX11_undo_11 (by decide) ?_
    exact py_iret G0 hr rfl hlk hw ⟨hWF, hKP, hGI⟩ dX11_undo_12

def w_X11_hush : List Cond := .code yX11_hush cX11_hush 3 (some .boolean) :: ([Cond.methodLink RX11 246 yX11_lives, Cond.instanceMethod yX11_lives, Cond.selects RX11 yX11_lives yX11_lives, Cond.initialized RX11, Cond.fieldLink RX11 47 "HeadYear" "folk" "LHeadYear$Folk;", Cond.fieldLink RX11 191 "HeadYear$Folk" "hushed" "[Z"] ++ (u_ws RX11 TX11 16 ++ (u_ws RX2 TX2 12 ++ (w_X11_lives ++ ([])))))
theorem in_X11_hush_X11 : ∀ w ∈ u_ws RX11 TX11 16, w ∈ w_X11_hush := fun _ h => List.mem_cons_of_mem _ (List.mem_append_right _ (List.mem_append_left _ h))
theorem in_X11_hush_X2 : ∀ w ∈ u_ws RX2 TX2 12, w ∈ w_X11_hush := fun _ h => List.mem_cons_of_mem _ (List.mem_append_right _ (List.mem_append_right _ (List.mem_append_left _ h)))
theorem gg_X11_hush_X11_lives : GoodIn w_X11_hush w_X11_lives := goodIn_sub (fun _ h => List.mem_cons_of_mem _ (List.mem_append_right _ (List.mem_append_right _ (List.mem_append_right _ (List.mem_append_left _ h))))) (by decide +kernel)
theorem g_X11_hush_X11_lives_246 : GoodIn w_X11_hush (wsV RX11 246 RX11 yX11_lives w_X11_lives) := goodIn_app (goodIn_of _ (by decide +kernel)) gg_X11_hush_X11_lives
set_option maxHeartbeats 4000000 in
set_option maxRecDepth 100000 in
theorem c_X11_hush (l : Launch) (E : py_E) (G : wf_G) (L : List Nat) (f : py_F) (sz : Nat) (x : Nat) (a : Int32) (b : Int32) (hG : GT G) (hWF : WF E G L f) (Tx : G.1 x = 12) (Bb : (0 ≤ b.toInt ∧ b.toInt ≤ 1)) (hq0 : GI E G f x) : Met l yX11_hush w_X11_hush ({ frames := 2, cells := 0, slots := 0, locals := 42 }) (py_Pc E [.ref x, .int a, .int b] L f sz) (py_Qi E L f sz (fun r L1 f1 => (0 ≤ r.toInt ∧ r.toInt ≤ 1) ∧ WF E G L1 f1 ∧ KP G [30] false f f1 ∧ GI E G f1 x)) 0 0 (va_A (va_pl L f) sz) := by
  refine Met.ofW (cc := cX11_hush) (maxL := 3) (ret := (some .boolean)) (by decide) rfl ?_
  intro p e s m args below meth c s₁ B hml hv
  obtain ⟨rfl, rfl, hw⟩ := py_start hv
  have G0 : CallFix p m c cX11_hush 3 s _ w_X11_hush RX11 := ⟨B.exec, B.bytes, hml, findClass_of_methodNamed B.named, atoms_spec (ws := w_X11_hush) B.pre⟩
  have hr := B.returns
  have hlk := B.notSynchronized
  have kcm1 : (-1 : Int32).toInt = -1 := rfl
  have kc0 : (0 : Int32).toInt = 0 := rfl
  have kc1 : (1 : Int32).toInt = 1 := rfl
  have hGI := hq0
  have hKP : KP G [30] false f f := KP.refl
  obtain ⟨t_1, t_2, t_3, t_4, t_5, t_6, t_7, t_8, t_9, t_10, t_11, t_12, t_13, tx_14, tx_15, tx_16, tx_17⟩ := wt_11 hG Tx
  refine lv_aload_n G0.1 G0.2.1 dX11_hush_0 rfl (lv_at hl 0 rfl) ?_
  refine lv_iload_n G0.1 G0.2.1 dX11_hush_1 rfl (lv_at hl 1 rfl) ?_
  obtain ⟨v_18, v_19, v_20, hr_24, b_21, b_22, b_23⟩ := wg_11 hWF Tx
  refine py_calli hw (va_runV (As := [.int a]) (rest := []) G0 (c_X11_lives l E G L f s.heap.size x a hG hWF Tx) (cwV 1 G0.2.2.2.2 g_X11_hush_X11_lives_246 rfl rfl rfl (by decide +kernel) ⟨(Nat.le_of_ble_eq_true rfl), (Nat.le_of_ble_eq_true rfl)⟩) (py_preV hw (C := RX11) (T := TX11) (N := 16) rfl hr_24) rfl rfl hl.1 rfl (lv_room (Nat.le_of_ble_eq_true rfl)) dX11_hush_2 ⟨(Nat.le_of_ble_eq_true rfl), (Nat.le_of_ble_eq_true rfl)⟩) (fun r_29 L_25 f_26 H_27 locs hp_28 hw => ?_)
  obtain ⟨b_31, en_30, rfl, rfl⟩ := hp_28
  refine lv_if_eq (tgt := 21) G0.1 G0.2.1 dX11_hush_5 (by decide) (fun c_32 => ?_) (fun c_32 => ?_)
  · skip
    have tc_32 := ti_eq c_32
    refine lv_iconst (v := 0) G0.1 G0.2.1 dX11_hush_21 (by decide) ?_
    exact py_iret G0 hr rfl hlk hw ⟨⟨by omega, by omega⟩, hWF, hKP, hGI⟩ dX11_hush_22
  · skip
    have tc_32 := ti_ne c_32
    refine lv_aload_n G0.1 G0.2.1 dX11_hush_8 rfl (lv_at hl 0 rfl) ?_
    refine py_get (C := RX11) (T := TX11) (N := 16) (k := 5) (v := .ref (G.2 x 5)) G0 hw in_X11_hush_X11 rfl hr_24 (by decide) (by decide +kernel) rfl dX11_hush_9 ?_
    obtain ⟨t_33, t_34, t_35, t_36, t_37, t_38, t_39, t_40, t_41⟩ := wt_2 hG t_6
    obtain ⟨r_42, y_43, v_44, hr_47, ty_45, b_46⟩ := wg_2 hWF t_6
    refine py_get (C := RX2) (T := TX2) (N := 12) (k := 8) (v := .ref (G.2 (G.2 x 5) 8)) G0 hw in_X11_hush_X2 rfl hr_47 (by decide) (by decide +kernel) rfl dX11_hush_12 ?_
    refine lv_iload_n G0.1 G0.2.1 dX11_hush_15 rfl (lv_at hl 1 rfl) ?_
    obtain ⟨g_48, ha_49⟩ := wf_z30 hWF t_41
    have rg_50 : vp_in a 10 := ti_in (by omega) (by omega)
    refine py_zald G0 hw ha_49 rg_50 dX11_hush_16 ?_
    refine lv_topi (fun x_51 ex_51 => ?_)
    refine lv_iload_n G0.1 G0.2.1 dX11_hush_17 rfl (lv_at hl 2 rfl) ?_
    refine lv_icmp_ne (tgt := 23) G0.1 G0.2.1 dX11_hush_18 (by decide) (fun c_52 => ?_) (fun c_52 => ?_)
    · skip
      have tc_52 := ti_ne c_52
      refine lv_aload_n G0.1 G0.2.1 dX11_hush_23 rfl (lv_at hl 0 rfl) ?_
      refine py_get (C := RX11) (T := TX11) (N := 16) (k := 5) (v := .ref (G.2 x 5)) G0 hw in_X11_hush_X11 rfl hr_24 (by decide) (by decide +kernel) rfl dX11_hush_24 ?_
      refine py_get (C := RX2) (T := TX2) (N := 12) (k := 8) (v := .ref (G.2 (G.2 x 5) 8)) G0 hw in_X11_hush_X2 rfl hr_47 (by decide) (by decide +kernel) rfl dX11_hush_27 ?_
      refine lv_iload_n G0.1 G0.2.1 dX11_hush_30 rfl (lv_at hl 1 rfl) ?_
      refine lv_iload_n G0.1 G0.2.1 dX11_hush_31 rfl (lv_at hl 2 rfl) ?_
      obtain ⟨g_53, ha_54⟩ := wf_z30 hWF t_41
      have rg_55 : vp_in a 10 := ti_in (by omega) (by omega)
      refine py_zast G0 hw ha_54 rg_55 dX11_hush_32 (fun f_56 H_57 locs h_58 x_59 hw => ?_)
      have hGI := hGI.kp hG Tx (fo_ty hWF t_6) (rp_upd hG hWF x_59 ha_54.2 h_58.2 (rp_code hG t_41 (by decide)) rfl : RP E G f f_56) (KP.refl.upd hWF x_59 t_41 (Or.inl (by decide)) : KP G [30] false f f_56) (by decide)
      have hKP := hKP.upd hWF x_59 t_41 (Or.inl (by decide))
      have hWF := wf_upd hWF h_58 x_59 (by rw [t_41]; exact ⟨_, rfl⟩)
      have hr_24 := hr_24.ext x_59 (py_ne_arr hr_24 ha_54)
      have hr_47 := hr_47.ext x_59 (py_ne_arr hr_47 ha_54)
      refine lv_iconst (v := 1) G0.1 G0.2.1 dX11_hush_33 (by decide) ?_
      exact py_iret G0 hr rfl hlk hw ⟨⟨by omega, by omega⟩, hWF, hKP, hGI⟩ dX11_hush_34
    · skip
      have tc_52 := ti_eq c_52
      refine lv_iconst (v := 0) G0.1 G0.2.1 dX11_hush_21 (by decide) ?_
      exact py_iret G0 hr rfl hlk hw ⟨⟨by omega, by omega⟩, hWF, hKP, hGI⟩ dX11_hush_22

def w_X11_waiting : List Cond := .code yX11_waiting cX11_waiting 1 (some .int) :: ([Cond.methodLink RX11 218 yX11_hasValley, Cond.instanceMethod yX11_hasValley, Cond.selects RX11 yX11_hasValley yX11_hasValley, Cond.initialized RX11, Cond.fieldLink RX11 47 "HeadYear" "folk" "LHeadYear$Folk;", Cond.methodLink RX11 264 yX2_waitingBits, Cond.instanceMethod yX2_waitingBits, Cond.selects RX2 yX2_waitingBits yX2_waitingBits, Cond.initialized RX2] ++ (u_ws RX11 TX11 16 ++ (w_X11_hasValley ++ (w_X2_waitingBits ++ ([])))))
theorem in_X11_waiting_X11 : ∀ w ∈ u_ws RX11 TX11 16, w ∈ w_X11_waiting := fun _ h => List.mem_cons_of_mem _ (List.mem_append_right _ (List.mem_append_left _ h))
theorem gg_X11_waiting_X11_hasValley : GoodIn w_X11_waiting w_X11_hasValley := goodIn_sub (fun _ h => List.mem_cons_of_mem _ (List.mem_append_right _ (List.mem_append_right _ (List.mem_append_left _ h)))) (by decide +kernel)
theorem gg_X11_waiting_X2_waitingBits : GoodIn w_X11_waiting w_X2_waitingBits := goodIn_sub (fun _ h => List.mem_cons_of_mem _ (List.mem_append_right _ (List.mem_append_right _ (List.mem_append_right _ (List.mem_append_left _ h))))) (by decide +kernel)
theorem g_X11_waiting_X11_hasValley_218 : GoodIn w_X11_waiting (wsV RX11 218 RX11 yX11_hasValley w_X11_hasValley) := goodIn_app (goodIn_of _ (by decide +kernel)) gg_X11_waiting_X11_hasValley
theorem g_X11_waiting_X2_waitingBits_264 : GoodIn w_X11_waiting (wsV RX11 264 RX2 yX2_waitingBits w_X2_waitingBits) := goodIn_app (goodIn_of _ (by decide +kernel)) gg_X11_waiting_X2_waitingBits
set_option maxHeartbeats 4000000 in
set_option maxRecDepth 100000 in
theorem c_X11_waiting (l : Launch) (E : py_E) (G : wf_G) (L : List Nat) (f : py_F) (sz : Nat) (x : Nat) (hG : GT G) (hWF : WF E G L f) (Tx : G.1 x = 12) : Met l yX11_waiting w_X11_waiting ({ frames := 4, cells := 0, slots := 0, locals := 89 }) (py_Pc E [.ref x] L f sz) (py_Qi E L f sz (fun _ L1 f1 => L = L1 ∧ f = f1)) 0 0 (va_A (va_pl L f) sz) := by
  refine Met.ofW (cc := cX11_waiting) (maxL := 1) (ret := (some .int)) (by decide) rfl ?_
  intro p e s m args below meth c s₁ B hml hv
  obtain ⟨rfl, rfl, hw⟩ := py_start hv
  have G0 : CallFix p m c cX11_waiting 1 s _ w_X11_waiting RX11 := ⟨B.exec, B.bytes, hml, findClass_of_methodNamed B.named, atoms_spec (ws := w_X11_waiting) B.pre⟩
  have hr := B.returns
  have hlk := B.notSynchronized
  have kcm1 : (-1 : Int32).toInt = -1 := rfl
  have kc0 : (0 : Int32).toInt = 0 := rfl
  have kc1 : (1 : Int32).toInt = 1 := rfl
  have hl := lv_entry ([.ref x]) (n := 1) (Nat.le_of_ble_eq_true rfl)
  rw [lg_entry_eq]
  generalize (lg_sl ([.ref x]) ++ List.replicate (1 - (lg_sl ([.ref x])).length) Slot.unset).toArray = ls at hl ⊢
  have hl : lv_has ls 1 [(0, .ref x)] := hl
  have hRP : RP E G f f := RP.refl
  refine lv_aload_n G0.1 G0.2.1 dX11_waiting_0 rfl (lv_at hl 0 rfl) ?_
  obtain ⟨t_1, t_2, t_3, t_4, t_5, t_6, t_7, t_8, t_9, t_10, t_11, t_12, t_13, tx_14, tx_15, tx_16, tx_17⟩ := wt_11 hG Tx
  obtain ⟨v_18, v_19, v_20, hr_24, b_21, b_22, b_23⟩ := wg_11 hWF Tx
  refine py_calli hw (va_runV (As := []) (rest := []) G0 (c_X11_hasValley l E G L f s.heap.size x hG hWF Tx) (cwV 0 G0.2.2.2.2 g_X11_waiting_X11_hasValley_218 rfl rfl rfl (by decide +kernel) ⟨(Nat.le_of_ble_eq_true rfl), (Nat.le_of_ble_eq_true rfl)⟩) (py_preV hw (C := RX11) (T := TX11) (N := 16) rfl hr_24) rfl rfl hl.1 rfl (lv_room (Nat.le_of_ble_eq_true rfl)) dX11_waiting_1 ⟨(Nat.le_of_ble_eq_true rfl), (Nat.le_of_ble_eq_true rfl)⟩) (fun r_29 L_25 f_26 H_27 locs hp_28 hw => ?_)
  obtain ⟨b_31, en_30, rfl, rfl⟩ := hp_28
  have jn_18 : ∀ (v_32 : Int32) (H_j18 : Heap) (locs : List Loc) (ls : Array Slot), py_W E (va_A (va_pl L f) s.heap.size) s L f H_j18 locs → lv_has ls 1 [(0, .ref x)] → W p l e (headSpec w_X11_waiting ({ frames := 4, cells := 0, slots := 0, locals := 89 })).room s m ([.ref x] : List Value).toArray below meth c H_j18 locs 0 0 (MQ below (py_Qi E L f s.heap.size (fun _ L1 f1 => L = L1 ∧ f = f1)) ([.ref x] : List Value).toArray s 0 0 (va_A (va_pl L f) s.heap.size)) (F0 m 18 ls [.int v_32]) := by
    intro v_32 H_j18 locs ls hw hl
    exact py_iret G0 hr rfl hlk hw ⟨rfl, rfl⟩ dX11_waiting_18
  refine lv_if_eq (tgt := 17) G0.1 G0.2.1 dX11_waiting_4 (by decide) (fun c_33 => ?_) (fun c_33 => ?_)
  · skip
    have tc_33 := ti_eq c_33
    refine lv_iconst (v := (-1)) G0.1 G0.2.1 dX11_waiting_17 (by decide) ?_
    exact jn_18 (-1) _ _ ls hw (lv_sub hl [0] rfl)
  · skip
    have tc_33 := ti_ne c_33
    refine lv_aload_n G0.1 G0.2.1 dX11_waiting_7 rfl (lv_at hl 0 rfl) ?_
    refine py_get (C := RX11) (T := TX11) (N := 16) (k := 5) (v := .ref (G.2 x 5)) G0 hw in_X11_waiting_X11 rfl hr_24 (by decide) (by decide +kernel) rfl dX11_waiting_8 ?_
    obtain ⟨t_34, t_35, t_36, t_37, t_38, t_39, t_40, t_41, t_42⟩ := wt_2 hG t_6
    obtain ⟨r_43, y_44, v_45, hr_48, ty_46, b_47⟩ := wg_2 hWF t_6
    refine py_calli hw (va_runV (As := []) (rest := []) G0 (c_X2_waitingBits l E G L f H_27.size (G.2 x 5) hG hWF t_6) (cwV 0 G0.2.2.2.2 g_X11_waiting_X2_waitingBits_264 rfl rfl rfl (by decide +kernel) ⟨(Nat.le_of_ble_eq_true rfl), (Nat.le_of_ble_eq_true rfl)⟩) (py_preV hw (C := RX2) (T := TX2) (N := 12) rfl hr_48) rfl rfl hl.1 rfl (lv_room (Nat.le_of_ble_eq_true rfl)) dX11_waiting_11 ⟨(Nat.le_of_ble_eq_true rfl), (Nat.le_of_ble_eq_true rfl)⟩) (fun r_53 L_49 f_50 H_51 locs hp_52 hw => ?_)
    obtain ⟨b_54, rfl, rfl⟩ := hp_52
    refine lv_goto (tgt := 18) G0.1 G0.2.1 dX11_waiting_14 (by decide) ?_
    exact jn_18 r_53 _ _ ls hw (lv_sub hl [0] rfl)

def w_X11_most : List Cond := .code yX11_most cX11_most 3 (some .int) :: ([Cond.methodLink RX11 218 yX11_hasValley, Cond.instanceMethod yX11_hasValley, Cond.selects RX11 yX11_hasValley yX11_hasValley, Cond.initialized RX11, Cond.methodLink RX11 267 yX11_isZeroOrOne, Cond.static yX11_isZeroOrOne, Cond.fieldLink RX11 81 "HeadYear" "moves" "LHeadYear$Moves;", Cond.fieldLink RX11 47 "HeadYear" "folk" "LHeadYear$Folk;", Cond.methodLink RX11 270 yX5_mostBits, Cond.instanceMethod yX5_mostBits, Cond.selects RX5 yX5_mostBits yX5_mostBits, Cond.initialized RX5, Cond.methodLink RX11 273 yJ6_bitCount_0f7a4, Cond.static yJ6_bitCount_0f7a4, Cond.initialized RJ6] ++ (u_ws RX11 TX11 16 ++ (w_X11_hasValley ++ (w_X11_isZeroOrOne ++ (w_X5_mostBits ++ (w_J6_bitCount_0f7a4 ++ ([])))))))
theorem in_X11_most_X11 : ∀ w ∈ u_ws RX11 TX11 16, w ∈ w_X11_most := fun _ h => List.mem_cons_of_mem _ (List.mem_append_right _ (List.mem_append_left _ h))
theorem gg_X11_most_X11_hasValley : GoodIn w_X11_most w_X11_hasValley := goodIn_sub (fun _ h => List.mem_cons_of_mem _ (List.mem_append_right _ (List.mem_append_right _ (List.mem_append_left _ h)))) (by decide +kernel)
theorem gg_X11_most_X11_isZeroOrOne : GoodIn w_X11_most w_X11_isZeroOrOne := goodIn_sub (fun _ h => List.mem_cons_of_mem _ (List.mem_append_right _ (List.mem_append_right _ (List.mem_append_right _ (List.mem_append_left _ h))))) (by decide +kernel)
theorem gg_X11_most_X5_mostBits : GoodIn w_X11_most w_X5_mostBits := goodIn_sub (fun _ h => List.mem_cons_of_mem _ (List.mem_append_right _ (List.mem_append_right _ (List.mem_append_right _ (List.mem_append_right _ (List.mem_append_left _ h)))))) (by decide +kernel)
theorem gg_X11_most_J6_bitCount_0f7a4 : GoodIn w_X11_most w_J6_bitCount_0f7a4 := goodIn_sub (fun _ h => List.mem_cons_of_mem _ (List.mem_append_right _ (List.mem_append_right _ (List.mem_append_right _ (List.mem_append_right _ (List.mem_append_right _ (List.mem_append_left _ h))))))) (by decide +kernel)
theorem g_X11_most_J6_bitCount_0f7a4_273 : GoodIn w_X11_most (va_wsS RX11 273 yJ6_bitCount_0f7a4 w_J6_bitCount_0f7a4) := goodIn_app (goodIn_of _ (by decide +kernel)) gg_X11_most_J6_bitCount_0f7a4
theorem g_X11_most_X11_hasValley_218 : GoodIn w_X11_most (wsV RX11 218 RX11 yX11_hasValley w_X11_hasValley) := goodIn_app (goodIn_of _ (by decide +kernel)) gg_X11_most_X11_hasValley
theorem g_X11_most_X11_isZeroOrOne_267 : GoodIn w_X11_most (va_wsS RX11 267 yX11_isZeroOrOne w_X11_isZeroOrOne) := goodIn_app (goodIn_of _ (by decide +kernel)) gg_X11_most_X11_isZeroOrOne
theorem g_X11_most_X5_mostBits_270 : GoodIn w_X11_most (wsV RX11 270 RX5 yX5_mostBits w_X5_mostBits) := goodIn_app (goodIn_of _ (by decide +kernel)) gg_X11_most_X5_mostBits
set_option maxHeartbeats 4000000 in
set_option maxRecDepth 100000 in
theorem c_X11_most (l : Launch) (E : py_E) (G : wf_G) (L : List Nat) (f : py_F) (sz : Nat) (x : Nat) (a : Int32) (hG : GT G) (hWF : WF E G L f) (Tx : G.1 x = 12) (hq0 : GI E G f x) : Met l yX11_most w_X11_most ({ frames := 5, cells := 0, slots := 0, locals := 114 }) (py_Pc E [.ref x, .int a] L f sz) (py_Qi E L f sz (fun _ L1 f1 => WF E G L1 f1 ∧ KP G [24] false f f1 ∧ GI E G f1 x)) 0 0 (va_A (va_pl L f) sz) := by
  refine Met.ofW (cc := cX11_most) (maxL := 3) (ret := (some .int)) (by decide) rfl ?_
  intro p e s m args below meth c s₁ B hml hv
  obtain ⟨rfl, rfl, hw⟩ := py_start hv
  have G0 : CallFix p m c cX11_most 3 s _ w_X11_most RX11 := ⟨B.exec, B.bytes, hml, findClass_of_methodNamed B.named, atoms_spec (ws := w_X11_most) B.pre⟩
  have hr := B.returns
  have hlk := B.notSynchronized
  have kcm1 : (-1 : Int32).toInt = -1 := rfl
  have kc0 : (0 : Int32).toInt = 0 := rfl
  have kc1 : (1 : Int32).toInt = 1 := rfl
  have hGI := hq0
  have hKP : KP G [24] false f f := KP.refl
  obtain ⟨t_1, t_2, t_3, t_4, t_5, t_6, t_7, t_8, t_9, t_10, t_11, t_12, t_13, tx_14, tx_15, tx_16, tx_17⟩ := wt_11 hG Tx
  refine lv_aload_n G0.1 G0.2.1 dX11_most_0 rfl (lv_at hl 0 rfl) ?_
  obtain ⟨v_18, v_19, v_20, hr_24, b_21, b_22, b_23⟩ := wg_11 hWF Tx
  refine py_calli hw (va_runV (As := []) (rest := []) G0 (c_X11_hasValley l E G L f s.heap.size x hG hWF Tx) (cwV 0 G0.2.2.2.2 g_X11_most_X11_hasValley_218 rfl rfl rfl (by decide +kernel) ⟨(Nat.le_of_ble_eq_true rfl), (Nat.le_of_ble_eq_true rfl)⟩) (py_preV hw (C := RX11) (T := TX11) (N := 16) rfl hr_24) rfl rfl hl.1 rfl (lv_room (Nat.le_of_ble_eq_true rfl)) dX11_most_1 ⟨(Nat.le_of_ble_eq_true rfl), (Nat.le_of_ble_eq_true rfl)⟩) (fun r_29 L_25 f_26 H_27 locs hp_28 hw => ?_)
  obtain ⟨b_31, en_30, rfl, rfl⟩ := hp_28
  refine lv_if_eq (tgt := 14) G0.1 G0.2.1 dX11_most_4 (by decide) (fun c_32 => ?_) (fun c_32 => ?_)
  · skip
    have tc_32 := ti_eq c_32
    refine lv_iconst (v := (-1)) G0.1 G0.2.1 dX11_most_14 (by decide) ?_
    exact py_iret G0 hr rfl hlk hw ⟨hWF, hKP, hGI⟩ dX11_most_15
  · skip
    have tc_32 := ti_ne c_32
    refine lv_iload_n G0.1 G0.2.1 dX11_most_7 rfl (lv_at hl 1 rfl) ?_
    refine py_calli hw (va_runS (As := [.int a]) (rest := []) G0 (c_X11_isZeroOrOne l E G L f H_27.size a hG hWF) (va_cwS 1 G0.2.2.2.2 g_X11_most_X11_isZeroOrOne_267 rfl rfl rfl (by decide +kernel) ⟨(Nat.le_of_ble_eq_true rfl), (Nat.le_of_ble_eq_true rfl)⟩) (py_preS hw) rfl rfl hl.1 rfl (lv_room (Nat.le_of_ble_eq_true rfl)) dX11_most_8 ⟨(Nat.le_of_ble_eq_true rfl), (Nat.le_of_ble_eq_true rfl)⟩) (fun r_37 L_33 f_34 H_35 locs hp_36 hw => ?_)
    obtain ⟨b_39, en_38, rfl, rfl⟩ := hp_36
    refine lv_if_ne (tgt := 16) G0.1 G0.2.1 dX11_most_11 (by decide) (fun c_40 => ?_) (fun c_40 => ?_)
    · skip
      have tc_40 := ti_ne c_40
      refine lv_aload_n G0.1 G0.2.1 dX11_most_16 rfl (lv_at hl 0 rfl) ?_
      refine py_get (C := RX11) (T := TX11) (N := 16) (k := 11) (v := .ref (G.2 x 11)) G0 hw in_X11_most_X11 rfl hr_24 (by decide) (by decide +kernel) rfl dX11_most_17 ?_
      refine lv_aload_n G0.1 G0.2.1 dX11_most_20 rfl (lv_at hl 0 rfl) ?_
      refine py_get (C := RX11) (T := TX11) (N := 16) (k := 5) (v := .ref (G.2 x 5)) G0 hw in_X11_most_X11 rfl hr_24 (by decide) (by decide +kernel) rfl dX11_most_21 ?_
      have t_41 := wt_5 hG t_12
      have hr_42 := wg_5 hWF t_12
      refine py_calli hw (va_runV (As := [.ref (G.2 x 5)]) (rest := []) G0 (c_X5_mostBits l E G L f H_35.size (G.2 x 11) (G.2 x 5) hG hWF t_12 t_6) (cwV 1 G0.2.2.2.2 g_X11_most_X5_mostBits_270 rfl rfl rfl (by decide +kernel) ⟨(Nat.le_of_ble_eq_true rfl), (Nat.le_of_ble_eq_true rfl)⟩) (py_preV hw (C := RX5) (T := TX5) (N := 1) rfl hr_42) rfl rfl hl.1 rfl (lv_room (Nat.le_of_ble_eq_true rfl)) dX11_most_24 ⟨(Nat.le_of_ble_eq_true rfl), (Nat.le_of_ble_eq_true rfl)⟩) (fun r_47 L_43 f_44 H_45 locs hp_46 hw => ?_)
      have ht_50 := fo_ty hWF t_6
      obtain ⟨hWF, hq_48, kp_49⟩ := hp_46
      have hGI := hGI.kp hG Tx ht_50 hq_48 kp_49 (by decide)
      have hKP := hKP.trans kp_49 (by decide) (by decide)
      have hr_24 := kp_at kp_49 hWF Tx (by decide) (by decide) (by decide) hr_24
      have hr_42 := kp_at kp_49 hWF t_12 (by decide) (by decide) (by decide) hr_42
      have br_47 := wf_free r_47
      refine lv_istore_n (lv' := [(2, .int r_47), (0, .ref x), (1, .int a)]) G0.1 G0.2.1 dX11_most_27 rfl hl (by decide) rfl (fun ls hl => ?_)
      refine lv_iload_n G0.1 G0.2.1 dX11_most_28 rfl (lv_at hl 2 rfl) ?_
      have jn_40 : ∀ (v_51 : Int32) (H_j40 : Heap) (locs : List Loc) (ls : Array Slot), py_W E (va_A (va_pl L f) s.heap.size) s L_43 f_44 H_j40 locs → lv_has ls 3 [(2, .int r_47), (0, .ref x), (1, .int a)] → W p l e (headSpec w_X11_most ({ frames := 5, cells := 0, slots := 0, locals := 114 })).room s m ([.ref x, .int a] : List Value).toArray below meth c H_j40 locs 0 0 (MQ below (py_Qi E L f s.heap.size (fun _ L1 f1 => WF E G L1 f1 ∧ KP G [24] false f f1 ∧ GI E G f1 x)) ([.ref x, .int a] : List Value).toArray s 0 0 (va_A (va_pl L f) s.heap.size)) (F0 m 40 ls [.int v_51]) := by
        intro v_51 H_j40 locs ls hw hl
        exact py_iret G0 hr rfl hlk hw ⟨hWF, hKP, hGI⟩ dX11_most_40
      refine lv_if_ne (tgt := 39) G0.1 G0.2.1 dX11_most_29 (by decide) (fun c_52 => ?_) (fun c_52 => ?_)
      · skip
        have tc_52 := ti_ne c_52
        refine lv_iload_n G0.1 G0.2.1 dX11_most_39 rfl (lv_at hl 0 rfl) ?_
        exact jn_40 r_47 _ _ ls hw (lv_sub hl [0, 1, 2] rfl)
      · skip
        have tc_52 := ti_eq c_52
        refine lv_iload_n G0.1 G0.2.1 dX11_most_32 rfl (lv_at hl 0 rfl) ?_
        refine py_calli hw (va_runS (As := [.int r_47]) (rest := []) G0 (c_J6_bitCount_0f7a4 l E G L_43 f_44 H_45.size r_47 hG hWF) (va_cwS 1 G0.2.2.2.2 g_X11_most_J6_bitCount_0f7a4_273 rfl rfl rfl (by decide +kernel) ⟨(Nat.le_of_ble_eq_true rfl), (Nat.le_of_ble_eq_true rfl)⟩) (py_preS hw) rfl rfl hl.1 rfl (lv_room (Nat.le_of_ble_eq_true rfl)) dX11_most_33 ⟨(Nat.le_of_ble_eq_true rfl), (Nat.le_of_ble_eq_true rfl)⟩) (fun r_57 L_53 f_54 H_55 locs hp_56 hw => ?_)
        obtain ⟨rfl, rfl⟩ := hp_56
        have br_57 := wf_free r_57
        refine lv_goto (tgt := 40) G0.1 G0.2.1 dX11_most_36 (by decide) ?_
        exact jn_40 r_57 _ _ ls hw (lv_sub hl [0, 1, 2] rfl)
    · skip
      have tc_40 := ti_eq c_40
      refine lv_iconst (v := (-1)) G0.1 G0.2.1 dX11_most_14 (by decide) ?_
      exact py_iret G0 hr rfl hlk hw ⟨hWF, hKP, hGI⟩ dX11_most_15

def w_X11_needs : List Cond := .code yX11_needs cX11_needs 2 (some .int) :: ([Cond.methodLink RX11 163 yX11_isFamily, Cond.instanceMethod yX11_isFamily, Cond.selects RX11 yX11_isFamily yX11_isFamily, Cond.initialized RX11, Cond.fieldLink RX11 47 "HeadYear" "folk" "LHeadYear$Folk;", Cond.methodLink RX11 278 yX2_waits, Cond.instanceMethod yX2_waits, Cond.selects RX2 yX2_waits yX2_waits, Cond.initialized RX2, Cond.fieldLink RX11 81 "HeadYear" "moves" "LHeadYear$Moves;", Cond.methodLink RX11 281 yX5_fewestFirst, Cond.instanceMethod yX5_fewestFirst, Cond.selects RX5 yX5_fewestFirst yX5_fewestFirst, Cond.initialized RX5] ++ (u_ws RX11 TX11 16 ++ (w_X11_isFamily ++ (w_X2_waits ++ (w_X5_fewestFirst ++ ([]))))))
theorem in_X11_needs_X11 : ∀ w ∈ u_ws RX11 TX11 16, w ∈ w_X11_needs := fun _ h => List.mem_cons_of_mem _ (List.mem_append_right _ (List.mem_append_left _ h))
theorem gg_X11_needs_X11_isFamily : GoodIn w_X11_needs w_X11_isFamily := goodIn_sub (fun _ h => List.mem_cons_of_mem _ (List.mem_append_right _ (List.mem_append_right _ (List.mem_append_left _ h)))) (by decide +kernel)
theorem gg_X11_needs_X2_waits : GoodIn w_X11_needs w_X2_waits := goodIn_sub (fun _ h => List.mem_cons_of_mem _ (List.mem_append_right _ (List.mem_append_right _ (List.mem_append_right _ (List.mem_append_left _ h))))) (by decide +kernel)
theorem gg_X11_needs_X5_fewestFirst : GoodIn w_X11_needs w_X5_fewestFirst := goodIn_sub (fun _ h => List.mem_cons_of_mem _ (List.mem_append_right _ (List.mem_append_right _ (List.mem_append_right _ (List.mem_append_right _ (List.mem_append_left _ h)))))) (by decide +kernel)
theorem g_X11_needs_X11_isFamily_163 : GoodIn w_X11_needs (wsV RX11 163 RX11 yX11_isFamily w_X11_isFamily) := goodIn_app (goodIn_of _ (by decide +kernel)) gg_X11_needs_X11_isFamily
theorem g_X11_needs_X2_waits_278 : GoodIn w_X11_needs (wsV RX11 278 RX2 yX2_waits w_X2_waits) := goodIn_app (goodIn_of _ (by decide +kernel)) gg_X11_needs_X2_waits
theorem g_X11_needs_X5_fewestFirst_281 : GoodIn w_X11_needs (wsV RX11 281 RX5 yX5_fewestFirst w_X5_fewestFirst) := goodIn_app (goodIn_of _ (by decide +kernel)) gg_X11_needs_X5_fewestFirst
set_option maxHeartbeats 4000000 in
set_option maxRecDepth 100000 in
theorem c_X11_needs (l : Launch) (E : py_E) (G : wf_G) (L : List Nat) (f : py_F) (sz : Nat) (x : Nat) (a : Int32) (hG : GT G) (hWF : WF E G L f) (Tx : G.1 x = 12) : Met l yX11_needs w_X11_needs ({ frames := 5, cells := 0, slots := 0, locals := 115 }) (py_Pc E [.ref x, .int a] L f sz) (py_Qi E L f sz (fun _ L1 f1 => L = L1 ∧ f = f1)) 0 0 (va_A (va_pl L f) sz) := by
  refine Met.ofW (cc := cX11_needs) (maxL := 2) (ret := (some .int)) (by decide) rfl ?_
  intro p e s m args below meth c s₁ B hml hv
  obtain ⟨rfl, rfl, hw⟩ := py_start hv
  have G0 : CallFix p m c cX11_needs 2 s _ w_X11_needs RX11 := ⟨B.exec, B.bytes, hml, findClass_of_methodNamed B.named, atoms_spec (ws := w_X11_needs) B.pre⟩
  have hr := B.returns
  have hlk := B.notSynchronized
  have kcm1 : (-1 : Int32).toInt = -1 := rfl
  have kc0 : (0 : Int32).toInt = 0 := rfl
  have kc1 : (1 : Int32).toInt = 1 := rfl
  have hl := lv_entry ([.ref x, .int a]) (n := 2) (Nat.le_of_ble_eq_true rfl)
  rw [lg_entry_eq]
  generalize (lg_sl ([.ref x, .int a]) ++ List.replicate (2 - (lg_sl ([.ref x, .int a])).length) Slot.unset).toArray = ls at hl ⊢
  have hl : lv_has ls 2 [(0, .ref x), (1, .int a)] := hl
  have hRP : RP E G f f := RP.refl
  refine lv_aload_n G0.1 G0.2.1 dX11_needs_0 rfl (lv_at hl 0 rfl) ?_
  refine lv_iload_n G0.1 G0.2.1 dX11_needs_1 rfl (lv_at hl 1 rfl) ?_
  obtain ⟨t_1, t_2, t_3, t_4, t_5, t_6, t_7, t_8, t_9, t_10, t_11, t_12, t_13, tx_14, tx_15, tx_16, tx_17⟩ := wt_11 hG Tx
  obtain ⟨v_18, v_19, v_20, hr_24, b_21, b_22, b_23⟩ := wg_11 hWF Tx
  refine py_calli hw (va_runV (As := [.int a]) (rest := []) G0 (c_X11_isFamily l E G L f s.heap.size x a hG hWF Tx) (cwV 1 G0.2.2.2.2 g_X11_needs_X11_isFamily_163 rfl rfl rfl (by decide +kernel) ⟨(Nat.le_of_ble_eq_true rfl), (Nat.le_of_ble_eq_true rfl)⟩) (py_preV hw (C := RX11) (T := TX11) (N := 16) rfl hr_24) rfl rfl hl.1 rfl (lv_room (Nat.le_of_ble_eq_true rfl)) dX11_needs_2 ⟨(Nat.le_of_ble_eq_true rfl), (Nat.le_of_ble_eq_true rfl)⟩) (fun r_29 L_25 f_26 H_27 locs hp_28 hw => ?_)
  obtain ⟨b_31, en_30, rfl, rfl⟩ := hp_28
  refine lv_if_eq (tgt := 19) G0.1 G0.2.1 dX11_needs_5 (by decide) (fun c_32 => ?_) (fun c_32 => ?_)
  · skip
    have tc_32 := ti_eq c_32
    refine lv_iconst (v := (-1)) G0.1 G0.2.1 dX11_needs_19 (by decide) ?_
    exact py_iret G0 hr rfl hlk hw ⟨rfl, rfl⟩ dX11_needs_20
  · skip
    have tc_32 := ti_ne c_32
    refine lv_aload_n G0.1 G0.2.1 dX11_needs_8 rfl (lv_at hl 0 rfl) ?_
    refine py_get (C := RX11) (T := TX11) (N := 16) (k := 5) (v := .ref (G.2 x 5)) G0 hw in_X11_needs_X11 rfl hr_24 (by decide) (by decide +kernel) rfl dX11_needs_9 ?_
    refine lv_iload_n G0.1 G0.2.1 dX11_needs_12 rfl (lv_at hl 1 rfl) ?_
    obtain ⟨t_33, t_34, t_35, t_36, t_37, t_38, t_39, t_40, t_41⟩ := wt_2 hG t_6
    obtain ⟨r_42, y_43, v_44, hr_47, ty_45, b_46⟩ := wg_2 hWF t_6
    refine py_calli hw (va_runV (As := [.int a]) (rest := []) G0 (c_X2_waits l E G L f H_27.size (G.2 x 5) a hG hWF t_6 ⟨by omega, by omega⟩) (cwV 1 G0.2.2.2.2 g_X11_needs_X2_waits_278 rfl rfl rfl (by decide +kernel) ⟨(Nat.le_of_ble_eq_true rfl), (Nat.le_of_ble_eq_true rfl)⟩) (py_preV hw (C := RX2) (T := TX2) (N := 12) rfl hr_47) rfl rfl hl.1 rfl (lv_room (Nat.le_of_ble_eq_true rfl)) dX11_needs_13 ⟨(Nat.le_of_ble_eq_true rfl), (Nat.le_of_ble_eq_true rfl)⟩) (fun r_52 L_48 f_49 H_50 locs hp_51 hw => ?_)
    obtain ⟨b_53, rfl, rfl⟩ := hp_51
    refine lv_if_ne (tgt := 21) G0.1 G0.2.1 dX11_needs_16 (by decide) (fun c_54 => ?_) (fun c_54 => ?_)
    · skip
      have tc_54 := ti_ne c_54
      refine lv_aload_n G0.1 G0.2.1 dX11_needs_21 rfl (lv_at hl 0 rfl) ?_
      refine py_get (C := RX11) (T := TX11) (N := 16) (k := 11) (v := .ref (G.2 x 11)) G0 hw in_X11_needs_X11 rfl hr_24 (by decide) (by decide +kernel) rfl dX11_needs_22 ?_
      refine lv_aload_n G0.1 G0.2.1 dX11_needs_25 rfl (lv_at hl 0 rfl) ?_
      refine py_get (C := RX11) (T := TX11) (N := 16) (k := 5) (v := .ref (G.2 x 5)) G0 hw in_X11_needs_X11 rfl hr_24 (by decide) (by decide +kernel) rfl dX11_needs_26 ?_
      refine lv_iload_n G0.1 G0.2.1 dX11_needs_29 rfl (lv_at hl 1 rfl) ?_
      have t_55 := wt_5 hG t_12
      have hr_56 := wg_5 hWF t_12
      refine py_calli hw (va_runV (As := [.ref (G.2 x 5), .int a]) (rest := []) G0 (c_X5_fewestFirst l E G L f H_50.size (G.2 x 11) (G.2 x 5) a hG hWF t_12 t_6 ⟨by omega, by omega⟩) (cwV 2 G0.2.2.2.2 g_X11_needs_X5_fewestFirst_281 rfl rfl rfl (by decide +kernel) ⟨(Nat.le_of_ble_eq_true rfl), (Nat.le_of_ble_eq_true rfl)⟩) (py_preV hw (C := RX5) (T := TX5) (N := 1) rfl hr_56) rfl rfl hl.1 rfl (lv_room (Nat.le_of_ble_eq_true rfl)) dX11_needs_30 ⟨(Nat.le_of_ble_eq_true rfl), (Nat.le_of_ble_eq_true rfl)⟩) (fun r_61 L_57 f_58 H_59 locs hp_60 hw => ?_)
      obtain ⟨rfl, rfl⟩ := hp_60
      have br_61 := wf_free r_61
      exact py_iret G0 hr rfl hlk hw ⟨rfl, rfl⟩ dX11_needs_33
    · skip
      have tc_54 := ti_eq c_54
      refine lv_iconst (v := (-1)) G0.1 G0.2.1 dX11_needs_19 (by decide) ?_
      exact py_iret G0 hr rfl hlk hw ⟨rfl, rfl⟩ dX11_needs_20

def w_X11_diary : List Cond := .code yX11_diary cX11_diary 4 (some .int) :: ([Cond.methodLink RX11 163 yX11_isFamily, Cond.instanceMethod yX11_isFamily, Cond.selects RX11 yX11_isFamily yX11_isFamily, Cond.initialized RX11, Cond.constant RX11 166 (-1000000), Cond.fieldLink RX11 60 "HeadYear" "diary" "LHeadYear$Diary;", Cond.fieldLink RX11 304 "HeadYear$Diary" "years" "I", Cond.methodLink RX11 267 yX11_isZeroOrOne, Cond.static yX11_isZeroOrOne, Cond.methodLink RX11 308 yX1_headsIn, Cond.instanceMethod yX1_headsIn, Cond.selects RX1 yX1_headsIn yX1_headsIn, Cond.initialized RX1, Cond.methodLink RX11 305 yX1_levelIn, Cond.instanceMethod yX1_levelIn, Cond.selects RX1 yX1_levelIn yX1_levelIn] ++ (u_ws RX11 TX11 16 ++ (u_ws RX1 TX1 3 ++ (w_X11_isFamily ++ (w_X11_isZeroOrOne ++ (w_X1_headsIn ++ (w_X1_levelIn ++ ([]))))))))
theorem in_X11_diary_X11 : ∀ w ∈ u_ws RX11 TX11 16, w ∈ w_X11_diary := fun _ h => List.mem_cons_of_mem _ (List.mem_append_right _ (List.mem_append_left _ h))
theorem in_X11_diary_X1 : ∀ w ∈ u_ws RX1 TX1 3, w ∈ w_X11_diary := fun _ h => List.mem_cons_of_mem _ (List.mem_append_right _ (List.mem_append_right _ (List.mem_append_left _ h)))
theorem gg_X11_diary_X11_isFamily : GoodIn w_X11_diary w_X11_isFamily := goodIn_sub (fun _ h => List.mem_cons_of_mem _ (List.mem_append_right _ (List.mem_append_right _ (List.mem_append_right _ (List.mem_append_left _ h))))) (by decide +kernel)
theorem gg_X11_diary_X11_isZeroOrOne : GoodIn w_X11_diary w_X11_isZeroOrOne := goodIn_sub (fun _ h => List.mem_cons_of_mem _ (List.mem_append_right _ (List.mem_append_right _ (List.mem_append_right _ (List.mem_append_right _ (List.mem_append_left _ h)))))) (by decide +kernel)
theorem gg_X11_diary_X1_headsIn : GoodIn w_X11_diary w_X1_headsIn := goodIn_sub (fun _ h => List.mem_cons_of_mem _ (List.mem_append_right _ (List.mem_append_right _ (List.mem_append_right _ (List.mem_append_right _ (List.mem_append_right _ (List.mem_append_left _ h))))))) (by decide +kernel)
theorem gg_X11_diary_X1_levelIn : GoodIn w_X11_diary w_X1_levelIn := goodIn_sub (fun _ h => List.mem_cons_of_mem _ (List.mem_append_right _ (List.mem_append_right _ (List.mem_append_right _ (List.mem_append_right _ (List.mem_append_right _ (List.mem_append_right _ (List.mem_append_left _ h)))))))) (by decide +kernel)
theorem g_X11_diary_X11_isFamily_163 : GoodIn w_X11_diary (wsV RX11 163 RX11 yX11_isFamily w_X11_isFamily) := goodIn_app (goodIn_of _ (by decide +kernel)) gg_X11_diary_X11_isFamily
theorem g_X11_diary_X11_isZeroOrOne_267 : GoodIn w_X11_diary (va_wsS RX11 267 yX11_isZeroOrOne w_X11_isZeroOrOne) := goodIn_app (goodIn_of _ (by decide +kernel)) gg_X11_diary_X11_isZeroOrOne
theorem g_X11_diary_X1_headsIn_308 : GoodIn w_X11_diary (wsV RX11 308 RX1 yX1_headsIn w_X1_headsIn) := goodIn_app (goodIn_of _ (by decide +kernel)) gg_X11_diary_X1_headsIn
theorem g_X11_diary_X1_levelIn_305 : GoodIn w_X11_diary (wsV RX11 305 RX1 yX1_levelIn w_X1_levelIn) := goodIn_app (goodIn_of _ (by decide +kernel)) gg_X11_diary_X1_levelIn
set_option maxHeartbeats 4000000 in
set_option maxRecDepth 100000 in
theorem c_X11_diary (l : Launch) (E : py_E) (G : wf_G) (L : List Nat) (f : py_F) (sz : Nat) (x : Nat) (a : Int32) (b : Int32) (q : Int32) (hG : GT G) (hWF : WF E G L f) (Tx : G.1 x = 12) : Met l yX11_diary w_X11_diary ({ frames := 1, cells := 0, slots := 0, locals := 22 }) (py_Pc E [.ref x, .int a, .int b, .int q] L f sz) (py_Qi E L f sz (fun _ L1 f1 => L = L1 ∧ f = f1)) 0 0 (va_A (va_pl L f) sz) := by
  refine Met.ofW (cc := cX11_diary) (maxL := 4) (ret := (some .int)) (by decide) rfl ?_
  intro p e s m args below meth c s₁ B hml hv
  obtain ⟨rfl, rfl, hw⟩ := py_start hv
  have G0 : CallFix p m c cX11_diary 4 s _ w_X11_diary RX11 := ⟨B.exec, B.bytes, hml, findClass_of_methodNamed B.named, atoms_spec (ws := w_X11_diary) B.pre⟩
  have hr := B.returns
  have hlk := B.notSynchronized
  have kcm1000000 : (-1000000 : Int32).toInt = -1000000 := rfl
  have kcm1 : (-1 : Int32).toInt = -1 := rfl
  have kc0 : (0 : Int32).toInt = 0 := rfl
  have kc1 : (1 : Int32).toInt = 1 := rfl
  have hl := lv_entry ([.ref x, .int a, .int b, .int q]) (n := 4) (Nat.le_of_ble_eq_true rfl)
  rw [lg_entry_eq]
  generalize (lg_sl ([.ref x, .int a, .int b, .int q]) ++ List.replicate (4 - (lg_sl ([.ref x, .int a, .int b, .int q])).length) Slot.unset).toArray = ls at hl ⊢
  have hl : lv_has ls 4 [(0, .ref x), (1, .int a), (2, .int b), (3, .int q)] := hl
  have hRP : RP E G f f := RP.refl
  refine lv_aload_n G0.1 G0.2.1 dX11_diary_0 rfl (lv_at hl 0 rfl) ?_
  refine lv_iload_n G0.1 G0.2.1 dX11_diary_1 rfl (lv_at hl 1 rfl) ?_
  obtain ⟨t_1, t_2, t_3, t_4, t_5, t_6, t_7, t_8, t_9, t_10, t_11, t_12, t_13, tx_14, tx_15, tx_16, tx_17⟩ := wt_11 hG Tx
  obtain ⟨v_18, v_19, v_20, hr_24, b_21, b_22, b_23⟩ := wg_11 hWF Tx
  refine py_calli hw (va_runV (As := [.int a]) (rest := []) G0 (c_X11_isFamily l E G L f s.heap.size x a hG hWF Tx) (cwV 1 G0.2.2.2.2 g_X11_diary_X11_isFamily_163 rfl rfl rfl (by decide +kernel) ⟨(Nat.le_of_ble_eq_true rfl), (Nat.le_of_ble_eq_true rfl)⟩) (py_preV hw (C := RX11) (T := TX11) (N := 16) rfl hr_24) rfl rfl hl.1 rfl (lv_room (Nat.le_of_ble_eq_true rfl)) dX11_diary_2 ⟨(Nat.le_of_ble_eq_true rfl), (Nat.le_of_ble_eq_true rfl)⟩) (fun r_29 L_25 f_26 H_27 locs hp_28 hw => ?_)
  obtain ⟨b_31, en_30, rfl, rfl⟩ := hp_28
  refine lv_if_eq (tgt := 30) G0.1 G0.2.1 dX11_diary_5 (by decide) (fun c_32 => ?_) (fun c_32 => ?_)
  · skip
    have tc_32 := ti_eq c_32
    refine lv_ldc (v := (-1000000)) G0.1 G0.2.1 G0.2.2.2.1 (G0.2.2.2.2 (Cond.constant RX11 166 (-1000000)) (by decide +kernel)) dX11_diary_30 ?_
    exact py_iret G0 hr rfl hlk hw ⟨rfl, rfl⟩ dX11_diary_32
  · skip
    have tc_32 := ti_ne c_32
    refine lv_iload_n G0.1 G0.2.1 dX11_diary_8 rfl (lv_at hl 2 rfl) ?_
    refine lv_if_lt (tgt := 30) G0.1 G0.2.1 dX11_diary_9 (by decide) (fun c_33 => ?_) (fun c_33 => ?_)
    · skip
      have tc_33 := ti_lt c_33
      refine lv_ldc (v := (-1000000)) G0.1 G0.2.1 G0.2.2.2.1 (G0.2.2.2.2 (Cond.constant RX11 166 (-1000000)) (by decide +kernel)) dX11_diary_30 ?_
      exact py_iret G0 hr rfl hlk hw ⟨rfl, rfl⟩ dX11_diary_32
    · skip
      have tc_33 := ti_nlt c_33
      refine lv_iload_n G0.1 G0.2.1 dX11_diary_12 rfl (lv_at hl 2 rfl) ?_
      refine lv_aload_n G0.1 G0.2.1 dX11_diary_13 rfl (lv_at hl 0 rfl) ?_
      refine py_get (C := RX11) (T := TX11) (N := 16) (k := 8) (v := .ref (G.2 x 8)) G0 hw in_X11_diary_X11 rfl hr_24 (by decide) (by decide +kernel) rfl dX11_diary_14 ?_
      obtain ⟨t_34, t_35⟩ := wt_1 hG t_9
      obtain ⟨v_36, hr_38, b_37⟩ := wg_1 hWF t_9
      refine py_get (C := RX1) (T := TX1) (N := 3) (k := 2) (v := .int v_36) G0 hw in_X11_diary_X1 rfl hr_38 (by decide) (by decide +kernel) rfl dX11_diary_17 ?_
      refine lv_icmp_ge (tgt := 30) G0.1 G0.2.1 dX11_diary_20 (by decide) (fun c_39 => ?_) (fun c_39 => ?_)
      · skip
        have tc_39 := ti_le c_39
        refine lv_ldc (v := (-1000000)) G0.1 G0.2.1 G0.2.2.2.1 (G0.2.2.2.2 (Cond.constant RX11 166 (-1000000)) (by decide +kernel)) dX11_diary_30 ?_
        exact py_iret G0 hr rfl hlk hw ⟨rfl, rfl⟩ dX11_diary_32
      · skip
        have tc_39 := ti_nle c_39
        refine lv_iload_n G0.1 G0.2.1 dX11_diary_23 rfl (lv_at hl 3 rfl) ?_
        refine py_calli hw (va_runS (As := [.int q]) (rest := []) G0 (c_X11_isZeroOrOne l E G L f H_27.size q hG hWF) (va_cwS 1 G0.2.2.2.2 g_X11_diary_X11_isZeroOrOne_267 rfl rfl rfl (by decide +kernel) ⟨(Nat.le_of_ble_eq_true rfl), (Nat.le_of_ble_eq_true rfl)⟩) (py_preS hw) rfl rfl hl.1 rfl (lv_room (Nat.le_of_ble_eq_true rfl)) dX11_diary_24 ⟨(Nat.le_of_ble_eq_true rfl), (Nat.le_of_ble_eq_true rfl)⟩) (fun r_44 L_40 f_41 H_42 locs hp_43 hw => ?_)
        obtain ⟨b_46, en_45, rfl, rfl⟩ := hp_43
        refine lv_if_ne (tgt := 33) G0.1 G0.2.1 dX11_diary_27 (by decide) (fun c_47 => ?_) (fun c_47 => ?_)
        · skip
          have tc_47 := ti_ne c_47
          refine lv_iload_n G0.1 G0.2.1 dX11_diary_33 rfl (lv_at hl 3 rfl) ?_
          have jn_58 : ∀ (v_48 : Int32) (H_j58 : Heap) (locs : List Loc) (ls : Array Slot), py_W E (va_A (va_pl L f) s.heap.size) s L f H_j58 locs → lv_has ls 4 [(0, .ref x), (1, .int a), (2, .int b), (3, .int q)] → W p l e (headSpec w_X11_diary ({ frames := 1, cells := 0, slots := 0, locals := 22 })).room s m ([.ref x, .int a, .int b, .int q] : List Value).toArray below meth c H_j58 locs 0 0 (MQ below (py_Qi E L f s.heap.size (fun _ L1 f1 => L = L1 ∧ f = f1)) ([.ref x, .int a, .int b, .int q] : List Value).toArray s 0 0 (va_A (va_pl L f) s.heap.size)) (F0 m 58 ls [.int v_48]) := by
            intro v_48 H_j58 locs ls hw hl
            exact py_iret G0 hr rfl hlk hw ⟨rfl, rfl⟩ dX11_diary_58
          refine lv_if_ne (tgt := 49) G0.1 G0.2.1 dX11_diary_34 (by decide) (fun c_49 => ?_) (fun c_49 => ?_)
          · skip
            have tc_49 := ti_ne c_49
            refine lv_aload_n G0.1 G0.2.1 dX11_diary_49 rfl (lv_at hl 0 rfl) ?_
            refine py_get (C := RX11) (T := TX11) (N := 16) (k := 8) (v := .ref (G.2 x 8)) G0 hw in_X11_diary_X11 rfl hr_24 (by decide) (by decide +kernel) rfl dX11_diary_50 ?_
            refine lv_iload_n G0.1 G0.2.1 dX11_diary_53 rfl (lv_at hl 2 rfl) ?_
            refine lv_iload_n G0.1 G0.2.1 dX11_diary_54 rfl (lv_at hl 1 rfl) ?_
            refine py_calli hw (va_runV (As := [.int b, .int a]) (rest := []) G0 (c_X1_headsIn l E G L f H_42.size (G.2 x 8) b a hG hWF t_9 ⟨by omega, by omega⟩ ⟨by omega, by omega⟩) (cwV 2 G0.2.2.2.2 g_X11_diary_X1_headsIn_308 rfl rfl rfl (by decide +kernel) ⟨(Nat.le_of_ble_eq_true rfl), (Nat.le_of_ble_eq_true rfl)⟩) (py_preV hw (C := RX1) (T := TX1) (N := 3) rfl hr_38) rfl rfl hl.1 rfl (lv_room (Nat.le_of_ble_eq_true rfl)) dX11_diary_55 ⟨(Nat.le_of_ble_eq_true rfl), (Nat.le_of_ble_eq_true rfl)⟩) (fun r_54 L_50 f_51 H_52 locs hp_53 hw => ?_)
            obtain ⟨rfl, rfl⟩ := hp_53
            have br_54 := wf_free r_54
            exact jn_58 r_54 _ _ ls hw (lv_sub hl [0, 1, 2, 3] rfl)
          · skip
            have tc_49 := ti_eq c_49
            refine lv_aload_n G0.1 G0.2.1 dX11_diary_37 rfl (lv_at hl 0 rfl) ?_
            refine py_get (C := RX11) (T := TX11) (N := 16) (k := 8) (v := .ref (G.2 x 8)) G0 hw in_X11_diary_X11 rfl hr_24 (by decide) (by decide +kernel) rfl dX11_diary_38 ?_
            refine lv_iload_n G0.1 G0.2.1 dX11_diary_41 rfl (lv_at hl 2 rfl) ?_
            refine lv_iload_n G0.1 G0.2.1 dX11_diary_42 rfl (lv_at hl 1 rfl) ?_
            refine py_calli hw (va_runV (As := [.int b, .int a]) (rest := []) G0 (c_X1_levelIn l E G L f H_42.size (G.2 x 8) b a hG hWF t_9 ⟨by omega, by omega⟩ ⟨by omega, by omega⟩) (cwV 2 G0.2.2.2.2 g_X11_diary_X1_levelIn_305 rfl rfl rfl (by decide +kernel) ⟨(Nat.le_of_ble_eq_true rfl), (Nat.le_of_ble_eq_true rfl)⟩) (py_preV hw (C := RX1) (T := TX1) (N := 3) rfl hr_38) rfl rfl hl.1 rfl (lv_room (Nat.le_of_ble_eq_true rfl)) dX11_diary_43 ⟨(Nat.le_of_ble_eq_true rfl), (Nat.le_of_ble_eq_true rfl)⟩) (fun r_59 L_55 f_56 H_57 locs hp_58 hw => ?_)
            obtain ⟨rfl, rfl⟩ := hp_58
            have br_59 := wf_free r_59
            refine lv_goto (tgt := 58) G0.1 G0.2.1 dX11_diary_46 (by decide) ?_
            exact jn_58 r_59 _ _ ls hw (lv_sub hl [0, 1, 2, 3] rfl)
        · skip
          have tc_47 := ti_eq c_47
          refine lv_ldc (v := (-1000000)) G0.1 G0.2.1 G0.2.2.2.1 (G0.2.2.2.2 (Cond.constant RX11 166 (-1000000)) (by decide +kernel)) dX11_diary_30 ?_
          exact py_iret G0 hr rfl hlk hw ⟨rfl, rfl⟩ dX11_diary_32

def w_X11_climb : List Cond := .code yX11_climb cX11_climb 7 (some .int) :: ([Cond.methodLink RX11 163 yX11_isFamily, Cond.instanceMethod yX11_isFamily, Cond.selects RX11 yX11_isFamily yX11_isFamily, Cond.initialized RX11, Cond.constant RX11 166 (-1000000), Cond.methodLink RX11 267 yX11_isZeroOrOne, Cond.static yX11_isZeroOrOne, Cond.fieldLink RX11 60 "HeadYear" "diary" "LHeadYear$Diary;", Cond.fieldLink RX11 304 "HeadYear$Diary" "years" "I", Cond.methodLink RX11 311 yX1_climbFrom, Cond.instanceMethod yX1_climbFrom, Cond.selects RX1 yX1_climbFrom yX1_climbFrom, Cond.initialized RX1] ++ (u_ws RX11 TX11 16 ++ (u_ws RX1 TX1 3 ++ (w_X11_isFamily ++ (w_X11_isZeroOrOne ++ (w_X1_climbFrom ++ ([])))))))
theorem in_X11_climb_X11 : ∀ w ∈ u_ws RX11 TX11 16, w ∈ w_X11_climb := fun _ h => List.mem_cons_of_mem _ (List.mem_append_right _ (List.mem_append_left _ h))
theorem in_X11_climb_X1 : ∀ w ∈ u_ws RX1 TX1 3, w ∈ w_X11_climb := fun _ h => List.mem_cons_of_mem _ (List.mem_append_right _ (List.mem_append_right _ (List.mem_append_left _ h)))
theorem gg_X11_climb_X11_isFamily : GoodIn w_X11_climb w_X11_isFamily := goodIn_sub (fun _ h => List.mem_cons_of_mem _ (List.mem_append_right _ (List.mem_append_right _ (List.mem_append_right _ (List.mem_append_left _ h))))) (by decide +kernel)
theorem gg_X11_climb_X11_isZeroOrOne : GoodIn w_X11_climb w_X11_isZeroOrOne := goodIn_sub (fun _ h => List.mem_cons_of_mem _ (List.mem_append_right _ (List.mem_append_right _ (List.mem_append_right _ (List.mem_append_right _ (List.mem_append_left _ h)))))) (by decide +kernel)
theorem gg_X11_climb_X1_climbFrom : GoodIn w_X11_climb w_X1_climbFrom := goodIn_sub (fun _ h => List.mem_cons_of_mem _ (List.mem_append_right _ (List.mem_append_right _ (List.mem_append_right _ (List.mem_append_right _ (List.mem_append_right _ (List.mem_append_left _ h))))))) (by decide +kernel)
theorem g_X11_climb_X11_isFamily_163 : GoodIn w_X11_climb (wsV RX11 163 RX11 yX11_isFamily w_X11_isFamily) := goodIn_app (goodIn_of _ (by decide +kernel)) gg_X11_climb_X11_isFamily
theorem g_X11_climb_X11_isZeroOrOne_267 : GoodIn w_X11_climb (va_wsS RX11 267 yX11_isZeroOrOne w_X11_isZeroOrOne) := goodIn_app (goodIn_of _ (by decide +kernel)) gg_X11_climb_X11_isZeroOrOne
theorem g_X11_climb_X1_climbFrom_311 : GoodIn w_X11_climb (wsV RX11 311 RX1 yX1_climbFrom w_X1_climbFrom) := goodIn_app (goodIn_of _ (by decide +kernel)) gg_X11_climb_X1_climbFrom
set_option maxHeartbeats 4000000 in
set_option maxRecDepth 100000 in
theorem c_X11_climb (l : Launch) (E : py_E) (G : wf_G) (L : List Nat) (f : py_F) (sz : Nat) (x : Nat) (a : Int32) (b : Int32) (hG : GT G) (hWF : WF E G L f) (Tx : G.1 x = 12) : Met l yX11_climb w_X11_climb ({ frames := 2, cells := 0, slots := 0, locals := 50 }) (py_Pc E [.ref x, .int a, .int b] L f sz) (py_Qi E L f sz (fun _ L1 f1 => L = L1 ∧ f = f1)) 0 0 (va_A (va_pl L f) sz) := by
  refine Met.ofW (cc := cX11_climb) (maxL := 7) (ret := (some .int)) (by decide) rfl ?_
  intro p e s m args below meth c s₁ B hml hv
  obtain ⟨rfl, rfl, hw⟩ := py_start hv
  have G0 : CallFix p m c cX11_climb 7 s _ w_X11_climb RX11 := ⟨B.exec, B.bytes, hml, findClass_of_methodNamed B.named, atoms_spec (ws := w_X11_climb) B.pre⟩
  have hr := B.returns
  have hlk := B.notSynchronized
  have kcm1000000 : (-1000000 : Int32).toInt = -1000000 := rfl
  have kcm1 : (-1 : Int32).toInt = -1 := rfl
  have kc0 : (0 : Int32).toInt = 0 := rfl
  have kc1 : (1 : Int32).toInt = 1 := rfl
  have hl := lv_entry ([.ref x, .int a, .int b]) (n := 7) (Nat.le_of_ble_eq_true rfl)
  rw [lg_entry_eq]
  generalize (lg_sl ([.ref x, .int a, .int b]) ++ List.replicate (7 - (lg_sl ([.ref x, .int a, .int b])).length) Slot.unset).toArray = ls at hl ⊢
  have hl : lv_has ls 7 [(0, .ref x), (1, .int a), (2, .int b)] := hl
  have hRP : RP E G f f := RP.refl
  refine lv_aload_n G0.1 G0.2.1 dX11_climb_0 rfl (lv_at hl 0 rfl) ?_
  refine lv_iload_n G0.1 G0.2.1 dX11_climb_1 rfl (lv_at hl 1 rfl) ?_
  obtain ⟨t_1, t_2, t_3, t_4, t_5, t_6, t_7, t_8, t_9, t_10, t_11, t_12, t_13, tx_14, tx_15, tx_16, tx_17⟩ := wt_11 hG Tx
  obtain ⟨v_18, v_19, v_20, hr_24, b_21, b_22, b_23⟩ := wg_11 hWF Tx
  refine py_calli hw (va_runV (As := [.int a]) (rest := []) G0 (c_X11_isFamily l E G L f s.heap.size x a hG hWF Tx) (cwV 1 G0.2.2.2.2 g_X11_climb_X11_isFamily_163 rfl rfl rfl (by decide +kernel) ⟨(Nat.le_of_ble_eq_true rfl), (Nat.le_of_ble_eq_true rfl)⟩) (py_preV hw (C := RX11) (T := TX11) (N := 16) rfl hr_24) rfl rfl hl.1 rfl (lv_room (Nat.le_of_ble_eq_true rfl)) dX11_climb_2 ⟨(Nat.le_of_ble_eq_true rfl), (Nat.le_of_ble_eq_true rfl)⟩) (fun r_29 L_25 f_26 H_27 locs hp_28 hw => ?_)
  obtain ⟨b_31, en_30, rfl, rfl⟩ := hp_28
  refine lv_if_eq (tgt := 15) G0.1 G0.2.1 dX11_climb_5 (by decide) (fun c_32 => ?_) (fun c_32 => ?_)
  · skip
    have tc_32 := ti_eq c_32
    refine lv_ldc (v := (-1000000)) G0.1 G0.2.1 G0.2.2.2.1 (G0.2.2.2.2 (Cond.constant RX11 166 (-1000000)) (by decide +kernel)) dX11_climb_15 ?_
    exact py_iret G0 hr rfl hlk hw ⟨rfl, rfl⟩ dX11_climb_17
  · skip
    have tc_32 := ti_ne c_32
    refine lv_iload_n G0.1 G0.2.1 dX11_climb_8 rfl (lv_at hl 2 rfl) ?_
    refine py_calli hw (va_runS (As := [.int b]) (rest := []) G0 (c_X11_isZeroOrOne l E G L f H_27.size b hG hWF) (va_cwS 1 G0.2.2.2.2 g_X11_climb_X11_isZeroOrOne_267 rfl rfl rfl (by decide +kernel) ⟨(Nat.le_of_ble_eq_true rfl), (Nat.le_of_ble_eq_true rfl)⟩) (py_preS hw) rfl rfl hl.1 rfl (lv_room (Nat.le_of_ble_eq_true rfl)) dX11_climb_9 ⟨(Nat.le_of_ble_eq_true rfl), (Nat.le_of_ble_eq_true rfl)⟩) (fun r_37 L_33 f_34 H_35 locs hp_36 hw => ?_)
    obtain ⟨b_39, en_38, rfl, rfl⟩ := hp_36
    refine lv_if_ne (tgt := 18) G0.1 G0.2.1 dX11_climb_12 (by decide) (fun c_40 => ?_) (fun c_40 => ?_)
    · skip
      have tc_40 := ti_ne c_40
      refine lv_aload_n G0.1 G0.2.1 dX11_climb_18 rfl (lv_at hl 0 rfl) ?_
      refine py_get (C := RX11) (T := TX11) (N := 16) (k := 8) (v := .ref (G.2 x 8)) G0 hw in_X11_climb_X11 rfl hr_24 (by decide) (by decide +kernel) rfl dX11_climb_19 ?_
      obtain ⟨t_41, t_42⟩ := wt_1 hG t_9
      obtain ⟨v_43, hr_45, b_44⟩ := wg_1 hWF t_9
      refine py_get (C := RX1) (T := TX1) (N := 3) (k := 2) (v := .int v_43) G0 hw in_X11_climb_X1 rfl hr_45 (by decide) (by decide +kernel) rfl dX11_climb_22 ?_
      refine lv_if_ne (tgt := 38) G0.1 G0.2.1 dX11_climb_25 (by decide) (fun c_46 => ?_) (fun c_46 => ?_)
      · skip
        have tc_46 := ti_ne c_46
        refine lv_iconst (v := 0) G0.1 G0.2.1 dX11_climb_38 (by decide) ?_
        refine lv_istore_n (lv' := [(3, .int 0), (0, .ref x), (1, .int a), (2, .int b)]) G0.1 G0.2.1 dX11_climb_39 rfl hl (by decide) rfl (fun ls hl => ?_)
        refine lv_iconst (v := 0) G0.1 G0.2.1 dX11_climb_40 (by decide) ?_
        refine lv_istore (lv' := [(4, .int 0), (3, .int 0), (0, .ref x), (1, .int a), (2, .int b)]) G0.1 G0.2.1 dX11_climb_41 hl (by decide) rfl (fun ls hl => ?_)
        refine lv_iconst (v := 0) G0.1 G0.2.1 dX11_climb_43 (by decide) ?_
        refine lv_istore (lv' := [(5, .int 0), (4, .int 0), (3, .int 0), (0, .ref x), (1, .int a), (2, .int b)]) G0.1 G0.2.1 dX11_climb_44 hl (by decide) rfl (fun ls hl => ?_)
        have lo_46 : ∀ n_46 : Nat, ∀ (v_47 : Int32) (v_48 : Int32) (v_49 : Int32) (H_j46 : Heap) (locs : List Loc) (ls : Array Slot), (2147483647 - v_47.toInt).toNat = n_46 → (0 ≤ v_47.toInt ∧ v_47.toInt ≤ 2147483647) → py_W E (va_A (va_pl L f) s.heap.size) s L f H_j46 locs → lv_has ls 7 [(5, .int v_47), (4, .int v_48), (3, .int v_49), (0, .ref x), (1, .int a), (2, .int b)] → W p l e (headSpec w_X11_climb ({ frames := 2, cells := 0, slots := 0, locals := 50 })).room s m ([.ref x, .int a, .int b] : List Value).toArray below meth c H_j46 locs 0 0 (MQ below (py_Qi E L f s.heap.size (fun _ L1 f1 => L = L1 ∧ f = f1)) ([.ref x, .int a, .int b] : List Value).toArray s 0 0 (va_A (va_pl L f) s.heap.size)) (F0 m 46 ls []) := by
          intro n_46
          induction n_46 using Nat.strongRecOn with
          | _ n_46 ih_46 =>
            intro v_47 v_48 v_49 H_j46 locs ls hn_46 bv_47 hw hl
            refine lv_iload G0.1 G0.2.1 dX11_climb_46 (lv_at hl 0 rfl) ?_
            refine lv_aload_n G0.1 G0.2.1 dX11_climb_48 rfl (lv_at hl 3 rfl) ?_
            refine py_get (C := RX11) (T := TX11) (N := 16) (k := 8) (v := .ref (G.2 x 8)) G0 hw in_X11_climb_X11 rfl hr_24 (by decide) (by decide +kernel) rfl dX11_climb_49 ?_
            refine py_get (C := RX1) (T := TX1) (N := 3) (k := 2) (v := .int v_43) G0 hw in_X11_climb_X1 rfl hr_45 (by decide) (by decide +kernel) rfl dX11_climb_52 ?_
            refine lv_icmp_ge (tgt := 89) G0.1 G0.2.1 dX11_climb_55 (by decide) (fun c_50 => ?_) (fun c_50 => ?_)
            · skip
              have tc_50 := ti_le c_50
              refine lv_iload_n G0.1 G0.2.1 dX11_climb_89 rfl (lv_at hl 5 rfl) ?_
              have jn_99 : ∀ (v_51 : Int32) (H_j99 : Heap) (locs : List Loc) (ls : Array Slot), py_W E (va_A (va_pl L f) s.heap.size) s L f H_j99 locs → lv_has ls 7 [(5, .int v_47), (4, .int v_48), (3, .int v_49), (0, .ref x), (1, .int a), (2, .int b)] → W p l e (headSpec w_X11_climb ({ frames := 2, cells := 0, slots := 0, locals := 50 })).room s m ([.ref x, .int a, .int b] : List Value).toArray below meth c H_j99 locs 0 0 (MQ below (py_Qi E L f s.heap.size (fun _ L1 f1 => L = L1 ∧ f = f1)) ([.ref x, .int a, .int b] : List Value).toArray s 0 0 (va_A (va_pl L f) s.heap.size)) (F0 m 99 ls [.int v_51]) := by
                intro v_51 H_j99 locs ls hw hl
                exact py_iret G0 hr rfl hlk hw ⟨rfl, rfl⟩ dX11_climb_99
              refine lv_if_ne (tgt := 97) G0.1 G0.2.1 dX11_climb_90 (by decide) (fun c_52 => ?_) (fun c_52 => ?_)
              · skip
                have tc_52 := ti_ne c_52
                refine lv_iload G0.1 G0.2.1 dX11_climb_97 (lv_at hl 1 rfl) ?_
                exact jn_99 v_48 _ _ ls hw (lv_sub hl [0, 1, 2, 3, 4, 5] rfl)
              · skip
                have tc_52 := ti_eq c_52
                refine lv_iload_n G0.1 G0.2.1 dX11_climb_93 rfl (lv_at hl 2 rfl) ?_
                refine lv_goto (tgt := 99) G0.1 G0.2.1 dX11_climb_94 (by decide) ?_
                exact jn_99 v_49 _ _ ls hw (lv_sub hl [0, 1, 2, 3, 4, 5] rfl)
            · skip
              have tc_50 := ti_nle c_50
              refine lv_aload_n G0.1 G0.2.1 dX11_climb_58 rfl (lv_at hl 3 rfl) ?_
              refine py_get (C := RX11) (T := TX11) (N := 16) (k := 8) (v := .ref (G.2 x 8)) G0 hw in_X11_climb_X11 rfl hr_24 (by decide) (by decide +kernel) rfl dX11_climb_59 ?_
              refine lv_iload G0.1 G0.2.1 dX11_climb_62 (lv_at hl 0 rfl) ?_
              refine lv_iload_n G0.1 G0.2.1 dX11_climb_64 rfl (lv_at hl 4 rfl) ?_
              refine py_calli hw (va_runV (As := [.int v_47, .int a]) (rest := []) G0 (c_X1_climbFrom l E G L f H_j46.size (G.2 x 8) v_47 a hG hWF t_9 ⟨by omega, by omega⟩ ⟨by omega, by omega⟩) (cwV 2 G0.2.2.2.2 g_X11_climb_X1_climbFrom_311 rfl rfl rfl (by decide +kernel) ⟨(Nat.le_of_ble_eq_true rfl), (Nat.le_of_ble_eq_true rfl)⟩) (py_preV hw (C := RX1) (T := TX1) (N := 3) rfl hr_45) rfl rfl hl.1 rfl (lv_room (Nat.le_of_ble_eq_true rfl)) dX11_climb_65 ⟨(Nat.le_of_ble_eq_true rfl), (Nat.le_of_ble_eq_true rfl)⟩) (fun r_57 L_53 f_54 H_55 locs hp_56 hw => ?_)
              obtain ⟨rfl, rfl⟩ := hp_56
              have br_57 := wf_free r_57
              refine lv_istore (lv' := [(6, .int r_57), (5, .int v_47), (4, .int v_48), (3, .int v_49), (0, .ref x), (1, .int a), (2, .int b)]) G0.1 G0.2.1 dX11_climb_68 hl (by decide) rfl (fun ls hl => ?_)
              refine lv_iload G0.1 G0.2.1 dX11_climb_70 (lv_at hl 0 rfl) ?_
              refine lv_iload_n G0.1 G0.2.1 dX11_climb_72 rfl (lv_at hl 3 rfl) ?_
              refine lv_icmp_le (tgt := 83) G0.1 G0.2.1 dX11_climb_73 (by decide) (fun c_58 => ?_) (fun c_58 => ?_)
              · skip
                have tc_58 := ti_le c_58
                obtain ⟨x_59, ex_59⟩ : ∃ y : Int32, y = v_47 + 1 := ⟨_, rfl⟩
                first | have tx_59 := ti_add ex_59 (by omega) (by omega) | skip
                refine lv_iinc (v := x_59) (lv' := [(5, .int x_59), (6, .int r_57), (4, .int v_48), (3, .int v_49), (0, .ref x), (1, .int a), (2, .int b)]) G0.1 G0.2.1 dX11_climb_83 hl (k := 1) rfl (show _ + (1 : Int32) = _ from ex_59.symm) (by decide) rfl (fun ls hl => ?_)
                refine lv_goto (tgt := 46) G0.1 G0.2.1 dX11_climb_86 (by decide) ?_
                exact ih_46 ((2147483647 - x_59.toInt).toNat) (by omega) x_59 v_48 v_49 _ _ ls rfl ⟨by omega, by omega⟩ hw (lv_sub hl [0, 2, 3, 4, 5, 6] rfl)
              · skip
                have tc_58 := ti_nle c_58
                refine lv_iload G0.1 G0.2.1 dX11_climb_76 (lv_at hl 0 rfl) ?_
                refine lv_istore_n (lv' := [(3, .int r_57), (6, .int r_57), (5, .int v_47), (4, .int v_48), (0, .ref x), (1, .int a), (2, .int b)]) G0.1 G0.2.1 dX11_climb_78 rfl hl (by decide) rfl (fun ls hl => ?_)
                refine lv_iload G0.1 G0.2.1 dX11_climb_79 (lv_at hl 2 rfl) ?_
                refine lv_istore (lv' := [(4, .int v_47), (3, .int r_57), (6, .int r_57), (5, .int v_47), (0, .ref x), (1, .int a), (2, .int b)]) G0.1 G0.2.1 dX11_climb_81 hl (by decide) rfl (fun ls hl => ?_)
                obtain ⟨x_60, ex_60⟩ : ∃ y : Int32, y = v_47 + 1 := ⟨_, rfl⟩
                first | have tx_60 := ti_add ex_60 (by omega) (by omega) | skip
                refine lv_iinc (v := x_60) (lv' := [(5, .int x_60), (4, .int v_47), (3, .int r_57), (6, .int r_57), (0, .ref x), (1, .int a), (2, .int b)]) G0.1 G0.2.1 dX11_climb_83 hl (k := 3) rfl (show _ + (1 : Int32) = _ from ex_60.symm) (by decide) rfl (fun ls hl => ?_)
                refine lv_goto (tgt := 46) G0.1 G0.2.1 dX11_climb_86 (by decide) ?_
                exact ih_46 ((2147483647 - x_60.toInt).toNat) (by omega) x_60 v_47 r_57 _ _ ls rfl ⟨by omega, by omega⟩ hw (lv_sub hl [0, 1, 2, 4, 5, 6] rfl)
        exact lo_46 _ 0 0 0 _ _ ls rfl ⟨by omega, by omega⟩ hw (lv_sub hl [0, 1, 2, 3, 4, 5] rfl)
      · skip
        have tc_46 := ti_eq c_46
        refine lv_iload_n G0.1 G0.2.1 dX11_climb_28 rfl (lv_at hl 2 rfl) ?_
        have jn_37 : ∀ (v_61 : Int32) (H_j37 : Heap) (locs : List Loc) (ls : Array Slot), ((-1) ≤ v_61.toInt ∧ v_61.toInt ≤ 0) → py_W E (va_A (va_pl L f) s.heap.size) s L f H_j37 locs → lv_has ls 7 [(0, .ref x), (1, .int a), (2, .int b)] → W p l e (headSpec w_X11_climb ({ frames := 2, cells := 0, slots := 0, locals := 50 })).room s m ([.ref x, .int a, .int b] : List Value).toArray below meth c H_j37 locs 0 0 (MQ below (py_Qi E L f s.heap.size (fun _ L1 f1 => L = L1 ∧ f = f1)) ([.ref x, .int a, .int b] : List Value).toArray s 0 0 (va_A (va_pl L f) s.heap.size)) (F0 m 37 ls [.int v_61]) := by
          intro v_61 H_j37 locs ls bv_61 hw hl
          exact py_iret G0 hr rfl hlk hw ⟨rfl, rfl⟩ dX11_climb_37
        refine lv_if_ne (tgt := 36) G0.1 G0.2.1 dX11_climb_29 (by decide) (fun c_62 => ?_) (fun c_62 => ?_)
        · skip
          have tc_62 := ti_ne c_62
          refine lv_iconst (v := (-1)) G0.1 G0.2.1 dX11_climb_36 (by decide) ?_
          exact jn_37 (-1) _ _ ls ⟨by omega, by omega⟩ hw (lv_sub hl [0, 1, 2] rfl)
        · skip
          have tc_62 := ti_eq c_62
          refine lv_iconst (v := 0) G0.1 G0.2.1 dX11_climb_32 (by decide) ?_
          refine lv_goto (tgt := 37) G0.1 G0.2.1 dX11_climb_33 (by decide) ?_
          exact jn_37 0 _ _ ls ⟨by omega, by omega⟩ hw (lv_sub hl [0, 1, 2] rfl)
    · skip
      have tc_40 := ti_eq c_40
      refine lv_ldc (v := (-1000000)) G0.1 G0.2.1 G0.2.2.2.1 (G0.2.2.2.2 (Cond.constant RX11 166 (-1000000)) (by decide +kernel)) dX11_climb_15 ?_
      exact py_iret G0 hr rfl hlk hw ⟨rfl, rfl⟩ dX11_climb_17

def w_X11_full : List Cond := .code yX11_full cX11_full 1 (some .int) :: ([Cond.methodLink RX11 218 yX11_hasValley, Cond.instanceMethod yX11_hasValley, Cond.selects RX11 yX11_hasValley yX11_hasValley, Cond.initialized RX11, Cond.fieldLink RX11 47 "HeadYear" "folk" "LHeadYear$Folk;", Cond.methodLink RX11 314 yX2_fullBits, Cond.instanceMethod yX2_fullBits, Cond.selects RX2 yX2_fullBits yX2_fullBits, Cond.initialized RX2] ++ (u_ws RX11 TX11 16 ++ (w_X11_hasValley ++ (w_X2_fullBits ++ ([])))))
theorem in_X11_full_X11 : ∀ w ∈ u_ws RX11 TX11 16, w ∈ w_X11_full := fun _ h => List.mem_cons_of_mem _ (List.mem_append_right _ (List.mem_append_left _ h))
theorem gg_X11_full_X11_hasValley : GoodIn w_X11_full w_X11_hasValley := goodIn_sub (fun _ h => List.mem_cons_of_mem _ (List.mem_append_right _ (List.mem_append_right _ (List.mem_append_left _ h)))) (by decide +kernel)
theorem gg_X11_full_X2_fullBits : GoodIn w_X11_full w_X2_fullBits := goodIn_sub (fun _ h => List.mem_cons_of_mem _ (List.mem_append_right _ (List.mem_append_right _ (List.mem_append_right _ (List.mem_append_left _ h))))) (by decide +kernel)
theorem g_X11_full_X11_hasValley_218 : GoodIn w_X11_full (wsV RX11 218 RX11 yX11_hasValley w_X11_hasValley) := goodIn_app (goodIn_of _ (by decide +kernel)) gg_X11_full_X11_hasValley
theorem g_X11_full_X2_fullBits_314 : GoodIn w_X11_full (wsV RX11 314 RX2 yX2_fullBits w_X2_fullBits) := goodIn_app (goodIn_of _ (by decide +kernel)) gg_X11_full_X2_fullBits
set_option maxHeartbeats 4000000 in
set_option maxRecDepth 100000 in
theorem c_X11_full (l : Launch) (E : py_E) (G : wf_G) (L : List Nat) (f : py_F) (sz : Nat) (x : Nat) (hG : GT G) (hWF : WF E G L f) (Tx : G.1 x = 12) : Met l yX11_full w_X11_full ({ frames := 3, cells := 0, slots := 0, locals := 66 }) (py_Pc E [.ref x] L f sz) (py_Qi E L f sz (fun _ L1 f1 => L = L1 ∧ f = f1)) 0 0 (va_A (va_pl L f) sz) := by
  refine Met.ofW (cc := cX11_full) (maxL := 1) (ret := (some .int)) (by decide) rfl ?_
  intro p e s m args below meth c s₁ B hml hv
  obtain ⟨rfl, rfl, hw⟩ := py_start hv
  have G0 : CallFix p m c cX11_full 1 s _ w_X11_full RX11 := ⟨B.exec, B.bytes, hml, findClass_of_methodNamed B.named, atoms_spec (ws := w_X11_full) B.pre⟩
  have hr := B.returns
  have hlk := B.notSynchronized
  have kcm1 : (-1 : Int32).toInt = -1 := rfl
  have kc0 : (0 : Int32).toInt = 0 := rfl
  have kc1 : (1 : Int32).toInt = 1 := rfl
  have hl := lv_entry ([.ref x]) (n := 1) (Nat.le_of_ble_eq_true rfl)
  rw [lg_entry_eq]
  generalize (lg_sl ([.ref x]) ++ List.replicate (1 - (lg_sl ([.ref x])).length) Slot.unset).toArray = ls at hl ⊢
  have hl : lv_has ls 1 [(0, .ref x)] := hl
  have hRP : RP E G f f := RP.refl
  refine lv_aload_n G0.1 G0.2.1 dX11_full_0 rfl (lv_at hl 0 rfl) ?_
  obtain ⟨t_1, t_2, t_3, t_4, t_5, t_6, t_7, t_8, t_9, t_10, t_11, t_12, t_13, tx_14, tx_15, tx_16, tx_17⟩ := wt_11 hG Tx
  obtain ⟨v_18, v_19, v_20, hr_24, b_21, b_22, b_23⟩ := wg_11 hWF Tx
  refine py_calli hw (va_runV (As := []) (rest := []) G0 (c_X11_hasValley l E G L f s.heap.size x hG hWF Tx) (cwV 0 G0.2.2.2.2 g_X11_full_X11_hasValley_218 rfl rfl rfl (by decide +kernel) ⟨(Nat.le_of_ble_eq_true rfl), (Nat.le_of_ble_eq_true rfl)⟩) (py_preV hw (C := RX11) (T := TX11) (N := 16) rfl hr_24) rfl rfl hl.1 rfl (lv_room (Nat.le_of_ble_eq_true rfl)) dX11_full_1 ⟨(Nat.le_of_ble_eq_true rfl), (Nat.le_of_ble_eq_true rfl)⟩) (fun r_29 L_25 f_26 H_27 locs hp_28 hw => ?_)
  obtain ⟨b_31, en_30, rfl, rfl⟩ := hp_28
  have jn_18 : ∀ (v_32 : Int32) (H_j18 : Heap) (locs : List Loc) (ls : Array Slot), py_W E (va_A (va_pl L f) s.heap.size) s L f H_j18 locs → lv_has ls 1 [(0, .ref x)] → W p l e (headSpec w_X11_full ({ frames := 3, cells := 0, slots := 0, locals := 66 })).room s m ([.ref x] : List Value).toArray below meth c H_j18 locs 0 0 (MQ below (py_Qi E L f s.heap.size (fun _ L1 f1 => L = L1 ∧ f = f1)) ([.ref x] : List Value).toArray s 0 0 (va_A (va_pl L f) s.heap.size)) (F0 m 18 ls [.int v_32]) := by
    intro v_32 H_j18 locs ls hw hl
    exact py_iret G0 hr rfl hlk hw ⟨rfl, rfl⟩ dX11_full_18
  refine lv_if_eq (tgt := 17) G0.1 G0.2.1 dX11_full_4 (by decide) (fun c_33 => ?_) (fun c_33 => ?_)
  · skip
    have tc_33 := ti_eq c_33
    refine lv_iconst (v := (-1)) G0.1 G0.2.1 dX11_full_17 (by decide) ?_
    exact jn_18 (-1) _ _ ls hw (lv_sub hl [0] rfl)
  · skip
    have tc_33 := ti_ne c_33
    refine lv_aload_n G0.1 G0.2.1 dX11_full_7 rfl (lv_at hl 0 rfl) ?_
    refine py_get (C := RX11) (T := TX11) (N := 16) (k := 5) (v := .ref (G.2 x 5)) G0 hw in_X11_full_X11 rfl hr_24 (by decide) (by decide +kernel) rfl dX11_full_8 ?_
    obtain ⟨t_34, t_35, t_36, t_37, t_38, t_39, t_40, t_41, t_42⟩ := wt_2 hG t_6
    obtain ⟨r_43, y_44, v_45, hr_48, ty_46, b_47⟩ := wg_2 hWF t_6
    refine py_calli hw (va_runV (As := []) (rest := []) G0 (c_X2_fullBits l E G L f H_27.size (G.2 x 5) hG hWF t_6) (cwV 0 G0.2.2.2.2 g_X11_full_X2_fullBits_314 rfl rfl rfl (by decide +kernel) ⟨(Nat.le_of_ble_eq_true rfl), (Nat.le_of_ble_eq_true rfl)⟩) (py_preV hw (C := RX2) (T := TX2) (N := 12) rfl hr_48) rfl rfl hl.1 rfl (lv_room (Nat.le_of_ble_eq_true rfl)) dX11_full_11 ⟨(Nat.le_of_ble_eq_true rfl), (Nat.le_of_ble_eq_true rfl)⟩) (fun r_53 L_49 f_50 H_51 locs hp_52 hw => ?_)
    obtain ⟨rfl, rfl⟩ := hp_52
    have br_53 := wf_free r_53
    refine lv_goto (tgt := 18) G0.1 G0.2.1 dX11_full_14 (by decide) ?_
    exact jn_18 r_53 _ _ ls hw (lv_sub hl [0] rfl)

def w_X11_hungry : List Cond := .code yX11_hungry cX11_hungry 6 (some .int) :: ([Cond.methodLink RX11 218 yX11_hasValley, Cond.instanceMethod yX11_hasValley, Cond.selects RX11 yX11_hasValley yX11_hasValley, Cond.initialized RX11, Cond.methodLink RX11 267 yX11_isZeroOrOne, Cond.static yX11_isZeroOrOne, Cond.fieldLink RX11 47 "HeadYear" "folk" "LHeadYear$Folk;", Cond.fieldLink RX11 128 "HeadYear$Folk" "valley" "LHeadYear$Valley;", Cond.fieldLink RX11 317 "HeadYear$Valley" "levels" "I", Cond.methodLink RX11 160 yX2_lackAt, Cond.instanceMethod yX2_lackAt, Cond.selects RX2 yX2_lackAt yX2_lackAt, Cond.initialized RX2] ++ (u_ws RX11 TX11 16 ++ (u_ws RX2 TX2 12 ++ (u_ws RX9 TX9 10 ++ (w_X11_hasValley ++ (w_X11_isZeroOrOne ++ (w_X2_lackAt ++ ([]))))))))
theorem in_X11_hungry_X11 : ∀ w ∈ u_ws RX11 TX11 16, w ∈ w_X11_hungry := fun _ h => List.mem_cons_of_mem _ (List.mem_append_right _ (List.mem_append_left _ h))
theorem in_X11_hungry_X2 : ∀ w ∈ u_ws RX2 TX2 12, w ∈ w_X11_hungry := fun _ h => List.mem_cons_of_mem _ (List.mem_append_right _ (List.mem_append_right _ (List.mem_append_left _ h)))
theorem in_X11_hungry_X9 : ∀ w ∈ u_ws RX9 TX9 10, w ∈ w_X11_hungry := fun _ h => List.mem_cons_of_mem _ (List.mem_append_right _ (List.mem_append_right _ (List.mem_append_right _ (List.mem_append_left _ h))))
theorem gg_X11_hungry_X11_hasValley : GoodIn w_X11_hungry w_X11_hasValley := goodIn_sub (fun _ h => List.mem_cons_of_mem _ (List.mem_append_right _ (List.mem_append_right _ (List.mem_append_right _ (List.mem_append_right _ (List.mem_append_left _ h)))))) (by decide +kernel)
theorem gg_X11_hungry_X11_isZeroOrOne : GoodIn w_X11_hungry w_X11_isZeroOrOne := goodIn_sub (fun _ h => List.mem_cons_of_mem _ (List.mem_append_right _ (List.mem_append_right _ (List.mem_append_right _ (List.mem_append_right _ (List.mem_append_right _ (List.mem_append_left _ h))))))) (by decide +kernel)
theorem gg_X11_hungry_X2_lackAt : GoodIn w_X11_hungry w_X2_lackAt := goodIn_sub (fun _ h => List.mem_cons_of_mem _ (List.mem_append_right _ (List.mem_append_right _ (List.mem_append_right _ (List.mem_append_right _ (List.mem_append_right _ (List.mem_append_right _ (List.mem_append_left _ h)))))))) (by decide +kernel)
theorem g_X11_hungry_X11_hasValley_218 : GoodIn w_X11_hungry (wsV RX11 218 RX11 yX11_hasValley w_X11_hasValley) := goodIn_app (goodIn_of _ (by decide +kernel)) gg_X11_hungry_X11_hasValley
theorem g_X11_hungry_X11_isZeroOrOne_267 : GoodIn w_X11_hungry (va_wsS RX11 267 yX11_isZeroOrOne w_X11_isZeroOrOne) := goodIn_app (goodIn_of _ (by decide +kernel)) gg_X11_hungry_X11_isZeroOrOne
theorem g_X11_hungry_X2_lackAt_160 : GoodIn w_X11_hungry (wsV RX11 160 RX2 yX2_lackAt w_X2_lackAt) := goodIn_app (goodIn_of _ (by decide +kernel)) gg_X11_hungry_X2_lackAt
set_option maxHeartbeats 4000000 in
set_option maxRecDepth 100000 in
theorem c_X11_hungry (l : Launch) (E : py_E) (G : wf_G) (L : List Nat) (f : py_F) (sz : Nat) (x : Nat) (a : Int32) (hG : GT G) (hWF : WF E G L f) (Tx : G.1 x = 12) : Met l yX11_hungry w_X11_hungry ({ frames := 2, cells := 0, slots := 0, locals := 45 }) (py_Pc E [.ref x, .int a] L f sz) (py_Qi E L f sz (fun _ L1 f1 => L = L1 ∧ f = f1)) 0 0 (va_A (va_pl L f) sz) := by
  refine Met.ofW (cc := cX11_hungry) (maxL := 6) (ret := (some .int)) (by decide) rfl ?_
  intro p e s m args below meth c s₁ B hml hv
  obtain ⟨rfl, rfl, hw⟩ := py_start hv
  have G0 : CallFix p m c cX11_hungry 6 s _ w_X11_hungry RX11 := ⟨B.exec, B.bytes, hml, findClass_of_methodNamed B.named, atoms_spec (ws := w_X11_hungry) B.pre⟩
  have hr := B.returns
  have hlk := B.notSynchronized
  have kcm1 : (-1 : Int32).toInt = -1 := rfl
  have kc0 : (0 : Int32).toInt = 0 := rfl
  have kc1 : (1 : Int32).toInt = 1 := rfl
  have hl := lv_entry ([.ref x, .int a]) (n := 6) (Nat.le_of_ble_eq_true rfl)
  rw [lg_entry_eq]
  generalize (lg_sl ([.ref x, .int a]) ++ List.replicate (6 - (lg_sl ([.ref x, .int a])).length) Slot.unset).toArray = ls at hl ⊢
  have hl : lv_has ls 6 [(0, .ref x), (1, .int a)] := hl
  have hRP : RP E G f f := RP.refl
  refine lv_aload_n G0.1 G0.2.1 dX11_hungry_0 rfl (lv_at hl 0 rfl) ?_
  obtain ⟨t_1, t_2, t_3, t_4, t_5, t_6, t_7, t_8, t_9, t_10, t_11, t_12, t_13, tx_14, tx_15, tx_16, tx_17⟩ := wt_11 hG Tx
  obtain ⟨v_18, v_19, v_20, hr_24, b_21, b_22, b_23⟩ := wg_11 hWF Tx
  refine py_calli hw (va_runV (As := []) (rest := []) G0 (c_X11_hasValley l E G L f s.heap.size x hG hWF Tx) (cwV 0 G0.2.2.2.2 g_X11_hungry_X11_hasValley_218 rfl rfl rfl (by decide +kernel) ⟨(Nat.le_of_ble_eq_true rfl), (Nat.le_of_ble_eq_true rfl)⟩) (py_preV hw (C := RX11) (T := TX11) (N := 16) rfl hr_24) rfl rfl hl.1 rfl (lv_room (Nat.le_of_ble_eq_true rfl)) dX11_hungry_1 ⟨(Nat.le_of_ble_eq_true rfl), (Nat.le_of_ble_eq_true rfl)⟩) (fun r_29 L_25 f_26 H_27 locs hp_28 hw => ?_)
  obtain ⟨b_31, en_30, rfl, rfl⟩ := hp_28
  refine lv_if_eq (tgt := 14) G0.1 G0.2.1 dX11_hungry_4 (by decide) (fun c_32 => ?_) (fun c_32 => ?_)
  · skip
    have tc_32 := ti_eq c_32
    refine lv_iconst (v := (-1)) G0.1 G0.2.1 dX11_hungry_14 (by decide) ?_
    exact py_iret G0 hr rfl hlk hw ⟨rfl, rfl⟩ dX11_hungry_15
  · skip
    have tc_32 := ti_ne c_32
    refine lv_iload_n G0.1 G0.2.1 dX11_hungry_7 rfl (lv_at hl 1 rfl) ?_
    refine py_calli hw (va_runS (As := [.int a]) (rest := []) G0 (c_X11_isZeroOrOne l E G L f H_27.size a hG hWF) (va_cwS 1 G0.2.2.2.2 g_X11_hungry_X11_isZeroOrOne_267 rfl rfl rfl (by decide +kernel) ⟨(Nat.le_of_ble_eq_true rfl), (Nat.le_of_ble_eq_true rfl)⟩) (py_preS hw) rfl rfl hl.1 rfl (lv_room (Nat.le_of_ble_eq_true rfl)) dX11_hungry_8 ⟨(Nat.le_of_ble_eq_true rfl), (Nat.le_of_ble_eq_true rfl)⟩) (fun r_37 L_33 f_34 H_35 locs hp_36 hw => ?_)
    obtain ⟨b_39, en_38, rfl, rfl⟩ := hp_36
    refine lv_if_ne (tgt := 16) G0.1 G0.2.1 dX11_hungry_11 (by decide) (fun c_40 => ?_) (fun c_40 => ?_)
    · skip
      have tc_40 := ti_ne c_40
      refine lv_iconst (v := 0) G0.1 G0.2.1 dX11_hungry_16 (by decide) ?_
      refine lv_istore_n (lv' := [(2, .int 0), (0, .ref x), (1, .int a)]) G0.1 G0.2.1 dX11_hungry_17 rfl hl (by decide) rfl (fun ls hl => ?_)
      refine lv_iconst (v := 0) G0.1 G0.2.1 dX11_hungry_18 (by decide) ?_
      refine lv_istore_n (lv' := [(3, .int 0), (2, .int 0), (0, .ref x), (1, .int a)]) G0.1 G0.2.1 dX11_hungry_19 rfl hl (by decide) rfl (fun ls hl => ?_)
      refine lv_iconst (v := 0) G0.1 G0.2.1 dX11_hungry_20 (by decide) ?_
      refine lv_istore (lv' := [(4, .int 0), (3, .int 0), (2, .int 0), (0, .ref x), (1, .int a)]) G0.1 G0.2.1 dX11_hungry_21 hl (by decide) rfl (fun ls hl => ?_)
      have lo_23 : ∀ n_23 : Nat, ∀ (v_41 : Int32) (v_42 : Int32) (v_43 : Int32) (H_j23 : Heap) (locs : List Loc) (ls : Array Slot), (2147483647 - v_41.toInt).toNat = n_23 → (0 ≤ v_41.toInt ∧ v_41.toInt ≤ 2147483647) → py_W E (va_A (va_pl L f) s.heap.size) s L f H_j23 locs → lv_has ls 6 [(4, .int v_41), (3, .int v_42), (2, .int v_43), (0, .ref x), (1, .int a)] → W p l e (headSpec w_X11_hungry ({ frames := 2, cells := 0, slots := 0, locals := 45 })).room s m ([.ref x, .int a] : List Value).toArray below meth c H_j23 locs 0 0 (MQ below (py_Qi E L f s.heap.size (fun _ L1 f1 => L = L1 ∧ f = f1)) ([.ref x, .int a] : List Value).toArray s 0 0 (va_A (va_pl L f) s.heap.size)) (F0 m 23 ls []) := by
        intro n_23
        induction n_23 using Nat.strongRecOn with
        | _ n_23 ih_23 =>
          intro v_41 v_42 v_43 H_j23 locs ls hn_23 bv_41 hw hl
          refine lv_iload G0.1 G0.2.1 dX11_hungry_23 (lv_at hl 0 rfl) ?_
          refine lv_aload_n G0.1 G0.2.1 dX11_hungry_25 rfl (lv_at hl 3 rfl) ?_
          refine py_get (C := RX11) (T := TX11) (N := 16) (k := 5) (v := .ref (G.2 x 5)) G0 hw in_X11_hungry_X11 rfl hr_24 (by decide) (by decide +kernel) rfl dX11_hungry_26 ?_
          obtain ⟨t_44, t_45, t_46, t_47, t_48, t_49, t_50, t_51, t_52⟩ := wt_2 hG t_6
          obtain ⟨r_53, y_54, v_55, hr_58, ty_56, b_57⟩ := wg_2 hWF t_6
          refine py_get (C := RX2) (T := TX2) (N := 12) (k := 9) (v := .ref r_53) G0 hw in_X11_hungry_X2 rfl hr_58 (by decide) (by decide +kernel) rfl dX11_hungry_29 ?_
          obtain ⟨t_59, t_60, t_61, t_62, t_63, t_64, t_65, t_66⟩ := wt_9 hG ty_56
          obtain ⟨v_67, v_68, hr_71, b_69, b_70⟩ := wg_9 hWF ty_56
          have tq_72 := va_eq hr_71
          refine py_get (C := RX9) (T := TX9) (N := 10) (k := 8) (v := .int v_67) G0 hw in_X11_hungry_X9 rfl hr_71 (by decide) (by decide +kernel) rfl dX11_hungry_32 ?_
          refine lv_icmp_ge (tgt := 76) G0.1 G0.2.1 dX11_hungry_35 (by decide) (fun c_73 => ?_) (fun c_73 => ?_)
          · skip
            have tc_73 := ti_le c_73
            refine lv_iload_n G0.1 G0.2.1 dX11_hungry_76 rfl (lv_at hl 4 rfl) ?_
            have jn_85 : ∀ (v_74 : Int32) (H_j85 : Heap) (locs : List Loc) (ls : Array Slot), py_W E (va_A (va_pl L f) s.heap.size) s L f H_j85 locs → lv_has ls 6 [(4, .int v_41), (3, .int v_42), (2, .int v_43), (0, .ref x), (1, .int a)] → W p l e (headSpec w_X11_hungry ({ frames := 2, cells := 0, slots := 0, locals := 45 })).room s m ([.ref x, .int a] : List Value).toArray below meth c H_j85 locs 0 0 (MQ below (py_Qi E L f s.heap.size (fun _ L1 f1 => L = L1 ∧ f = f1)) ([.ref x, .int a] : List Value).toArray s 0 0 (va_A (va_pl L f) s.heap.size)) (F0 m 85 ls [.int v_74]) := by
              intro v_74 H_j85 locs ls hw hl
              exact py_iret G0 hr rfl hlk hw ⟨rfl, rfl⟩ dX11_hungry_85
            refine lv_if_ne (tgt := 84) G0.1 G0.2.1 dX11_hungry_77 (by decide) (fun c_75 => ?_) (fun c_75 => ?_)
            · skip
              have tc_75 := ti_ne c_75
              refine lv_iload_n G0.1 G0.2.1 dX11_hungry_84 rfl (lv_at hl 1 rfl) ?_
              exact jn_85 v_42 _ _ ls hw (lv_sub hl [0, 1, 2, 3, 4] rfl)
            · skip
              have tc_75 := ti_eq c_75
              refine lv_iload_n G0.1 G0.2.1 dX11_hungry_80 rfl (lv_at hl 2 rfl) ?_
              refine lv_goto (tgt := 85) G0.1 G0.2.1 dX11_hungry_81 (by decide) ?_
              exact jn_85 v_43 _ _ ls hw (lv_sub hl [0, 1, 2, 3, 4] rfl)
          · skip
            have tc_73 := ti_nle c_73
            refine lv_aload_n G0.1 G0.2.1 dX11_hungry_38 rfl (lv_at hl 3 rfl) ?_
            refine py_get (C := RX11) (T := TX11) (N := 16) (k := 5) (v := .ref (G.2 x 5)) G0 hw in_X11_hungry_X11 rfl hr_24 (by decide) (by decide +kernel) rfl dX11_hungry_39 ?_
            refine lv_iload G0.1 G0.2.1 dX11_hungry_42 (lv_at hl 0 rfl) ?_
            refine py_calli hw (va_runV (As := [.int v_41]) (rest := []) G0 (c_X2_lackAt l E G L f H_j23.size (G.2 x 5) v_41 hG hWF t_6 ⟨by omega, by omega⟩) (cwV 1 G0.2.2.2.2 g_X11_hungry_X2_lackAt_160 rfl rfl rfl (by decide +kernel) ⟨(Nat.le_of_ble_eq_true rfl), (Nat.le_of_ble_eq_true rfl)⟩) (py_preV hw (C := RX2) (T := TX2) (N := 12) rfl hr_58) rfl rfl hl.1 rfl (lv_room (Nat.le_of_ble_eq_true rfl)) dX11_hungry_44 ⟨(Nat.le_of_ble_eq_true rfl), (Nat.le_of_ble_eq_true rfl)⟩) (fun r_80 L_76 f_77 H_78 locs hp_79 hw => ?_)
            obtain ⟨rfl, rfl⟩ := hp_79
            have br_80 := wf_free r_80
            refine lv_istore (lv' := [(5, .int r_80), (4, .int v_41), (3, .int v_42), (2, .int v_43), (0, .ref x), (1, .int a)]) G0.1 G0.2.1 dX11_hungry_47 hl (by decide) rfl (fun ls hl => ?_)
            refine lv_iload_n G0.1 G0.2.1 dX11_hungry_49 rfl (lv_at hl 2 rfl) ?_
            refine lv_iload G0.1 G0.2.1 dX11_hungry_50 (lv_at hl 0 rfl) ?_
            refine lv_iadd G0.1 G0.2.1 dX11_hungry_52 ?_
            refine lv_topi (fun x_81 ex_81 => ?_)
            first | have tx_81 := ti_add ex_81 (by omega) (by omega) | skip
            refine lv_istore_n (lv' := [(3, .int x_81), (5, .int r_80), (4, .int v_41), (2, .int v_43), (0, .ref x), (1, .int a)]) G0.1 G0.2.1 dX11_hungry_53 rfl hl (by decide) rfl (fun ls hl => ?_)
            refine lv_iload_n G0.1 G0.2.1 dX11_hungry_54 rfl (lv_at hl 3 rfl) ?_
            refine lv_iload G0.1 G0.2.1 dX11_hungry_55 (lv_at hl 1 rfl) ?_
            have jn_68 : ∀ (v_82 : Int32) (H_j68 : Heap) (locs : List Loc) (ls : Array Slot), py_W E (va_A (va_pl L f) s.heap.size) s L f H_j68 locs → lv_has ls 6 [(3, .int x_81), (5, .int r_80), (4, .int v_41), (2, .int v_43), (0, .ref x), (1, .int a)] → W p l e (headSpec w_X11_hungry ({ frames := 2, cells := 0, slots := 0, locals := 45 })).room s m ([.ref x, .int a] : List Value).toArray below meth c H_j68 locs 0 0 (MQ below (py_Qi E L f s.heap.size (fun _ L1 f1 => L = L1 ∧ f = f1)) ([.ref x, .int a] : List Value).toArray s 0 0 (va_A (va_pl L f) s.heap.size)) (F0 m 68 ls [.int v_82, .int v_43]) := by
              intro v_82 H_j68 locs ls hw hl
              refine lv_ior G0.1 G0.2.1 dX11_hungry_68 ?_
              refine lv_topi (fun x_83 ex_83 => ?_)
              first | have bx_83 := ti_or ex_83 ⟨by omega, by omega⟩ ⟨by omega, by omega⟩ | skip
              refine lv_istore_n (lv' := [(2, .int x_83), (3, .int x_81), (5, .int r_80), (4, .int v_41), (0, .ref x), (1, .int a)]) G0.1 G0.2.1 dX11_hungry_69 rfl hl (by decide) rfl (fun ls hl => ?_)
              obtain ⟨x_84, ex_84⟩ : ∃ y : Int32, y = v_41 + 1 := ⟨_, rfl⟩
              first | have tx_84 := ti_add ex_84 (by omega) (by omega) | skip
              refine lv_iinc (v := x_84) (lv' := [(4, .int x_84), (2, .int x_83), (3, .int x_81), (5, .int r_80), (0, .ref x), (1, .int a)]) G0.1 G0.2.1 dX11_hungry_70 hl (k := 3) rfl (show _ + (1 : Int32) = _ from ex_84.symm) (by decide) rfl (fun ls hl => ?_)
              refine lv_goto (tgt := 23) G0.1 G0.2.1 dX11_hungry_73 (by decide) ?_
              exact ih_23 ((2147483647 - x_84.toInt).toNat) (by omega) x_84 x_81 x_83 _ _ ls rfl ⟨by omega, by omega⟩ hw (lv_sub hl [0, 2, 1, 4, 5] rfl)
            refine lv_if_le (tgt := 67) G0.1 G0.2.1 dX11_hungry_57 (by decide) (fun c_85 => ?_) (fun c_85 => ?_)
            · skip
              have tc_85 := ti_le c_85
              refine lv_iconst (v := 0) G0.1 G0.2.1 dX11_hungry_67 (by decide) ?_
              exact jn_68 0 _ _ ls hw (lv_sub hl [0, 1, 2, 3, 4, 5] rfl)
            · skip
              have tc_85 := ti_nle c_85
              refine lv_iconst (v := 1) G0.1 G0.2.1 dX11_hungry_60 (by decide) ?_
              refine lv_iload G0.1 G0.2.1 dX11_hungry_61 (lv_at hl 2 rfl) ?_
              refine lv_ishl G0.1 G0.2.1 dX11_hungry_63 ?_
              refine lv_topi (fun x_86 ex_86 => ?_)
              first | have bx_86 : 0 ≤ x_86.toInt ∧ x_86.toInt ≤ 512 := (by rcases ti_ten v_41 (by omega) (by omega) with h | h | h | h | h | h | h | h | h | h <;> (rw [ex_86, h]; decide +kernel)) | skip
              refine lv_goto (tgt := 68) G0.1 G0.2.1 dX11_hungry_64 (by decide) ?_
              exact jn_68 x_86 _ _ ls hw (lv_sub hl [0, 1, 2, 3, 4, 5] rfl)
      exact lo_23 _ 0 0 0 _ _ ls rfl ⟨by omega, by omega⟩ hw (lv_sub hl [0, 1, 2, 3, 4] rfl)
    · skip
      have tc_40 := ti_eq c_40
      refine lv_iconst (v := (-1)) G0.1 G0.2.1 dX11_hungry_14 (by decide) ?_
      exact py_iret G0 hr rfl hlk hw ⟨rfl, rfl⟩ dX11_hungry_15

def w_X11_rank : List Cond := .code yX11_rank cX11_rank 3 (some .int) :: ([Cond.methodLink RX11 163 yX11_isFamily, Cond.instanceMethod yX11_isFamily, Cond.selects RX11 yX11_isFamily yX11_isFamily, Cond.initialized RX11, Cond.fieldLink RX11 47 "HeadYear" "folk" "LHeadYear$Folk;", Cond.fieldLink RX11 128 "HeadYear$Folk" "valley" "LHeadYear$Valley;", Cond.fieldLink RX11 319 "HeadYear$Valley" "families" "I", Cond.methodLink RX11 322 yX2_familiesAhead, Cond.instanceMethod yX2_familiesAhead, Cond.selects RX2 yX2_familiesAhead yX2_familiesAhead, Cond.initialized RX2] ++ (u_ws RX11 TX11 16 ++ (u_ws RX2 TX2 12 ++ (u_ws RX9 TX9 10 ++ (w_X11_isFamily ++ (w_X2_familiesAhead ++ ([])))))))
theorem in_X11_rank_X11 : ∀ w ∈ u_ws RX11 TX11 16, w ∈ w_X11_rank := fun _ h => List.mem_cons_of_mem _ (List.mem_append_right _ (List.mem_append_left _ h))
theorem in_X11_rank_X2 : ∀ w ∈ u_ws RX2 TX2 12, w ∈ w_X11_rank := fun _ h => List.mem_cons_of_mem _ (List.mem_append_right _ (List.mem_append_right _ (List.mem_append_left _ h)))
theorem in_X11_rank_X9 : ∀ w ∈ u_ws RX9 TX9 10, w ∈ w_X11_rank := fun _ h => List.mem_cons_of_mem _ (List.mem_append_right _ (List.mem_append_right _ (List.mem_append_right _ (List.mem_append_left _ h))))
theorem gg_X11_rank_X11_isFamily : GoodIn w_X11_rank w_X11_isFamily := goodIn_sub (fun _ h => List.mem_cons_of_mem _ (List.mem_append_right _ (List.mem_append_right _ (List.mem_append_right _ (List.mem_append_right _ (List.mem_append_left _ h)))))) (by decide +kernel)
theorem gg_X11_rank_X2_familiesAhead : GoodIn w_X11_rank w_X2_familiesAhead := goodIn_sub (fun _ h => List.mem_cons_of_mem _ (List.mem_append_right _ (List.mem_append_right _ (List.mem_append_right _ (List.mem_append_right _ (List.mem_append_right _ (List.mem_append_left _ h))))))) (by decide +kernel)
theorem g_X11_rank_X11_isFamily_163 : GoodIn w_X11_rank (wsV RX11 163 RX11 yX11_isFamily w_X11_isFamily) := goodIn_app (goodIn_of _ (by decide +kernel)) gg_X11_rank_X11_isFamily
theorem g_X11_rank_X2_familiesAhead_322 : GoodIn w_X11_rank (wsV RX11 322 RX2 yX2_familiesAhead w_X2_familiesAhead) := goodIn_app (goodIn_of _ (by decide +kernel)) gg_X11_rank_X2_familiesAhead
set_option maxHeartbeats 4000000 in
set_option maxRecDepth 100000 in
theorem c_X11_rank (l : Launch) (E : py_E) (G : wf_G) (L : List Nat) (f : py_F) (sz : Nat) (x : Nat) (a : Int32) (hG : GT G) (hWF : WF E G L f) (Tx : G.1 x = 12) : Met l yX11_rank w_X11_rank ({ frames := 1, cells := 0, slots := 0, locals := 24 }) (py_Pc E [.ref x, .int a] L f sz) (py_Qi E L f sz (fun _ L1 f1 => L = L1 ∧ f = f1)) 0 0 (va_A (va_pl L f) sz) := by
  refine Met.ofW (cc := cX11_rank) (maxL := 3) (ret := (some .int)) (by decide) rfl ?_
  intro p e s m args below meth c s₁ B hml hv
  obtain ⟨rfl, rfl, hw⟩ := py_start hv
  have G0 : CallFix p m c cX11_rank 3 s _ w_X11_rank RX11 := ⟨B.exec, B.bytes, hml, findClass_of_methodNamed B.named, atoms_spec (ws := w_X11_rank) B.pre⟩
  have hr := B.returns
  have hlk := B.notSynchronized
  have kcm1 : (-1 : Int32).toInt = -1 := rfl
  have kc0 : (0 : Int32).toInt = 0 := rfl
  have kc1 : (1 : Int32).toInt = 1 := rfl
  have hl := lv_entry ([.ref x, .int a]) (n := 3) (Nat.le_of_ble_eq_true rfl)
  rw [lg_entry_eq]
  generalize (lg_sl ([.ref x, .int a]) ++ List.replicate (3 - (lg_sl ([.ref x, .int a])).length) Slot.unset).toArray = ls at hl ⊢
  have hl : lv_has ls 3 [(0, .ref x), (1, .int a)] := hl
  have hRP : RP E G f f := RP.refl
  refine lv_aload_n G0.1 G0.2.1 dX11_rank_0 rfl (lv_at hl 0 rfl) ?_
  refine lv_iload_n G0.1 G0.2.1 dX11_rank_1 rfl (lv_at hl 1 rfl) ?_
  obtain ⟨t_1, t_2, t_3, t_4, t_5, t_6, t_7, t_8, t_9, t_10, t_11, t_12, t_13, tx_14, tx_15, tx_16, tx_17⟩ := wt_11 hG Tx
  obtain ⟨v_18, v_19, v_20, hr_24, b_21, b_22, b_23⟩ := wg_11 hWF Tx
  refine py_calli hw (va_runV (As := [.int a]) (rest := []) G0 (c_X11_isFamily l E G L f s.heap.size x a hG hWF Tx) (cwV 1 G0.2.2.2.2 g_X11_rank_X11_isFamily_163 rfl rfl rfl (by decide +kernel) ⟨(Nat.le_of_ble_eq_true rfl), (Nat.le_of_ble_eq_true rfl)⟩) (py_preV hw (C := RX11) (T := TX11) (N := 16) rfl hr_24) rfl rfl hl.1 rfl (lv_room (Nat.le_of_ble_eq_true rfl)) dX11_rank_2 ⟨(Nat.le_of_ble_eq_true rfl), (Nat.le_of_ble_eq_true rfl)⟩) (fun r_29 L_25 f_26 H_27 locs hp_28 hw => ?_)
  obtain ⟨b_31, en_30, rfl, rfl⟩ := hp_28
  refine lv_if_ne (tgt := 10) G0.1 G0.2.1 dX11_rank_5 (by decide) (fun c_32 => ?_) (fun c_32 => ?_)
  · skip
    have tc_32 := ti_ne c_32
    refine lv_iconst (v := 0) G0.1 G0.2.1 dX11_rank_10 (by decide) ?_
    refine lv_istore_n (lv' := [(2, .int 0), (0, .ref x), (1, .int a)]) G0.1 G0.2.1 dX11_rank_11 rfl hl (by decide) rfl (fun ls hl => ?_)
    have lo_12 : ∀ n_12 : Nat, ∀ (v_33 : Int32) (H_j12 : Heap) (locs : List Loc) (ls : Array Slot), (2147483647 - v_33.toInt).toNat = n_12 → (0 ≤ v_33.toInt ∧ v_33.toInt ≤ 2147483647) → py_W E (va_A (va_pl L f) s.heap.size) s L f H_j12 locs → lv_has ls 3 [(2, .int v_33), (0, .ref x), (1, .int a)] → W p l e (headSpec w_X11_rank ({ frames := 1, cells := 0, slots := 0, locals := 24 })).room s m ([.ref x, .int a] : List Value).toArray below meth c H_j12 locs 0 0 (MQ below (py_Qi E L f s.heap.size (fun _ L1 f1 => L = L1 ∧ f = f1)) ([.ref x, .int a] : List Value).toArray s 0 0 (va_A (va_pl L f) s.heap.size)) (F0 m 12 ls []) := by
      intro n_12
      induction n_12 using Nat.strongRecOn with
      | _ n_12 ih_12 =>
        intro v_33 H_j12 locs ls hn_12 bv_33 hw hl
        refine lv_iload_n G0.1 G0.2.1 dX11_rank_12 rfl (lv_at hl 0 rfl) ?_
        refine lv_aload_n G0.1 G0.2.1 dX11_rank_13 rfl (lv_at hl 1 rfl) ?_
        refine py_get (C := RX11) (T := TX11) (N := 16) (k := 5) (v := .ref (G.2 x 5)) G0 hw in_X11_rank_X11 rfl hr_24 (by decide) (by decide +kernel) rfl dX11_rank_14 ?_
        obtain ⟨t_34, t_35, t_36, t_37, t_38, t_39, t_40, t_41, t_42⟩ := wt_2 hG t_6
        obtain ⟨r_43, y_44, v_45, hr_48, ty_46, b_47⟩ := wg_2 hWF t_6
        refine py_get (C := RX2) (T := TX2) (N := 12) (k := 9) (v := .ref r_43) G0 hw in_X11_rank_X2 rfl hr_48 (by decide) (by decide +kernel) rfl dX11_rank_17 ?_
        obtain ⟨t_49, t_50, t_51, t_52, t_53, t_54, t_55, t_56⟩ := wt_9 hG ty_46
        obtain ⟨v_57, v_58, hr_61, b_59, b_60⟩ := wg_9 hWF ty_46
        have tq_62 := va_eq hr_61
        refine py_get (C := RX9) (T := TX9) (N := 10) (k := 9) (v := .int v_58) G0 hw in_X11_rank_X9 rfl hr_61 (by decide) (by decide +kernel) rfl dX11_rank_20 ?_
        refine lv_icmp_ge (tgt := 46) G0.1 G0.2.1 dX11_rank_23 (by decide) (fun c_63 => ?_) (fun c_63 => ?_)
        · skip
          have tc_63 := ti_le c_63
          refine lv_iconst (v := (-1)) G0.1 G0.2.1 dX11_rank_46 (by decide) ?_
          exact py_iret G0 hr rfl hlk hw ⟨rfl, rfl⟩ dX11_rank_47
        · skip
          have tc_63 := ti_nle c_63
          refine lv_aload_n G0.1 G0.2.1 dX11_rank_26 rfl (lv_at hl 1 rfl) ?_
          refine py_get (C := RX11) (T := TX11) (N := 16) (k := 5) (v := .ref (G.2 x 5)) G0 hw in_X11_rank_X11 rfl hr_24 (by decide) (by decide +kernel) rfl dX11_rank_27 ?_
          refine lv_iload_n G0.1 G0.2.1 dX11_rank_30 rfl (lv_at hl 0 rfl) ?_
          refine py_calli hw (va_runV (As := [.int v_33]) (rest := []) G0 (c_X2_familiesAhead l E G L f H_j12.size (G.2 x 5) v_33 hG hWF t_6 ⟨by omega, by omega⟩) (cwV 1 G0.2.2.2.2 g_X11_rank_X2_familiesAhead_322 rfl rfl rfl (by decide +kernel) ⟨(Nat.le_of_ble_eq_true rfl), (Nat.le_of_ble_eq_true rfl)⟩) (py_preV hw (C := RX2) (T := TX2) (N := 12) rfl hr_48) rfl rfl hl.1 rfl (lv_room (Nat.le_of_ble_eq_true rfl)) dX11_rank_31 ⟨(Nat.le_of_ble_eq_true rfl), (Nat.le_of_ble_eq_true rfl)⟩) (fun r_68 L_64 f_65 H_66 locs hp_67 hw => ?_)
          obtain ⟨rfl, rfl⟩ := hp_67
          have br_68 := wf_free r_68
          refine lv_iload_n G0.1 G0.2.1 dX11_rank_34 rfl (lv_at hl 2 rfl) ?_
          refine lv_icmp_ne (tgt := 40) G0.1 G0.2.1 dX11_rank_35 (by decide) (fun c_69 => ?_) (fun c_69 => ?_)
          · skip
            have tc_69 := ti_ne c_69
            obtain ⟨x_70, ex_70⟩ : ∃ y : Int32, y = v_33 + 1 := ⟨_, rfl⟩
            first | have tx_70 := ti_add ex_70 (by omega) (by omega) | skip
            refine lv_iinc (v := x_70) (lv' := [(2, .int x_70), (0, .ref x), (1, .int a)]) G0.1 G0.2.1 dX11_rank_40 hl (k := 0) rfl (show _ + (1 : Int32) = _ from ex_70.symm) (by decide) rfl (fun ls hl => ?_)
            refine lv_goto (tgt := 12) G0.1 G0.2.1 dX11_rank_43 (by decide) ?_
            exact ih_12 ((2147483647 - x_70.toInt).toNat) (by omega) x_70 _ _ ls rfl ⟨by omega, by omega⟩ hw (lv_sub hl [0, 1, 2] rfl)
          · skip
            have tc_69 := ti_eq c_69
            refine lv_iload_n G0.1 G0.2.1 dX11_rank_38 rfl (lv_at hl 0 rfl) ?_
            exact py_iret G0 hr rfl hlk hw ⟨rfl, rfl⟩ dX11_rank_39
    exact lo_12 _ 0 _ _ ls rfl ⟨by omega, by omega⟩ hw (lv_sub hl [0, 1, 2] rfl)
  · skip
    have tc_32 := ti_eq c_32
    refine lv_iconst (v := (-1)) G0.1 G0.2.1 dX11_rank_8 (by decide) ?_
    exact py_iret G0 hr rfl hlk hw ⟨rfl, rfl⟩ dX11_rank_9

def w_X11_met : List Cond := .code yX11_met cX11_met 8 (some .int) :: ([Cond.methodLink RX11 163 yX11_isFamily, Cond.instanceMethod yX11_isFamily, Cond.selects RX11 yX11_isFamily yX11_isFamily, Cond.initialized RX11, Cond.constant RX11 166 (-1000000), Cond.methodLink RX11 267 yX11_isZeroOrOne, Cond.static yX11_isZeroOrOne, Cond.fieldLink RX11 60 "HeadYear" "diary" "LHeadYear$Diary;", Cond.fieldLink RX11 304 "HeadYear$Diary" "years" "I", Cond.methodLink RX11 305 yX1_levelIn, Cond.instanceMethod yX1_levelIn, Cond.selects RX1 yX1_levelIn yX1_levelIn, Cond.initialized RX1] ++ (u_ws RX11 TX11 16 ++ (u_ws RX1 TX1 3 ++ (w_X11_isFamily ++ (w_X11_isZeroOrOne ++ (w_X1_levelIn ++ ([])))))))
theorem in_X11_met_X11 : ∀ w ∈ u_ws RX11 TX11 16, w ∈ w_X11_met := fun _ h => List.mem_cons_of_mem _ (List.mem_append_right _ (List.mem_append_left _ h))
theorem in_X11_met_X1 : ∀ w ∈ u_ws RX1 TX1 3, w ∈ w_X11_met := fun _ h => List.mem_cons_of_mem _ (List.mem_append_right _ (List.mem_append_right _ (List.mem_append_left _ h)))
theorem gg_X11_met_X11_isFamily : GoodIn w_X11_met w_X11_isFamily := goodIn_sub (fun _ h => List.mem_cons_of_mem _ (List.mem_append_right _ (List.mem_append_right _ (List.mem_append_right _ (List.mem_append_left _ h))))) (by decide +kernel)
theorem gg_X11_met_X11_isZeroOrOne : GoodIn w_X11_met w_X11_isZeroOrOne := goodIn_sub (fun _ h => List.mem_cons_of_mem _ (List.mem_append_right _ (List.mem_append_right _ (List.mem_append_right _ (List.mem_append_right _ (List.mem_append_left _ h)))))) (by decide +kernel)
theorem gg_X11_met_X1_levelIn : GoodIn w_X11_met w_X1_levelIn := goodIn_sub (fun _ h => List.mem_cons_of_mem _ (List.mem_append_right _ (List.mem_append_right _ (List.mem_append_right _ (List.mem_append_right _ (List.mem_append_right _ (List.mem_append_left _ h))))))) (by decide +kernel)
theorem g_X11_met_X11_isFamily_163 : GoodIn w_X11_met (wsV RX11 163 RX11 yX11_isFamily w_X11_isFamily) := goodIn_app (goodIn_of _ (by decide +kernel)) gg_X11_met_X11_isFamily
theorem g_X11_met_X11_isZeroOrOne_267 : GoodIn w_X11_met (va_wsS RX11 267 yX11_isZeroOrOne w_X11_isZeroOrOne) := goodIn_app (goodIn_of _ (by decide +kernel)) gg_X11_met_X11_isZeroOrOne
theorem g_X11_met_X1_levelIn_305 : GoodIn w_X11_met (wsV RX11 305 RX1 yX1_levelIn w_X1_levelIn) := goodIn_app (goodIn_of _ (by decide +kernel)) gg_X11_met_X1_levelIn
set_option maxHeartbeats 4000000 in
set_option maxRecDepth 100000 in
theorem c_X11_met (l : Launch) (E : py_E) (G : wf_G) (L : List Nat) (f : py_F) (sz : Nat) (x : Nat) (a : Int32) (b : Int32) (q : Int32) (hG : GT G) (hWF : WF E G L f) (Tx : G.1 x = 12) : Met l yX11_met w_X11_met ({ frames := 1, cells := 0, slots := 0, locals := 22 }) (py_Pc E [.ref x, .int a, .int b, .int q] L f sz) (py_Qi E L f sz (fun _ L1 f1 => L = L1 ∧ f = f1)) 0 0 (va_A (va_pl L f) sz) := by
  refine Met.ofW (cc := cX11_met) (maxL := 8) (ret := (some .int)) (by decide) rfl ?_
  intro p e s m args below meth c s₁ B hml hv
  obtain ⟨rfl, rfl, hw⟩ := py_start hv
  have G0 : CallFix p m c cX11_met 8 s _ w_X11_met RX11 := ⟨B.exec, B.bytes, hml, findClass_of_methodNamed B.named, atoms_spec (ws := w_X11_met) B.pre⟩
  have hr := B.returns
  have hlk := B.notSynchronized
  have kcm1000000 : (-1000000 : Int32).toInt = -1000000 := rfl
  have kcm1 : (-1 : Int32).toInt = -1 := rfl
  have kc0 : (0 : Int32).toInt = 0 := rfl
  have kc1 : (1 : Int32).toInt = 1 := rfl
  have hl := lv_entry ([.ref x, .int a, .int b, .int q]) (n := 8) (Nat.le_of_ble_eq_true rfl)
  rw [lg_entry_eq]
  generalize (lg_sl ([.ref x, .int a, .int b, .int q]) ++ List.replicate (8 - (lg_sl ([.ref x, .int a, .int b, .int q])).length) Slot.unset).toArray = ls at hl ⊢
  have hl : lv_has ls 8 [(0, .ref x), (1, .int a), (2, .int b), (3, .int q)] := hl
  have hRP : RP E G f f := RP.refl
  refine lv_aload_n G0.1 G0.2.1 dX11_met_0 rfl (lv_at hl 0 rfl) ?_
  refine lv_iload_n G0.1 G0.2.1 dX11_met_1 rfl (lv_at hl 1 rfl) ?_
  obtain ⟨t_1, t_2, t_3, t_4, t_5, t_6, t_7, t_8, t_9, t_10, t_11, t_12, t_13, tx_14, tx_15, tx_16, tx_17⟩ := wt_11 hG Tx
  obtain ⟨v_18, v_19, v_20, hr_24, b_21, b_22, b_23⟩ := wg_11 hWF Tx
  refine py_calli hw (va_runV (As := [.int a]) (rest := []) G0 (c_X11_isFamily l E G L f s.heap.size x a hG hWF Tx) (cwV 1 G0.2.2.2.2 g_X11_met_X11_isFamily_163 rfl rfl rfl (by decide +kernel) ⟨(Nat.le_of_ble_eq_true rfl), (Nat.le_of_ble_eq_true rfl)⟩) (py_preV hw (C := RX11) (T := TX11) (N := 16) rfl hr_24) rfl rfl hl.1 rfl (lv_room (Nat.le_of_ble_eq_true rfl)) dX11_met_2 ⟨(Nat.le_of_ble_eq_true rfl), (Nat.le_of_ble_eq_true rfl)⟩) (fun r_29 L_25 f_26 H_27 locs hp_28 hw => ?_)
  obtain ⟨b_31, en_30, rfl, rfl⟩ := hp_28
  refine lv_if_eq (tgt := 28) G0.1 G0.2.1 dX11_met_5 (by decide) (fun c_32 => ?_) (fun c_32 => ?_)
  · skip
    have tc_32 := ti_eq c_32
    refine lv_ldc (v := (-1000000)) G0.1 G0.2.1 G0.2.2.2.1 (G0.2.2.2.2 (Cond.constant RX11 166 (-1000000)) (by decide +kernel)) dX11_met_28 ?_
    exact py_iret G0 hr rfl hlk hw ⟨rfl, rfl⟩ dX11_met_30
  · skip
    have tc_32 := ti_ne c_32
    refine lv_aload_n G0.1 G0.2.1 dX11_met_8 rfl (lv_at hl 0 rfl) ?_
    refine lv_iload_n G0.1 G0.2.1 dX11_met_9 rfl (lv_at hl 2 rfl) ?_
    refine py_calli hw (va_runV (As := [.int b]) (rest := []) G0 (c_X11_isFamily l E G L f H_27.size x b hG hWF Tx) (cwV 1 G0.2.2.2.2 g_X11_met_X11_isFamily_163 rfl rfl rfl (by decide +kernel) ⟨(Nat.le_of_ble_eq_true rfl), (Nat.le_of_ble_eq_true rfl)⟩) (py_preV hw (C := RX11) (T := TX11) (N := 16) rfl hr_24) rfl rfl hl.1 rfl (lv_room (Nat.le_of_ble_eq_true rfl)) dX11_met_10 ⟨(Nat.le_of_ble_eq_true rfl), (Nat.le_of_ble_eq_true rfl)⟩) (fun r_37 L_33 f_34 H_35 locs hp_36 hw => ?_)
    obtain ⟨b_39, en_38, rfl, rfl⟩ := hp_36
    refine lv_if_eq (tgt := 28) G0.1 G0.2.1 dX11_met_13 (by decide) (fun c_40 => ?_) (fun c_40 => ?_)
    · skip
      have tc_40 := ti_eq c_40
      refine lv_ldc (v := (-1000000)) G0.1 G0.2.1 G0.2.2.2.1 (G0.2.2.2.2 (Cond.constant RX11 166 (-1000000)) (by decide +kernel)) dX11_met_28 ?_
      exact py_iret G0 hr rfl hlk hw ⟨rfl, rfl⟩ dX11_met_30
    · skip
      have tc_40 := ti_ne c_40
      refine lv_iload_n G0.1 G0.2.1 dX11_met_16 rfl (lv_at hl 1 rfl) ?_
      refine lv_iload_n G0.1 G0.2.1 dX11_met_17 rfl (lv_at hl 2 rfl) ?_
      refine lv_icmp_eq (tgt := 28) G0.1 G0.2.1 dX11_met_18 (by decide) (fun c_41 => ?_) (fun c_41 => ?_)
      · skip
        have tc_41 := ti_eq c_41
        refine lv_ldc (v := (-1000000)) G0.1 G0.2.1 G0.2.2.2.1 (G0.2.2.2.2 (Cond.constant RX11 166 (-1000000)) (by decide +kernel)) dX11_met_28 ?_
        exact py_iret G0 hr rfl hlk hw ⟨rfl, rfl⟩ dX11_met_30
      · skip
        have tc_41 := ti_ne c_41
        refine lv_iload_n G0.1 G0.2.1 dX11_met_21 rfl (lv_at hl 3 rfl) ?_
        refine py_calli hw (va_runS (As := [.int q]) (rest := []) G0 (c_X11_isZeroOrOne l E G L f H_35.size q hG hWF) (va_cwS 1 G0.2.2.2.2 g_X11_met_X11_isZeroOrOne_267 rfl rfl rfl (by decide +kernel) ⟨(Nat.le_of_ble_eq_true rfl), (Nat.le_of_ble_eq_true rfl)⟩) (py_preS hw) rfl rfl hl.1 rfl (lv_room (Nat.le_of_ble_eq_true rfl)) dX11_met_22 ⟨(Nat.le_of_ble_eq_true rfl), (Nat.le_of_ble_eq_true rfl)⟩) (fun r_46 L_42 f_43 H_44 locs hp_45 hw => ?_)
        obtain ⟨b_48, en_47, rfl, rfl⟩ := hp_45
        refine lv_if_ne (tgt := 31) G0.1 G0.2.1 dX11_met_25 (by decide) (fun c_49 => ?_) (fun c_49 => ?_)
        · skip
          have tc_49 := ti_ne c_49
          refine lv_iconst (v := 0) G0.1 G0.2.1 dX11_met_31 (by decide) ?_
          refine lv_istore (lv' := [(4, .int 0), (0, .ref x), (1, .int a), (2, .int b), (3, .int q)]) G0.1 G0.2.1 dX11_met_32 hl (by decide) rfl (fun ls hl => ?_)
          refine lv_iconst (v := (-1)) G0.1 G0.2.1 dX11_met_34 (by decide) ?_
          refine lv_istore (lv' := [(5, .int (-1)), (4, .int 0), (0, .ref x), (1, .int a), (2, .int b), (3, .int q)]) G0.1 G0.2.1 dX11_met_35 hl (by decide) rfl (fun ls hl => ?_)
          refine lv_iconst (v := 0) G0.1 G0.2.1 dX11_met_37 (by decide) ?_
          refine lv_istore (lv' := [(6, .int 0), (5, .int (-1)), (4, .int 0), (0, .ref x), (1, .int a), (2, .int b), (3, .int q)]) G0.1 G0.2.1 dX11_met_38 hl (by decide) rfl (fun ls hl => ?_)
          have lo_40 : ∀ n_40 : Nat, ∀ (v_50 : Int32) (v_51 : Int32) (v_52 : Int32) (H_j40 : Heap) (locs : List Loc) (ls : Array Slot), (2147483647 - v_50.toInt).toNat = n_40 → (0 ≤ v_50.toInt ∧ v_50.toInt ≤ 2147483647) → py_W E (va_A (va_pl L f) s.heap.size) s L f H_j40 locs → lv_has ls 8 [(6, .int v_50), (5, .int v_51), (4, .int v_52), (0, .ref x), (1, .int a), (2, .int b), (3, .int q)] → W p l e (headSpec w_X11_met ({ frames := 1, cells := 0, slots := 0, locals := 22 })).room s m ([.ref x, .int a, .int b, .int q] : List Value).toArray below meth c H_j40 locs 0 0 (MQ below (py_Qi E L f s.heap.size (fun _ L1 f1 => L = L1 ∧ f = f1)) ([.ref x, .int a, .int b, .int q] : List Value).toArray s 0 0 (va_A (va_pl L f) s.heap.size)) (F0 m 40 ls []) := by
            intro n_40
            induction n_40 using Nat.strongRecOn with
            | _ n_40 ih_40 =>
              intro v_50 v_51 v_52 H_j40 locs ls hn_40 bv_50 hw hl
              refine lv_iload G0.1 G0.2.1 dX11_met_40 (lv_at hl 0 rfl) ?_
              refine lv_aload_n G0.1 G0.2.1 dX11_met_42 rfl (lv_at hl 3 rfl) ?_
              refine py_get (C := RX11) (T := TX11) (N := 16) (k := 8) (v := .ref (G.2 x 8)) G0 hw in_X11_met_X11 rfl hr_24 (by decide) (by decide +kernel) rfl dX11_met_43 ?_
              obtain ⟨t_53, t_54⟩ := wt_1 hG t_9
              obtain ⟨v_55, hr_57, b_56⟩ := wg_1 hWF t_9
              refine py_get (C := RX1) (T := TX1) (N := 3) (k := 2) (v := .int v_55) G0 hw in_X11_met_X1 rfl hr_57 (by decide) (by decide +kernel) rfl dX11_met_46 ?_
              refine lv_icmp_ge (tgt := 98) G0.1 G0.2.1 dX11_met_49 (by decide) (fun c_58 => ?_) (fun c_58 => ?_)
              · skip
                have tc_58 := ti_le c_58
                refine lv_iload_n G0.1 G0.2.1 dX11_met_98 rfl (lv_at hl 6 rfl) ?_
                have jn_109 : ∀ (v_59 : Int32) (H_j109 : Heap) (locs : List Loc) (ls : Array Slot), py_W E (va_A (va_pl L f) s.heap.size) s L f H_j109 locs → lv_has ls 8 [(6, .int v_50), (5, .int v_51), (4, .int v_52), (0, .ref x), (1, .int a), (2, .int b), (3, .int q)] → W p l e (headSpec w_X11_met ({ frames := 1, cells := 0, slots := 0, locals := 22 })).room s m ([.ref x, .int a, .int b, .int q] : List Value).toArray below meth c H_j109 locs 0 0 (MQ below (py_Qi E L f s.heap.size (fun _ L1 f1 => L = L1 ∧ f = f1)) ([.ref x, .int a, .int b, .int q] : List Value).toArray s 0 0 (va_A (va_pl L f) s.heap.size)) (F0 m 109 ls [.int v_59]) := by
                  intro v_59 H_j109 locs ls hw hl
                  exact py_iret G0 hr rfl hlk hw ⟨rfl, rfl⟩ dX11_met_109
                refine lv_if_ne (tgt := 107) G0.1 G0.2.1 dX11_met_99 (by decide) (fun c_60 => ?_) (fun c_60 => ?_)
                · skip
                  have tc_60 := ti_ne c_60
                  refine lv_iload G0.1 G0.2.1 dX11_met_107 (lv_at hl 1 rfl) ?_
                  exact jn_109 v_51 _ _ ls hw (lv_sub hl [0, 1, 2, 3, 4, 5, 6] rfl)
                · skip
                  have tc_60 := ti_eq c_60
                  refine lv_iload G0.1 G0.2.1 dX11_met_102 (lv_at hl 2 rfl) ?_
                  refine lv_goto (tgt := 109) G0.1 G0.2.1 dX11_met_104 (by decide) ?_
                  exact jn_109 v_52 _ _ ls hw (lv_sub hl [0, 1, 2, 3, 4, 5, 6] rfl)
              · skip
                have tc_58 := ti_nle c_58
                refine lv_aload_n G0.1 G0.2.1 dX11_met_52 rfl (lv_at hl 3 rfl) ?_
                refine py_get (C := RX11) (T := TX11) (N := 16) (k := 8) (v := .ref (G.2 x 8)) G0 hw in_X11_met_X11 rfl hr_24 (by decide) (by decide +kernel) rfl dX11_met_53 ?_
                refine lv_iload G0.1 G0.2.1 dX11_met_56 (lv_at hl 0 rfl) ?_
                refine lv_iload_n G0.1 G0.2.1 dX11_met_58 rfl (lv_at hl 4 rfl) ?_
                refine py_calli hw (va_runV (As := [.int v_50, .int a]) (rest := []) G0 (c_X1_levelIn l E G L f H_j40.size (G.2 x 8) v_50 a hG hWF t_9 ⟨by omega, by omega⟩ ⟨by omega, by omega⟩) (cwV 2 G0.2.2.2.2 g_X11_met_X1_levelIn_305 rfl rfl rfl (by decide +kernel) ⟨(Nat.le_of_ble_eq_true rfl), (Nat.le_of_ble_eq_true rfl)⟩) (py_preV hw (C := RX1) (T := TX1) (N := 3) rfl hr_57) rfl rfl hl.1 rfl (lv_room (Nat.le_of_ble_eq_true rfl)) dX11_met_59 ⟨(Nat.le_of_ble_eq_true rfl), (Nat.le_of_ble_eq_true rfl)⟩) (fun r_65 L_61 f_62 H_63 locs hp_64 hw => ?_)
                obtain ⟨rfl, rfl⟩ := hp_64
                have br_65 := wf_free r_65
                refine lv_istore (lv' := [(7, .int r_65), (6, .int v_50), (5, .int v_51), (4, .int v_52), (0, .ref x), (1, .int a), (2, .int b), (3, .int q)]) G0.1 G0.2.1 dX11_met_62 hl (by decide) rfl (fun ls hl => ?_)
                refine lv_iload G0.1 G0.2.1 dX11_met_64 (lv_at hl 0 rfl) ?_
                refine lv_iconst (v := (-1)) G0.1 G0.2.1 dX11_met_66 (by decide) ?_
                have jn_92 : ∀ (v_66 : Int32) (v_67 : Int32) (H_j92 : Heap) (locs : List Loc) (ls : Array Slot), py_W E (va_A (va_pl L f) s.heap.size) s L f H_j92 locs → lv_has ls 8 [(7, .int r_65), (6, .int v_50), (5, .int v_66), (4, .int v_67), (0, .ref x), (1, .int a), (2, .int b), (3, .int q)] → W p l e (headSpec w_X11_met ({ frames := 1, cells := 0, slots := 0, locals := 22 })).room s m ([.ref x, .int a, .int b, .int q] : List Value).toArray below meth c H_j92 locs 0 0 (MQ below (py_Qi E L f s.heap.size (fun _ L1 f1 => L = L1 ∧ f = f1)) ([.ref x, .int a, .int b, .int q] : List Value).toArray s 0 0 (va_A (va_pl L f) s.heap.size)) (F0 m 92 ls []) := by
                  intro v_66 v_67 H_j92 locs ls hw hl
                  obtain ⟨x_68, ex_68⟩ : ∃ y : Int32, y = v_50 + 1 := ⟨_, rfl⟩
                  first | have tx_68 := ti_add ex_68 (by omega) (by omega) | skip
                  refine lv_iinc (v := x_68) (lv' := [(6, .int x_68), (7, .int r_65), (5, .int v_66), (4, .int v_67), (0, .ref x), (1, .int a), (2, .int b), (3, .int q)]) G0.1 G0.2.1 dX11_met_92 hl (k := 1) rfl (show _ + (1 : Int32) = _ from ex_68.symm) (by decide) rfl (fun ls hl => ?_)
                  refine lv_goto (tgt := 40) G0.1 G0.2.1 dX11_met_95 (by decide) ?_
                  exact ih_40 ((2147483647 - x_68.toInt).toNat) (by omega) x_68 v_66 v_67 _ _ ls rfl ⟨by omega, by omega⟩ hw (lv_sub hl [0, 2, 3, 4, 5, 6, 7] rfl)
                refine lv_icmp_eq (tgt := 92) G0.1 G0.2.1 dX11_met_67 (by decide) (fun c_69 => ?_) (fun c_69 => ?_)
                · skip
                  have tc_69 := ti_eq c_69
                  exact jn_92 v_51 v_52 _ _ ls hw (lv_sub hl [0, 1, 2, 3, 4, 5, 6, 7] rfl)
                · skip
                  have tc_69 := ti_ne c_69
                  refine lv_iload G0.1 G0.2.1 dX11_met_70 (lv_at hl 0 rfl) ?_
                  refine lv_aload_n G0.1 G0.2.1 dX11_met_72 rfl (lv_at hl 4 rfl) ?_
                  refine py_get (C := RX11) (T := TX11) (N := 16) (k := 8) (v := .ref (G.2 x 8)) G0 hw in_X11_met_X11 rfl hr_24 (by decide) (by decide +kernel) rfl dX11_met_73 ?_
                  refine lv_iload G0.1 G0.2.1 dX11_met_76 (lv_at hl 1 rfl) ?_
                  refine lv_iload_n G0.1 G0.2.1 dX11_met_78 rfl (lv_at hl 6 rfl) ?_
                  refine py_calli hw (va_runV (As := [.int v_50, .int b]) (rest := [.int r_65]) G0 (c_X1_levelIn l E G L f H_63.size (G.2 x 8) v_50 b hG hWF t_9 ⟨by omega, by omega⟩ ⟨by omega, by omega⟩) (cwV 2 G0.2.2.2.2 g_X11_met_X1_levelIn_305 rfl rfl rfl (by decide +kernel) ⟨(Nat.le_of_ble_eq_true rfl), (Nat.le_of_ble_eq_true rfl)⟩) (py_preV hw (C := RX1) (T := TX1) (N := 3) rfl hr_57) rfl rfl hl.1 rfl (lv_room (Nat.le_of_ble_eq_true rfl)) dX11_met_79 ⟨(Nat.le_of_ble_eq_true rfl), (Nat.le_of_ble_eq_true rfl)⟩) (fun r_74 L_70 f_71 H_72 locs hp_73 hw => ?_)
                  obtain ⟨rfl, rfl⟩ := hp_73
                  have br_74 := wf_free r_74
                  refine lv_icmp_ne (tgt := 92) G0.1 G0.2.1 dX11_met_82 (by decide) (fun c_75 => ?_) (fun c_75 => ?_)
                  · skip
                    have tc_75 := ti_ne c_75
                    exact jn_92 v_51 v_52 _ _ ls hw (lv_sub hl [0, 1, 2, 3, 4, 5, 6, 7] rfl)
                  · skip
                    have tc_75 := ti_eq c_75
                    obtain ⟨x_76, ex_76⟩ : ∃ y : Int32, y = v_52 + 1 := ⟨_, rfl⟩
                    first | have tx_76 := ti_add ex_76 (by omega) (by omega) | skip
                    refine lv_iinc (v := x_76) (lv' := [(4, .int x_76), (7, .int r_65), (6, .int v_50), (5, .int v_51), (0, .ref x), (1, .int a), (2, .int b), (3, .int q)]) G0.1 G0.2.1 dX11_met_85 hl (k := 3) rfl (show _ + (1 : Int32) = _ from ex_76.symm) (by decide) rfl (fun ls hl => ?_)
                    refine lv_iload G0.1 G0.2.1 dX11_met_88 (lv_at hl 2 rfl) ?_
                    refine lv_istore (lv' := [(5, .int v_50), (4, .int x_76), (7, .int r_65), (6, .int v_50), (0, .ref x), (1, .int a), (2, .int b), (3, .int q)]) G0.1 G0.2.1 dX11_met_90 hl (by decide) rfl (fun ls hl => ?_)
                    exact jn_92 v_50 x_76 _ _ ls hw (lv_sub hl [2, 3, 0, 1, 4, 5, 6, 7] rfl)
          exact lo_40 _ 0 (-1) 0 _ _ ls rfl ⟨by omega, by omega⟩ hw (lv_sub hl [0, 1, 2, 3, 4, 5, 6] rfl)
        · skip
          have tc_49 := ti_eq c_49
          refine lv_ldc (v := (-1000000)) G0.1 G0.2.1 G0.2.2.2.1 (G0.2.2.2.2 (Cond.constant RX11 166 (-1000000)) (by decide +kernel)) dX11_met_28 ?_
          exact py_iret G0 hr rfl hlk hw ⟨rfl, rfl⟩ dX11_met_30

def w_X11_leap : List Cond := .code yX11_leap cX11_leap 6 (some .int) :: ([Cond.methodLink RX11 163 yX11_isFamily, Cond.instanceMethod yX11_isFamily, Cond.selects RX11 yX11_isFamily yX11_isFamily, Cond.initialized RX11, Cond.fieldLink RX11 60 "HeadYear" "diary" "LHeadYear$Diary;", Cond.fieldLink RX11 304 "HeadYear$Diary" "years" "I", Cond.methodLink RX11 305 yX1_levelIn, Cond.instanceMethod yX1_levelIn, Cond.selects RX1 yX1_levelIn yX1_levelIn, Cond.initialized RX1, Cond.methodLink RX11 325 Lib.Math.abs.name, Cond.static Lib.Math.abs.name, Cond.initialized "java/lang/Math", Cond.code Lib.Math.abs.name Lib.Math.abs.code 1 (some .int), Cond.methodLink RX11 330 Lib.Math.max.name, Cond.static Lib.Math.max.name, Cond.code Lib.Math.max.name Lib.Math.max.code 2 (some .int), Cond.constant RX11 166 (-1000000)] ++ (u_ws RX11 TX11 16 ++ (u_ws RX1 TX1 3 ++ (w_X11_isFamily ++ (w_X1_levelIn ++ ([]))))))
theorem in_X11_leap_X11 : ∀ w ∈ u_ws RX11 TX11 16, w ∈ w_X11_leap := fun _ h => List.mem_cons_of_mem _ (List.mem_append_right _ (List.mem_append_left _ h))
theorem in_X11_leap_X1 : ∀ w ∈ u_ws RX1 TX1 3, w ∈ w_X11_leap := fun _ h => List.mem_cons_of_mem _ (List.mem_append_right _ (List.mem_append_right _ (List.mem_append_left _ h)))
theorem gg_X11_leap_X11_isFamily : GoodIn w_X11_leap w_X11_isFamily := goodIn_sub (fun _ h => List.mem_cons_of_mem _ (List.mem_append_right _ (List.mem_append_right _ (List.mem_append_right _ (List.mem_append_left _ h))))) (by decide +kernel)
theorem gg_X11_leap_X1_levelIn : GoodIn w_X11_leap w_X1_levelIn := goodIn_sub (fun _ h => List.mem_cons_of_mem _ (List.mem_append_right _ (List.mem_append_right _ (List.mem_append_right _ (List.mem_append_right _ (List.mem_append_left _ h)))))) (by decide +kernel)
theorem g_X11_leap_X11_isFamily_163 : GoodIn w_X11_leap (wsV RX11 163 RX11 yX11_isFamily w_X11_isFamily) := goodIn_app (goodIn_of _ (by decide +kernel)) gg_X11_leap_X11_isFamily
theorem g_X11_leap_X1_levelIn_305 : GoodIn w_X11_leap (wsV RX11 305 RX1 yX1_levelIn w_X1_levelIn) := goodIn_app (goodIn_of _ (by decide +kernel)) gg_X11_leap_X1_levelIn
set_option maxHeartbeats 4000000 in
set_option maxRecDepth 100000 in
theorem c_X11_leap (l : Launch) (E : py_E) (G : wf_G) (L : List Nat) (f : py_F) (sz : Nat) (x : Nat) (a : Int32) (hG : GT G) (hWF : WF E G L f) (Tx : G.1 x = 12) : Met l yX11_leap w_X11_leap ({ frames := 1, cells := 0, slots := 0, locals := 24 }) (py_Pc E [.ref x, .int a] L f sz) (py_Qi E L f sz (fun _ L1 f1 => L = L1 ∧ f = f1)) 0 0 (va_A (va_pl L f) sz) := by
  refine Met.ofW (cc := cX11_leap) (maxL := 6) (ret := (some .int)) (by decide) rfl ?_
  intro p e s m args below meth c s₁ B hml hv
  obtain ⟨rfl, rfl, hw⟩ := py_start hv
  have G0 : CallFix p m c cX11_leap 6 s _ w_X11_leap RX11 := ⟨B.exec, B.bytes, hml, findClass_of_methodNamed B.named, atoms_spec (ws := w_X11_leap) B.pre⟩
  have hr := B.returns
  have hlk := B.notSynchronized
  have kcm1000000 : (-1000000 : Int32).toInt = -1000000 := rfl
  have kcm1 : (-1 : Int32).toInt = -1 := rfl
  have kc0 : (0 : Int32).toInt = 0 := rfl
  have kc1 : (1 : Int32).toInt = 1 := rfl
  have hl := lv_entry ([.ref x, .int a]) (n := 6) (Nat.le_of_ble_eq_true rfl)
  rw [lg_entry_eq]
  generalize (lg_sl ([.ref x, .int a]) ++ List.replicate (6 - (lg_sl ([.ref x, .int a])).length) Slot.unset).toArray = ls at hl ⊢
  have hl : lv_has ls 6 [(0, .ref x), (1, .int a)] := hl
  have hRP : RP E G f f := RP.refl
  refine lv_aload_n G0.1 G0.2.1 dX11_leap_0 rfl (lv_at hl 0 rfl) ?_
  refine lv_iload_n G0.1 G0.2.1 dX11_leap_1 rfl (lv_at hl 1 rfl) ?_
  obtain ⟨t_1, t_2, t_3, t_4, t_5, t_6, t_7, t_8, t_9, t_10, t_11, t_12, t_13, tx_14, tx_15, tx_16, tx_17⟩ := wt_11 hG Tx
  obtain ⟨v_18, v_19, v_20, hr_24, b_21, b_22, b_23⟩ := wg_11 hWF Tx
  refine py_calli hw (va_runV (As := [.int a]) (rest := []) G0 (c_X11_isFamily l E G L f s.heap.size x a hG hWF Tx) (cwV 1 G0.2.2.2.2 g_X11_leap_X11_isFamily_163 rfl rfl rfl (by decide +kernel) ⟨(Nat.le_of_ble_eq_true rfl), (Nat.le_of_ble_eq_true rfl)⟩) (py_preV hw (C := RX11) (T := TX11) (N := 16) rfl hr_24) rfl rfl hl.1 rfl (lv_room (Nat.le_of_ble_eq_true rfl)) dX11_leap_2 ⟨(Nat.le_of_ble_eq_true rfl), (Nat.le_of_ble_eq_true rfl)⟩) (fun r_29 L_25 f_26 H_27 locs hp_28 hw => ?_)
  obtain ⟨b_31, en_30, rfl, rfl⟩ := hp_28
  refine lv_if_ne (tgt := 11) G0.1 G0.2.1 dX11_leap_5 (by decide) (fun c_32 => ?_) (fun c_32 => ?_)
  · skip
    have tc_32 := ti_ne c_32
    refine lv_iconst (v := 0) G0.1 G0.2.1 dX11_leap_11 (by decide) ?_
    refine lv_istore_n (lv' := [(2, .int 0), (0, .ref x), (1, .int a)]) G0.1 G0.2.1 dX11_leap_12 rfl hl (by decide) rfl (fun ls hl => ?_)
    refine lv_iconst (v := 1) G0.1 G0.2.1 dX11_leap_13 (by decide) ?_
    refine lv_istore_n (lv' := [(3, .int 1), (2, .int 0), (0, .ref x), (1, .int a)]) G0.1 G0.2.1 dX11_leap_14 rfl hl (by decide) rfl (fun ls hl => ?_)
    have lo_15 : ∀ n_15 : Nat, ∀ (v_33 : Int32) (v_34 : Int32) (H_j15 : Heap) (locs : List Loc) (ls : Array Slot), (2147483647 - v_33.toInt).toNat = n_15 → (1 ≤ v_33.toInt ∧ v_33.toInt ≤ 2147483647) → py_W E (va_A (va_pl L f) s.heap.size) s L f H_j15 locs → lv_has ls 6 [(3, .int v_33), (2, .int v_34), (0, .ref x), (1, .int a)] → W p l e (headSpec w_X11_leap ({ frames := 1, cells := 0, slots := 0, locals := 24 })).room s m ([.ref x, .int a] : List Value).toArray below meth c H_j15 locs 0 0 (MQ below (py_Qi E L f s.heap.size (fun _ L1 f1 => L = L1 ∧ f = f1)) ([.ref x, .int a] : List Value).toArray s 0 0 (va_A (va_pl L f) s.heap.size)) (F0 m 15 ls []) := by
      intro n_15
      induction n_15 using Nat.strongRecOn with
      | _ n_15 ih_15 =>
        intro v_33 v_34 H_j15 locs ls hn_15 bv_33 hw hl
        refine lv_iload_n G0.1 G0.2.1 dX11_leap_15 rfl (lv_at hl 0 rfl) ?_
        refine lv_aload_n G0.1 G0.2.1 dX11_leap_16 rfl (lv_at hl 2 rfl) ?_
        refine py_get (C := RX11) (T := TX11) (N := 16) (k := 8) (v := .ref (G.2 x 8)) G0 hw in_X11_leap_X11 rfl hr_24 (by decide) (by decide +kernel) rfl dX11_leap_17 ?_
        obtain ⟨t_35, t_36⟩ := wt_1 hG t_9
        obtain ⟨v_37, hr_39, b_38⟩ := wg_1 hWF t_9
        refine py_get (C := RX1) (T := TX1) (N := 3) (k := 2) (v := .int v_37) G0 hw in_X11_leap_X1 rfl hr_39 (by decide) (by decide +kernel) rfl dX11_leap_20 ?_
        refine lv_icmp_ge (tgt := 81) G0.1 G0.2.1 dX11_leap_23 (by decide) (fun c_40 => ?_) (fun c_40 => ?_)
        · skip
          have tc_40 := ti_le c_40
          refine lv_iload_n G0.1 G0.2.1 dX11_leap_81 rfl (lv_at hl 1 rfl) ?_
          exact py_iret G0 hr rfl hlk hw ⟨rfl, rfl⟩ dX11_leap_82
        · skip
          have tc_40 := ti_nle c_40
          refine lv_aload_n G0.1 G0.2.1 dX11_leap_26 rfl (lv_at hl 2 rfl) ?_
          refine py_get (C := RX11) (T := TX11) (N := 16) (k := 8) (v := .ref (G.2 x 8)) G0 hw in_X11_leap_X11 rfl hr_24 (by decide) (by decide +kernel) rfl dX11_leap_27 ?_
          refine lv_iload_n G0.1 G0.2.1 dX11_leap_30 rfl (lv_at hl 0 rfl) ?_
          refine lv_iconst (v := 1) G0.1 G0.2.1 dX11_leap_31 (by decide) ?_
          refine lv_isub G0.1 G0.2.1 dX11_leap_32 ?_
          refine lv_topi (fun x_41 ex_41 => ?_)
          first | have tx_41 := ti_sub ex_41 (by omega) (by omega) | skip
          refine lv_iload_n G0.1 G0.2.1 dX11_leap_33 rfl (lv_at hl 3 rfl) ?_
          refine py_calli hw (va_runV (As := [.int x_41, .int a]) (rest := []) G0 (c_X1_levelIn l E G L f H_j15.size (G.2 x 8) x_41 a hG hWF t_9 ⟨by omega, by omega⟩ ⟨by omega, by omega⟩) (cwV 2 G0.2.2.2.2 g_X11_leap_X1_levelIn_305 rfl rfl rfl (by decide +kernel) ⟨(Nat.le_of_ble_eq_true rfl), (Nat.le_of_ble_eq_true rfl)⟩) (py_preV hw (C := RX1) (T := TX1) (N := 3) rfl hr_39) rfl rfl hl.1 rfl (lv_room (Nat.le_of_ble_eq_true rfl)) dX11_leap_34 ⟨(Nat.le_of_ble_eq_true rfl), (Nat.le_of_ble_eq_true rfl)⟩) (fun r_46 L_42 f_43 H_44 locs hp_45 hw => ?_)
          obtain ⟨rfl, rfl⟩ := hp_45
          have br_46 := wf_free r_46
          refine lv_istore (lv' := [(4, .int r_46), (3, .int v_33), (2, .int v_34), (0, .ref x), (1, .int a)]) G0.1 G0.2.1 dX11_leap_37 hl (by decide) rfl (fun ls hl => ?_)
          refine lv_aload_n G0.1 G0.2.1 dX11_leap_39 rfl (lv_at hl 3 rfl) ?_
          refine py_get (C := RX11) (T := TX11) (N := 16) (k := 8) (v := .ref (G.2 x 8)) G0 hw in_X11_leap_X11 rfl hr_24 (by decide) (by decide +kernel) rfl dX11_leap_40 ?_
          refine lv_iload_n G0.1 G0.2.1 dX11_leap_43 rfl (lv_at hl 1 rfl) ?_
          refine lv_iload_n G0.1 G0.2.1 dX11_leap_44 rfl (lv_at hl 4 rfl) ?_
          refine py_calli hw (va_runV (As := [.int v_33, .int a]) (rest := []) G0 (c_X1_levelIn l E G L f H_44.size (G.2 x 8) v_33 a hG hWF t_9 ⟨by omega, by omega⟩ ⟨by omega, by omega⟩) (cwV 2 G0.2.2.2.2 g_X11_leap_X1_levelIn_305 rfl rfl rfl (by decide +kernel) ⟨(Nat.le_of_ble_eq_true rfl), (Nat.le_of_ble_eq_true rfl)⟩) (py_preV hw (C := RX1) (T := TX1) (N := 3) rfl hr_39) rfl rfl hl.1 rfl (lv_room (Nat.le_of_ble_eq_true rfl)) dX11_leap_45 ⟨(Nat.le_of_ble_eq_true rfl), (Nat.le_of_ble_eq_true rfl)⟩) (fun r_51 L_47 f_48 H_49 locs hp_50 hw => ?_)
          obtain ⟨rfl, rfl⟩ := hp_50
          have br_51 := wf_free r_51
          refine lv_istore (lv' := [(5, .int r_51), (4, .int r_46), (3, .int v_33), (2, .int v_34), (0, .ref x), (1, .int a)]) G0.1 G0.2.1 dX11_leap_48 hl (by decide) rfl (fun ls hl => ?_)
          refine lv_iload G0.1 G0.2.1 dX11_leap_50 (lv_at hl 1 rfl) ?_
          refine lv_iconst (v := (-1)) G0.1 G0.2.1 dX11_leap_52 (by decide) ?_
          have jn_75 : ∀ (v_52 : Int32) (H_j75 : Heap) (locs : List Loc) (ls : Array Slot), py_W E (va_A (va_pl L f) s.heap.size) s L f H_j75 locs → lv_has ls 6 [(5, .int r_51), (4, .int r_46), (3, .int v_33), (2, .int v_52), (0, .ref x), (1, .int a)] → W p l e (headSpec w_X11_leap ({ frames := 1, cells := 0, slots := 0, locals := 24 })).room s m ([.ref x, .int a] : List Value).toArray below meth c H_j75 locs 0 0 (MQ below (py_Qi E L f s.heap.size (fun _ L1 f1 => L = L1 ∧ f = f1)) ([.ref x, .int a] : List Value).toArray s 0 0 (va_A (va_pl L f) s.heap.size)) (F0 m 75 ls []) := by
            intro v_52 H_j75 locs ls hw hl
            obtain ⟨x_53, ex_53⟩ : ∃ y : Int32, y = v_33 + 1 := ⟨_, rfl⟩
            first | have tx_53 := ti_add ex_53 (by omega) (by omega) | skip
            refine lv_iinc (v := x_53) (lv' := [(3, .int x_53), (5, .int r_51), (4, .int r_46), (2, .int v_52), (0, .ref x), (1, .int a)]) G0.1 G0.2.1 dX11_leap_75 hl (k := 2) rfl (show _ + (1 : Int32) = _ from ex_53.symm) (by decide) rfl (fun ls hl => ?_)
            refine lv_goto (tgt := 15) G0.1 G0.2.1 dX11_leap_78 (by decide) ?_
            exact ih_15 ((2147483647 - x_53.toInt).toNat) (by omega) x_53 v_52 _ _ ls rfl ⟨by omega, by omega⟩ hw (lv_sub hl [0, 3, 4, 5] rfl)
          refine lv_icmp_eq (tgt := 75) G0.1 G0.2.1 dX11_leap_53 (by decide) (fun c_54 => ?_) (fun c_54 => ?_)
          · skip
            have tc_54 := ti_eq c_54
            exact jn_75 v_34 _ _ ls hw (lv_sub hl [0, 1, 2, 3, 4, 5] rfl)
          · skip
            have tc_54 := ti_ne c_54
            refine lv_iload G0.1 G0.2.1 dX11_leap_56 (lv_at hl 0 rfl) ?_
            refine lv_iconst (v := (-1)) G0.1 G0.2.1 dX11_leap_58 (by decide) ?_
            refine lv_icmp_eq (tgt := 75) G0.1 G0.2.1 dX11_leap_59 (by decide) (fun c_55 => ?_) (fun c_55 => ?_)
            · skip
              have tc_55 := ti_eq c_55
              exact jn_75 v_34 _ _ ls hw (lv_sub hl [0, 1, 2, 3, 4, 5] rfl)
            · skip
              have tc_55 := ti_ne c_55
              refine lv_iload_n G0.1 G0.2.1 dX11_leap_62 rfl (lv_at hl 3 rfl) ?_
              refine lv_iload G0.1 G0.2.1 dX11_leap_63 (lv_at hl 0 rfl) ?_
              refine lv_iload G0.1 G0.2.1 dX11_leap_65 (lv_at hl 1 rfl) ?_
              refine lv_isub G0.1 G0.2.1 dX11_leap_67 ?_
              refine lv_topi (fun x_56 ex_56 => ?_)
              first | have tx_56 := ti_sub ex_56 (by omega) (by omega) | skip
              refine va_mabs G0.1 G0.2.1 (by rw [G0.2.2.1, hl.1]) G0.2.2.2.1 (G0.2.2.2.2 (Cond.methodLink RX11 325 Lib.Math.abs.name) (by decide +kernel)) (G0.2.2.2.2 (Cond.static Lib.Math.abs.name) (by decide +kernel)) (G0.2.2.2.2 (Cond.initialized "java/lang/Math") (by decide +kernel)) (G0.2.2.2.2 (Cond.code Lib.Math.abs.name Lib.Math.abs.code 1 (some .int)) (by decide +kernel)) (Nat.le_of_ble_eq_true rfl) (Nat.le_of_ble_eq_true rfl) (Nat.le_of_ble_eq_true rfl) (Nat.le_of_ble_eq_true rfl) dX11_leap_68 ?_
              refine lv_topi (fun x_57 ex_57 => ?_)
              refine va_mmax G0.1 G0.2.1 (by rw [G0.2.2.1, hl.1]) G0.2.2.2.1 (G0.2.2.2.2 (Cond.methodLink RX11 330 Lib.Math.max.name) (by decide +kernel)) (G0.2.2.2.2 (Cond.static Lib.Math.max.name) (by decide +kernel)) (G0.2.2.2.2 (Cond.initialized "java/lang/Math") (by decide +kernel)) (G0.2.2.2.2 (Cond.code Lib.Math.max.name Lib.Math.max.code 2 (some .int)) (by decide +kernel)) (Nat.le_of_ble_eq_true rfl) (Nat.le_of_ble_eq_true rfl) (Nat.le_of_ble_eq_true rfl) (Nat.le_of_ble_eq_true rfl) dX11_leap_71 ?_
              refine lv_topi (fun x_58 ex_58 => ?_)
              have tx_58 := ti_max ex_58
              refine lv_istore_n (lv' := [(2, .int x_58), (5, .int r_51), (4, .int r_46), (3, .int v_33), (0, .ref x), (1, .int a)]) G0.1 G0.2.1 dX11_leap_74 rfl hl (by decide) rfl (fun ls hl => ?_)
              exact jn_75 x_58 _ _ ls hw (lv_sub hl [1, 2, 3, 0, 4, 5] rfl)
    exact lo_15 _ 1 0 _ _ ls rfl ⟨by omega, by omega⟩ hw (lv_sub hl [0, 1, 2, 3] rfl)
  · skip
    have tc_32 := ti_eq c_32
    refine lv_ldc (v := (-1000000)) G0.1 G0.2.1 G0.2.2.2.1 (G0.2.2.2.2 (Cond.constant RX11 166 (-1000000)) (by decide +kernel)) dX11_leap_8 ?_
    exact py_iret G0 hr rfl hlk hw ⟨rfl, rfl⟩ dX11_leap_10

def w_X11_leanest : List Cond := .code yX11_leanest cX11_leanest 6 (some .int) :: ([Cond.fieldLink RX11 60 "HeadYear" "diary" "LHeadYear$Diary;", Cond.fieldLink RX11 304 "HeadYear$Diary" "years" "I", Cond.methodLink RX11 267 yX11_isZeroOrOne, Cond.static yX11_isZeroOrOne, Cond.initialized RX11, Cond.methodLink RX11 333 yX1_headsOfYear, Cond.instanceMethod yX1_headsOfYear, Cond.selects RX1 yX1_headsOfYear yX1_headsOfYear, Cond.initialized RX1] ++ (u_ws RX11 TX11 16 ++ (u_ws RX1 TX1 3 ++ (w_X11_isZeroOrOne ++ (w_X1_headsOfYear ++ ([]))))))
theorem in_X11_leanest_X11 : ∀ w ∈ u_ws RX11 TX11 16, w ∈ w_X11_leanest := fun _ h => List.mem_cons_of_mem _ (List.mem_append_right _ (List.mem_append_left _ h))
theorem in_X11_leanest_X1 : ∀ w ∈ u_ws RX1 TX1 3, w ∈ w_X11_leanest := fun _ h => List.mem_cons_of_mem _ (List.mem_append_right _ (List.mem_append_right _ (List.mem_append_left _ h)))
theorem gg_X11_leanest_X11_isZeroOrOne : GoodIn w_X11_leanest w_X11_isZeroOrOne := goodIn_sub (fun _ h => List.mem_cons_of_mem _ (List.mem_append_right _ (List.mem_append_right _ (List.mem_append_right _ (List.mem_append_left _ h))))) (by decide +kernel)
theorem gg_X11_leanest_X1_headsOfYear : GoodIn w_X11_leanest w_X1_headsOfYear := goodIn_sub (fun _ h => List.mem_cons_of_mem _ (List.mem_append_right _ (List.mem_append_right _ (List.mem_append_right _ (List.mem_append_right _ (List.mem_append_left _ h)))))) (by decide +kernel)
theorem g_X11_leanest_X11_isZeroOrOne_267 : GoodIn w_X11_leanest (va_wsS RX11 267 yX11_isZeroOrOne w_X11_isZeroOrOne) := goodIn_app (goodIn_of _ (by decide +kernel)) gg_X11_leanest_X11_isZeroOrOne
theorem g_X11_leanest_X1_headsOfYear_333 : GoodIn w_X11_leanest (wsV RX11 333 RX1 yX1_headsOfYear w_X1_headsOfYear) := goodIn_app (goodIn_of _ (by decide +kernel)) gg_X11_leanest_X1_headsOfYear
set_option maxHeartbeats 4000000 in
set_option maxRecDepth 100000 in
theorem c_X11_leanest (l : Launch) (E : py_E) (G : wf_G) (L : List Nat) (f : py_F) (sz : Nat) (x : Nat) (a : Int32) (hG : GT G) (hWF : WF E G L f) (Tx : G.1 x = 12) : Met l yX11_leanest w_X11_leanest ({ frames := 2, cells := 0, slots := 0, locals := 45 }) (py_Pc E [.ref x, .int a] L f sz) (py_Qi E L f sz (fun _ L1 f1 => L = L1 ∧ f = f1)) 0 0 (va_A (va_pl L f) sz) := by
  refine Met.ofW (cc := cX11_leanest) (maxL := 6) (ret := (some .int)) (by decide) rfl ?_
  intro p e s m args below meth c s₁ B hml hv
  obtain ⟨rfl, rfl, hw⟩ := py_start hv
  have G0 : CallFix p m c cX11_leanest 6 s _ w_X11_leanest RX11 := ⟨B.exec, B.bytes, hml, findClass_of_methodNamed B.named, atoms_spec (ws := w_X11_leanest) B.pre⟩
  have hr := B.returns
  have hlk := B.notSynchronized
  have kcm1 : (-1 : Int32).toInt = -1 := rfl
  have kc0 : (0 : Int32).toInt = 0 := rfl
  have kc1 : (1 : Int32).toInt = 1 := rfl
  have hl := lv_entry ([.ref x, .int a]) (n := 6) (Nat.le_of_ble_eq_true rfl)
  rw [lg_entry_eq]
  generalize (lg_sl ([.ref x, .int a]) ++ List.replicate (6 - (lg_sl ([.ref x, .int a])).length) Slot.unset).toArray = ls at hl ⊢
  have hl : lv_has ls 6 [(0, .ref x), (1, .int a)] := hl
  have hRP : RP E G f f := RP.refl
  refine lv_aload_n G0.1 G0.2.1 dX11_leanest_0 rfl (lv_at hl 0 rfl) ?_
  obtain ⟨t_1, t_2, t_3, t_4, t_5, t_6, t_7, t_8, t_9, t_10, t_11, t_12, t_13, tx_14, tx_15, tx_16, tx_17⟩ := wt_11 hG Tx
  obtain ⟨v_18, v_19, v_20, hr_24, b_21, b_22, b_23⟩ := wg_11 hWF Tx
  refine py_get (C := RX11) (T := TX11) (N := 16) (k := 8) (v := .ref (G.2 x 8)) G0 hw in_X11_leanest_X11 rfl hr_24 (by decide) (by decide +kernel) rfl dX11_leanest_1 ?_
  obtain ⟨t_25, t_26⟩ := wt_1 hG t_9
  obtain ⟨v_27, hr_29, b_28⟩ := wg_1 hWF t_9
  refine py_get (C := RX1) (T := TX1) (N := 3) (k := 2) (v := .int v_27) G0 hw in_X11_leanest_X1 rfl hr_29 (by decide) (by decide +kernel) rfl dX11_leanest_4 ?_
  refine lv_if_eq (tgt := 17) G0.1 G0.2.1 dX11_leanest_7 (by decide) (fun c_30 => ?_) (fun c_30 => ?_)
  · skip
    have tc_30 := ti_eq c_30
    refine lv_iconst (v := (-1)) G0.1 G0.2.1 dX11_leanest_17 (by decide) ?_
    exact py_iret G0 hr rfl hlk hw ⟨rfl, rfl⟩ dX11_leanest_18
  · skip
    have tc_30 := ti_ne c_30
    refine lv_iload_n G0.1 G0.2.1 dX11_leanest_10 rfl (lv_at hl 1 rfl) ?_
    refine py_calli hw (va_runS (As := [.int a]) (rest := []) G0 (c_X11_isZeroOrOne l E G L f s.heap.size a hG hWF) (va_cwS 1 G0.2.2.2.2 g_X11_leanest_X11_isZeroOrOne_267 rfl rfl rfl (by decide +kernel) ⟨(Nat.le_of_ble_eq_true rfl), (Nat.le_of_ble_eq_true rfl)⟩) (py_preS hw) rfl rfl hl.1 rfl (lv_room (Nat.le_of_ble_eq_true rfl)) dX11_leanest_11 ⟨(Nat.le_of_ble_eq_true rfl), (Nat.le_of_ble_eq_true rfl)⟩) (fun r_35 L_31 f_32 H_33 locs hp_34 hw => ?_)
    obtain ⟨b_37, en_36, rfl, rfl⟩ := hp_34
    refine lv_if_ne (tgt := 19) G0.1 G0.2.1 dX11_leanest_14 (by decide) (fun c_38 => ?_) (fun c_38 => ?_)
    · skip
      have tc_38 := ti_ne c_38
      refine lv_iconst (v := 0) G0.1 G0.2.1 dX11_leanest_19 (by decide) ?_
      refine lv_istore_n (lv' := [(2, .int 0), (0, .ref x), (1, .int a)]) G0.1 G0.2.1 dX11_leanest_20 rfl hl (by decide) rfl (fun ls hl => ?_)
      refine lv_aload_n G0.1 G0.2.1 dX11_leanest_21 rfl (lv_at hl 1 rfl) ?_
      refine py_get (C := RX11) (T := TX11) (N := 16) (k := 8) (v := .ref (G.2 x 8)) G0 hw in_X11_leanest_X11 rfl hr_24 (by decide) (by decide +kernel) rfl dX11_leanest_22 ?_
      refine lv_iconst (v := 0) G0.1 G0.2.1 dX11_leanest_25 (by decide) ?_
      refine py_calli hw (va_runV (As := [.int 0]) (rest := []) G0 (c_X1_headsOfYear l E G L f H_33.size (G.2 x 8) 0 hG hWF t_9 ⟨by omega, by omega⟩) (cwV 1 G0.2.2.2.2 g_X11_leanest_X1_headsOfYear_333 rfl rfl rfl (by decide +kernel) ⟨(Nat.le_of_ble_eq_true rfl), (Nat.le_of_ble_eq_true rfl)⟩) (py_preV hw (C := RX1) (T := TX1) (N := 3) rfl hr_29) rfl rfl hl.1 rfl (lv_room (Nat.le_of_ble_eq_true rfl)) dX11_leanest_26 ⟨(Nat.le_of_ble_eq_true rfl), (Nat.le_of_ble_eq_true rfl)⟩) (fun r_43 L_39 f_40 H_41 locs hp_42 hw => ?_)
      obtain ⟨rfl, rfl⟩ := hp_42
      have br_43 := wf_free r_43
      refine lv_istore_n (lv' := [(3, .int r_43), (2, .int 0), (0, .ref x), (1, .int a)]) G0.1 G0.2.1 dX11_leanest_29 rfl hl (by decide) rfl (fun ls hl => ?_)
      refine lv_iconst (v := 1) G0.1 G0.2.1 dX11_leanest_30 (by decide) ?_
      refine lv_istore (lv' := [(4, .int 1), (3, .int r_43), (2, .int 0), (0, .ref x), (1, .int a)]) G0.1 G0.2.1 dX11_leanest_31 hl (by decide) rfl (fun ls hl => ?_)
      have lo_33 : ∀ n_33 : Nat, ∀ (v_44 : Int32) (v_45 : Int32) (v_46 : Int32) (H_j33 : Heap) (locs : List Loc) (ls : Array Slot), (2147483647 - v_44.toInt).toNat = n_33 → (1 ≤ v_44.toInt ∧ v_44.toInt ≤ 2147483647) → py_W E (va_A (va_pl L f) s.heap.size) s L f H_j33 locs → lv_has ls 6 [(4, .int v_44), (3, .int v_45), (2, .int v_46), (0, .ref x), (1, .int a)] → W p l e (headSpec w_X11_leanest ({ frames := 2, cells := 0, slots := 0, locals := 45 })).room s m ([.ref x, .int a] : List Value).toArray below meth c H_j33 locs 0 0 (MQ below (py_Qi E L f s.heap.size (fun _ L1 f1 => L = L1 ∧ f = f1)) ([.ref x, .int a] : List Value).toArray s 0 0 (va_A (va_pl L f) s.heap.size)) (F0 m 33 ls []) := by
        intro n_33
        induction n_33 using Nat.strongRecOn with
        | _ n_33 ih_33 =>
          intro v_44 v_45 v_46 H_j33 locs ls hn_33 bv_44 hw hl
          refine lv_iload G0.1 G0.2.1 dX11_leanest_33 (lv_at hl 0 rfl) ?_
          refine lv_aload_n G0.1 G0.2.1 dX11_leanest_35 rfl (lv_at hl 3 rfl) ?_
          refine py_get (C := RX11) (T := TX11) (N := 16) (k := 8) (v := .ref (G.2 x 8)) G0 hw in_X11_leanest_X11 rfl hr_24 (by decide) (by decide +kernel) rfl dX11_leanest_36 ?_
          refine py_get (C := RX1) (T := TX1) (N := 3) (k := 2) (v := .int v_27) G0 hw in_X11_leanest_X1 rfl hr_29 (by decide) (by decide +kernel) rfl dX11_leanest_39 ?_
          refine lv_icmp_ge (tgt := 74) G0.1 G0.2.1 dX11_leanest_42 (by decide) (fun c_47 => ?_) (fun c_47 => ?_)
          · skip
            have tc_47 := ti_le c_47
            refine lv_iload_n G0.1 G0.2.1 dX11_leanest_74 rfl (lv_at hl 4 rfl) ?_
            have jn_83 : ∀ (v_48 : Int32) (H_j83 : Heap) (locs : List Loc) (ls : Array Slot), py_W E (va_A (va_pl L f) s.heap.size) s L f H_j83 locs → lv_has ls 6 [(4, .int v_44), (3, .int v_45), (2, .int v_46), (0, .ref x), (1, .int a)] → W p l e (headSpec w_X11_leanest ({ frames := 2, cells := 0, slots := 0, locals := 45 })).room s m ([.ref x, .int a] : List Value).toArray below meth c H_j83 locs 0 0 (MQ below (py_Qi E L f s.heap.size (fun _ L1 f1 => L = L1 ∧ f = f1)) ([.ref x, .int a] : List Value).toArray s 0 0 (va_A (va_pl L f) s.heap.size)) (F0 m 83 ls [.int v_48]) := by
              intro v_48 H_j83 locs ls hw hl
              exact py_iret G0 hr rfl hlk hw ⟨rfl, rfl⟩ dX11_leanest_83
            refine lv_if_ne (tgt := 82) G0.1 G0.2.1 dX11_leanest_75 (by decide) (fun c_49 => ?_) (fun c_49 => ?_)
            · skip
              have tc_49 := ti_ne c_49
              refine lv_iload_n G0.1 G0.2.1 dX11_leanest_82 rfl (lv_at hl 1 rfl) ?_
              exact jn_83 v_45 _ _ ls hw (lv_sub hl [0, 1, 2, 3, 4] rfl)
            · skip
              have tc_49 := ti_eq c_49
              refine lv_iload_n G0.1 G0.2.1 dX11_leanest_78 rfl (lv_at hl 2 rfl) ?_
              refine lv_goto (tgt := 83) G0.1 G0.2.1 dX11_leanest_79 (by decide) ?_
              exact jn_83 v_46 _ _ ls hw (lv_sub hl [0, 1, 2, 3, 4] rfl)
          · skip
            have tc_47 := ti_nle c_47
            refine lv_aload_n G0.1 G0.2.1 dX11_leanest_45 rfl (lv_at hl 3 rfl) ?_
            refine py_get (C := RX11) (T := TX11) (N := 16) (k := 8) (v := .ref (G.2 x 8)) G0 hw in_X11_leanest_X11 rfl hr_24 (by decide) (by decide +kernel) rfl dX11_leanest_46 ?_
            refine lv_iload G0.1 G0.2.1 dX11_leanest_49 (lv_at hl 0 rfl) ?_
            refine py_calli hw (va_runV (As := [.int v_44]) (rest := []) G0 (c_X1_headsOfYear l E G L f H_j33.size (G.2 x 8) v_44 hG hWF t_9 ⟨by omega, by omega⟩) (cwV 1 G0.2.2.2.2 g_X11_leanest_X1_headsOfYear_333 rfl rfl rfl (by decide +kernel) ⟨(Nat.le_of_ble_eq_true rfl), (Nat.le_of_ble_eq_true rfl)⟩) (py_preV hw (C := RX1) (T := TX1) (N := 3) rfl hr_29) rfl rfl hl.1 rfl (lv_room (Nat.le_of_ble_eq_true rfl)) dX11_leanest_51 ⟨(Nat.le_of_ble_eq_true rfl), (Nat.le_of_ble_eq_true rfl)⟩) (fun r_54 L_50 f_51 H_52 locs hp_53 hw => ?_)
            obtain ⟨rfl, rfl⟩ := hp_53
            have br_54 := wf_free r_54
            refine lv_istore (lv' := [(5, .int r_54), (4, .int v_44), (3, .int v_45), (2, .int v_46), (0, .ref x), (1, .int a)]) G0.1 G0.2.1 dX11_leanest_54 hl (by decide) rfl (fun ls hl => ?_)
            refine lv_iload G0.1 G0.2.1 dX11_leanest_56 (lv_at hl 0 rfl) ?_
            refine lv_iload_n G0.1 G0.2.1 dX11_leanest_58 rfl (lv_at hl 2 rfl) ?_
            refine lv_icmp_ge (tgt := 68) G0.1 G0.2.1 dX11_leanest_59 (by decide) (fun c_55 => ?_) (fun c_55 => ?_)
            · skip
              have tc_55 := ti_le c_55
              obtain ⟨x_56, ex_56⟩ : ∃ y : Int32, y = v_44 + 1 := ⟨_, rfl⟩
              first | have tx_56 := ti_add ex_56 (by omega) (by omega) | skip
              refine lv_iinc (v := x_56) (lv' := [(4, .int x_56), (5, .int r_54), (3, .int v_45), (2, .int v_46), (0, .ref x), (1, .int a)]) G0.1 G0.2.1 dX11_leanest_68 hl (k := 1) rfl (show _ + (1 : Int32) = _ from ex_56.symm) (by decide) rfl (fun ls hl => ?_)
              refine lv_goto (tgt := 33) G0.1 G0.2.1 dX11_leanest_71 (by decide) ?_
              exact ih_33 ((2147483647 - x_56.toInt).toNat) (by omega) x_56 v_45 v_46 _ _ ls rfl ⟨by omega, by omega⟩ hw (lv_sub hl [0, 2, 3, 4, 5] rfl)
            · skip
              have tc_55 := ti_nle c_55
              refine lv_iload G0.1 G0.2.1 dX11_leanest_62 (lv_at hl 0 rfl) ?_
              refine lv_istore_n (lv' := [(3, .int r_54), (5, .int r_54), (4, .int v_44), (2, .int v_46), (0, .ref x), (1, .int a)]) G0.1 G0.2.1 dX11_leanest_64 rfl hl (by decide) rfl (fun ls hl => ?_)
              refine lv_iload G0.1 G0.2.1 dX11_leanest_65 (lv_at hl 2 rfl) ?_
              refine lv_istore_n (lv' := [(2, .int v_44), (3, .int r_54), (5, .int r_54), (4, .int v_44), (0, .ref x), (1, .int a)]) G0.1 G0.2.1 dX11_leanest_67 rfl hl (by decide) rfl (fun ls hl => ?_)
              obtain ⟨x_57, ex_57⟩ : ∃ y : Int32, y = v_44 + 1 := ⟨_, rfl⟩
              first | have tx_57 := ti_add ex_57 (by omega) (by omega) | skip
              refine lv_iinc (v := x_57) (lv' := [(4, .int x_57), (2, .int v_44), (3, .int r_54), (5, .int r_54), (0, .ref x), (1, .int a)]) G0.1 G0.2.1 dX11_leanest_68 hl (k := 3) rfl (show _ + (1 : Int32) = _ from ex_57.symm) (by decide) rfl (fun ls hl => ?_)
              refine lv_goto (tgt := 33) G0.1 G0.2.1 dX11_leanest_71 (by decide) ?_
              exact ih_33 ((2147483647 - x_57.toInt).toNat) (by omega) x_57 r_54 v_44 _ _ ls rfl ⟨by omega, by omega⟩ hw (lv_sub hl [0, 2, 1, 4, 5] rfl)
      exact lo_33 _ 1 r_43 0 _ _ ls rfl ⟨by omega, by omega⟩ hw (lv_sub hl [0, 1, 2, 3, 4] rfl)
    · skip
      have tc_38 := ti_eq c_38
      refine lv_iconst (v := (-1)) G0.1 G0.2.1 dX11_leanest_17 (by decide) ?_
      exact py_iret G0 hr rfl hlk hw ⟨rfl, rfl⟩ dX11_leanest_18

def w_X11_count : List Cond := .code yX11_count cX11_count 2 (some .int) :: ([Cond.fieldLink RX11 47 "HeadYear" "folk" "LHeadYear$Folk;", Cond.fieldLink RX11 128 "HeadYear$Folk" "valley" "LHeadYear$Valley;", Cond.fieldLink RX11 317 "HeadYear$Valley" "levels" "I", Cond.fieldLink RX11 319 "HeadYear$Valley" "families" "I", Cond.fieldLink RX11 94 "HeadYear" "lawCount" "I", Cond.fieldLink RX11 10 "HeadYear" "tape" "LHeadYear$Tape;", Cond.fieldLink RX11 109 "HeadYear$Tape" "length" "I", Cond.fieldLink RX11 222 "HeadYear$Folk" "years" "I", Cond.fieldLink RX11 98 "HeadYear" "heldLaw" "I", Cond.fieldLink RX11 67 "HeadYear" "buyings" "LHeadYear$Buyings;", Cond.fieldLink RX11 240 "HeadYear$Buyings" "count" "I", Cond.methodLink RX11 350 yX2_goneFamilies, Cond.instanceMethod yX2_goneFamilies, Cond.selects RX2 yX2_goneFamilies yX2_goneFamilies, Cond.initialized RX2, Cond.constant RX11 166 (-1000000)] ++ (u_ws RX11 TX11 16 ++ (u_ws RX2 TX2 12 ++ (u_ws RX9 TX9 10 ++ (u_ws RX8 TX8 4 ++ (u_ws RX0 TX0 5 ++ (w_X2_goneFamilies ++ ([]))))))))
theorem in_X11_count_X11 : ∀ w ∈ u_ws RX11 TX11 16, w ∈ w_X11_count := fun _ h => List.mem_cons_of_mem _ (List.mem_append_right _ (List.mem_append_left _ h))
theorem in_X11_count_X2 : ∀ w ∈ u_ws RX2 TX2 12, w ∈ w_X11_count := fun _ h => List.mem_cons_of_mem _ (List.mem_append_right _ (List.mem_append_right _ (List.mem_append_left _ h)))
theorem in_X11_count_X9 : ∀ w ∈ u_ws RX9 TX9 10, w ∈ w_X11_count := fun _ h => List.mem_cons_of_mem _ (List.mem_append_right _ (List.mem_append_right _ (List.mem_append_right _ (List.mem_append_left _ h))))
theorem in_X11_count_X8 : ∀ w ∈ u_ws RX8 TX8 4, w ∈ w_X11_count := fun _ h => List.mem_cons_of_mem _ (List.mem_append_right _ (List.mem_append_right _ (List.mem_append_right _ (List.mem_append_right _ (List.mem_append_left _ h)))))
theorem in_X11_count_X0 : ∀ w ∈ u_ws RX0 TX0 5, w ∈ w_X11_count := fun _ h => List.mem_cons_of_mem _ (List.mem_append_right _ (List.mem_append_right _ (List.mem_append_right _ (List.mem_append_right _ (List.mem_append_right _ (List.mem_append_left _ h))))))
theorem gg_X11_count_X2_goneFamilies : GoodIn w_X11_count w_X2_goneFamilies := goodIn_sub (fun _ h => List.mem_cons_of_mem _ (List.mem_append_right _ (List.mem_append_right _ (List.mem_append_right _ (List.mem_append_right _ (List.mem_append_right _ (List.mem_append_right _ (List.mem_append_left _ h)))))))) (by decide +kernel)
theorem g_X11_count_X2_goneFamilies_350 : GoodIn w_X11_count (wsV RX11 350 RX2 yX2_goneFamilies w_X2_goneFamilies) := goodIn_app (goodIn_of _ (by decide +kernel)) gg_X11_count_X2_goneFamilies
theorem sw_X11_count_1 (x : Int32) : x = 0 ∨ x = 1 ∨ x = 2 ∨ x = 3 ∨ x = 4 ∨ x = 5 ∨ x = 6 ∨ x = 7 ∨ (x.toInt < 0 ∨ 7 < x.toInt) := by
  by_cases h0 : x = 0
  · exact Or.inl h0
  by_cases h1 : x = 1
  · exact Or.inr (Or.inl h1)
  by_cases h2 : x = 2
  · exact Or.inr (Or.inr (Or.inl h2))
  by_cases h3 : x = 3
  · exact Or.inr (Or.inr (Or.inr (Or.inl h3)))
  by_cases h4 : x = 4
  · exact Or.inr (Or.inr (Or.inr (Or.inr (Or.inl h4))))
  by_cases h5 : x = 5
  · exact Or.inr (Or.inr (Or.inr (Or.inr (Or.inr (Or.inl h5)))))
  by_cases h6 : x = 6
  · exact Or.inr (Or.inr (Or.inr (Or.inr (Or.inr (Or.inr (Or.inl h6))))))
  by_cases h7 : x = 7
  · exact Or.inr (Or.inr (Or.inr (Or.inr (Or.inr (Or.inr (Or.inr (Or.inl h7)))))))
  have t0 := ti_ne h0
  have k0 : (0 : Int32).toInt = 0 := rfl
  have t1 := ti_ne h1
  have k1 : (1 : Int32).toInt = 1 := rfl
  have t2 := ti_ne h2
  have k2 : (2 : Int32).toInt = 2 := rfl
  have t3 := ti_ne h3
  have k3 : (3 : Int32).toInt = 3 := rfl
  have t4 := ti_ne h4
  have k4 : (4 : Int32).toInt = 4 := rfl
  have t5 := ti_ne h5
  have k5 : (5 : Int32).toInt = 5 := rfl
  have t6 := ti_ne h6
  have k6 : (6 : Int32).toInt = 6 := rfl
  have t7 := ti_ne h7
  have k7 : (7 : Int32).toInt = 7 := rfl
  exact Or.inr (Or.inr (Or.inr (Or.inr (Or.inr (Or.inr (Or.inr (Or.inr ((by omega)))))))))
set_option maxHeartbeats 4000000 in
set_option maxRecDepth 100000 in
theorem c_X11_count (l : Launch) (E : py_E) (G : wf_G) (L : List Nat) (f : py_F) (sz : Nat) (x : Nat) (a : Int32) (hG : GT G) (hWF : WF E G L f) (Tx : G.1 x = 12) : Met l yX11_count w_X11_count ({ frames := 2, cells := 0, slots := 0, locals := 43 }) (py_Pc E [.ref x, .int a] L f sz) (py_Qi E L f sz (fun _ L1 f1 => L = L1 ∧ f = f1)) 0 0 (va_A (va_pl L f) sz) := by
  refine Met.ofW (cc := cX11_count) (maxL := 2) (ret := (some .int)) (by decide) rfl ?_
  intro p e s m args below meth c s₁ B hml hv
  obtain ⟨rfl, rfl, hw⟩ := py_start hv
  have G0 : CallFix p m c cX11_count 2 s _ w_X11_count RX11 := ⟨B.exec, B.bytes, hml, findClass_of_methodNamed B.named, atoms_spec (ws := w_X11_count) B.pre⟩
  have hr := B.returns
  have hlk := B.notSynchronized
  have kcm1000000 : (-1000000 : Int32).toInt = -1000000 := rfl
  have kcm1 : (-1 : Int32).toInt = -1 := rfl
  have kc0 : (0 : Int32).toInt = 0 := rfl
  have kc1 : (1 : Int32).toInt = 1 := rfl
  have kc2 : (2 : Int32).toInt = 2 := rfl
  have kc3 : (3 : Int32).toInt = 3 := rfl
  have kc4 : (4 : Int32).toInt = 4 := rfl
  have kc5 : (5 : Int32).toInt = 5 := rfl
  have kc6 : (6 : Int32).toInt = 6 := rfl
  have kc7 : (7 : Int32).toInt = 7 := rfl
  have hl := lv_entry ([.ref x, .int a]) (n := 2) (Nat.le_of_ble_eq_true rfl)
  rw [lg_entry_eq]
  generalize (lg_sl ([.ref x, .int a]) ++ List.replicate (2 - (lg_sl ([.ref x, .int a])).length) Slot.unset).toArray = ls at hl ⊢
  have hl : lv_has ls 2 [(0, .ref x), (1, .int a)] := hl
  have hRP : RP E G f f := RP.refl
  refine lv_iload_n G0.1 G0.2.1 dX11_count_0 rfl (lv_at hl 1 rfl) ?_
  rcases sw_X11_count_1 a with e_sw | e_sw | e_sw | e_sw | e_sw | e_sw | e_sw | e_sw | e_sw
  · skip
    have te := ti_eq e_sw
    refine lv_tableIn (off := 47) (tgt := 48) G0.1 G0.2.1 dX11_count_1 (by omega) (by omega) (by rw [e_sw]; decide) (by decide) ?_
    refine lv_aload_n G0.1 G0.2.1 dX11_count_48 rfl (lv_at hl 0 rfl) ?_
    obtain ⟨t_1, t_2, t_3, t_4, t_5, t_6, t_7, t_8, t_9, t_10, t_11, t_12, t_13, tx_14, tx_15, tx_16, tx_17⟩ := wt_11 hG Tx
    obtain ⟨v_18, v_19, v_20, hr_24, b_21, b_22, b_23⟩ := wg_11 hWF Tx
    refine py_get (C := RX11) (T := TX11) (N := 16) (k := 5) (v := .ref (G.2 x 5)) G0 hw in_X11_count_X11 rfl hr_24 (by decide) (by decide +kernel) rfl dX11_count_49 ?_
    obtain ⟨t_25, t_26, t_27, t_28, t_29, t_30, t_31, t_32, t_33⟩ := wt_2 hG t_6
    obtain ⟨r_34, y_35, v_36, hr_39, ty_37, b_38⟩ := wg_2 hWF t_6
    refine py_get (C := RX2) (T := TX2) (N := 12) (k := 9) (v := .ref r_34) G0 hw in_X11_count_X2 rfl hr_39 (by decide) (by decide +kernel) rfl dX11_count_52 ?_
    obtain ⟨t_40, t_41, t_42, t_43, t_44, t_45, t_46, t_47⟩ := wt_9 hG ty_37
    obtain ⟨v_48, v_49, hr_52, b_50, b_51⟩ := wg_9 hWF ty_37
    have tq_53 := va_eq hr_52
    refine py_get (C := RX9) (T := TX9) (N := 10) (k := 8) (v := .int v_48) G0 hw in_X11_count_X9 rfl hr_52 (by decide) (by decide +kernel) rfl dX11_count_55 ?_
    exact py_iret G0 hr rfl hlk hw ⟨rfl, rfl⟩ dX11_count_58
  · skip
    have te := ti_eq e_sw
    refine lv_tableIn (off := 58) (tgt := 59) G0.1 G0.2.1 dX11_count_1 (by omega) (by omega) (by rw [e_sw]; decide) (by decide) ?_
    refine lv_aload_n G0.1 G0.2.1 dX11_count_59 rfl (lv_at hl 0 rfl) ?_
    obtain ⟨t_54, t_55, t_56, t_57, t_58, t_59, t_60, t_61, t_62, t_63, t_64, t_65, t_66, tx_67, tx_68, tx_69, tx_70⟩ := wt_11 hG Tx
    obtain ⟨v_71, v_72, v_73, hr_77, b_74, b_75, b_76⟩ := wg_11 hWF Tx
    refine py_get (C := RX11) (T := TX11) (N := 16) (k := 5) (v := .ref (G.2 x 5)) G0 hw in_X11_count_X11 rfl hr_77 (by decide) (by decide +kernel) rfl dX11_count_60 ?_
    obtain ⟨t_78, t_79, t_80, t_81, t_82, t_83, t_84, t_85, t_86⟩ := wt_2 hG t_59
    obtain ⟨r_87, y_88, v_89, hr_92, ty_90, b_91⟩ := wg_2 hWF t_59
    refine py_get (C := RX2) (T := TX2) (N := 12) (k := 9) (v := .ref r_87) G0 hw in_X11_count_X2 rfl hr_92 (by decide) (by decide +kernel) rfl dX11_count_63 ?_
    obtain ⟨t_93, t_94, t_95, t_96, t_97, t_98, t_99, t_100⟩ := wt_9 hG ty_90
    obtain ⟨v_101, v_102, hr_105, b_103, b_104⟩ := wg_9 hWF ty_90
    have tq_106 := va_eq hr_105
    refine py_get (C := RX9) (T := TX9) (N := 10) (k := 9) (v := .int v_102) G0 hw in_X11_count_X9 rfl hr_105 (by decide) (by decide +kernel) rfl dX11_count_66 ?_
    exact py_iret G0 hr rfl hlk hw ⟨rfl, rfl⟩ dX11_count_69
  · skip
    have te := ti_eq e_sw
    refine lv_tableIn (off := 69) (tgt := 70) G0.1 G0.2.1 dX11_count_1 (by omega) (by omega) (by rw [e_sw]; decide) (by decide) ?_
    refine lv_aload_n G0.1 G0.2.1 dX11_count_70 rfl (lv_at hl 0 rfl) ?_
    obtain ⟨t_107, t_108, t_109, t_110, t_111, t_112, t_113, t_114, t_115, t_116, t_117, t_118, t_119, tx_120, tx_121, tx_122, tx_123⟩ := wt_11 hG Tx
    obtain ⟨v_124, v_125, v_126, hr_130, b_127, b_128, b_129⟩ := wg_11 hWF Tx
    refine py_get (C := RX11) (T := TX11) (N := 16) (k := 13) (v := .int v_124) G0 hw in_X11_count_X11 rfl hr_130 (by decide) (by decide +kernel) rfl dX11_count_71 ?_
    exact py_iret G0 hr rfl hlk hw ⟨rfl, rfl⟩ dX11_count_74
  · skip
    have te := ti_eq e_sw
    refine lv_tableIn (off := 74) (tgt := 75) G0.1 G0.2.1 dX11_count_1 (by omega) (by omega) (by rw [e_sw]; decide) (by decide) ?_
    refine lv_aload_n G0.1 G0.2.1 dX11_count_75 rfl (lv_at hl 0 rfl) ?_
    obtain ⟨t_131, t_132, t_133, t_134, t_135, t_136, t_137, t_138, t_139, t_140, t_141, t_142, t_143, tx_144, tx_145, tx_146, tx_147⟩ := wt_11 hG Tx
    obtain ⟨v_148, v_149, v_150, hr_154, b_151, b_152, b_153⟩ := wg_11 hWF Tx
    refine py_get (C := RX11) (T := TX11) (N := 16) (k := 0) (v := .ref (G.2 x 0)) G0 hw in_X11_count_X11 rfl hr_154 (by decide) (by decide +kernel) rfl dX11_count_76 ?_
    have t_155 := wt_8 hG t_131
    obtain ⟨v_156, v_157, v_158, hr_161, b_159, b_160⟩ := wg_8 hWF t_131
    have bv_158 := wf_free v_158
    have tq_162 := tp_eq hr_161
    refine py_get (C := RX8) (T := TX8) (N := 4) (k := 1) (v := .int v_156) G0 hw in_X11_count_X8 rfl hr_161 (by decide) (by decide +kernel) rfl dX11_count_79 ?_
    exact py_iret G0 hr rfl hlk hw ⟨rfl, rfl⟩ dX11_count_82
  · skip
    have te := ti_eq e_sw
    refine lv_tableIn (off := 82) (tgt := 83) G0.1 G0.2.1 dX11_count_1 (by omega) (by omega) (by rw [e_sw]; decide) (by decide) ?_
    refine lv_aload_n G0.1 G0.2.1 dX11_count_83 rfl (lv_at hl 0 rfl) ?_
    obtain ⟨t_163, t_164, t_165, t_166, t_167, t_168, t_169, t_170, t_171, t_172, t_173, t_174, t_175, tx_176, tx_177, tx_178, tx_179⟩ := wt_11 hG Tx
    obtain ⟨v_180, v_181, v_182, hr_186, b_183, b_184, b_185⟩ := wg_11 hWF Tx
    refine py_get (C := RX11) (T := TX11) (N := 16) (k := 5) (v := .ref (G.2 x 5)) G0 hw in_X11_count_X11 rfl hr_186 (by decide) (by decide +kernel) rfl dX11_count_84 ?_
    obtain ⟨t_187, t_188, t_189, t_190, t_191, t_192, t_193, t_194, t_195⟩ := wt_2 hG t_168
    obtain ⟨r_196, y_197, v_198, hr_201, ty_199, b_200⟩ := wg_2 hWF t_168
    refine py_get (C := RX2) (T := TX2) (N := 12) (k := 11) (v := .int v_198) G0 hw in_X11_count_X2 rfl hr_201 (by decide) (by decide +kernel) rfl dX11_count_87 ?_
    exact py_iret G0 hr rfl hlk hw ⟨rfl, rfl⟩ dX11_count_90
  · skip
    have te := ti_eq e_sw
    refine lv_tableIn (off := 90) (tgt := 91) G0.1 G0.2.1 dX11_count_1 (by omega) (by omega) (by rw [e_sw]; decide) (by decide) ?_
    refine lv_aload_n G0.1 G0.2.1 dX11_count_91 rfl (lv_at hl 0 rfl) ?_
    obtain ⟨t_202, t_203, t_204, t_205, t_206, t_207, t_208, t_209, t_210, t_211, t_212, t_213, t_214, tx_215, tx_216, tx_217, tx_218⟩ := wt_11 hG Tx
    obtain ⟨v_219, v_220, v_221, hr_225, b_222, b_223, b_224⟩ := wg_11 hWF Tx
    refine py_get (C := RX11) (T := TX11) (N := 16) (k := 14) (v := .int v_220) G0 hw in_X11_count_X11 rfl hr_225 (by decide) (by decide +kernel) rfl dX11_count_92 ?_
    exact py_iret G0 hr rfl hlk hw ⟨rfl, rfl⟩ dX11_count_95
  · skip
    have te := ti_eq e_sw
    refine lv_tableIn (off := 95) (tgt := 96) G0.1 G0.2.1 dX11_count_1 (by omega) (by omega) (by rw [e_sw]; decide) (by decide) ?_
    refine lv_aload_n G0.1 G0.2.1 dX11_count_96 rfl (lv_at hl 0 rfl) ?_
    obtain ⟨t_226, t_227, t_228, t_229, t_230, t_231, t_232, t_233, t_234, t_235, t_236, t_237, t_238, tx_239, tx_240, tx_241, tx_242⟩ := wt_11 hG Tx
    obtain ⟨v_243, v_244, v_245, hr_249, b_246, b_247, b_248⟩ := wg_11 hWF Tx
    refine py_get (C := RX11) (T := TX11) (N := 16) (k := 9) (v := .ref (G.2 x 9)) G0 hw in_X11_count_X11 rfl hr_249 (by decide) (by decide +kernel) rfl dX11_count_97 ?_
    obtain ⟨t_250, t_251, t_252⟩ := wt_0 hG t_235
    obtain ⟨v_253, v_254, hr_257, b_255, b_256⟩ := wg_0 hWF t_235
    refine py_get (C := RX0) (T := TX0) (N := 5) (k := 3) (v := .int v_253) G0 hw in_X11_count_X0 rfl hr_257 (by decide) (by decide +kernel) rfl dX11_count_100 ?_
    exact py_iret G0 hr rfl hlk hw ⟨rfl, rfl⟩ dX11_count_103
  · skip
    have te := ti_eq e_sw
    refine lv_tableIn (off := 103) (tgt := 104) G0.1 G0.2.1 dX11_count_1 (by omega) (by omega) (by rw [e_sw]; decide) (by decide) ?_
    refine lv_aload_n G0.1 G0.2.1 dX11_count_104 rfl (lv_at hl 0 rfl) ?_
    obtain ⟨t_258, t_259, t_260, t_261, t_262, t_263, t_264, t_265, t_266, t_267, t_268, t_269, t_270, tx_271, tx_272, tx_273, tx_274⟩ := wt_11 hG Tx
    obtain ⟨v_275, v_276, v_277, hr_281, b_278, b_279, b_280⟩ := wg_11 hWF Tx
    refine py_get (C := RX11) (T := TX11) (N := 16) (k := 5) (v := .ref (G.2 x 5)) G0 hw in_X11_count_X11 rfl hr_281 (by decide) (by decide +kernel) rfl dX11_count_105 ?_
    obtain ⟨t_282, t_283, t_284, t_285, t_286, t_287, t_288, t_289, t_290⟩ := wt_2 hG t_263
    obtain ⟨r_291, y_292, v_293, hr_296, ty_294, b_295⟩ := wg_2 hWF t_263
    refine py_calli hw (va_runV (As := []) (rest := []) G0 (c_X2_goneFamilies l E G L f s.heap.size (G.2 x 5) hG hWF t_263) (cwV 0 G0.2.2.2.2 g_X11_count_X2_goneFamilies_350 rfl rfl rfl (by decide +kernel) ⟨(Nat.le_of_ble_eq_true rfl), (Nat.le_of_ble_eq_true rfl)⟩) (py_preV hw (C := RX2) (T := TX2) (N := 12) rfl hr_296) rfl rfl hl.1 rfl (lv_room (Nat.le_of_ble_eq_true rfl)) dX11_count_108 ⟨(Nat.le_of_ble_eq_true rfl), (Nat.le_of_ble_eq_true rfl)⟩) (fun r_301 L_297 f_298 H_299 locs hp_300 hw => ?_)
    obtain ⟨rfl, rfl⟩ := hp_300
    have br_301 := wf_free r_301
    exact py_iret G0 hr rfl hlk hw ⟨rfl, rfl⟩ dX11_count_111
  · skip
    refine lv_tableOut (tgt := 112) G0.1 G0.2.1 dX11_count_1 e_sw (by decide) ?_
    refine lv_ldc (v := (-1000000)) G0.1 G0.2.1 G0.2.2.2.1 (G0.2.2.2.2 (Cond.constant RX11 166 (-1000000)) (by decide +kernel)) dX11_count_112 ?_
    exact py_iret G0 hr rfl hlk hw ⟨rfl, rfl⟩ dX11_count_114
