theorem dX11_buy_0 : decode cX11_buy 0 = .ok (.aload_n 0, 1) := by decide +kernel
theorem dX11_buy_1 : decode cX11_buy 1 = .ok (.iload_n 1, 1) := by decide +kernel
theorem dX11_buy_2 : decode cX11_buy 2 = .ok (.invokevirtual 246, 3) := by decide +kernel
theorem dX11_buy_5 : decode cX11_buy 5 = .ok (.ifCond .eq 26, 3) := by decide +kernel
theorem dX11_buy_8 : decode cX11_buy 8 = .ok (.iload_n 2, 1) := by decide +kernel
theorem dX11_buy_9 : decode cX11_buy 9 = .ok (.ifCond .eq 22, 3) := by decide +kernel
theorem dX11_buy_12 : decode cX11_buy 12 = .ok (.iload_n 2, 1) := by decide +kernel
theorem dX11_buy_13 : decode cX11_buy 13 = .ok (.invokestatic 249, 3) := by decide +kernel
theorem dX11_buy_16 : decode cX11_buy 16 = .ok (.ifCond .eq 15, 3) := by decide +kernel
theorem dX11_buy_19 : decode cX11_buy 19 = .ok (.aload_n 0, 1) := by decide +kernel
theorem dX11_buy_20 : decode cX11_buy 20 = .ok (.getfield 67, 3) := by decide +kernel
theorem dX11_buy_23 : decode cX11_buy 23 = .ok (.getfield 240, 3) := by decide +kernel
theorem dX11_buy_26 : decode cX11_buy 26 = .ok (.bipush 40, 2) := by decide +kernel
theorem dX11_buy_28 : decode cX11_buy 28 = .ok (.if_icmp .lt 5, 3) := by decide +kernel
theorem dX11_buy_31 : decode cX11_buy 31 = .ok (.iconst (-1), 1) := by decide +kernel
theorem dX11_buy_32 : decode cX11_buy 32 = .ok (.ireturn, 1) := by decide +kernel
theorem dX11_buy_33 : decode cX11_buy 33 = .ok (.aload_n 0, 1) := by decide +kernel
theorem dX11_buy_34 : decode cX11_buy 34 = .ok (.getfield 47, 3) := by decide +kernel
theorem dX11_buy_37 : decode cX11_buy 37 = .ok (.getfield 188, 3) := by decide +kernel
theorem dX11_buy_40 : decode cX11_buy 40 = .ok (.iload_n 1, 1) := by decide +kernel
theorem dX11_buy_41 : decode cX11_buy 41 = .ok (.iaload, 1) := by decide +kernel
theorem dX11_buy_42 : decode cX11_buy 42 = .ok (.iload_n 2, 1) := by decide +kernel
theorem dX11_buy_43 : decode cX11_buy 43 = .ok (.iadd, 1) := by decide +kernel
theorem dX11_buy_44 : decode cX11_buy 44 = .ok (.invokestatic 249, 3) := by decide +kernel
theorem dX11_buy_47 : decode cX11_buy 47 = .ok (.ifCond .ne 5, 3) := by decide +kernel
theorem dX11_buy_50 : decode cX11_buy 50 = .ok (.iconst (-1), 1) := by decide +kernel
theorem dX11_buy_51 : decode cX11_buy 51 = .ok (.ireturn, 1) := by decide +kernel
theorem dX11_buy_52 : decode cX11_buy 52 = .ok (.aload_n 0, 1) := by decide +kernel
theorem dX11_buy_53 : decode cX11_buy 53 = .ok (.getfield 67, 3) := by decide +kernel
theorem dX11_buy_56 : decode cX11_buy 56 = .ok (.iload_n 1, 1) := by decide +kernel
theorem dX11_buy_57 : decode cX11_buy 57 = .ok (.iload_n 2, 1) := by decide +kernel
theorem dX11_buy_58 : decode cX11_buy 58 = .ok (.invokevirtual 252, 3) := by decide +kernel
theorem dX11_buy_61 : decode cX11_buy 61 = .ok (.istore_n 3, 1) := by decide +kernel
theorem dX11_buy_62 : decode cX11_buy 62 = .ok (.aload_n 0, 1) := by decide +kernel
theorem dX11_buy_63 : decode cX11_buy 63 = .ok (.getfield 47, 3) := by decide +kernel
theorem dX11_buy_66 : decode cX11_buy 66 = .ok (.getfield 188, 3) := by decide +kernel
theorem dX11_buy_69 : decode cX11_buy 69 = .ok (.iload_n 1, 1) := by decide +kernel
theorem dX11_buy_70 : decode cX11_buy 70 = .ok (.dup2, 1) := by decide +kernel
theorem dX11_buy_71 : decode cX11_buy 71 = .ok (.iaload, 1) := by decide +kernel
theorem dX11_buy_72 : decode cX11_buy 72 = .ok (.iload_n 2, 1) := by decide +kernel
theorem dX11_buy_73 : decode cX11_buy 73 = .ok (.iadd, 1) := by decide +kernel
theorem dX11_buy_74 : decode cX11_buy 74 = .ok (.iastore, 1) := by decide +kernel
theorem dX11_buy_75 : decode cX11_buy 75 = .ok (.aload_n 0, 1) := by decide +kernel
theorem dX11_buy_76 : decode cX11_buy 76 = .ok (.getfield 47, 3) := by decide +kernel
theorem dX11_buy_79 : decode cX11_buy 79 = .ok (.getfield 195, 3) := by decide +kernel
theorem dX11_buy_82 : decode cX11_buy 82 = .ok (.iload_n 1, 1) := by decide +kernel
theorem dX11_buy_83 : decode cX11_buy 83 = .ok (.dup2, 1) := by decide +kernel
theorem dX11_buy_84 : decode cX11_buy 84 = .ok (.iaload, 1) := by decide +kernel
theorem dX11_buy_85 : decode cX11_buy 85 = .ok (.iload_n 3, 1) := by decide +kernel
theorem dX11_buy_86 : decode cX11_buy 86 = .ok (.iadd, 1) := by decide +kernel
theorem dX11_buy_87 : decode cX11_buy 87 = .ok (.iastore, 1) := by decide +kernel
theorem dX11_buy_88 : decode cX11_buy 88 = .ok (.iload_n 3, 1) := by decide +kernel
theorem dX11_buy_89 : decode cX11_buy 89 = .ok (.ireturn, 1) := by decide +kernel
theorem dX11_climb_0 : decode cX11_climb 0 = .ok (.aload_n 0, 1) := by decide +kernel
theorem dX11_climb_1 : decode cX11_climb 1 = .ok (.iload_n 1, 1) := by decide +kernel
theorem dX11_climb_2 : decode cX11_climb 2 = .ok (.invokevirtual 163, 3) := by decide +kernel
theorem dX11_climb_5 : decode cX11_climb 5 = .ok (.ifCond .eq 10, 3) := by decide +kernel
theorem dX11_climb_8 : decode cX11_climb 8 = .ok (.iload_n 2, 1) := by decide +kernel
theorem dX11_climb_9 : decode cX11_climb 9 = .ok (.invokestatic 267, 3) := by decide +kernel
theorem dX11_climb_12 : decode cX11_climb 12 = .ok (.ifCond .ne 6, 3) := by decide +kernel
theorem dX11_climb_15 : decode cX11_climb 15 = .ok (.ldc 166, 2) := by decide +kernel
theorem dX11_climb_17 : decode cX11_climb 17 = .ok (.ireturn, 1) := by decide +kernel
theorem dX11_climb_18 : decode cX11_climb 18 = .ok (.aload_n 0, 1) := by decide +kernel
theorem dX11_climb_19 : decode cX11_climb 19 = .ok (.getfield 60, 3) := by decide +kernel
theorem dX11_climb_22 : decode cX11_climb 22 = .ok (.getfield 304, 3) := by decide +kernel
theorem dX11_climb_25 : decode cX11_climb 25 = .ok (.ifCond .ne 13, 3) := by decide +kernel
theorem dX11_climb_28 : decode cX11_climb 28 = .ok (.iload_n 2, 1) := by decide +kernel
theorem dX11_climb_29 : decode cX11_climb 29 = .ok (.ifCond .ne 7, 3) := by decide +kernel
theorem dX11_climb_32 : decode cX11_climb 32 = .ok (.iconst 0, 1) := by decide +kernel
theorem dX11_climb_33 : decode cX11_climb 33 = .ok (.goto 4, 3) := by decide +kernel
theorem dX11_climb_36 : decode cX11_climb 36 = .ok (.iconst (-1), 1) := by decide +kernel
theorem dX11_climb_37 : decode cX11_climb 37 = .ok (.ireturn, 1) := by decide +kernel
theorem dX11_climb_38 : decode cX11_climb 38 = .ok (.iconst 0, 1) := by decide +kernel
theorem dX11_climb_39 : decode cX11_climb 39 = .ok (.istore_n 3, 1) := by decide +kernel
theorem dX11_climb_40 : decode cX11_climb 40 = .ok (.iconst 0, 1) := by decide +kernel
theorem dX11_climb_41 : decode cX11_climb 41 = .ok (.istore 4, 2) := by decide +kernel
theorem dX11_climb_43 : decode cX11_climb 43 = .ok (.iconst 0, 1) := by decide +kernel
theorem dX11_climb_44 : decode cX11_climb 44 = .ok (.istore 5, 2) := by decide +kernel
theorem dX11_climb_46 : decode cX11_climb 46 = .ok (.iload 5, 2) := by decide +kernel
theorem dX11_climb_48 : decode cX11_climb 48 = .ok (.aload_n 0, 1) := by decide +kernel
theorem dX11_climb_49 : decode cX11_climb 49 = .ok (.getfield 60, 3) := by decide +kernel
theorem dX11_climb_52 : decode cX11_climb 52 = .ok (.getfield 304, 3) := by decide +kernel
theorem dX11_climb_55 : decode cX11_climb 55 = .ok (.if_icmp .ge 34, 3) := by decide +kernel
theorem dX11_climb_58 : decode cX11_climb 58 = .ok (.aload_n 0, 1) := by decide +kernel
theorem dX11_climb_59 : decode cX11_climb 59 = .ok (.getfield 60, 3) := by decide +kernel
theorem dX11_climb_62 : decode cX11_climb 62 = .ok (.iload 5, 2) := by decide +kernel
theorem dX11_climb_64 : decode cX11_climb 64 = .ok (.iload_n 1, 1) := by decide +kernel
theorem dX11_climb_65 : decode cX11_climb 65 = .ok (.invokevirtual 311, 3) := by decide +kernel
theorem dX11_climb_68 : decode cX11_climb 68 = .ok (.istore 6, 2) := by decide +kernel
theorem dX11_climb_70 : decode cX11_climb 70 = .ok (.iload 6, 2) := by decide +kernel
theorem dX11_climb_72 : decode cX11_climb 72 = .ok (.iload_n 3, 1) := by decide +kernel
theorem dX11_climb_73 : decode cX11_climb 73 = .ok (.if_icmp .le 10, 3) := by decide +kernel
theorem dX11_climb_76 : decode cX11_climb 76 = .ok (.iload 6, 2) := by decide +kernel
theorem dX11_climb_78 : decode cX11_climb 78 = .ok (.istore_n 3, 1) := by decide +kernel
theorem dX11_climb_79 : decode cX11_climb 79 = .ok (.iload 5, 2) := by decide +kernel
theorem dX11_climb_81 : decode cX11_climb 81 = .ok (.istore 4, 2) := by decide +kernel
theorem dX11_climb_83 : decode cX11_climb 83 = .ok (.iinc 5 1, 3) := by decide +kernel
theorem dX11_climb_86 : decode cX11_climb 86 = .ok (.goto (-40), 3) := by decide +kernel
theorem dX11_climb_89 : decode cX11_climb 89 = .ok (.iload_n 2, 1) := by decide +kernel
theorem dX11_climb_90 : decode cX11_climb 90 = .ok (.ifCond .ne 7, 3) := by decide +kernel
theorem dX11_climb_93 : decode cX11_climb 93 = .ok (.iload_n 3, 1) := by decide +kernel
theorem dX11_climb_94 : decode cX11_climb 94 = .ok (.goto 5, 3) := by decide +kernel
theorem dX11_climb_97 : decode cX11_climb 97 = .ok (.iload 4, 2) := by decide +kernel
theorem dX11_climb_99 : decode cX11_climb 99 = .ok (.ireturn, 1) := by decide +kernel
theorem dX11_count_0 : decode cX11_count 0 = .ok (.iload_n 1, 1) := by decide +kernel
theorem dX11_count_1 : decode cX11_count 1 = .ok (.tableswitch 111 0 7 #[47, 58, 69, 74, 82, 90, 95, 103], 47) := by decide +kernel
theorem dX11_count_48 : decode cX11_count 48 = .ok (.aload_n 0, 1) := by decide +kernel
theorem dX11_count_49 : decode cX11_count 49 = .ok (.getfield 47, 3) := by decide +kernel
theorem dX11_count_52 : decode cX11_count 52 = .ok (.getfield 128, 3) := by decide +kernel
theorem dX11_count_55 : decode cX11_count 55 = .ok (.getfield 317, 3) := by decide +kernel
theorem dX11_count_58 : decode cX11_count 58 = .ok (.ireturn, 1) := by decide +kernel
theorem dX11_count_59 : decode cX11_count 59 = .ok (.aload_n 0, 1) := by decide +kernel
theorem dX11_count_60 : decode cX11_count 60 = .ok (.getfield 47, 3) := by decide +kernel
theorem dX11_count_63 : decode cX11_count 63 = .ok (.getfield 128, 3) := by decide +kernel
theorem dX11_count_66 : decode cX11_count 66 = .ok (.getfield 319, 3) := by decide +kernel
theorem dX11_count_69 : decode cX11_count 69 = .ok (.ireturn, 1) := by decide +kernel
theorem dX11_count_70 : decode cX11_count 70 = .ok (.aload_n 0, 1) := by decide +kernel
theorem dX11_count_71 : decode cX11_count 71 = .ok (.getfield 94, 3) := by decide +kernel
theorem dX11_count_74 : decode cX11_count 74 = .ok (.ireturn, 1) := by decide +kernel
theorem dX11_count_75 : decode cX11_count 75 = .ok (.aload_n 0, 1) := by decide +kernel
theorem dX11_count_76 : decode cX11_count 76 = .ok (.getfield 10, 3) := by decide +kernel
theorem dX11_count_79 : decode cX11_count 79 = .ok (.getfield 109, 3) := by decide +kernel
theorem dX11_count_82 : decode cX11_count 82 = .ok (.ireturn, 1) := by decide +kernel
theorem dX11_count_83 : decode cX11_count 83 = .ok (.aload_n 0, 1) := by decide +kernel
theorem dX11_count_84 : decode cX11_count 84 = .ok (.getfield 47, 3) := by decide +kernel
theorem dX11_count_87 : decode cX11_count 87 = .ok (.getfield 222, 3) := by decide +kernel
theorem dX11_count_90 : decode cX11_count 90 = .ok (.ireturn, 1) := by decide +kernel
theorem dX11_count_91 : decode cX11_count 91 = .ok (.aload_n 0, 1) := by decide +kernel
theorem dX11_count_92 : decode cX11_count 92 = .ok (.getfield 98, 3) := by decide +kernel
theorem dX11_count_95 : decode cX11_count 95 = .ok (.ireturn, 1) := by decide +kernel
theorem dX11_count_96 : decode cX11_count 96 = .ok (.aload_n 0, 1) := by decide +kernel
theorem dX11_count_97 : decode cX11_count 97 = .ok (.getfield 67, 3) := by decide +kernel
theorem dX11_count_100 : decode cX11_count 100 = .ok (.getfield 240, 3) := by decide +kernel
theorem dX11_count_103 : decode cX11_count 103 = .ok (.ireturn, 1) := by decide +kernel
theorem dX11_count_104 : decode cX11_count 104 = .ok (.aload_n 0, 1) := by decide +kernel
theorem dX11_count_105 : decode cX11_count 105 = .ok (.getfield 47, 3) := by decide +kernel
theorem dX11_count_108 : decode cX11_count 108 = .ok (.invokevirtual 350, 3) := by decide +kernel
theorem dX11_count_111 : decode cX11_count 111 = .ok (.ireturn, 1) := by decide +kernel
theorem dX11_count_112 : decode cX11_count 112 = .ok (.ldc 166, 2) := by decide +kernel
theorem dX11_count_114 : decode cX11_count 114 = .ok (.ireturn, 1) := by decide +kernel
theorem dX11_diary_0 : decode cX11_diary 0 = .ok (.aload_n 0, 1) := by decide +kernel
theorem dX11_diary_1 : decode cX11_diary 1 = .ok (.iload_n 1, 1) := by decide +kernel
theorem dX11_diary_2 : decode cX11_diary 2 = .ok (.invokevirtual 163, 3) := by decide +kernel
theorem dX11_diary_5 : decode cX11_diary 5 = .ok (.ifCond .eq 25, 3) := by decide +kernel
theorem dX11_diary_8 : decode cX11_diary 8 = .ok (.iload_n 2, 1) := by decide +kernel
theorem dX11_diary_9 : decode cX11_diary 9 = .ok (.ifCond .lt 21, 3) := by decide +kernel
theorem dX11_diary_12 : decode cX11_diary 12 = .ok (.iload_n 2, 1) := by decide +kernel
theorem dX11_diary_13 : decode cX11_diary 13 = .ok (.aload_n 0, 1) := by decide +kernel
theorem dX11_diary_14 : decode cX11_diary 14 = .ok (.getfield 60, 3) := by decide +kernel
theorem dX11_diary_17 : decode cX11_diary 17 = .ok (.getfield 304, 3) := by decide +kernel
theorem dX11_diary_20 : decode cX11_diary 20 = .ok (.if_icmp .ge 10, 3) := by decide +kernel
theorem dX11_diary_23 : decode cX11_diary 23 = .ok (.iload_n 3, 1) := by decide +kernel
theorem dX11_diary_24 : decode cX11_diary 24 = .ok (.invokestatic 267, 3) := by decide +kernel
theorem dX11_diary_27 : decode cX11_diary 27 = .ok (.ifCond .ne 6, 3) := by decide +kernel
theorem dX11_diary_30 : decode cX11_diary 30 = .ok (.ldc 166, 2) := by decide +kernel
theorem dX11_diary_32 : decode cX11_diary 32 = .ok (.ireturn, 1) := by decide +kernel
theorem dX11_diary_33 : decode cX11_diary 33 = .ok (.iload_n 3, 1) := by decide +kernel
theorem dX11_diary_34 : decode cX11_diary 34 = .ok (.ifCond .ne 15, 3) := by decide +kernel
theorem dX11_diary_37 : decode cX11_diary 37 = .ok (.aload_n 0, 1) := by decide +kernel
theorem dX11_diary_38 : decode cX11_diary 38 = .ok (.getfield 60, 3) := by decide +kernel
theorem dX11_diary_41 : decode cX11_diary 41 = .ok (.iload_n 2, 1) := by decide +kernel
theorem dX11_diary_42 : decode cX11_diary 42 = .ok (.iload_n 1, 1) := by decide +kernel
theorem dX11_diary_43 : decode cX11_diary 43 = .ok (.invokevirtual 305, 3) := by decide +kernel
theorem dX11_diary_46 : decode cX11_diary 46 = .ok (.goto 12, 3) := by decide +kernel
theorem dX11_diary_49 : decode cX11_diary 49 = .ok (.aload_n 0, 1) := by decide +kernel
theorem dX11_diary_50 : decode cX11_diary 50 = .ok (.getfield 60, 3) := by decide +kernel
theorem dX11_diary_53 : decode cX11_diary 53 = .ok (.iload_n 2, 1) := by decide +kernel
theorem dX11_diary_54 : decode cX11_diary 54 = .ok (.iload_n 1, 1) := by decide +kernel
theorem dX11_diary_55 : decode cX11_diary 55 = .ok (.invokevirtual 308, 3) := by decide +kernel
theorem dX11_diary_58 : decode cX11_diary 58 = .ok (.ireturn, 1) := by decide +kernel
theorem dX11_end_0 : decode cX11_end 0 = .ok (.iload_n 1, 1) := by decide +kernel
theorem dX11_end_1 : decode cX11_end 1 = .ok (.ifCond .lt 14, 3) := by decide +kernel
theorem dX11_end_4 : decode cX11_end 4 = .ok (.iload_n 1, 1) := by decide +kernel
theorem dX11_end_5 : decode cX11_end 5 = .ok (.aload_n 0, 1) := by decide +kernel
theorem dX11_end_6 : decode cX11_end 6 = .ok (.getfield 10, 3) := by decide +kernel
theorem dX11_end_9 : decode cX11_end 9 = .ok (.getfield 109, 3) := by decide +kernel
theorem dX11_end_12 : decode cX11_end 12 = .ok (.if_icmp .le 5, 3) := by decide +kernel
theorem dX11_end_15 : decode cX11_end 15 = .ok (.iconst 0, 1) := by decide +kernel
theorem dX11_end_16 : decode cX11_end 16 = .ok (.ireturn, 1) := by decide +kernel
theorem dX11_end_17 : decode cX11_end 17 = .ok (.aload_n 0, 1) := by decide +kernel
theorem dX11_end_18 : decode cX11_end 18 = .ok (.getfield 10, 3) := by decide +kernel
theorem dX11_end_21 : decode cX11_end 21 = .ok (.iload_n 1, 1) := by decide +kernel
theorem dX11_end_22 : decode cX11_end 22 = .ok (.putfield 109, 3) := by decide +kernel
theorem dX11_end_25 : decode cX11_end 25 = .ok (.iconst 1, 1) := by decide +kernel
theorem dX11_end_26 : decode cX11_end 26 = .ok (.ireturn, 1) := by decide +kernel
theorem dX11_family_0 : decode cX11_family 0 = .ok (.aload_n 0, 1) := by decide +kernel
theorem dX11_family_1 : decode cX11_family 1 = .ok (.iload_n 1, 1) := by decide +kernel
theorem dX11_family_2 : decode cX11_family 2 = .ok (.invokevirtual 163, 3) := by decide +kernel
theorem dX11_family_5 : decode cX11_family 5 = .ok (.ifCond .ne 6, 3) := by decide +kernel
theorem dX11_family_8 : decode cX11_family 8 = .ok (.ldc 166, 2) := by decide +kernel
theorem dX11_family_10 : decode cX11_family 10 = .ok (.ireturn, 1) := by decide +kernel
theorem dX11_family_11 : decode cX11_family 11 = .ok (.iload_n 2, 1) := by decide +kernel
theorem dX11_family_12 : decode cX11_family 12 = .ok (.tableswitch 163 0 9 #[56, 66, 76, 86, 96, 105, 115, 125, 135, 153], 56) := by decide +kernel
theorem dX11_family_68 : decode cX11_family 68 = .ok (.aload_n 0, 1) := by decide +kernel
theorem dX11_family_69 : decode cX11_family 69 = .ok (.getfield 47, 3) := by decide +kernel
theorem dX11_family_72 : decode cX11_family 72 = .ok (.getfield 167, 3) := by decide +kernel
theorem dX11_family_75 : decode cX11_family 75 = .ok (.iload_n 1, 1) := by decide +kernel
theorem dX11_family_76 : decode cX11_family 76 = .ok (.iaload, 1) := by decide +kernel
theorem dX11_family_77 : decode cX11_family 77 = .ok (.ireturn, 1) := by decide +kernel
theorem dX11_family_78 : decode cX11_family 78 = .ok (.aload_n 0, 1) := by decide +kernel
theorem dX11_family_79 : decode cX11_family 79 = .ok (.getfield 47, 3) := by decide +kernel
theorem dX11_family_82 : decode cX11_family 82 = .ok (.getfield 170, 3) := by decide +kernel
theorem dX11_family_85 : decode cX11_family 85 = .ok (.iload_n 1, 1) := by decide +kernel
theorem dX11_family_86 : decode cX11_family 86 = .ok (.iaload, 1) := by decide +kernel
theorem dX11_family_87 : decode cX11_family 87 = .ok (.ireturn, 1) := by decide +kernel
theorem dX11_family_88 : decode cX11_family 88 = .ok (.aload_n 0, 1) := by decide +kernel
theorem dX11_family_89 : decode cX11_family 89 = .ok (.getfield 47, 3) := by decide +kernel
theorem dX11_family_92 : decode cX11_family 92 = .ok (.getfield 173, 3) := by decide +kernel
theorem dX11_family_95 : decode cX11_family 95 = .ok (.iload_n 1, 1) := by decide +kernel
theorem dX11_family_96 : decode cX11_family 96 = .ok (.iaload, 1) := by decide +kernel
theorem dX11_family_97 : decode cX11_family 97 = .ok (.ireturn, 1) := by decide +kernel
theorem dX11_family_98 : decode cX11_family 98 = .ok (.aload_n 0, 1) := by decide +kernel
theorem dX11_family_99 : decode cX11_family 99 = .ok (.getfield 47, 3) := by decide +kernel
theorem dX11_family_102 : decode cX11_family 102 = .ok (.getfield 176, 3) := by decide +kernel
theorem dX11_family_105 : decode cX11_family 105 = .ok (.iload_n 1, 1) := by decide +kernel
theorem dX11_family_106 : decode cX11_family 106 = .ok (.iaload, 1) := by decide +kernel
theorem dX11_family_107 : decode cX11_family 107 = .ok (.ireturn, 1) := by decide +kernel
theorem dX11_family_108 : decode cX11_family 108 = .ok (.aload_n 0, 1) := by decide +kernel
theorem dX11_family_109 : decode cX11_family 109 = .ok (.getfield 47, 3) := by decide +kernel
theorem dX11_family_112 : decode cX11_family 112 = .ok (.iload_n 1, 1) := by decide +kernel
theorem dX11_family_113 : decode cX11_family 113 = .ok (.invokevirtual 179, 3) := by decide +kernel
theorem dX11_family_116 : decode cX11_family 116 = .ok (.ireturn, 1) := by decide +kernel
theorem dX11_family_117 : decode cX11_family 117 = .ok (.aload_n 0, 1) := by decide +kernel
theorem dX11_family_118 : decode cX11_family 118 = .ok (.getfield 47, 3) := by decide +kernel
theorem dX11_family_121 : decode cX11_family 121 = .ok (.getfield 182, 3) := by decide +kernel
theorem dX11_family_124 : decode cX11_family 124 = .ok (.iload_n 1, 1) := by decide +kernel
theorem dX11_family_125 : decode cX11_family 125 = .ok (.iaload, 1) := by decide +kernel
theorem dX11_family_126 : decode cX11_family 126 = .ok (.ireturn, 1) := by decide +kernel
theorem dX11_family_127 : decode cX11_family 127 = .ok (.aload_n 0, 1) := by decide +kernel
theorem dX11_family_128 : decode cX11_family 128 = .ok (.getfield 47, 3) := by decide +kernel
theorem dX11_family_131 : decode cX11_family 131 = .ok (.getfield 185, 3) := by decide +kernel
theorem dX11_family_134 : decode cX11_family 134 = .ok (.iload_n 1, 1) := by decide +kernel
theorem dX11_family_135 : decode cX11_family 135 = .ok (.iaload, 1) := by decide +kernel
theorem dX11_family_136 : decode cX11_family 136 = .ok (.ireturn, 1) := by decide +kernel
theorem dX11_family_137 : decode cX11_family 137 = .ok (.aload_n 0, 1) := by decide +kernel
theorem dX11_family_138 : decode cX11_family 138 = .ok (.getfield 47, 3) := by decide +kernel
theorem dX11_family_141 : decode cX11_family 141 = .ok (.getfield 188, 3) := by decide +kernel
theorem dX11_family_144 : decode cX11_family 144 = .ok (.iload_n 1, 1) := by decide +kernel
theorem dX11_family_145 : decode cX11_family 145 = .ok (.iaload, 1) := by decide +kernel
theorem dX11_family_146 : decode cX11_family 146 = .ok (.ireturn, 1) := by decide +kernel
theorem dX11_family_147 : decode cX11_family 147 = .ok (.aload_n 0, 1) := by decide +kernel
theorem dX11_family_148 : decode cX11_family 148 = .ok (.getfield 47, 3) := by decide +kernel
theorem dX11_family_151 : decode cX11_family 151 = .ok (.getfield 191, 3) := by decide +kernel
theorem dX11_family_154 : decode cX11_family 154 = .ok (.iload_n 1, 1) := by decide +kernel
theorem dX11_family_155 : decode cX11_family 155 = .ok (.baload, 1) := by decide +kernel
theorem dX11_family_156 : decode cX11_family 156 = .ok (.ifCond .eq 7, 3) := by decide +kernel
theorem dX11_family_159 : decode cX11_family 159 = .ok (.iconst 1, 1) := by decide +kernel
theorem dX11_family_160 : decode cX11_family 160 = .ok (.goto 4, 3) := by decide +kernel
theorem dX11_family_163 : decode cX11_family 163 = .ok (.iconst 0, 1) := by decide +kernel
theorem dX11_family_164 : decode cX11_family 164 = .ok (.ireturn, 1) := by decide +kernel
theorem dX11_family_165 : decode cX11_family 165 = .ok (.aload_n 0, 1) := by decide +kernel
theorem dX11_family_166 : decode cX11_family 166 = .ok (.getfield 47, 3) := by decide +kernel
theorem dX11_family_169 : decode cX11_family 169 = .ok (.getfield 195, 3) := by decide +kernel
theorem dX11_family_172 : decode cX11_family 172 = .ok (.iload_n 1, 1) := by decide +kernel
theorem dX11_family_173 : decode cX11_family 173 = .ok (.iaload, 1) := by decide +kernel
theorem dX11_family_174 : decode cX11_family 174 = .ok (.ireturn, 1) := by decide +kernel
theorem dX11_family_175 : decode cX11_family 175 = .ok (.ldc 166, 2) := by decide +kernel
theorem dX11_family_177 : decode cX11_family 177 = .ok (.ireturn, 1) := by decide +kernel
theorem dX11_fault_0 : decode cX11_fault 0 = .ok (.iload_n 1, 1) := by decide +kernel
theorem dX11_fault_1 : decode cX11_fault 1 = .ok (.ifCond .ne 15, 3) := by decide +kernel
theorem dX11_fault_4 : decode cX11_fault 4 = .ok (.aload_n 0, 1) := by decide +kernel
theorem dX11_fault_5 : decode cX11_fault 5 = .ok (.getfield 19, 3) := by decide +kernel
theorem dX11_fault_8 : decode cX11_fault 8 = .ok (.aload_n 0, 1) := by decide +kernel
theorem dX11_fault_9 : decode cX11_fault 9 = .ok (.getfield 10, 3) := by decide +kernel
theorem dX11_fault_12 : decode cX11_fault 12 = .ok (.invokevirtual 116, 3) := by decide +kernel
theorem dX11_fault_15 : decode cX11_fault 15 = .ok (.ireturn, 1) := by decide +kernel
theorem dX11_fault_16 : decode cX11_fault 16 = .ok (.iload_n 1, 1) := by decide +kernel
theorem dX11_fault_17 : decode cX11_fault 17 = .ok (.iconst 1, 1) := by decide +kernel
theorem dX11_fault_18 : decode cX11_fault 18 = .ok (.if_icmp .ne 17, 3) := by decide +kernel
theorem dX11_fault_21 : decode cX11_fault 21 = .ok (.aload_n 0, 1) := by decide +kernel
theorem dX11_fault_22 : decode cX11_fault 22 = .ok (.getfield 26, 3) := by decide +kernel
theorem dX11_fault_25 : decode cX11_fault 25 = .ok (.aload_n 0, 1) := by decide +kernel
theorem dX11_fault_26 : decode cX11_fault 26 = .ok (.getfield 10, 3) := by decide +kernel
theorem dX11_fault_29 : decode cX11_fault 29 = .ok (.invokevirtual 120, 3) := by decide +kernel
theorem dX11_fault_32 : decode cX11_fault 32 = .ok (.goto 5, 3) := by decide +kernel
theorem dX11_fault_35 : decode cX11_fault 35 = .ok (.bipush (-2), 2) := by decide +kernel
theorem dX11_fault_37 : decode cX11_fault 37 = .ok (.ireturn, 1) := by decide +kernel
theorem dX11_feed_0 : decode cX11_feed 0 = .ok (.iload_n 1, 1) := by decide +kernel
theorem dX11_feed_1 : decode cX11_feed 1 = .ok (.invokestatic 105, 3) := by decide +kernel
theorem dX11_feed_4 : decode cX11_feed 4 = .ok (.iload_n 2, 1) := by decide +kernel
theorem dX11_feed_5 : decode cX11_feed 5 = .ok (.invokestatic 105, 3) := by decide +kernel
theorem dX11_feed_8 : decode cX11_feed 8 = .ok (.iadd, 1) := by decide +kernel
theorem dX11_feed_9 : decode cX11_feed 9 = .ok (.iload_n 3, 1) := by decide +kernel
theorem dX11_feed_10 : decode cX11_feed 10 = .ok (.invokestatic 105, 3) := by decide +kernel
theorem dX11_feed_13 : decode cX11_feed 13 = .ok (.iadd, 1) := by decide +kernel
theorem dX11_feed_14 : decode cX11_feed 14 = .ok (.iload 4, 2) := by decide +kernel
theorem dX11_feed_16 : decode cX11_feed 16 = .ok (.invokestatic 105, 3) := by decide +kernel
theorem dX11_feed_19 : decode cX11_feed 19 = .ok (.iadd, 1) := by decide +kernel
theorem dX11_feed_20 : decode cX11_feed 20 = .ok (.iload 5, 2) := by decide +kernel
theorem dX11_feed_22 : decode cX11_feed 22 = .ok (.invokestatic 105, 3) := by decide +kernel
theorem dX11_feed_25 : decode cX11_feed 25 = .ok (.iadd, 1) := by decide +kernel
theorem dX11_feed_26 : decode cX11_feed 26 = .ok (.istore 6, 2) := by decide +kernel
theorem dX11_feed_28 : decode cX11_feed 28 = .ok (.aload_n 0, 1) := by decide +kernel
theorem dX11_feed_29 : decode cX11_feed 29 = .ok (.getfield 10, 3) := by decide +kernel
theorem dX11_feed_32 : decode cX11_feed 32 = .ok (.getfield 109, 3) := by decide +kernel
theorem dX11_feed_35 : decode cX11_feed 35 = .ok (.iload 6, 2) := by decide +kernel
theorem dX11_feed_37 : decode cX11_feed 37 = .ok (.iadd, 1) := by decide +kernel
theorem dX11_feed_38 : decode cX11_feed 38 = .ok (.sipush 160, 3) := by decide +kernel
theorem dX11_feed_41 : decode cX11_feed 41 = .ok (.if_icmp .le 5, 3) := by decide +kernel
theorem dX11_feed_44 : decode cX11_feed 44 = .ok (.iconst (-1), 1) := by decide +kernel
theorem dX11_feed_45 : decode cX11_feed 45 = .ok (.ireturn, 1) := by decide +kernel
theorem dX11_feed_46 : decode cX11_feed 46 = .ok (.aload_n 0, 1) := by decide +kernel
theorem dX11_feed_47 : decode cX11_feed 47 = .ok (.getfield 10, 3) := by decide +kernel
theorem dX11_feed_50 : decode cX11_feed 50 = .ok (.iload_n 1, 1) := by decide +kernel
theorem dX11_feed_51 : decode cX11_feed 51 = .ok (.invokevirtual 112, 3) := by decide +kernel
theorem dX11_feed_54 : decode cX11_feed 54 = .ok (.aload_n 0, 1) := by decide +kernel
theorem dX11_feed_55 : decode cX11_feed 55 = .ok (.getfield 10, 3) := by decide +kernel
theorem dX11_feed_58 : decode cX11_feed 58 = .ok (.iload_n 2, 1) := by decide +kernel
theorem dX11_feed_59 : decode cX11_feed 59 = .ok (.invokevirtual 112, 3) := by decide +kernel
theorem dX11_feed_62 : decode cX11_feed 62 = .ok (.aload_n 0, 1) := by decide +kernel
theorem dX11_feed_63 : decode cX11_feed 63 = .ok (.getfield 10, 3) := by decide +kernel
theorem dX11_feed_66 : decode cX11_feed 66 = .ok (.iload_n 3, 1) := by decide +kernel
theorem dX11_feed_67 : decode cX11_feed 67 = .ok (.invokevirtual 112, 3) := by decide +kernel
theorem dX11_feed_70 : decode cX11_feed 70 = .ok (.aload_n 0, 1) := by decide +kernel
theorem dX11_feed_71 : decode cX11_feed 71 = .ok (.getfield 10, 3) := by decide +kernel
theorem dX11_feed_74 : decode cX11_feed 74 = .ok (.iload 4, 2) := by decide +kernel
theorem dX11_feed_76 : decode cX11_feed 76 = .ok (.invokevirtual 112, 3) := by decide +kernel
theorem dX11_feed_79 : decode cX11_feed 79 = .ok (.aload_n 0, 1) := by decide +kernel
theorem dX11_feed_80 : decode cX11_feed 80 = .ok (.getfield 10, 3) := by decide +kernel
theorem dX11_feed_83 : decode cX11_feed 83 = .ok (.iload 5, 2) := by decide +kernel
theorem dX11_feed_85 : decode cX11_feed 85 = .ok (.invokevirtual 112, 3) := by decide +kernel
theorem dX11_feed_88 : decode cX11_feed 88 = .ok (.aload_n 0, 1) := by decide +kernel
theorem dX11_feed_89 : decode cX11_feed 89 = .ok (.getfield 10, 3) := by decide +kernel
theorem dX11_feed_92 : decode cX11_feed 92 = .ok (.getfield 109, 3) := by decide +kernel
theorem dX11_feed_95 : decode cX11_feed 95 = .ok (.ireturn, 1) := by decide +kernel
theorem dX11_full_0 : decode cX11_full 0 = .ok (.aload_n 0, 1) := by decide +kernel
theorem dX11_full_1 : decode cX11_full 1 = .ok (.invokevirtual 218, 3) := by decide +kernel
theorem dX11_full_4 : decode cX11_full 4 = .ok (.ifCond .eq 13, 3) := by decide +kernel
theorem dX11_full_7 : decode cX11_full 7 = .ok (.aload_n 0, 1) := by decide +kernel
theorem dX11_full_8 : decode cX11_full 8 = .ok (.getfield 47, 3) := by decide +kernel
theorem dX11_full_11 : decode cX11_full 11 = .ok (.invokevirtual 314, 3) := by decide +kernel
theorem dX11_full_14 : decode cX11_full 14 = .ok (.goto 4, 3) := by decide +kernel
theorem dX11_full_17 : decode cX11_full 17 = .ok (.iconst (-1), 1) := by decide +kernel
theorem dX11_full_18 : decode cX11_full 18 = .ok (.ireturn, 1) := by decide +kernel
theorem dX11_hasValley_0 : decode cX11_hasValley 0 = .ok (.aload_n 0, 1) := by decide +kernel
theorem dX11_hasValley_1 : decode cX11_hasValley 1 = .ok (.getfield 47, 3) := by decide +kernel
theorem dX11_hasValley_4 : decode cX11_hasValley 4 = .ok (.getfield 128, 3) := by decide +kernel
theorem dX11_hasValley_7 : decode cX11_hasValley 7 = .ok (.getfield 317, 3) := by decide +kernel
theorem dX11_hasValley_10 : decode cX11_hasValley 10 = .ok (.ifCond .le 7, 3) := by decide +kernel
theorem dX11_hasValley_13 : decode cX11_hasValley 13 = .ok (.iconst 1, 1) := by decide +kernel
theorem dX11_hasValley_14 : decode cX11_hasValley 14 = .ok (.goto 4, 3) := by decide +kernel
theorem dX11_hasValley_17 : decode cX11_hasValley 17 = .ok (.iconst 0, 1) := by decide +kernel
theorem dX11_hasValley_18 : decode cX11_hasValley 18 = .ok (.ireturn, 1) := by decide +kernel
theorem dX11_hungry_0 : decode cX11_hungry 0 = .ok (.aload_n 0, 1) := by decide +kernel
theorem dX11_hungry_1 : decode cX11_hungry 1 = .ok (.invokevirtual 218, 3) := by decide +kernel
theorem dX11_hungry_4 : decode cX11_hungry 4 = .ok (.ifCond .eq 10, 3) := by decide +kernel
theorem dX11_hungry_7 : decode cX11_hungry 7 = .ok (.iload_n 1, 1) := by decide +kernel
theorem dX11_hungry_8 : decode cX11_hungry 8 = .ok (.invokestatic 267, 3) := by decide +kernel
theorem dX11_hungry_11 : decode cX11_hungry 11 = .ok (.ifCond .ne 5, 3) := by decide +kernel
theorem dX11_hungry_14 : decode cX11_hungry 14 = .ok (.iconst (-1), 1) := by decide +kernel
theorem dX11_hungry_15 : decode cX11_hungry 15 = .ok (.ireturn, 1) := by decide +kernel
theorem dX11_hungry_16 : decode cX11_hungry 16 = .ok (.iconst 0, 1) := by decide +kernel
theorem dX11_hungry_17 : decode cX11_hungry 17 = .ok (.istore_n 2, 1) := by decide +kernel
theorem dX11_hungry_18 : decode cX11_hungry 18 = .ok (.iconst 0, 1) := by decide +kernel
theorem dX11_hungry_19 : decode cX11_hungry 19 = .ok (.istore_n 3, 1) := by decide +kernel
theorem dX11_hungry_20 : decode cX11_hungry 20 = .ok (.iconst 0, 1) := by decide +kernel
theorem dX11_hungry_21 : decode cX11_hungry 21 = .ok (.istore 4, 2) := by decide +kernel
theorem dX11_hungry_23 : decode cX11_hungry 23 = .ok (.iload 4, 2) := by decide +kernel
theorem dX11_hungry_25 : decode cX11_hungry 25 = .ok (.aload_n 0, 1) := by decide +kernel
theorem dX11_hungry_26 : decode cX11_hungry 26 = .ok (.getfield 47, 3) := by decide +kernel
theorem dX11_hungry_29 : decode cX11_hungry 29 = .ok (.getfield 128, 3) := by decide +kernel
theorem dX11_hungry_32 : decode cX11_hungry 32 = .ok (.getfield 317, 3) := by decide +kernel
theorem dX11_hungry_35 : decode cX11_hungry 35 = .ok (.if_icmp .ge 41, 3) := by decide +kernel
theorem dX11_hungry_38 : decode cX11_hungry 38 = .ok (.aload_n 0, 1) := by decide +kernel
theorem dX11_hungry_39 : decode cX11_hungry 39 = .ok (.getfield 47, 3) := by decide +kernel
theorem dX11_hungry_42 : decode cX11_hungry 42 = .ok (.iload 4, 2) := by decide +kernel
theorem dX11_hungry_44 : decode cX11_hungry 44 = .ok (.invokevirtual 160, 3) := by decide +kernel
theorem dX11_hungry_47 : decode cX11_hungry 47 = .ok (.istore 5, 2) := by decide +kernel
theorem dX11_hungry_49 : decode cX11_hungry 49 = .ok (.iload_n 3, 1) := by decide +kernel
theorem dX11_hungry_50 : decode cX11_hungry 50 = .ok (.iload 5, 2) := by decide +kernel
theorem dX11_hungry_52 : decode cX11_hungry 52 = .ok (.iadd, 1) := by decide +kernel
theorem dX11_hungry_53 : decode cX11_hungry 53 = .ok (.istore_n 3, 1) := by decide +kernel
theorem dX11_hungry_54 : decode cX11_hungry 54 = .ok (.iload_n 2, 1) := by decide +kernel
theorem dX11_hungry_55 : decode cX11_hungry 55 = .ok (.iload 5, 2) := by decide +kernel
theorem dX11_hungry_57 : decode cX11_hungry 57 = .ok (.ifCond .le 10, 3) := by decide +kernel
theorem dX11_hungry_60 : decode cX11_hungry 60 = .ok (.iconst 1, 1) := by decide +kernel
theorem dX11_hungry_61 : decode cX11_hungry 61 = .ok (.iload 4, 2) := by decide +kernel
theorem dX11_hungry_63 : decode cX11_hungry 63 = .ok (.ishl, 1) := by decide +kernel
theorem dX11_hungry_64 : decode cX11_hungry 64 = .ok (.goto 4, 3) := by decide +kernel
theorem dX11_hungry_67 : decode cX11_hungry 67 = .ok (.iconst 0, 1) := by decide +kernel
theorem dX11_hungry_68 : decode cX11_hungry 68 = .ok (.ior, 1) := by decide +kernel
theorem dX11_hungry_69 : decode cX11_hungry 69 = .ok (.istore_n 2, 1) := by decide +kernel
theorem dX11_hungry_70 : decode cX11_hungry 70 = .ok (.iinc 4 1, 3) := by decide +kernel
theorem dX11_hungry_73 : decode cX11_hungry 73 = .ok (.goto (-50), 3) := by decide +kernel
theorem dX11_hungry_76 : decode cX11_hungry 76 = .ok (.iload_n 1, 1) := by decide +kernel
theorem dX11_hungry_77 : decode cX11_hungry 77 = .ok (.ifCond .ne 7, 3) := by decide +kernel
theorem dX11_hungry_80 : decode cX11_hungry 80 = .ok (.iload_n 2, 1) := by decide +kernel
theorem dX11_hungry_81 : decode cX11_hungry 81 = .ok (.goto 4, 3) := by decide +kernel
theorem dX11_hungry_84 : decode cX11_hungry 84 = .ok (.iload_n 3, 1) := by decide +kernel
theorem dX11_hungry_85 : decode cX11_hungry 85 = .ok (.ireturn, 1) := by decide +kernel
theorem dX11_hush_0 : decode cX11_hush 0 = .ok (.aload_n 0, 1) := by decide +kernel
theorem dX11_hush_1 : decode cX11_hush 1 = .ok (.iload_n 1, 1) := by decide +kernel
theorem dX11_hush_2 : decode cX11_hush 2 = .ok (.invokevirtual 246, 3) := by decide +kernel
theorem dX11_hush_5 : decode cX11_hush 5 = .ok (.ifCond .eq 16, 3) := by decide +kernel
theorem dX11_hush_8 : decode cX11_hush 8 = .ok (.aload_n 0, 1) := by decide +kernel
theorem dX11_hush_9 : decode cX11_hush 9 = .ok (.getfield 47, 3) := by decide +kernel
theorem dX11_hush_12 : decode cX11_hush 12 = .ok (.getfield 191, 3) := by decide +kernel
theorem dX11_hush_15 : decode cX11_hush 15 = .ok (.iload_n 1, 1) := by decide +kernel
theorem dX11_hush_16 : decode cX11_hush 16 = .ok (.baload, 1) := by decide +kernel
theorem dX11_hush_17 : decode cX11_hush 17 = .ok (.iload_n 2, 1) := by decide +kernel
theorem dX11_hush_18 : decode cX11_hush 18 = .ok (.if_icmp .ne 5, 3) := by decide +kernel
theorem dX11_hush_21 : decode cX11_hush 21 = .ok (.iconst 0, 1) := by decide +kernel
theorem dX11_hush_22 : decode cX11_hush 22 = .ok (.ireturn, 1) := by decide +kernel
theorem dX11_hush_23 : decode cX11_hush 23 = .ok (.aload_n 0, 1) := by decide +kernel
theorem dX11_hush_24 : decode cX11_hush 24 = .ok (.getfield 47, 3) := by decide +kernel
theorem dX11_hush_27 : decode cX11_hush 27 = .ok (.getfield 191, 3) := by decide +kernel
theorem dX11_hush_30 : decode cX11_hush 30 = .ok (.iload_n 1, 1) := by decide +kernel
theorem dX11_hush_31 : decode cX11_hush 31 = .ok (.iload_n 2, 1) := by decide +kernel
theorem dX11_hush_32 : decode cX11_hush 32 = .ok (.bastore, 1) := by decide +kernel
theorem dX11_hush_33 : decode cX11_hush 33 = .ok (.iconst 1, 1) := by decide +kernel
theorem dX11_hush_34 : decode cX11_hush 34 = .ok (.ireturn, 1) := by decide +kernel
theorem dX11_hut_0 : decode cX11_hut 0 = .ok (.aload_n 0, 1) := by decide +kernel
theorem dX11_hut_1 : decode cX11_hut 1 = .ok (.iload_n 1, 1) := by decide +kernel
theorem dX11_hut_2 : decode cX11_hut 2 = .ok (.invokevirtual 132, 3) := by decide +kernel
theorem dX11_hut_5 : decode cX11_hut 5 = .ok (.ifCond .eq 15, 3) := by decide +kernel
theorem dX11_hut_8 : decode cX11_hut 8 = .ok (.aload_n 0, 1) := by decide +kernel
theorem dX11_hut_9 : decode cX11_hut 9 = .ok (.getfield 47, 3) := by decide +kernel
theorem dX11_hut_12 : decode cX11_hut 12 = .ok (.iload_n 1, 1) := by decide +kernel
theorem dX11_hut_13 : decode cX11_hut 13 = .ok (.iload_n 2, 1) := by decide +kernel
theorem dX11_hut_14 : decode cX11_hut 14 = .ok (.invokevirtual 198, 3) := by decide +kernel
theorem dX11_hut_17 : decode cX11_hut 17 = .ok (.goto 4, 3) := by decide +kernel
theorem dX11_hut_20 : decode cX11_hut 20 = .ok (.iconst (-1), 1) := by decide +kernel
theorem dX11_hut_21 : decode cX11_hut 21 = .ok (.ireturn, 1) := by decide +kernel
theorem dX11_isFamily_0 : decode cX11_isFamily 0 = .ok (.iload_n 1, 1) := by decide +kernel
theorem dX11_isFamily_1 : decode cX11_isFamily 1 = .ok (.ifCond .lt 21, 3) := by decide +kernel
theorem dX11_isFamily_4 : decode cX11_isFamily 4 = .ok (.iload_n 1, 1) := by decide +kernel
theorem dX11_isFamily_5 : decode cX11_isFamily 5 = .ok (.aload_n 0, 1) := by decide +kernel
theorem dX11_isFamily_6 : decode cX11_isFamily 6 = .ok (.getfield 47, 3) := by decide +kernel
theorem dX11_isFamily_9 : decode cX11_isFamily 9 = .ok (.getfield 128, 3) := by decide +kernel
theorem dX11_isFamily_12 : decode cX11_isFamily 12 = .ok (.getfield 319, 3) := by decide +kernel
theorem dX11_isFamily_15 : decode cX11_isFamily 15 = .ok (.if_icmp .ge 7, 3) := by decide +kernel
theorem dX11_isFamily_18 : decode cX11_isFamily 18 = .ok (.iconst 1, 1) := by decide +kernel
theorem dX11_isFamily_19 : decode cX11_isFamily 19 = .ok (.goto 4, 3) := by decide +kernel
theorem dX11_isFamily_22 : decode cX11_isFamily 22 = .ok (.iconst 0, 1) := by decide +kernel
theorem dX11_isFamily_23 : decode cX11_isFamily 23 = .ok (.ireturn, 1) := by decide +kernel
theorem dX11_isLaw_0 : decode cX11_isLaw 0 = .ok (.iload_n 1, 1) := by decide +kernel
theorem dX11_isLaw_1 : decode cX11_isLaw 1 = .ok (.ifCond .lt 15, 3) := by decide +kernel
theorem dX11_isLaw_4 : decode cX11_isLaw 4 = .ok (.iload_n 1, 1) := by decide +kernel
theorem dX11_isLaw_5 : decode cX11_isLaw 5 = .ok (.aload_n 0, 1) := by decide +kernel
theorem dX11_isLaw_6 : decode cX11_isLaw 6 = .ok (.getfield 94, 3) := by decide +kernel
theorem dX11_isLaw_9 : decode cX11_isLaw 9 = .ok (.if_icmp .ge 7, 3) := by decide +kernel
theorem dX11_isLaw_12 : decode cX11_isLaw 12 = .ok (.iconst 1, 1) := by decide +kernel
theorem dX11_isLaw_13 : decode cX11_isLaw 13 = .ok (.goto 4, 3) := by decide +kernel
theorem dX11_isLaw_16 : decode cX11_isLaw 16 = .ok (.iconst 0, 1) := by decide +kernel
theorem dX11_isLaw_17 : decode cX11_isLaw 17 = .ok (.ireturn, 1) := by decide +kernel
theorem dX11_isLevel_0 : decode cX11_isLevel 0 = .ok (.iload_n 1, 1) := by decide +kernel
theorem dX11_isLevel_1 : decode cX11_isLevel 1 = .ok (.ifCond .lt 21, 3) := by decide +kernel
theorem dX11_isLevel_4 : decode cX11_isLevel 4 = .ok (.iload_n 1, 1) := by decide +kernel
theorem dX11_isLevel_5 : decode cX11_isLevel 5 = .ok (.aload_n 0, 1) := by decide +kernel
theorem dX11_isLevel_6 : decode cX11_isLevel 6 = .ok (.getfield 47, 3) := by decide +kernel
theorem dX11_isLevel_9 : decode cX11_isLevel 9 = .ok (.getfield 128, 3) := by decide +kernel
theorem dX11_isLevel_12 : decode cX11_isLevel 12 = .ok (.getfield 317, 3) := by decide +kernel
theorem dX11_isLevel_15 : decode cX11_isLevel 15 = .ok (.if_icmp .ge 7, 3) := by decide +kernel
theorem dX11_isLevel_18 : decode cX11_isLevel 18 = .ok (.iconst 1, 1) := by decide +kernel
theorem dX11_isLevel_19 : decode cX11_isLevel 19 = .ok (.goto 4, 3) := by decide +kernel
theorem dX11_isLevel_22 : decode cX11_isLevel 22 = .ok (.iconst 0, 1) := by decide +kernel
theorem dX11_isLevel_23 : decode cX11_isLevel 23 = .ok (.ireturn, 1) := by decide +kernel
theorem dX11_isZeroOrOne_0 : decode cX11_isZeroOrOne 0 = .ok (.iload_n 0, 1) := by decide +kernel
theorem dX11_isZeroOrOne_1 : decode cX11_isZeroOrOne 1 = .ok (.ifCond .eq 8, 3) := by decide +kernel
theorem dX11_isZeroOrOne_4 : decode cX11_isZeroOrOne 4 = .ok (.iload_n 0, 1) := by decide +kernel
theorem dX11_isZeroOrOne_5 : decode cX11_isZeroOrOne 5 = .ok (.iconst 1, 1) := by decide +kernel
theorem dX11_isZeroOrOne_6 : decode cX11_isZeroOrOne 6 = .ok (.if_icmp .ne 7, 3) := by decide +kernel
theorem dX11_isZeroOrOne_9 : decode cX11_isZeroOrOne 9 = .ok (.iconst 1, 1) := by decide +kernel
theorem dX11_isZeroOrOne_10 : decode cX11_isZeroOrOne 10 = .ok (.goto 4, 3) := by decide +kernel
theorem dX11_isZeroOrOne_13 : decode cX11_isZeroOrOne 13 = .ok (.iconst 0, 1) := by decide +kernel
theorem dX11_isZeroOrOne_14 : decode cX11_isZeroOrOne 14 = .ok (.ireturn, 1) := by decide +kernel
theorem dX11_law_0 : decode cX11_law 0 = .ok (.iload_n 1, 1) := by decide +kernel
theorem dX11_law_1 : decode cX11_law 1 = .ok (.iconst (-1), 1) := by decide +kernel
theorem dX11_law_2 : decode cX11_law 2 = .ok (.if_icmp .eq 13, 3) := by decide +kernel
theorem dX11_law_5 : decode cX11_law 5 = .ok (.aload_n 0, 1) := by decide +kernel
theorem dX11_law_6 : decode cX11_law 6 = .ok (.iload_n 1, 1) := by decide +kernel
theorem dX11_law_7 : decode cX11_law 7 = .ok (.invokevirtual 202, 3) := by decide +kernel
theorem dX11_law_10 : decode cX11_law 10 = .ok (.ifCond .ne 5, 3) := by decide +kernel
theorem dX11_law_13 : decode cX11_law 13 = .ok (.iconst 0, 1) := by decide +kernel
theorem dX11_law_14 : decode cX11_law 14 = .ok (.ireturn, 1) := by decide +kernel
theorem dX11_law_15 : decode cX11_law 15 = .ok (.aload_n 0, 1) := by decide +kernel
theorem dX11_law_16 : decode cX11_law 16 = .ok (.iload_n 1, 1) := by decide +kernel
theorem dX11_law_17 : decode cX11_law 17 = .ok (.putfield 98, 3) := by decide +kernel
theorem dX11_law_20 : decode cX11_law 20 = .ok (.iconst 1, 1) := by decide +kernel
theorem dX11_law_21 : decode cX11_law 21 = .ok (.ireturn, 1) := by decide +kernel
theorem dX11_lawOf_0 : decode cX11_lawOf 0 = .ok (.aload_n 0, 1) := by decide +kernel
theorem dX11_lawOf_1 : decode cX11_lawOf 1 = .ok (.iload_n 1, 1) := by decide +kernel
theorem dX11_lawOf_2 : decode cX11_lawOf 2 = .ok (.invokevirtual 202, 3) := by decide +kernel
theorem dX11_lawOf_5 : decode cX11_lawOf 5 = .ok (.ifCond .eq 12, 3) := by decide +kernel
theorem dX11_lawOf_8 : decode cX11_lawOf 8 = .ok (.aload_n 0, 1) := by decide +kernel
theorem dX11_lawOf_9 : decode cX11_lawOf 9 = .ok (.getfield 32, 3) := by decide +kernel
theorem dX11_lawOf_12 : decode cX11_lawOf 12 = .ok (.iload_n 1, 1) := by decide +kernel
theorem dX11_lawOf_13 : decode cX11_lawOf 13 = .ok (.aaload, 1) := by decide +kernel
theorem dX11_lawOf_14 : decode cX11_lawOf 14 = .ok (.goto 7, 3) := by decide +kernel
theorem dX11_lawOf_17 : decode cX11_lawOf 17 = .ok (.aload_n 0, 1) := by decide +kernel
theorem dX11_lawOf_18 : decode cX11_lawOf 18 = .ok (.getfield 40, 3) := by decide +kernel
theorem dX11_lawOf_21 : decode cX11_lawOf 21 = .ok (.areturn, 1) := by decide +kernel
theorem dX11_leanest_0 : decode cX11_leanest 0 = .ok (.aload_n 0, 1) := by decide +kernel
theorem dX11_leanest_1 : decode cX11_leanest 1 = .ok (.getfield 60, 3) := by decide +kernel
theorem dX11_leanest_4 : decode cX11_leanest 4 = .ok (.getfield 304, 3) := by decide +kernel
theorem dX11_leanest_7 : decode cX11_leanest 7 = .ok (.ifCond .eq 10, 3) := by decide +kernel
theorem dX11_leanest_10 : decode cX11_leanest 10 = .ok (.iload_n 1, 1) := by decide +kernel
theorem dX11_leanest_11 : decode cX11_leanest 11 = .ok (.invokestatic 267, 3) := by decide +kernel
theorem dX11_leanest_14 : decode cX11_leanest 14 = .ok (.ifCond .ne 5, 3) := by decide +kernel
theorem dX11_leanest_17 : decode cX11_leanest 17 = .ok (.iconst (-1), 1) := by decide +kernel
theorem dX11_leanest_18 : decode cX11_leanest 18 = .ok (.ireturn, 1) := by decide +kernel
theorem dX11_leanest_19 : decode cX11_leanest 19 = .ok (.iconst 0, 1) := by decide +kernel
theorem dX11_leanest_20 : decode cX11_leanest 20 = .ok (.istore_n 2, 1) := by decide +kernel
theorem dX11_leanest_21 : decode cX11_leanest 21 = .ok (.aload_n 0, 1) := by decide +kernel
theorem dX11_leanest_22 : decode cX11_leanest 22 = .ok (.getfield 60, 3) := by decide +kernel
theorem dX11_leanest_25 : decode cX11_leanest 25 = .ok (.iconst 0, 1) := by decide +kernel
theorem dX11_leanest_26 : decode cX11_leanest 26 = .ok (.invokevirtual 333, 3) := by decide +kernel
theorem dX11_leanest_29 : decode cX11_leanest 29 = .ok (.istore_n 3, 1) := by decide +kernel
theorem dX11_leanest_30 : decode cX11_leanest 30 = .ok (.iconst 1, 1) := by decide +kernel
theorem dX11_leanest_31 : decode cX11_leanest 31 = .ok (.istore 4, 2) := by decide +kernel
theorem dX11_leanest_33 : decode cX11_leanest 33 = .ok (.iload 4, 2) := by decide +kernel
theorem dX11_leanest_35 : decode cX11_leanest 35 = .ok (.aload_n 0, 1) := by decide +kernel
theorem dX11_leanest_36 : decode cX11_leanest 36 = .ok (.getfield 60, 3) := by decide +kernel
theorem dX11_leanest_39 : decode cX11_leanest 39 = .ok (.getfield 304, 3) := by decide +kernel
theorem dX11_leanest_42 : decode cX11_leanest 42 = .ok (.if_icmp .ge 32, 3) := by decide +kernel
theorem dX11_leanest_45 : decode cX11_leanest 45 = .ok (.aload_n 0, 1) := by decide +kernel
theorem dX11_leanest_46 : decode cX11_leanest 46 = .ok (.getfield 60, 3) := by decide +kernel
theorem dX11_leanest_49 : decode cX11_leanest 49 = .ok (.iload 4, 2) := by decide +kernel
theorem dX11_leanest_51 : decode cX11_leanest 51 = .ok (.invokevirtual 333, 3) := by decide +kernel
theorem dX11_leanest_54 : decode cX11_leanest 54 = .ok (.istore 5, 2) := by decide +kernel
theorem dX11_leanest_56 : decode cX11_leanest 56 = .ok (.iload 5, 2) := by decide +kernel
theorem dX11_leanest_58 : decode cX11_leanest 58 = .ok (.iload_n 3, 1) := by decide +kernel
theorem dX11_leanest_59 : decode cX11_leanest 59 = .ok (.if_icmp .ge 9, 3) := by decide +kernel
theorem dX11_leanest_62 : decode cX11_leanest 62 = .ok (.iload 5, 2) := by decide +kernel
theorem dX11_leanest_64 : decode cX11_leanest 64 = .ok (.istore_n 3, 1) := by decide +kernel
theorem dX11_leanest_65 : decode cX11_leanest 65 = .ok (.iload 4, 2) := by decide +kernel
theorem dX11_leanest_67 : decode cX11_leanest 67 = .ok (.istore_n 2, 1) := by decide +kernel
theorem dX11_leanest_68 : decode cX11_leanest 68 = .ok (.iinc 4 1, 3) := by decide +kernel
theorem dX11_leanest_71 : decode cX11_leanest 71 = .ok (.goto (-38), 3) := by decide +kernel
theorem dX11_leanest_74 : decode cX11_leanest 74 = .ok (.iload_n 1, 1) := by decide +kernel
theorem dX11_leanest_75 : decode cX11_leanest 75 = .ok (.ifCond .ne 7, 3) := by decide +kernel
theorem dX11_leanest_78 : decode cX11_leanest 78 = .ok (.iload_n 2, 1) := by decide +kernel
theorem dX11_leanest_79 : decode cX11_leanest 79 = .ok (.goto 4, 3) := by decide +kernel
theorem dX11_leanest_82 : decode cX11_leanest 82 = .ok (.iload_n 3, 1) := by decide +kernel
theorem dX11_leanest_83 : decode cX11_leanest 83 = .ok (.ireturn, 1) := by decide +kernel
theorem dX11_leap_0 : decode cX11_leap 0 = .ok (.aload_n 0, 1) := by decide +kernel
theorem dX11_leap_1 : decode cX11_leap 1 = .ok (.iload_n 1, 1) := by decide +kernel
theorem dX11_leap_2 : decode cX11_leap 2 = .ok (.invokevirtual 163, 3) := by decide +kernel
theorem dX11_leap_5 : decode cX11_leap 5 = .ok (.ifCond .ne 6, 3) := by decide +kernel
theorem dX11_leap_8 : decode cX11_leap 8 = .ok (.ldc 166, 2) := by decide +kernel
theorem dX11_leap_10 : decode cX11_leap 10 = .ok (.ireturn, 1) := by decide +kernel
theorem dX11_leap_11 : decode cX11_leap 11 = .ok (.iconst 0, 1) := by decide +kernel
theorem dX11_leap_12 : decode cX11_leap 12 = .ok (.istore_n 2, 1) := by decide +kernel
theorem dX11_leap_13 : decode cX11_leap 13 = .ok (.iconst 1, 1) := by decide +kernel
theorem dX11_leap_14 : decode cX11_leap 14 = .ok (.istore_n 3, 1) := by decide +kernel
theorem dX11_leap_15 : decode cX11_leap 15 = .ok (.iload_n 3, 1) := by decide +kernel
theorem dX11_leap_16 : decode cX11_leap 16 = .ok (.aload_n 0, 1) := by decide +kernel
theorem dX11_leap_17 : decode cX11_leap 17 = .ok (.getfield 60, 3) := by decide +kernel
theorem dX11_leap_20 : decode cX11_leap 20 = .ok (.getfield 304, 3) := by decide +kernel
theorem dX11_leap_23 : decode cX11_leap 23 = .ok (.if_icmp .ge 58, 3) := by decide +kernel
theorem dX11_leap_26 : decode cX11_leap 26 = .ok (.aload_n 0, 1) := by decide +kernel
theorem dX11_leap_27 : decode cX11_leap 27 = .ok (.getfield 60, 3) := by decide +kernel
theorem dX11_leap_30 : decode cX11_leap 30 = .ok (.iload_n 3, 1) := by decide +kernel
theorem dX11_leap_31 : decode cX11_leap 31 = .ok (.iconst 1, 1) := by decide +kernel
theorem dX11_leap_32 : decode cX11_leap 32 = .ok (.isub, 1) := by decide +kernel
theorem dX11_leap_33 : decode cX11_leap 33 = .ok (.iload_n 1, 1) := by decide +kernel
theorem dX11_leap_34 : decode cX11_leap 34 = .ok (.invokevirtual 305, 3) := by decide +kernel
theorem dX11_leap_37 : decode cX11_leap 37 = .ok (.istore 4, 2) := by decide +kernel
theorem dX11_leap_39 : decode cX11_leap 39 = .ok (.aload_n 0, 1) := by decide +kernel
theorem dX11_leap_40 : decode cX11_leap 40 = .ok (.getfield 60, 3) := by decide +kernel
theorem dX11_leap_43 : decode cX11_leap 43 = .ok (.iload_n 3, 1) := by decide +kernel
theorem dX11_leap_44 : decode cX11_leap 44 = .ok (.iload_n 1, 1) := by decide +kernel
theorem dX11_leap_45 : decode cX11_leap 45 = .ok (.invokevirtual 305, 3) := by decide +kernel
theorem dX11_leap_48 : decode cX11_leap 48 = .ok (.istore 5, 2) := by decide +kernel
theorem dX11_leap_50 : decode cX11_leap 50 = .ok (.iload 4, 2) := by decide +kernel
theorem dX11_leap_52 : decode cX11_leap 52 = .ok (.iconst (-1), 1) := by decide +kernel
theorem dX11_leap_53 : decode cX11_leap 53 = .ok (.if_icmp .eq 22, 3) := by decide +kernel
theorem dX11_leap_56 : decode cX11_leap 56 = .ok (.iload 5, 2) := by decide +kernel
theorem dX11_leap_58 : decode cX11_leap 58 = .ok (.iconst (-1), 1) := by decide +kernel
theorem dX11_leap_59 : decode cX11_leap 59 = .ok (.if_icmp .eq 16, 3) := by decide +kernel
theorem dX11_leap_62 : decode cX11_leap 62 = .ok (.iload_n 2, 1) := by decide +kernel
theorem dX11_leap_63 : decode cX11_leap 63 = .ok (.iload 5, 2) := by decide +kernel
theorem dX11_leap_65 : decode cX11_leap 65 = .ok (.iload 4, 2) := by decide +kernel
theorem dX11_leap_67 : decode cX11_leap 67 = .ok (.isub, 1) := by decide +kernel
theorem dX11_leap_68 : decode cX11_leap 68 = .ok (.invokestatic 325, 3) := by decide +kernel
theorem dX11_leap_71 : decode cX11_leap 71 = .ok (.invokestatic 330, 3) := by decide +kernel
theorem dX11_leap_74 : decode cX11_leap 74 = .ok (.istore_n 2, 1) := by decide +kernel
theorem dX11_leap_75 : decode cX11_leap 75 = .ok (.iinc 3 1, 3) := by decide +kernel
theorem dX11_leap_78 : decode cX11_leap 78 = .ok (.goto (-63), 3) := by decide +kernel
theorem dX11_leap_81 : decode cX11_leap 81 = .ok (.iload_n 2, 1) := by decide +kernel
theorem dX11_leap_82 : decode cX11_leap 82 = .ok (.ireturn, 1) := by decide +kernel
theorem dX11_lives_0 : decode cX11_lives 0 = .ok (.aload_n 0, 1) := by decide +kernel
theorem dX11_lives_1 : decode cX11_lives 1 = .ok (.iload_n 1, 1) := by decide +kernel
theorem dX11_lives_2 : decode cX11_lives 2 = .ok (.invokevirtual 163, 3) := by decide +kernel
theorem dX11_lives_5 : decode cX11_lives 5 = .ok (.ifCond .eq 19, 3) := by decide +kernel
theorem dX11_lives_8 : decode cX11_lives 8 = .ok (.aload_n 0, 1) := by decide +kernel
theorem dX11_lives_9 : decode cX11_lives 9 = .ok (.getfield 47, 3) := by decide +kernel
theorem dX11_lives_12 : decode cX11_lives 12 = .ok (.getfield 167, 3) := by decide +kernel
theorem dX11_lives_15 : decode cX11_lives 15 = .ok (.iload_n 1, 1) := by decide +kernel
theorem dX11_lives_16 : decode cX11_lives 16 = .ok (.iaload, 1) := by decide +kernel
theorem dX11_lives_17 : decode cX11_lives 17 = .ok (.ifCond .le 7, 3) := by decide +kernel
theorem dX11_lives_20 : decode cX11_lives 20 = .ok (.iconst 1, 1) := by decide +kernel
theorem dX11_lives_21 : decode cX11_lives 21 = .ok (.goto 4, 3) := by decide +kernel
theorem dX11_lives_24 : decode cX11_lives 24 = .ok (.iconst 0, 1) := by decide +kernel
theorem dX11_lives_25 : decode cX11_lives 25 = .ok (.ireturn, 1) := by decide +kernel
theorem dX11_mayBeBought_0 : decode cX11_mayBeBought 0 = .ok (.iload_n 0, 1) := by decide +kernel
theorem dX11_mayBeBought_1 : decode cX11_mayBeBought 1 = .ok (.bipush (-3), 2) := by decide +kernel
theorem dX11_mayBeBought_3 : decode cX11_mayBeBought 3 = .ok (.if_icmp .lt 12, 3) := by decide +kernel
theorem dX11_mayBeBought_6 : decode cX11_mayBeBought 6 = .ok (.iload_n 0, 1) := by decide +kernel
theorem dX11_mayBeBought_7 : decode cX11_mayBeBought 7 = .ok (.iconst 3, 1) := by decide +kernel
theorem dX11_mayBeBought_8 : decode cX11_mayBeBought 8 = .ok (.if_icmp .gt 7, 3) := by decide +kernel
theorem dX11_mayBeBought_11 : decode cX11_mayBeBought 11 = .ok (.iconst 1, 1) := by decide +kernel
theorem dX11_mayBeBought_12 : decode cX11_mayBeBought 12 = .ok (.goto 4, 3) := by decide +kernel
theorem dX11_mayBeBought_15 : decode cX11_mayBeBought 15 = .ok (.iconst 0, 1) := by decide +kernel
theorem dX11_mayBeBought_16 : decode cX11_mayBeBought 16 = .ok (.ireturn, 1) := by decide +kernel
theorem dX11_mayBeTried_0 : decode cX11_mayBeTried 0 = .ok (.iload_n 0, 1) := by decide +kernel
theorem dX11_mayBeTried_1 : decode cX11_mayBeTried 1 = .ok (.iconst 1, 1) := by decide +kernel
theorem dX11_mayBeTried_2 : decode cX11_mayBeTried 2 = .ok (.if_icmp .lt 24, 3) := by decide +kernel
theorem dX11_mayBeTried_5 : decode cX11_mayBeTried 5 = .ok (.iload_n 0, 1) := by decide +kernel
theorem dX11_mayBeTried_6 : decode cX11_mayBeTried 6 = .ok (.bipush 20, 2) := by decide +kernel
theorem dX11_mayBeTried_8 : decode cX11_mayBeTried 8 = .ok (.if_icmp .gt 18, 3) := by decide +kernel
theorem dX11_mayBeTried_11 : decode cX11_mayBeTried 11 = .ok (.iload_n 1, 1) := by decide +kernel
theorem dX11_mayBeTried_12 : decode cX11_mayBeTried 12 = .ok (.iconst 1, 1) := by decide +kernel
theorem dX11_mayBeTried_13 : decode cX11_mayBeTried 13 = .ok (.if_icmp .lt 13, 3) := by decide +kernel
theorem dX11_mayBeTried_16 : decode cX11_mayBeTried 16 = .ok (.iload_n 1, 1) := by decide +kernel
theorem dX11_mayBeTried_17 : decode cX11_mayBeTried 17 = .ok (.bipush 10, 2) := by decide +kernel
theorem dX11_mayBeTried_19 : decode cX11_mayBeTried 19 = .ok (.if_icmp .gt 7, 3) := by decide +kernel
theorem dX11_mayBeTried_22 : decode cX11_mayBeTried 22 = .ok (.iconst 1, 1) := by decide +kernel
theorem dX11_mayBeTried_23 : decode cX11_mayBeTried 23 = .ok (.goto 4, 3) := by decide +kernel
theorem dX11_mayBeTried_26 : decode cX11_mayBeTried 26 = .ok (.iconst 0, 1) := by decide +kernel
theorem dX11_mayBeTried_27 : decode cX11_mayBeTried 27 = .ok (.ireturn, 1) := by decide +kernel
theorem dX11_met_0 : decode cX11_met 0 = .ok (.aload_n 0, 1) := by decide +kernel
theorem dX11_met_1 : decode cX11_met 1 = .ok (.iload_n 1, 1) := by decide +kernel
theorem dX11_met_2 : decode cX11_met 2 = .ok (.invokevirtual 163, 3) := by decide +kernel
theorem dX11_met_5 : decode cX11_met 5 = .ok (.ifCond .eq 23, 3) := by decide +kernel
theorem dX11_met_8 : decode cX11_met 8 = .ok (.aload_n 0, 1) := by decide +kernel
theorem dX11_met_9 : decode cX11_met 9 = .ok (.iload_n 2, 1) := by decide +kernel
theorem dX11_met_10 : decode cX11_met 10 = .ok (.invokevirtual 163, 3) := by decide +kernel
theorem dX11_met_13 : decode cX11_met 13 = .ok (.ifCond .eq 15, 3) := by decide +kernel
theorem dX11_met_16 : decode cX11_met 16 = .ok (.iload_n 1, 1) := by decide +kernel
theorem dX11_met_17 : decode cX11_met 17 = .ok (.iload_n 2, 1) := by decide +kernel
theorem dX11_met_18 : decode cX11_met 18 = .ok (.if_icmp .eq 10, 3) := by decide +kernel
theorem dX11_met_21 : decode cX11_met 21 = .ok (.iload_n 3, 1) := by decide +kernel
theorem dX11_met_22 : decode cX11_met 22 = .ok (.invokestatic 267, 3) := by decide +kernel
theorem dX11_met_25 : decode cX11_met 25 = .ok (.ifCond .ne 6, 3) := by decide +kernel
theorem dX11_met_28 : decode cX11_met 28 = .ok (.ldc 166, 2) := by decide +kernel
theorem dX11_met_30 : decode cX11_met 30 = .ok (.ireturn, 1) := by decide +kernel
theorem dX11_met_31 : decode cX11_met 31 = .ok (.iconst 0, 1) := by decide +kernel
theorem dX11_met_32 : decode cX11_met 32 = .ok (.istore 4, 2) := by decide +kernel
theorem dX11_met_34 : decode cX11_met 34 = .ok (.iconst (-1), 1) := by decide +kernel
theorem dX11_met_35 : decode cX11_met 35 = .ok (.istore 5, 2) := by decide +kernel
theorem dX11_met_37 : decode cX11_met 37 = .ok (.iconst 0, 1) := by decide +kernel
theorem dX11_met_38 : decode cX11_met 38 = .ok (.istore 6, 2) := by decide +kernel
theorem dX11_met_40 : decode cX11_met 40 = .ok (.iload 6, 2) := by decide +kernel
theorem dX11_met_42 : decode cX11_met 42 = .ok (.aload_n 0, 1) := by decide +kernel
theorem dX11_met_43 : decode cX11_met 43 = .ok (.getfield 60, 3) := by decide +kernel
theorem dX11_met_46 : decode cX11_met 46 = .ok (.getfield 304, 3) := by decide +kernel
theorem dX11_met_49 : decode cX11_met 49 = .ok (.if_icmp .ge 49, 3) := by decide +kernel
theorem dX11_met_52 : decode cX11_met 52 = .ok (.aload_n 0, 1) := by decide +kernel
theorem dX11_met_53 : decode cX11_met 53 = .ok (.getfield 60, 3) := by decide +kernel
theorem dX11_met_56 : decode cX11_met 56 = .ok (.iload 6, 2) := by decide +kernel
theorem dX11_met_58 : decode cX11_met 58 = .ok (.iload_n 1, 1) := by decide +kernel
theorem dX11_met_59 : decode cX11_met 59 = .ok (.invokevirtual 305, 3) := by decide +kernel
theorem dX11_met_62 : decode cX11_met 62 = .ok (.istore 7, 2) := by decide +kernel
theorem dX11_met_64 : decode cX11_met 64 = .ok (.iload 7, 2) := by decide +kernel
theorem dX11_met_66 : decode cX11_met 66 = .ok (.iconst (-1), 1) := by decide +kernel
theorem dX11_met_67 : decode cX11_met 67 = .ok (.if_icmp .eq 25, 3) := by decide +kernel
theorem dX11_met_70 : decode cX11_met 70 = .ok (.iload 7, 2) := by decide +kernel
theorem dX11_met_72 : decode cX11_met 72 = .ok (.aload_n 0, 1) := by decide +kernel
theorem dX11_met_73 : decode cX11_met 73 = .ok (.getfield 60, 3) := by decide +kernel
theorem dX11_met_76 : decode cX11_met 76 = .ok (.iload 6, 2) := by decide +kernel
theorem dX11_met_78 : decode cX11_met 78 = .ok (.iload_n 2, 1) := by decide +kernel
theorem dX11_met_79 : decode cX11_met 79 = .ok (.invokevirtual 305, 3) := by decide +kernel
theorem dX11_met_82 : decode cX11_met 82 = .ok (.if_icmp .ne 10, 3) := by decide +kernel
theorem dX11_met_85 : decode cX11_met 85 = .ok (.iinc 4 1, 3) := by decide +kernel
theorem dX11_met_88 : decode cX11_met 88 = .ok (.iload 6, 2) := by decide +kernel
theorem dX11_met_90 : decode cX11_met 90 = .ok (.istore 5, 2) := by decide +kernel
theorem dX11_met_92 : decode cX11_met 92 = .ok (.iinc 6 1, 3) := by decide +kernel
theorem dX11_met_95 : decode cX11_met 95 = .ok (.goto (-55), 3) := by decide +kernel
theorem dX11_met_98 : decode cX11_met 98 = .ok (.iload_n 3, 1) := by decide +kernel
theorem dX11_met_99 : decode cX11_met 99 = .ok (.ifCond .ne 8, 3) := by decide +kernel
theorem dX11_met_102 : decode cX11_met 102 = .ok (.iload 4, 2) := by decide +kernel
theorem dX11_met_104 : decode cX11_met 104 = .ok (.goto 5, 3) := by decide +kernel
theorem dX11_met_107 : decode cX11_met 107 = .ok (.iload 5, 2) := by decide +kernel
theorem dX11_met_109 : decode cX11_met 109 = .ok (.ireturn, 1) := by decide +kernel
theorem dX11_most_0 : decode cX11_most 0 = .ok (.aload_n 0, 1) := by decide +kernel
theorem dX11_most_1 : decode cX11_most 1 = .ok (.invokevirtual 218, 3) := by decide +kernel
theorem dX11_most_4 : decode cX11_most 4 = .ok (.ifCond .eq 10, 3) := by decide +kernel
theorem dX11_most_7 : decode cX11_most 7 = .ok (.iload_n 1, 1) := by decide +kernel
theorem dX11_most_8 : decode cX11_most 8 = .ok (.invokestatic 267, 3) := by decide +kernel
theorem dX11_most_11 : decode cX11_most 11 = .ok (.ifCond .ne 5, 3) := by decide +kernel
theorem dX11_most_14 : decode cX11_most 14 = .ok (.iconst (-1), 1) := by decide +kernel
theorem dX11_most_15 : decode cX11_most 15 = .ok (.ireturn, 1) := by decide +kernel
theorem dX11_most_16 : decode cX11_most 16 = .ok (.aload_n 0, 1) := by decide +kernel
theorem dX11_most_17 : decode cX11_most 17 = .ok (.getfield 81, 3) := by decide +kernel
theorem dX11_most_20 : decode cX11_most 20 = .ok (.aload_n 0, 1) := by decide +kernel
theorem dX11_most_21 : decode cX11_most 21 = .ok (.getfield 47, 3) := by decide +kernel
theorem dX11_most_24 : decode cX11_most 24 = .ok (.invokevirtual 270, 3) := by decide +kernel
theorem dX11_most_27 : decode cX11_most 27 = .ok (.istore_n 2, 1) := by decide +kernel
theorem dX11_most_28 : decode cX11_most 28 = .ok (.iload_n 1, 1) := by decide +kernel
theorem dX11_most_29 : decode cX11_most 29 = .ok (.ifCond .ne 10, 3) := by decide +kernel
theorem dX11_most_32 : decode cX11_most 32 = .ok (.iload_n 2, 1) := by decide +kernel
theorem dX11_most_33 : decode cX11_most 33 = .ok (.invokestatic 273, 3) := by decide +kernel
theorem dX11_most_36 : decode cX11_most 36 = .ok (.goto 4, 3) := by decide +kernel
theorem dX11_most_39 : decode cX11_most 39 = .ok (.iload_n 2, 1) := by decide +kernel
theorem dX11_most_40 : decode cX11_most 40 = .ok (.ireturn, 1) := by decide +kernel
theorem dX11_needs_0 : decode cX11_needs 0 = .ok (.aload_n 0, 1) := by decide +kernel
theorem dX11_needs_1 : decode cX11_needs 1 = .ok (.iload_n 1, 1) := by decide +kernel
theorem dX11_needs_2 : decode cX11_needs 2 = .ok (.invokevirtual 163, 3) := by decide +kernel
theorem dX11_needs_5 : decode cX11_needs 5 = .ok (.ifCond .eq 14, 3) := by decide +kernel
theorem dX11_needs_8 : decode cX11_needs 8 = .ok (.aload_n 0, 1) := by decide +kernel
theorem dX11_needs_9 : decode cX11_needs 9 = .ok (.getfield 47, 3) := by decide +kernel
theorem dX11_needs_12 : decode cX11_needs 12 = .ok (.iload_n 1, 1) := by decide +kernel
theorem dX11_needs_13 : decode cX11_needs 13 = .ok (.invokevirtual 278, 3) := by decide +kernel
theorem dX11_needs_16 : decode cX11_needs 16 = .ok (.ifCond .ne 5, 3) := by decide +kernel
theorem dX11_needs_19 : decode cX11_needs 19 = .ok (.iconst (-1), 1) := by decide +kernel
theorem dX11_needs_20 : decode cX11_needs 20 = .ok (.ireturn, 1) := by decide +kernel
theorem dX11_needs_21 : decode cX11_needs 21 = .ok (.aload_n 0, 1) := by decide +kernel
theorem dX11_needs_22 : decode cX11_needs 22 = .ok (.getfield 81, 3) := by decide +kernel
theorem dX11_needs_25 : decode cX11_needs 25 = .ok (.aload_n 0, 1) := by decide +kernel
theorem dX11_needs_26 : decode cX11_needs 26 = .ok (.getfield 47, 3) := by decide +kernel
theorem dX11_needs_29 : decode cX11_needs 29 = .ok (.iload_n 1, 1) := by decide +kernel
theorem dX11_needs_30 : decode cX11_needs 30 = .ok (.invokevirtual 281, 3) := by decide +kernel
theorem dX11_needs_33 : decode cX11_needs 33 = .ok (.ireturn, 1) := by decide +kernel
theorem dX11_rank_0 : decode cX11_rank 0 = .ok (.aload_n 0, 1) := by decide +kernel
theorem dX11_rank_1 : decode cX11_rank 1 = .ok (.iload_n 1, 1) := by decide +kernel
theorem dX11_rank_2 : decode cX11_rank 2 = .ok (.invokevirtual 163, 3) := by decide +kernel
theorem dX11_rank_5 : decode cX11_rank 5 = .ok (.ifCond .ne 5, 3) := by decide +kernel
theorem dX11_rank_8 : decode cX11_rank 8 = .ok (.iconst (-1), 1) := by decide +kernel
theorem dX11_rank_9 : decode cX11_rank 9 = .ok (.ireturn, 1) := by decide +kernel
theorem dX11_rank_10 : decode cX11_rank 10 = .ok (.iconst 0, 1) := by decide +kernel
theorem dX11_rank_11 : decode cX11_rank 11 = .ok (.istore_n 2, 1) := by decide +kernel
theorem dX11_rank_12 : decode cX11_rank 12 = .ok (.iload_n 2, 1) := by decide +kernel
theorem dX11_rank_13 : decode cX11_rank 13 = .ok (.aload_n 0, 1) := by decide +kernel
theorem dX11_rank_14 : decode cX11_rank 14 = .ok (.getfield 47, 3) := by decide +kernel
theorem dX11_rank_17 : decode cX11_rank 17 = .ok (.getfield 128, 3) := by decide +kernel
theorem dX11_rank_20 : decode cX11_rank 20 = .ok (.getfield 319, 3) := by decide +kernel
theorem dX11_rank_23 : decode cX11_rank 23 = .ok (.if_icmp .ge 23, 3) := by decide +kernel
theorem dX11_rank_26 : decode cX11_rank 26 = .ok (.aload_n 0, 1) := by decide +kernel
theorem dX11_rank_27 : decode cX11_rank 27 = .ok (.getfield 47, 3) := by decide +kernel
theorem dX11_rank_30 : decode cX11_rank 30 = .ok (.iload_n 2, 1) := by decide +kernel
theorem dX11_rank_31 : decode cX11_rank 31 = .ok (.invokevirtual 322, 3) := by decide +kernel
theorem dX11_rank_34 : decode cX11_rank 34 = .ok (.iload_n 1, 1) := by decide +kernel
theorem dX11_rank_35 : decode cX11_rank 35 = .ok (.if_icmp .ne 5, 3) := by decide +kernel
theorem dX11_rank_38 : decode cX11_rank 38 = .ok (.iload_n 2, 1) := by decide +kernel
theorem dX11_rank_39 : decode cX11_rank 39 = .ok (.ireturn, 1) := by decide +kernel
theorem dX11_rank_40 : decode cX11_rank 40 = .ok (.iinc 2 1, 3) := by decide +kernel
theorem dX11_rank_43 : decode cX11_rank 43 = .ok (.goto (-31), 3) := by decide +kernel
theorem dX11_rank_46 : decode cX11_rank 46 = .ok (.iconst (-1), 1) := by decide +kernel
theorem dX11_rank_47 : decode cX11_rank 47 = .ok (.ireturn, 1) := by decide +kernel
theorem dX11_seed_0 : decode cX11_seed 0 = .ok (.aload_n 0, 1) := by decide +kernel
theorem dX11_seed_1 : decode cX11_seed 1 = .ok (.getfield 47, 3) := by decide +kernel
theorem dX11_seed_4 : decode cX11_seed 4 = .ok (.lload_n 1, 1) := by decide +kernel
theorem dX11_seed_5 : decode cX11_seed 5 = .ok (.putfield 214, 3) := by decide +kernel
theorem dX11_seed_8 : decode cX11_seed 8 = .ok (.iconst 1, 1) := by decide +kernel
theorem dX11_seed_9 : decode cX11_seed 9 = .ok (.ireturn, 1) := by decide +kernel
theorem dX11_set_0 : decode cX11_set 0 = .ok (.iload_n 2, 1) := by decide +kernel
theorem dX11_set_1 : decode cX11_set 1 = .ok (.ifCond .ge 5, 3) := by decide +kernel
theorem dX11_set_4 : decode cX11_set 4 = .ok (.iconst 0, 1) := by decide +kernel
theorem dX11_set_5 : decode cX11_set 5 = .ok (.ireturn, 1) := by decide +kernel
theorem dX11_set_6 : decode cX11_set 6 = .ok (.iload_n 1, 1) := by decide +kernel
theorem dX11_set_7 : decode cX11_set 7 = .ok (.ifCond .ne 19, 3) := by decide +kernel
theorem dX11_set_10 : decode cX11_set 10 = .ok (.iload_n 2, 1) := by decide +kernel
theorem dX11_set_11 : decode cX11_set 11 = .ok (.bipush 100, 2) := by decide +kernel
theorem dX11_set_13 : decode cX11_set 13 = .ok (.if_icmp .gt 13, 3) := by decide +kernel
theorem dX11_set_16 : decode cX11_set 16 = .ok (.aload_n 0, 1) := by decide +kernel
theorem dX11_set_17 : decode cX11_set 17 = .ok (.getfield 74, 3) := by decide +kernel
theorem dX11_set_20 : decode cX11_set 20 = .ok (.iload_n 2, 1) := by decide +kernel
theorem dX11_set_21 : decode cX11_set 21 = .ok (.putfield 205, 3) := by decide +kernel
theorem dX11_set_24 : decode cX11_set 24 = .ok (.iconst 1, 1) := by decide +kernel
theorem dX11_set_25 : decode cX11_set 25 = .ok (.ireturn, 1) := by decide +kernel
theorem dX11_set_26 : decode cX11_set 26 = .ok (.iload_n 1, 1) := by decide +kernel
theorem dX11_set_27 : decode cX11_set 27 = .ok (.iconst 1, 1) := by decide +kernel
theorem dX11_set_28 : decode cX11_set 28 = .ok (.if_icmp .ne 27, 3) := by decide +kernel
theorem dX11_set_31 : decode cX11_set 31 = .ok (.iload_n 2, 1) := by decide +kernel
theorem dX11_set_32 : decode cX11_set 32 = .ok (.iconst 1, 1) := by decide +kernel
theorem dX11_set_33 : decode cX11_set 33 = .ok (.if_icmp .gt 22, 3) := by decide +kernel
theorem dX11_set_36 : decode cX11_set 36 = .ok (.aload_n 0, 1) := by decide +kernel
theorem dX11_set_37 : decode cX11_set 37 = .ok (.getfield 74, 3) := by decide +kernel
theorem dX11_set_40 : decode cX11_set 40 = .ok (.iload_n 2, 1) := by decide +kernel
theorem dX11_set_41 : decode cX11_set 41 = .ok (.iconst 1, 1) := by decide +kernel
theorem dX11_set_42 : decode cX11_set 42 = .ok (.if_icmp .ne 7, 3) := by decide +kernel
theorem dX11_set_45 : decode cX11_set 45 = .ok (.iconst 1, 1) := by decide +kernel
theorem dX11_set_46 : decode cX11_set 46 = .ok (.goto 4, 3) := by decide +kernel
theorem dX11_set_49 : decode cX11_set 49 = .ok (.iconst 0, 1) := by decide +kernel
theorem dX11_set_50 : decode cX11_set 50 = .ok (.putfield 208, 3) := by decide +kernel
theorem dX11_set_53 : decode cX11_set 53 = .ok (.iconst 1, 1) := by decide +kernel
theorem dX11_set_54 : decode cX11_set 54 = .ok (.ireturn, 1) := by decide +kernel
theorem dX11_set_55 : decode cX11_set 55 = .ok (.iload_n 1, 1) := by decide +kernel
theorem dX11_set_56 : decode cX11_set 56 = .ok (.iconst 2, 1) := by decide +kernel
theorem dX11_set_57 : decode cX11_set 57 = .ok (.if_icmp .ne 19, 3) := by decide +kernel
theorem dX11_set_60 : decode cX11_set 60 = .ok (.iload_n 2, 1) := by decide +kernel
theorem dX11_set_61 : decode cX11_set 61 = .ok (.bipush 99, 2) := by decide +kernel
theorem dX11_set_63 : decode cX11_set 63 = .ok (.if_icmp .gt 13, 3) := by decide +kernel
theorem dX11_set_66 : decode cX11_set 66 = .ok (.aload_n 0, 1) := by decide +kernel
theorem dX11_set_67 : decode cX11_set 67 = .ok (.getfield 67, 3) := by decide +kernel
theorem dX11_set_70 : decode cX11_set 70 = .ok (.iload_n 2, 1) := by decide +kernel
theorem dX11_set_71 : decode cX11_set 71 = .ok (.putfield 211, 3) := by decide +kernel
theorem dX11_set_74 : decode cX11_set 74 = .ok (.iconst 1, 1) := by decide +kernel
theorem dX11_set_75 : decode cX11_set 75 = .ok (.ireturn, 1) := by decide +kernel
theorem dX11_set_76 : decode cX11_set 76 = .ok (.iconst 0, 1) := by decide +kernel
theorem dX11_set_77 : decode cX11_set 77 = .ok (.ireturn, 1) := by decide +kernel
theorem dX11_undo_0 : decode cX11_undo 0 = .ok (.aload_n 0, 1) := by decide +kernel
theorem dX11_undo_1 : decode cX11_undo 1 = .ok (.getfield 67, 3) := by decide +kernel
theorem dX11_undo_4 : decode cX11_undo 4 = .ok (.getfield 240, 3) := by decide +kernel
theorem dX11_undo_7 : decode cX11_undo 7 = .ok (.iconst 1, 1) := by decide +kernel
theorem dX11_undo_8 : decode cX11_undo 8 = .ok (.if_icmp .ge 5, 3) := by decide +kernel
theorem dX11_undo_11 : decode cX11_undo 11 = .ok (.iconst (-1), 1) := by decide +kernel
theorem dX11_undo_12 : decode cX11_undo 12 = .ok (.ireturn, 1) := by decide +kernel
theorem dX11_undo_13 : decode cX11_undo 13 = .ok (.aload_n 0, 1) := by decide +kernel
theorem dX11_undo_14 : decode cX11_undo 14 = .ok (.getfield 67, 3) := by decide +kernel
theorem dX11_undo_17 : decode cX11_undo 17 = .ok (.getfield 240, 3) := by decide +kernel
theorem dX11_undo_20 : decode cX11_undo 20 = .ok (.iconst 1, 1) := by decide +kernel
theorem dX11_undo_21 : decode cX11_undo 21 = .ok (.isub, 1) := by decide +kernel
theorem dX11_undo_22 : decode cX11_undo 22 = .ok (.istore_n 1, 1) := by decide +kernel
theorem dX11_undo_23 : decode cX11_undo 23 = .ok (.aload_n 0, 1) := by decide +kernel
theorem dX11_undo_24 : decode cX11_undo 24 = .ok (.getfield 67, 3) := by decide +kernel
theorem dX11_undo_27 : decode cX11_undo 27 = .ok (.getfield 255, 3) := by decide +kernel
theorem dX11_undo_30 : decode cX11_undo 30 = .ok (.iload_n 1, 1) := by decide +kernel
theorem dX11_undo_31 : decode cX11_undo 31 = .ok (.iaload, 1) := by decide +kernel
theorem dX11_undo_32 : decode cX11_undo 32 = .ok (.istore_n 2, 1) := by decide +kernel
theorem dX11_undo_33 : decode cX11_undo 33 = .ok (.aload_n 0, 1) := by decide +kernel
theorem dX11_undo_34 : decode cX11_undo 34 = .ok (.getfield 47, 3) := by decide +kernel
theorem dX11_undo_37 : decode cX11_undo 37 = .ok (.getfield 188, 3) := by decide +kernel
theorem dX11_undo_40 : decode cX11_undo 40 = .ok (.iload_n 2, 1) := by decide +kernel
theorem dX11_undo_41 : decode cX11_undo 41 = .ok (.dup2, 1) := by decide +kernel
theorem dX11_undo_42 : decode cX11_undo 42 = .ok (.iaload, 1) := by decide +kernel
theorem dX11_undo_43 : decode cX11_undo 43 = .ok (.aload_n 0, 1) := by decide +kernel
theorem dX11_undo_44 : decode cX11_undo 44 = .ok (.getfield 67, 3) := by decide +kernel
theorem dX11_undo_47 : decode cX11_undo 47 = .ok (.getfield 258, 3) := by decide +kernel
theorem dX11_undo_50 : decode cX11_undo 50 = .ok (.iload_n 1, 1) := by decide +kernel
theorem dX11_undo_51 : decode cX11_undo 51 = .ok (.iaload, 1) := by decide +kernel
theorem dX11_undo_52 : decode cX11_undo 52 = .ok (.isub, 1) := by decide +kernel
theorem dX11_undo_53 : decode cX11_undo 53 = .ok (.iastore, 1) := by decide +kernel
theorem dX11_undo_54 : decode cX11_undo 54 = .ok (.aload_n 0, 1) := by decide +kernel
theorem dX11_undo_55 : decode cX11_undo 55 = .ok (.getfield 47, 3) := by decide +kernel
theorem dX11_undo_58 : decode cX11_undo 58 = .ok (.getfield 195, 3) := by decide +kernel
theorem dX11_undo_61 : decode cX11_undo 61 = .ok (.iload_n 2, 1) := by decide +kernel
theorem dX11_undo_62 : decode cX11_undo 62 = .ok (.dup2, 1) := by decide +kernel
theorem dX11_undo_63 : decode cX11_undo 63 = .ok (.iaload, 1) := by decide +kernel
theorem dX11_undo_64 : decode cX11_undo 64 = .ok (.aload_n 0, 1) := by decide +kernel
theorem dX11_undo_65 : decode cX11_undo 65 = .ok (.getfield 67, 3) := by decide +kernel
theorem dX11_undo_68 : decode cX11_undo 68 = .ok (.getfield 261, 3) := by decide +kernel
theorem dX11_undo_71 : decode cX11_undo 71 = .ok (.iload_n 1, 1) := by decide +kernel
theorem dX11_undo_72 : decode cX11_undo 72 = .ok (.iaload, 1) := by decide +kernel
theorem dX11_undo_73 : decode cX11_undo 73 = .ok (.isub, 1) := by decide +kernel
theorem dX11_undo_74 : decode cX11_undo 74 = .ok (.iastore, 1) := by decide +kernel
theorem dX11_undo_75 : decode cX11_undo 75 = .ok (.aload_n 0, 1) := by decide +kernel
theorem dX11_undo_76 : decode cX11_undo 76 = .ok (.getfield 67, 3) := by decide +kernel
theorem dX11_undo_79 : decode cX11_undo 79 = .ok (.iload_n 1, 1) := by decide +kernel
theorem dX11_undo_80 : decode cX11_undo 80 = .ok (.putfield 240, 3) := by decide +kernel
theorem dX11_undo_83 : decode cX11_undo 83 = .ok (.iload_n 2, 1) := by decide +kernel
theorem dX11_undo_84 : decode cX11_undo 84 = .ok (.ireturn, 1) := by decide +kernel
theorem dX11_waiting_0 : decode cX11_waiting 0 = .ok (.aload_n 0, 1) := by decide +kernel
theorem dX11_waiting_1 : decode cX11_waiting 1 = .ok (.invokevirtual 218, 3) := by decide +kernel
theorem dX11_waiting_4 : decode cX11_waiting 4 = .ok (.ifCond .eq 13, 3) := by decide +kernel
theorem dX11_waiting_7 : decode cX11_waiting 7 = .ok (.aload_n 0, 1) := by decide +kernel
theorem dX11_waiting_8 : decode cX11_waiting 8 = .ok (.getfield 47, 3) := by decide +kernel
theorem dX11_waiting_11 : decode cX11_waiting 11 = .ok (.invokevirtual 264, 3) := by decide +kernel
theorem dX11_waiting_14 : decode cX11_waiting 14 = .ok (.goto 4, 3) := by decide +kernel
theorem dX11_waiting_17 : decode cX11_waiting 17 = .ok (.iconst (-1), 1) := by decide +kernel
theorem dX11_waiting_18 : decode cX11_waiting 18 = .ok (.ireturn, 1) := by decide +kernel
def w_X11_isZeroOrOne : List Cond := .code yX11_isZeroOrOne cX11_isZeroOrOne 1 (some .boolean) :: ([] ++ ([]))
set_option maxHeartbeats 4000000 in
set_option maxRecDepth 100000 in
theorem c_X11_isZeroOrOne (l : Launch) (E : py_E) (G : wf_G) (L : List Nat) (f : py_F) (sz : Nat) (a : Int32) (hG : GT G) (hWF : WF E G L f) : Met l yX11_isZeroOrOne w_X11_isZeroOrOne ({ frames := 0, cells := 0, slots := 0, locals := 0 }) (py_Pc E [.int a] L f sz) (py_Qi E L f sz (fun r L1 f1 => (0 ≤ r.toInt ∧ r.toInt ≤ 1) ∧ (r.toInt ≠ 0 → a.toInt = 0 ∨ a.toInt = 1) ∧ L = L1 ∧ f = f1)) 0 0 (va_A (va_pl L f) sz) := by
  refine Met.ofW (cc := cX11_isZeroOrOne) (maxL := 1) (ret := (some .boolean)) (by decide) rfl ?_
  intro p e s m args below meth c s₁ B hml hv
  obtain ⟨rfl, rfl, hw⟩ := py_start hv
  have G0 : CallFix p m c cX11_isZeroOrOne 1 s _ w_X11_isZeroOrOne RX11 := ⟨B.exec, B.bytes, hml, findClass_of_methodNamed B.named, atoms_spec (ws := w_X11_isZeroOrOne) B.pre⟩
  have hr := B.returns
  have hlk := B.notSynchronized
  have kcm1 : (-1 : Int32).toInt = -1 := rfl
  have kc0 : (0 : Int32).toInt = 0 := rfl
  have kc1 : (1 : Int32).toInt = 1 := rfl
  have hl := lv_entry ([.int a]) (n := 1) (Nat.le_of_ble_eq_true rfl)
  rw [lg_entry_eq]
  generalize (lg_sl ([.int a]) ++ List.replicate (1 - (lg_sl ([.int a])).length) Slot.unset).toArray = ls at hl ⊢
  have hl : lv_has ls 1 [(0, .int a)] := hl
  have hRP : RP E G f f := RP.refl
  refine lv_iload_n G0.1 G0.2.1 dX11_isZeroOrOne_0 rfl (lv_at hl 0 rfl) ?_
  refine lv_if_eq (tgt := 9) G0.1 G0.2.1 dX11_isZeroOrOne_1 (by decide) (fun c_1 => ?_) (fun c_1 => ?_)
  · skip
    have tc_1 := ti_eq c_1
    refine lv_iconst (v := 1) G0.1 G0.2.1 dX11_isZeroOrOne_9 (by decide) ?_
    refine lv_goto (tgt := 14) G0.1 G0.2.1 dX11_isZeroOrOne_10 (by decide) ?_
    exact py_iret G0 hr rfl hlk hw ⟨⟨by omega, by omega⟩, (by first | omega | (intro q; omega)), rfl, rfl⟩ dX11_isZeroOrOne_14
  · skip
    have tc_1 := ti_ne c_1
    refine lv_iload_n G0.1 G0.2.1 dX11_isZeroOrOne_4 rfl (lv_at hl 0 rfl) ?_
    refine lv_iconst (v := 1) G0.1 G0.2.1 dX11_isZeroOrOne_5 (by decide) ?_
    refine lv_icmp_ne (tgt := 13) G0.1 G0.2.1 dX11_isZeroOrOne_6 (by decide) (fun c_2 => ?_) (fun c_2 => ?_)
    · skip
      have tc_2 := ti_ne c_2
      refine lv_iconst (v := 0) G0.1 G0.2.1 dX11_isZeroOrOne_13 (by decide) ?_
      exact py_iret G0 hr rfl hlk hw ⟨⟨by omega, by omega⟩, (by first | omega | (intro q; omega)), rfl, rfl⟩ dX11_isZeroOrOne_14
    · skip
      have tc_2 := ti_eq c_2
      refine lv_iconst (v := 1) G0.1 G0.2.1 dX11_isZeroOrOne_9 (by decide) ?_
      refine lv_goto (tgt := 14) G0.1 G0.2.1 dX11_isZeroOrOne_10 (by decide) ?_
      exact py_iret G0 hr rfl hlk hw ⟨⟨by omega, by omega⟩, (by first | omega | (intro q; omega)), rfl, rfl⟩ dX11_isZeroOrOne_14

def w_X11_mayBeBought : List Cond := .code yX11_mayBeBought cX11_mayBeBought 1 (some .boolean) :: ([] ++ ([]))
set_option maxHeartbeats 4000000 in
set_option maxRecDepth 100000 in
theorem c_X11_mayBeBought (l : Launch) (E : py_E) (G : wf_G) (L : List Nat) (f : py_F) (sz : Nat) (a : Int32) (hG : GT G) (hWF : WF E G L f) : Met l yX11_mayBeBought w_X11_mayBeBought ({ frames := 0, cells := 0, slots := 0, locals := 0 }) (py_Pc E [.int a] L f sz) (py_Qi E L f sz (fun r L1 f1 => (0 ≤ r.toInt ∧ r.toInt ≤ 1) ∧ (r.toInt ≠ 0 → -3 ≤ a.toInt ∧ a.toInt ≤ 3) ∧ L = L1 ∧ f = f1)) 0 0 (va_A (va_pl L f) sz) := by
  refine Met.ofW (cc := cX11_mayBeBought) (maxL := 1) (ret := (some .boolean)) (by decide) rfl ?_
  intro p e s m args below meth c s₁ B hml hv
  obtain ⟨rfl, rfl, hw⟩ := py_start hv
  have G0 : CallFix p m c cX11_mayBeBought 1 s _ w_X11_mayBeBought RX11 := ⟨B.exec, B.bytes, hml, findClass_of_methodNamed B.named, atoms_spec (ws := w_X11_mayBeBought) B.pre⟩
  have hr := B.returns
  have hlk := B.notSynchronized
  have kcm3 : (-3 : Int32).toInt = -3 := rfl
  have kcm1 : (-1 : Int32).toInt = -1 := rfl
  have kc0 : (0 : Int32).toInt = 0 := rfl
  have kc1 : (1 : Int32).toInt = 1 := rfl
  have kc3 : (3 : Int32).toInt = 3 := rfl
  have hl := lv_entry ([.int a]) (n := 1) (Nat.le_of_ble_eq_true rfl)
  rw [lg_entry_eq]
  generalize (lg_sl ([.int a]) ++ List.replicate (1 - (lg_sl ([.int a])).length) Slot.unset).toArray = ls at hl ⊢
  have hl : lv_has ls 1 [(0, .int a)] := hl
  have hRP : RP E G f f := RP.refl
  refine lv_iload_n G0.1 G0.2.1 dX11_mayBeBought_0 rfl (lv_at hl 0 rfl) ?_
  refine lv_bipush (v := (-3)) G0.1 G0.2.1 dX11_mayBeBought_1 (by decide) ?_
  refine lv_icmp_lt (tgt := 15) G0.1 G0.2.1 dX11_mayBeBought_3 (by decide) (fun c_1 => ?_) (fun c_1 => ?_)
  · skip
    have tc_1 := ti_lt c_1
    refine lv_iconst (v := 0) G0.1 G0.2.1 dX11_mayBeBought_15 (by decide) ?_
    exact py_iret G0 hr rfl hlk hw ⟨⟨by omega, by omega⟩, (by first | omega | (intro q; omega)), rfl, rfl⟩ dX11_mayBeBought_16
  · skip
    have tc_1 := ti_nlt c_1
    refine lv_iload_n G0.1 G0.2.1 dX11_mayBeBought_6 rfl (lv_at hl 0 rfl) ?_
    refine lv_iconst (v := 3) G0.1 G0.2.1 dX11_mayBeBought_7 (by decide) ?_
    refine lv_icmp_gt (tgt := 15) G0.1 G0.2.1 dX11_mayBeBought_8 (by decide) (fun c_2 => ?_) (fun c_2 => ?_)
    · skip
      have tc_2 := ti_lt c_2
      refine lv_iconst (v := 0) G0.1 G0.2.1 dX11_mayBeBought_15 (by decide) ?_
      exact py_iret G0 hr rfl hlk hw ⟨⟨by omega, by omega⟩, (by first | omega | (intro q; omega)), rfl, rfl⟩ dX11_mayBeBought_16
    · skip
      have tc_2 := ti_nlt c_2
      refine lv_iconst (v := 1) G0.1 G0.2.1 dX11_mayBeBought_11 (by decide) ?_
      refine lv_goto (tgt := 16) G0.1 G0.2.1 dX11_mayBeBought_12 (by decide) ?_
      exact py_iret G0 hr rfl hlk hw ⟨⟨by omega, by omega⟩, (by first | omega | (intro q; omega)), rfl, rfl⟩ dX11_mayBeBought_16

def w_X11_mayBeTried : List Cond := .code yX11_mayBeTried cX11_mayBeTried 2 (some .boolean) :: ([] ++ ([]))
set_option maxHeartbeats 4000000 in
set_option maxRecDepth 100000 in
theorem c_X11_mayBeTried (l : Launch) (E : py_E) (G : wf_G) (L : List Nat) (f : py_F) (sz : Nat) (a : Int32) (b : Int32) (hG : GT G) (hWF : WF E G L f) : Met l yX11_mayBeTried w_X11_mayBeTried ({ frames := 0, cells := 0, slots := 0, locals := 0 }) (py_Pc E [.int a, .int b] L f sz) (py_Qi E L f sz (fun r L1 f1 => (0 ≤ r.toInt ∧ r.toInt ≤ 1) ∧ (r.toInt ≠ 0 → 1 ≤ a.toInt ∧ a.toInt ≤ 20 ∧ 1 ≤ b.toInt ∧ b.toInt ≤ 10) ∧ L = L1 ∧ f = f1)) 0 0 (va_A (va_pl L f) sz) := by
  refine Met.ofW (cc := cX11_mayBeTried) (maxL := 2) (ret := (some .boolean)) (by decide) rfl ?_
  intro p e s m args below meth c s₁ B hml hv
  obtain ⟨rfl, rfl, hw⟩ := py_start hv
  have G0 : CallFix p m c cX11_mayBeTried 2 s _ w_X11_mayBeTried RX11 := ⟨B.exec, B.bytes, hml, findClass_of_methodNamed B.named, atoms_spec (ws := w_X11_mayBeTried) B.pre⟩
  have hr := B.returns
  have hlk := B.notSynchronized
  have kcm1 : (-1 : Int32).toInt = -1 := rfl
  have kc0 : (0 : Int32).toInt = 0 := rfl
  have kc1 : (1 : Int32).toInt = 1 := rfl
  have kc10 : (10 : Int32).toInt = 10 := rfl
  have kc20 : (20 : Int32).toInt = 20 := rfl
  have hl := lv_entry ([.int a, .int b]) (n := 2) (Nat.le_of_ble_eq_true rfl)
  rw [lg_entry_eq]
  generalize (lg_sl ([.int a, .int b]) ++ List.replicate (2 - (lg_sl ([.int a, .int b])).length) Slot.unset).toArray = ls at hl ⊢
  have hl : lv_has ls 2 [(0, .int a), (1, .int b)] := hl
  have hRP : RP E G f f := RP.refl
  refine lv_iload_n G0.1 G0.2.1 dX11_mayBeTried_0 rfl (lv_at hl 0 rfl) ?_
  refine lv_iconst (v := 1) G0.1 G0.2.1 dX11_mayBeTried_1 (by decide) ?_
  refine lv_icmp_lt (tgt := 26) G0.1 G0.2.1 dX11_mayBeTried_2 (by decide) (fun c_1 => ?_) (fun c_1 => ?_)
  · skip
    have tc_1 := ti_lt c_1
    refine lv_iconst (v := 0) G0.1 G0.2.1 dX11_mayBeTried_26 (by decide) ?_
    exact py_iret G0 hr rfl hlk hw ⟨⟨by omega, by omega⟩, (by first | omega | (intro q; omega)), rfl, rfl⟩ dX11_mayBeTried_27
  · skip
    have tc_1 := ti_nlt c_1
    refine lv_iload_n G0.1 G0.2.1 dX11_mayBeTried_5 rfl (lv_at hl 0 rfl) ?_
    refine lv_bipush (v := 20) G0.1 G0.2.1 dX11_mayBeTried_6 (by decide) ?_
    refine lv_icmp_gt (tgt := 26) G0.1 G0.2.1 dX11_mayBeTried_8 (by decide) (fun c_2 => ?_) (fun c_2 => ?_)
    · skip
      have tc_2 := ti_lt c_2
      refine lv_iconst (v := 0) G0.1 G0.2.1 dX11_mayBeTried_26 (by decide) ?_
      exact py_iret G0 hr rfl hlk hw ⟨⟨by omega, by omega⟩, (by first | omega | (intro q; omega)), rfl, rfl⟩ dX11_mayBeTried_27
    · skip
      have tc_2 := ti_nlt c_2
      refine lv_iload_n G0.1 G0.2.1 dX11_mayBeTried_11 rfl (lv_at hl 1 rfl) ?_
      refine lv_iconst (v := 1) G0.1 G0.2.1 dX11_mayBeTried_12 (by decide) ?_
      refine lv_icmp_lt (tgt := 26) G0.1 G0.2.1 dX11_mayBeTried_13 (by decide) (fun c_3 => ?_) (fun c_3 => ?_)
      · skip
        have tc_3 := ti_lt c_3
        refine lv_iconst (v := 0) G0.1 G0.2.1 dX11_mayBeTried_26 (by decide) ?_
        exact py_iret G0 hr rfl hlk hw ⟨⟨by omega, by omega⟩, (by first | omega | (intro q; omega)), rfl, rfl⟩ dX11_mayBeTried_27
      · skip
        have tc_3 := ti_nlt c_3
        refine lv_iload_n G0.1 G0.2.1 dX11_mayBeTried_16 rfl (lv_at hl 1 rfl) ?_
        refine lv_bipush (v := 10) G0.1 G0.2.1 dX11_mayBeTried_17 (by decide) ?_
        refine lv_icmp_gt (tgt := 26) G0.1 G0.2.1 dX11_mayBeTried_19 (by decide) (fun c_4 => ?_) (fun c_4 => ?_)
        · skip
          have tc_4 := ti_lt c_4
          refine lv_iconst (v := 0) G0.1 G0.2.1 dX11_mayBeTried_26 (by decide) ?_
          exact py_iret G0 hr rfl hlk hw ⟨⟨by omega, by omega⟩, (by first | omega | (intro q; omega)), rfl, rfl⟩ dX11_mayBeTried_27
        · skip
          have tc_4 := ti_nlt c_4
          refine lv_iconst (v := 1) G0.1 G0.2.1 dX11_mayBeTried_22 (by decide) ?_
          refine lv_goto (tgt := 27) G0.1 G0.2.1 dX11_mayBeTried_23 (by decide) ?_
          exact py_iret G0 hr rfl hlk hw ⟨⟨by omega, by omega⟩, (by first | omega | (intro q; omega)), rfl, rfl⟩ dX11_mayBeTried_27

def w_X11_hasValley : List Cond := .code yX11_hasValley cX11_hasValley 1 (some .boolean) :: ([Cond.fieldLink RX11 47 "HeadYear" "folk" "LHeadYear$Folk;", Cond.fieldLink RX11 128 "HeadYear$Folk" "valley" "LHeadYear$Valley;", Cond.fieldLink RX11 317 "HeadYear$Valley" "levels" "I"] ++ (u_ws RX11 TX11 16 ++ (u_ws RX2 TX2 12 ++ (u_ws RX9 TX9 10 ++ ([])))))
theorem in_X11_hasValley_X11 : ∀ w ∈ u_ws RX11 TX11 16, w ∈ w_X11_hasValley := fun _ h => List.mem_cons_of_mem _ (List.mem_append_right _ (List.mem_append_left _ h))
theorem in_X11_hasValley_X2 : ∀ w ∈ u_ws RX2 TX2 12, w ∈ w_X11_hasValley := fun _ h => List.mem_cons_of_mem _ (List.mem_append_right _ (List.mem_append_right _ (List.mem_append_left _ h)))
theorem in_X11_hasValley_X9 : ∀ w ∈ u_ws RX9 TX9 10, w ∈ w_X11_hasValley := fun _ h => List.mem_cons_of_mem _ (List.mem_append_right _ (List.mem_append_right _ (List.mem_append_right _ (List.mem_append_left _ h))))
set_option maxHeartbeats 4000000 in
set_option maxRecDepth 100000 in
theorem c_X11_hasValley (l : Launch) (E : py_E) (G : wf_G) (L : List Nat) (f : py_F) (sz : Nat) (x : Nat) (hG : GT G) (hWF : WF E G L f) (Tx : G.1 x = 12) : Met l yX11_hasValley w_X11_hasValley ({ frames := 0, cells := 0, slots := 0, locals := 0 }) (py_Pc E [.ref x] L f sz) (py_Qi E L f sz (fun r L1 f1 => (0 ≤ r.toInt ∧ r.toInt ≤ 1) ∧ (r.toInt ≠ 0 → 1 ≤ fv_l f (G.2 x 5)) ∧ (r.toInt = 0 → fv_l f (G.2 x 5) < 1) ∧ L = L1 ∧ f = f1)) 0 0 (va_A (va_pl L f) sz) := by
  refine Met.ofW (cc := cX11_hasValley) (maxL := 1) (ret := (some .boolean)) (by decide) rfl ?_
  intro p e s m args below meth c s₁ B hml hv
  obtain ⟨rfl, rfl, hw⟩ := py_start hv
  have G0 : CallFix p m c cX11_hasValley 1 s _ w_X11_hasValley RX11 := ⟨B.exec, B.bytes, hml, findClass_of_methodNamed B.named, atoms_spec (ws := w_X11_hasValley) B.pre⟩
  have hr := B.returns
  have hlk := B.notSynchronized
  have kcm1 : (-1 : Int32).toInt = -1 := rfl
  have kc0 : (0 : Int32).toInt = 0 := rfl
  have kc1 : (1 : Int32).toInt = 1 := rfl
  have hl := lv_entry ([.ref x]) (n := 1) (Nat.le_of_ble_eq_true rfl)
  rw [lg_entry_eq]
  generalize (lg_sl ([.ref x]) ++ List.replicate (1 - (lg_sl ([.ref x])).length) Slot.unset).toArray = ls at hl ⊢
  have hl : lv_has ls 1 [(0, .ref x)] := hl
  have hRP : RP E G f f := RP.refl
  refine lv_aload_n G0.1 G0.2.1 dX11_hasValley_0 rfl (lv_at hl 0 rfl) ?_
  obtain ⟨t_1, t_2, t_3, t_4, t_5, t_6, t_7, t_8, t_9, t_10, t_11, t_12, t_13, tx_14, tx_15, tx_16, tx_17⟩ := wt_11 hG Tx
  obtain ⟨v_18, v_19, v_20, hr_24, b_21, b_22, b_23⟩ := wg_11 hWF Tx
  have tq_25 := hy_eq hr_24
  refine py_get (C := RX11) (T := TX11) (N := 16) (k := 5) (v := .ref (G.2 x 5)) G0 hw in_X11_hasValley_X11 rfl hr_24 (by decide) (by decide +kernel) rfl dX11_hasValley_1 ?_
  obtain ⟨t_26, t_27, t_28, t_29, t_30, t_31, t_32, t_33, t_34⟩ := wt_2 hG t_6
  obtain ⟨r_35, y_36, v_37, hr_40, ty_38, b_39⟩ := wg_2 hWF t_6
  have tq_41 := fo_eq hr_40
  refine py_get (C := RX2) (T := TX2) (N := 12) (k := 9) (v := .ref r_35) G0 hw in_X11_hasValley_X2 rfl hr_40 (by decide) (by decide +kernel) rfl dX11_hasValley_4 ?_
  obtain ⟨t_42, t_43, t_44, t_45, t_46, t_47, t_48, t_49⟩ := wt_9 hG ty_38
  obtain ⟨v_50, v_51, hr_54, b_52, b_53⟩ := wg_9 hWF ty_38
  have tq_55 := va_eq hr_54
  refine py_get (C := RX9) (T := TX9) (N := 10) (k := 8) (v := .int v_50) G0 hw in_X11_hasValley_X9 rfl hr_54 (by decide) (by decide +kernel) rfl dX11_hasValley_7 ?_
  refine lv_if_le (tgt := 17) G0.1 G0.2.1 dX11_hasValley_10 (by decide) (fun c_56 => ?_) (fun c_56 => ?_)
  · skip
    have tc_56 := ti_le c_56
    refine lv_iconst (v := 0) G0.1 G0.2.1 dX11_hasValley_17 (by decide) ?_
    exact py_iret G0 hr rfl hlk hw ⟨⟨by omega, by omega⟩, (by first | omega | (intro q; omega)), (by first | omega | (intro q; omega)), rfl, rfl⟩ dX11_hasValley_18
  · skip
    have tc_56 := ti_nle c_56
    refine lv_iconst (v := 1) G0.1 G0.2.1 dX11_hasValley_13 (by decide) ?_
    refine lv_goto (tgt := 18) G0.1 G0.2.1 dX11_hasValley_14 (by decide) ?_
    exact py_iret G0 hr rfl hlk hw ⟨⟨by omega, by omega⟩, (by first | omega | (intro q; omega)), (by first | omega | (intro q; omega)), rfl, rfl⟩ dX11_hasValley_18

def w_X11_isLevel : List Cond := .code yX11_isLevel cX11_isLevel 2 (some .boolean) :: ([Cond.fieldLink RX11 47 "HeadYear" "folk" "LHeadYear$Folk;", Cond.fieldLink RX11 128 "HeadYear$Folk" "valley" "LHeadYear$Valley;", Cond.fieldLink RX11 317 "HeadYear$Valley" "levels" "I"] ++ (u_ws RX11 TX11 16 ++ (u_ws RX2 TX2 12 ++ (u_ws RX9 TX9 10 ++ ([])))))
theorem in_X11_isLevel_X11 : ∀ w ∈ u_ws RX11 TX11 16, w ∈ w_X11_isLevel := fun _ h => List.mem_cons_of_mem _ (List.mem_append_right _ (List.mem_append_left _ h))
theorem in_X11_isLevel_X2 : ∀ w ∈ u_ws RX2 TX2 12, w ∈ w_X11_isLevel := fun _ h => List.mem_cons_of_mem _ (List.mem_append_right _ (List.mem_append_right _ (List.mem_append_left _ h)))
theorem in_X11_isLevel_X9 : ∀ w ∈ u_ws RX9 TX9 10, w ∈ w_X11_isLevel := fun _ h => List.mem_cons_of_mem _ (List.mem_append_right _ (List.mem_append_right _ (List.mem_append_right _ (List.mem_append_left _ h))))
set_option maxHeartbeats 4000000 in
set_option maxRecDepth 100000 in
theorem c_X11_isLevel (l : Launch) (E : py_E) (G : wf_G) (L : List Nat) (f : py_F) (sz : Nat) (x : Nat) (a : Int32) (hG : GT G) (hWF : WF E G L f) (Tx : G.1 x = 12) : Met l yX11_isLevel w_X11_isLevel ({ frames := 0, cells := 0, slots := 0, locals := 0 }) (py_Pc E [.ref x, .int a] L f sz) (py_Qi E L f sz (fun r L1 f1 => (0 ≤ r.toInt ∧ r.toInt ≤ 1) ∧ (r.toInt ≠ 0 → 0 ≤ a.toInt ∧ a.toInt ≤ 7 ∧ a.toInt < fv_l f (G.2 x 5)) ∧ L = L1 ∧ f = f1)) 0 0 (va_A (va_pl L f) sz) := by
  refine Met.ofW (cc := cX11_isLevel) (maxL := 2) (ret := (some .boolean)) (by decide) rfl ?_
  intro p e s m args below meth c s₁ B hml hv
  obtain ⟨rfl, rfl, hw⟩ := py_start hv
  have G0 : CallFix p m c cX11_isLevel 2 s _ w_X11_isLevel RX11 := ⟨B.exec, B.bytes, hml, findClass_of_methodNamed B.named, atoms_spec (ws := w_X11_isLevel) B.pre⟩
  have hr := B.returns
  have hlk := B.notSynchronized
  have kcm1 : (-1 : Int32).toInt = -1 := rfl
  have kc0 : (0 : Int32).toInt = 0 := rfl
  have kc1 : (1 : Int32).toInt = 1 := rfl
  have hl := lv_entry ([.ref x, .int a]) (n := 2) (Nat.le_of_ble_eq_true rfl)
  rw [lg_entry_eq]
  generalize (lg_sl ([.ref x, .int a]) ++ List.replicate (2 - (lg_sl ([.ref x, .int a])).length) Slot.unset).toArray = ls at hl ⊢
  have hl : lv_has ls 2 [(0, .ref x), (1, .int a)] := hl
  have hRP : RP E G f f := RP.refl
  refine lv_iload_n G0.1 G0.2.1 dX11_isLevel_0 rfl (lv_at hl 1 rfl) ?_
  refine lv_if_lt (tgt := 22) G0.1 G0.2.1 dX11_isLevel_1 (by decide) (fun c_1 => ?_) (fun c_1 => ?_)
  · skip
    have tc_1 := ti_lt c_1
    refine lv_iconst (v := 0) G0.1 G0.2.1 dX11_isLevel_22 (by decide) ?_
    exact py_iret G0 hr rfl hlk hw ⟨⟨by omega, by omega⟩, (by first | omega | (intro q; omega)), rfl, rfl⟩ dX11_isLevel_23
  · skip
    have tc_1 := ti_nlt c_1
    refine lv_iload_n G0.1 G0.2.1 dX11_isLevel_4 rfl (lv_at hl 1 rfl) ?_
    refine lv_aload_n G0.1 G0.2.1 dX11_isLevel_5 rfl (lv_at hl 0 rfl) ?_
    obtain ⟨t_2, t_3, t_4, t_5, t_6, t_7, t_8, t_9, t_10, t_11, t_12, t_13, t_14, tx_15, tx_16, tx_17, tx_18⟩ := wt_11 hG Tx
    obtain ⟨v_19, v_20, v_21, hr_25, b_22, b_23, b_24⟩ := wg_11 hWF Tx
    have tq_26 := hy_eq hr_25
    refine py_get (C := RX11) (T := TX11) (N := 16) (k := 5) (v := .ref (G.2 x 5)) G0 hw in_X11_isLevel_X11 rfl hr_25 (by decide) (by decide +kernel) rfl dX11_isLevel_6 ?_
    obtain ⟨t_27, t_28, t_29, t_30, t_31, t_32, t_33, t_34, t_35⟩ := wt_2 hG t_7
    obtain ⟨r_36, y_37, v_38, hr_41, ty_39, b_40⟩ := wg_2 hWF t_7
    have tq_42 := fo_eq hr_41
    refine py_get (C := RX2) (T := TX2) (N := 12) (k := 9) (v := .ref r_36) G0 hw in_X11_isLevel_X2 rfl hr_41 (by decide) (by decide +kernel) rfl dX11_isLevel_9 ?_
    obtain ⟨t_43, t_44, t_45, t_46, t_47, t_48, t_49, t_50⟩ := wt_9 hG ty_39
    obtain ⟨v_51, v_52, hr_55, b_53, b_54⟩ := wg_9 hWF ty_39
    have tq_56 := va_eq hr_55
    refine py_get (C := RX9) (T := TX9) (N := 10) (k := 8) (v := .int v_51) G0 hw in_X11_isLevel_X9 rfl hr_55 (by decide) (by decide +kernel) rfl dX11_isLevel_12 ?_
    refine lv_icmp_ge (tgt := 22) G0.1 G0.2.1 dX11_isLevel_15 (by decide) (fun c_57 => ?_) (fun c_57 => ?_)
    · skip
      have tc_57 := ti_le c_57
      refine lv_iconst (v := 0) G0.1 G0.2.1 dX11_isLevel_22 (by decide) ?_
      exact py_iret G0 hr rfl hlk hw ⟨⟨by omega, by omega⟩, (by first | omega | (intro q; omega)), rfl, rfl⟩ dX11_isLevel_23
    · skip
      have tc_57 := ti_nle c_57
      refine lv_iconst (v := 1) G0.1 G0.2.1 dX11_isLevel_18 (by decide) ?_
      refine lv_goto (tgt := 23) G0.1 G0.2.1 dX11_isLevel_19 (by decide) ?_
      exact py_iret G0 hr rfl hlk hw ⟨⟨by omega, by omega⟩, (by first | omega | (intro q; omega)), rfl, rfl⟩ dX11_isLevel_23

def w_X11_isFamily : List Cond := .code yX11_isFamily cX11_isFamily 2 (some .boolean) :: ([Cond.fieldLink RX11 47 "HeadYear" "folk" "LHeadYear$Folk;", Cond.fieldLink RX11 128 "HeadYear$Folk" "valley" "LHeadYear$Valley;", Cond.fieldLink RX11 319 "HeadYear$Valley" "families" "I"] ++ (u_ws RX11 TX11 16 ++ (u_ws RX2 TX2 12 ++ (u_ws RX9 TX9 10 ++ ([])))))
theorem in_X11_isFamily_X11 : ∀ w ∈ u_ws RX11 TX11 16, w ∈ w_X11_isFamily := fun _ h => List.mem_cons_of_mem _ (List.mem_append_right _ (List.mem_append_left _ h))
theorem in_X11_isFamily_X2 : ∀ w ∈ u_ws RX2 TX2 12, w ∈ w_X11_isFamily := fun _ h => List.mem_cons_of_mem _ (List.mem_append_right _ (List.mem_append_right _ (List.mem_append_left _ h)))
theorem in_X11_isFamily_X9 : ∀ w ∈ u_ws RX9 TX9 10, w ∈ w_X11_isFamily := fun _ h => List.mem_cons_of_mem _ (List.mem_append_right _ (List.mem_append_right _ (List.mem_append_right _ (List.mem_append_left _ h))))
set_option maxHeartbeats 4000000 in
set_option maxRecDepth 100000 in
theorem c_X11_isFamily (l : Launch) (E : py_E) (G : wf_G) (L : List Nat) (f : py_F) (sz : Nat) (x : Nat) (a : Int32) (hG : GT G) (hWF : WF E G L f) (Tx : G.1 x = 12) : Met l yX11_isFamily w_X11_isFamily ({ frames := 0, cells := 0, slots := 0, locals := 0 }) (py_Pc E [.ref x, .int a] L f sz) (py_Qi E L f sz (fun r L1 f1 => (0 ≤ r.toInt ∧ r.toInt ≤ 1) ∧ (r.toInt ≠ 0 → 0 ≤ a.toInt ∧ a.toInt ≤ 9 ∧ a.toInt < fv_f f (G.2 x 5)) ∧ L = L1 ∧ f = f1)) 0 0 (va_A (va_pl L f) sz) := by
  refine Met.ofW (cc := cX11_isFamily) (maxL := 2) (ret := (some .boolean)) (by decide) rfl ?_
  intro p e s m args below meth c s₁ B hml hv
  obtain ⟨rfl, rfl, hw⟩ := py_start hv
  have G0 : CallFix p m c cX11_isFamily 2 s _ w_X11_isFamily RX11 := ⟨B.exec, B.bytes, hml, findClass_of_methodNamed B.named, atoms_spec (ws := w_X11_isFamily) B.pre⟩
  have hr := B.returns
  have hlk := B.notSynchronized
  have kcm1 : (-1 : Int32).toInt = -1 := rfl
  have kc0 : (0 : Int32).toInt = 0 := rfl
  have kc1 : (1 : Int32).toInt = 1 := rfl
  have hl := lv_entry ([.ref x, .int a]) (n := 2) (Nat.le_of_ble_eq_true rfl)
  rw [lg_entry_eq]
  generalize (lg_sl ([.ref x, .int a]) ++ List.replicate (2 - (lg_sl ([.ref x, .int a])).length) Slot.unset).toArray = ls at hl ⊢
  have hl : lv_has ls 2 [(0, .ref x), (1, .int a)] := hl
  have hRP : RP E G f f := RP.refl
  refine lv_iload_n G0.1 G0.2.1 dX11_isFamily_0 rfl (lv_at hl 1 rfl) ?_
  refine lv_if_lt (tgt := 22) G0.1 G0.2.1 dX11_isFamily_1 (by decide) (fun c_1 => ?_) (fun c_1 => ?_)
  · skip
    have tc_1 := ti_lt c_1
    refine lv_iconst (v := 0) G0.1 G0.2.1 dX11_isFamily_22 (by decide) ?_
    exact py_iret G0 hr rfl hlk hw ⟨⟨by omega, by omega⟩, (by first | omega | (intro q; omega)), rfl, rfl⟩ dX11_isFamily_23
  · skip
    have tc_1 := ti_nlt c_1
    refine lv_iload_n G0.1 G0.2.1 dX11_isFamily_4 rfl (lv_at hl 1 rfl) ?_
    refine lv_aload_n G0.1 G0.2.1 dX11_isFamily_5 rfl (lv_at hl 0 rfl) ?_
    obtain ⟨t_2, t_3, t_4, t_5, t_6, t_7, t_8, t_9, t_10, t_11, t_12, t_13, t_14, tx_15, tx_16, tx_17, tx_18⟩ := wt_11 hG Tx
    obtain ⟨v_19, v_20, v_21, hr_25, b_22, b_23, b_24⟩ := wg_11 hWF Tx
    have tq_26 := hy_eq hr_25
    refine py_get (C := RX11) (T := TX11) (N := 16) (k := 5) (v := .ref (G.2 x 5)) G0 hw in_X11_isFamily_X11 rfl hr_25 (by decide) (by decide +kernel) rfl dX11_isFamily_6 ?_
    obtain ⟨t_27, t_28, t_29, t_30, t_31, t_32, t_33, t_34, t_35⟩ := wt_2 hG t_7
    obtain ⟨r_36, y_37, v_38, hr_41, ty_39, b_40⟩ := wg_2 hWF t_7
    have tq_42 := fo_eq hr_41
    refine py_get (C := RX2) (T := TX2) (N := 12) (k := 9) (v := .ref r_36) G0 hw in_X11_isFamily_X2 rfl hr_41 (by decide) (by decide +kernel) rfl dX11_isFamily_9 ?_
    obtain ⟨t_43, t_44, t_45, t_46, t_47, t_48, t_49, t_50⟩ := wt_9 hG ty_39
    obtain ⟨v_51, v_52, hr_55, b_53, b_54⟩ := wg_9 hWF ty_39
    have tq_56 := va_eq hr_55
    refine py_get (C := RX9) (T := TX9) (N := 10) (k := 9) (v := .int v_52) G0 hw in_X11_isFamily_X9 rfl hr_55 (by decide) (by decide +kernel) rfl dX11_isFamily_12 ?_
    refine lv_icmp_ge (tgt := 22) G0.1 G0.2.1 dX11_isFamily_15 (by decide) (fun c_57 => ?_) (fun c_57 => ?_)
    · skip
      have tc_57 := ti_le c_57
      refine lv_iconst (v := 0) G0.1 G0.2.1 dX11_isFamily_22 (by decide) ?_
      exact py_iret G0 hr rfl hlk hw ⟨⟨by omega, by omega⟩, (by first | omega | (intro q; omega)), rfl, rfl⟩ dX11_isFamily_23
    · skip
      have tc_57 := ti_nle c_57
      refine lv_iconst (v := 1) G0.1 G0.2.1 dX11_isFamily_18 (by decide) ?_
      refine lv_goto (tgt := 23) G0.1 G0.2.1 dX11_isFamily_19 (by decide) ?_
      exact py_iret G0 hr rfl hlk hw ⟨⟨by omega, by omega⟩, (by first | omega | (intro q; omega)), rfl, rfl⟩ dX11_isFamily_23

def w_X11_lives : List Cond := .code yX11_lives cX11_lives 2 (some .boolean) :: ([Cond.methodLink RX11 163 yX11_isFamily, Cond.instanceMethod yX11_isFamily, Cond.selects RX11 yX11_isFamily yX11_isFamily, Cond.initialized RX11, Cond.fieldLink RX11 47 "HeadYear" "folk" "LHeadYear$Folk;", Cond.fieldLink RX11 167 "HeadYear$Folk" "heads" "[I"] ++ (u_ws RX11 TX11 16 ++ (u_ws RX2 TX2 12 ++ (w_X11_isFamily ++ ([])))))
theorem in_X11_lives_X11 : ∀ w ∈ u_ws RX11 TX11 16, w ∈ w_X11_lives := fun _ h => List.mem_cons_of_mem _ (List.mem_append_right _ (List.mem_append_left _ h))
theorem in_X11_lives_X2 : ∀ w ∈ u_ws RX2 TX2 12, w ∈ w_X11_lives := fun _ h => List.mem_cons_of_mem _ (List.mem_append_right _ (List.mem_append_right _ (List.mem_append_left _ h)))
theorem gg_X11_lives_X11_isFamily : GoodIn w_X11_lives w_X11_isFamily := goodIn_sub (fun _ h => List.mem_cons_of_mem _ (List.mem_append_right _ (List.mem_append_right _ (List.mem_append_right _ (List.mem_append_left _ h))))) (by decide +kernel)
theorem g_X11_lives_X11_isFamily_163 : GoodIn w_X11_lives (wsV RX11 163 RX11 yX11_isFamily w_X11_isFamily) := goodIn_app (goodIn_of _ (by decide +kernel)) gg_X11_lives_X11_isFamily
set_option maxHeartbeats 4000000 in
set_option maxRecDepth 100000 in
theorem c_X11_lives (l : Launch) (E : py_E) (G : wf_G) (L : List Nat) (f : py_F) (sz : Nat) (x : Nat) (a : Int32) (hG : GT G) (hWF : WF E G L f) (Tx : G.1 x = 12) : Met l yX11_lives w_X11_lives ({ frames := 1, cells := 0, slots := 0, locals := 21 }) (py_Pc E [.ref x, .int a] L f sz) (py_Qi E L f sz (fun r L1 f1 => (0 ≤ r.toInt ∧ r.toInt ≤ 1) ∧ (r.toInt ≠ 0 → 0 ≤ a.toInt ∧ a.toInt ≤ 9 ∧ a.toInt < fv_f f (G.2 x 5) ∧ 1 ≤ ari f (G.2 (G.2 x 5) 0) a) ∧ L = L1 ∧ f = f1)) 0 0 (va_A (va_pl L f) sz) := by
  refine Met.ofW (cc := cX11_lives) (maxL := 2) (ret := (some .boolean)) (by decide) rfl ?_
  intro p e s m args below meth c s₁ B hml hv
  obtain ⟨rfl, rfl, hw⟩ := py_start hv
  have G0 : CallFix p m c cX11_lives 2 s _ w_X11_lives RX11 := ⟨B.exec, B.bytes, hml, findClass_of_methodNamed B.named, atoms_spec (ws := w_X11_lives) B.pre⟩
  have hr := B.returns
  have hlk := B.notSynchronized
  have kcm1 : (-1 : Int32).toInt = -1 := rfl
  have kc0 : (0 : Int32).toInt = 0 := rfl
  have kc1 : (1 : Int32).toInt = 1 := rfl
  have hl := lv_entry ([.ref x, .int a]) (n := 2) (Nat.le_of_ble_eq_true rfl)
  rw [lg_entry_eq]
  generalize (lg_sl ([.ref x, .int a]) ++ List.replicate (2 - (lg_sl ([.ref x, .int a])).length) Slot.unset).toArray = ls at hl ⊢
  have hl : lv_has ls 2 [(0, .ref x), (1, .int a)] := hl
  have hRP : RP E G f f := RP.refl
  refine lv_aload_n G0.1 G0.2.1 dX11_lives_0 rfl (lv_at hl 0 rfl) ?_
  refine lv_iload_n G0.1 G0.2.1 dX11_lives_1 rfl (lv_at hl 1 rfl) ?_
  obtain ⟨t_1, t_2, t_3, t_4, t_5, t_6, t_7, t_8, t_9, t_10, t_11, t_12, t_13, tx_14, tx_15, tx_16, tx_17⟩ := wt_11 hG Tx
  obtain ⟨v_18, v_19, v_20, hr_24, b_21, b_22, b_23⟩ := wg_11 hWF Tx
  have tq_25 := hy_eq hr_24
  refine py_calli hw (va_runV (As := [.int a]) (rest := []) G0 (c_X11_isFamily l E G L f s.heap.size x a hG hWF Tx) (cwV 1 G0.2.2.2.2 g_X11_lives_X11_isFamily_163 rfl rfl rfl (by decide +kernel) ⟨(Nat.le_of_ble_eq_true rfl), (Nat.le_of_ble_eq_true rfl)⟩) (py_preV hw (C := RX11) (T := TX11) (N := 16) rfl hr_24) rfl rfl hl.1 rfl (lv_room (Nat.le_of_ble_eq_true rfl)) dX11_lives_2 ⟨(Nat.le_of_ble_eq_true rfl), (Nat.le_of_ble_eq_true rfl)⟩) (fun r_30 L_26 f_27 H_28 locs hp_29 hw => ?_)
  obtain ⟨b_32, en_31, rfl, rfl⟩ := hp_29
  refine lv_if_eq (tgt := 24) G0.1 G0.2.1 dX11_lives_5 (by decide) (fun c_33 => ?_) (fun c_33 => ?_)
  · skip
    have tc_33 := ti_eq c_33
    refine lv_iconst (v := 0) G0.1 G0.2.1 dX11_lives_24 (by decide) ?_
    exact py_iret G0 hr rfl hlk hw ⟨⟨by omega, by omega⟩, (by first | omega | (intro q; omega)), rfl, rfl⟩ dX11_lives_25
  · skip
    have tc_33 := ti_ne c_33
    refine lv_aload_n G0.1 G0.2.1 dX11_lives_8 rfl (lv_at hl 0 rfl) ?_
    refine py_get (C := RX11) (T := TX11) (N := 16) (k := 5) (v := .ref (G.2 x 5)) G0 hw in_X11_lives_X11 rfl hr_24 (by decide) (by decide +kernel) rfl dX11_lives_9 ?_
    obtain ⟨t_34, t_35, t_36, t_37, t_38, t_39, t_40, t_41, t_42⟩ := wt_2 hG t_6
    obtain ⟨r_43, y_44, v_45, hr_48, ty_46, b_47⟩ := wg_2 hWF t_6
    have tq_49 := fo_eq hr_48
    refine py_get (C := RX2) (T := TX2) (N := 12) (k := 0) (v := .ref (G.2 (G.2 x 5) 0)) G0 hw in_X11_lives_X2 rfl hr_48 (by decide) (by decide +kernel) rfl dX11_lives_12 ?_
    refine lv_iload_n G0.1 G0.2.1 dX11_lives_15 rfl (lv_at hl 1 rfl) ?_
    obtain ⟨g_50, ha_51, hi_52⟩ := wf_arr (n := 10) (lo := 0) (hi := 20) hWF t_34 (by omega) (wf_own0 E G _ (G.2 x 5))
    have rg_53 : vp_in a 10 := ti_in (by omega) (by omega)
    refine py_iald G0 hw ha_51 rg_53 dX11_lives_16 ?_
    refine lv_topi (fun x_54 ex_54 => ?_)
    have bx_54 := ti_at hi_52 rg_53 ex_54
    have qx_54 := ari_ld ha_51 ex_54
    refine lv_if_le (tgt := 24) G0.1 G0.2.1 dX11_lives_17 (by decide) (fun c_55 => ?_) (fun c_55 => ?_)
    · skip
      have tc_55 := ti_le c_55
      refine lv_iconst (v := 0) G0.1 G0.2.1 dX11_lives_24 (by decide) ?_
      exact py_iret G0 hr rfl hlk hw ⟨⟨by omega, by omega⟩, (by first | omega | (intro q; omega)), rfl, rfl⟩ dX11_lives_25
    · skip
      have tc_55 := ti_nle c_55
      refine lv_iconst (v := 1) G0.1 G0.2.1 dX11_lives_20 (by decide) ?_
      refine lv_goto (tgt := 25) G0.1 G0.2.1 dX11_lives_21 (by decide) ?_
      exact py_iret G0 hr rfl hlk hw ⟨⟨by omega, by omega⟩, (by first | omega | (intro q; omega)), rfl, rfl⟩ dX11_lives_25

def w_X11_isLaw : List Cond := .code yX11_isLaw cX11_isLaw 2 (some .boolean) :: ([Cond.fieldLink RX11 94 "HeadYear" "lawCount" "I"] ++ (u_ws RX11 TX11 16 ++ ([])))
theorem in_X11_isLaw_X11 : ∀ w ∈ u_ws RX11 TX11 16, w ∈ w_X11_isLaw := fun _ h => List.mem_cons_of_mem _ (List.mem_append_right _ (List.mem_append_left _ h))
set_option maxHeartbeats 4000000 in
set_option maxRecDepth 100000 in
theorem c_X11_isLaw (l : Launch) (E : py_E) (G : wf_G) (L : List Nat) (f : py_F) (sz : Nat) (x : Nat) (a : Int32) (hG : GT G) (hWF : WF E G L f) (Tx : G.1 x = 12) : Met l yX11_isLaw w_X11_isLaw ({ frames := 0, cells := 0, slots := 0, locals := 0 }) (py_Pc E [.ref x, .int a] L f sz) (py_Qi E L f sz (fun r L1 f1 => (0 ≤ r.toInt ∧ r.toInt ≤ 1) ∧ (r.toInt ≠ 0 → 0 ≤ a.toInt ∧ a.toInt < hy_n f x) ∧ (r.toInt = 0 → a.toInt < 0 ∨ hy_n f x ≤ a.toInt) ∧ L = L1 ∧ f = f1)) 0 0 (va_A (va_pl L f) sz) := by
  refine Met.ofW (cc := cX11_isLaw) (maxL := 2) (ret := (some .boolean)) (by decide) rfl ?_
  intro p e s m args below meth c s₁ B hml hv
  obtain ⟨rfl, rfl, hw⟩ := py_start hv
  have G0 : CallFix p m c cX11_isLaw 2 s _ w_X11_isLaw RX11 := ⟨B.exec, B.bytes, hml, findClass_of_methodNamed B.named, atoms_spec (ws := w_X11_isLaw) B.pre⟩
  have hr := B.returns
  have hlk := B.notSynchronized
  have kcm1 : (-1 : Int32).toInt = -1 := rfl
  have kc0 : (0 : Int32).toInt = 0 := rfl
  have kc1 : (1 : Int32).toInt = 1 := rfl
  have hl := lv_entry ([.ref x, .int a]) (n := 2) (Nat.le_of_ble_eq_true rfl)
  rw [lg_entry_eq]
  generalize (lg_sl ([.ref x, .int a]) ++ List.replicate (2 - (lg_sl ([.ref x, .int a])).length) Slot.unset).toArray = ls at hl ⊢
  have hl : lv_has ls 2 [(0, .ref x), (1, .int a)] := hl
  have hRP : RP E G f f := RP.refl
  refine lv_iload_n G0.1 G0.2.1 dX11_isLaw_0 rfl (lv_at hl 1 rfl) ?_
  refine lv_if_lt (tgt := 16) G0.1 G0.2.1 dX11_isLaw_1 (by decide) (fun c_1 => ?_) (fun c_1 => ?_)
  · skip
    have tc_1 := ti_lt c_1
    refine lv_iconst (v := 0) G0.1 G0.2.1 dX11_isLaw_16 (by decide) ?_
    exact py_iret G0 hr rfl hlk hw ⟨⟨by omega, by omega⟩, (by first | omega | (intro q; omega)), (by first | omega | (intro q; omega)), rfl, rfl⟩ dX11_isLaw_17
  · skip
    have tc_1 := ti_nlt c_1
    refine lv_iload_n G0.1 G0.2.1 dX11_isLaw_4 rfl (lv_at hl 1 rfl) ?_
    refine lv_aload_n G0.1 G0.2.1 dX11_isLaw_5 rfl (lv_at hl 0 rfl) ?_
    obtain ⟨t_2, t_3, t_4, t_5, t_6, t_7, t_8, t_9, t_10, t_11, t_12, t_13, t_14, tx_15, tx_16, tx_17, tx_18⟩ := wt_11 hG Tx
    obtain ⟨v_19, v_20, v_21, hr_25, b_22, b_23, b_24⟩ := wg_11 hWF Tx
    have tq_26 := hy_eq hr_25
    refine py_get (C := RX11) (T := TX11) (N := 16) (k := 13) (v := .int v_19) G0 hw in_X11_isLaw_X11 rfl hr_25 (by decide) (by decide +kernel) rfl dX11_isLaw_6 ?_
    refine lv_icmp_ge (tgt := 16) G0.1 G0.2.1 dX11_isLaw_9 (by decide) (fun c_27 => ?_) (fun c_27 => ?_)
    · skip
      have tc_27 := ti_le c_27
      refine lv_iconst (v := 0) G0.1 G0.2.1 dX11_isLaw_16 (by decide) ?_
      exact py_iret G0 hr rfl hlk hw ⟨⟨by omega, by omega⟩, (by first | omega | (intro q; omega)), (by first | omega | (intro q; omega)), rfl, rfl⟩ dX11_isLaw_17
    · skip
      have tc_27 := ti_nle c_27
      refine lv_iconst (v := 1) G0.1 G0.2.1 dX11_isLaw_12 (by decide) ?_
      refine lv_goto (tgt := 17) G0.1 G0.2.1 dX11_isLaw_13 (by decide) ?_
      exact py_iret G0 hr rfl hlk hw ⟨⟨by omega, by omega⟩, (by first | omega | (intro q; omega)), (by first | omega | (intro q; omega)), rfl, rfl⟩ dX11_isLaw_17

def w_X11_lawOf : List Cond := .code yX11_lawOf cX11_lawOf 2 (some (.object "HeadYear$Law")) :: ([Cond.methodLink RX11 202 yX11_isLaw, Cond.instanceMethod yX11_isLaw, Cond.selects RX11 yX11_isLaw yX11_isLaw, Cond.initialized RX11, Cond.fieldLink RX11 40 "HeadYear" "noLaw" "LHeadYear$Law;", Cond.fieldLink RX11 32 "HeadYear" "laws" "[LHeadYear$Law;"] ++ (u_ws RX11 TX11 16 ++ (w_X11_isLaw ++ ([]))))
theorem in_X11_lawOf_X11 : ∀ w ∈ u_ws RX11 TX11 16, w ∈ w_X11_lawOf := fun _ h => List.mem_cons_of_mem _ (List.mem_append_right _ (List.mem_append_left _ h))
theorem gg_X11_lawOf_X11_isLaw : GoodIn w_X11_lawOf w_X11_isLaw := goodIn_sub (fun _ h => List.mem_cons_of_mem _ (List.mem_append_right _ (List.mem_append_right _ (List.mem_append_left _ h)))) (by decide +kernel)
theorem g_X11_lawOf_X11_isLaw_202 : GoodIn w_X11_lawOf (wsV RX11 202 RX11 yX11_isLaw w_X11_isLaw) := goodIn_app (goodIn_of _ (by decide +kernel)) gg_X11_lawOf_X11_isLaw
set_option maxHeartbeats 4000000 in
set_option maxRecDepth 100000 in
theorem c_X11_lawOf (l : Launch) (E : py_E) (G : wf_G) (L : List Nat) (f : py_F) (sz : Nat) (x : Nat) (a : Int32) (hG : GT G) (hWF : WF E G L f) (Tx : G.1 x = 12) (hq0 : LO f (G.2 x 3) (hy_n f x)) : Met l yX11_lawOf w_X11_lawOf ({ frames := 1, cells := 0, slots := 0, locals := 21 }) (py_Pc E [.ref x, .int a] L f sz) (py_Qr E L f sz (fun r L1 f1 => (G.1 r = 4) ∧ L = L1 ∧ f = f1)) 0 0 (va_A (va_pl L f) sz) := by
  refine Met.ofW (cc := cX11_lawOf) (maxL := 2) (ret := (some (.object "HeadYear$Law"))) (by decide) rfl ?_
  intro p e s m args below meth c s₁ B hml hv
  obtain ⟨rfl, rfl, hw⟩ := py_start hv
  have G0 : CallFix p m c cX11_lawOf 2 s _ w_X11_lawOf RX11 := ⟨B.exec, B.bytes, hml, findClass_of_methodNamed B.named, atoms_spec (ws := w_X11_lawOf) B.pre⟩
  have hr := B.returns
  have hlk := B.notSynchronized
  have kcm1 : (-1 : Int32).toInt = -1 := rfl
  have kc0 : (0 : Int32).toInt = 0 := rfl
  have kc1 : (1 : Int32).toInt = 1 := rfl
  have hl := lv_entry ([.ref x, .int a]) (n := 2) (Nat.le_of_ble_eq_true rfl)
  rw [lg_entry_eq]
  generalize (lg_sl ([.ref x, .int a]) ++ List.replicate (2 - (lg_sl ([.ref x, .int a])).length) Slot.unset).toArray = ls at hl ⊢
  have hl : lv_has ls 2 [(0, .ref x), (1, .int a)] := hl
  have hRP : RP E G f f := RP.refl
  have hLO := hq0
  refine lv_aload_n G0.1 G0.2.1 dX11_lawOf_0 rfl (lv_at hl 0 rfl) ?_
  refine lv_iload_n G0.1 G0.2.1 dX11_lawOf_1 rfl (lv_at hl 1 rfl) ?_
  obtain ⟨t_1, t_2, t_3, t_4, t_5, t_6, t_7, t_8, t_9, t_10, t_11, t_12, t_13, tx_14, tx_15, tx_16, tx_17⟩ := wt_11 hG Tx
  obtain ⟨v_18, v_19, v_20, hr_24, b_21, b_22, b_23⟩ := wg_11 hWF Tx
  have tq_25 := hy_eq hr_24
  refine py_calli hw (va_runV (As := [.int a]) (rest := []) G0 (c_X11_isLaw l E G L f s.heap.size x a hG hWF Tx) (cwV 1 G0.2.2.2.2 g_X11_lawOf_X11_isLaw_202 rfl rfl rfl (by decide +kernel) ⟨(Nat.le_of_ble_eq_true rfl), (Nat.le_of_ble_eq_true rfl)⟩) (py_preV hw (C := RX11) (T := TX11) (N := 16) rfl hr_24) rfl rfl hl.1 rfl (lv_room (Nat.le_of_ble_eq_true rfl)) dX11_lawOf_2 ⟨(Nat.le_of_ble_eq_true rfl), (Nat.le_of_ble_eq_true rfl)⟩) (fun r_30 L_26 f_27 H_28 locs hp_29 hw => ?_)
  obtain ⟨b_33, en_31, en_32, rfl, rfl⟩ := hp_29
  have jn_21 : ∀ (v_34 : Nat) (H_j21 : Heap) (locs : List Loc) (ls : Array Slot), G.1 v_34 = 4 → py_W E (va_A (va_pl L f) s.heap.size) s L f H_j21 locs → lv_has ls 2 [(0, .ref x), (1, .int a)] → W p l e (headSpec w_X11_lawOf ({ frames := 1, cells := 0, slots := 0, locals := 21 })).room s m ([.ref x, .int a] : List Value).toArray below meth c H_j21 locs 0 0 (MQ below (py_Qr E L f s.heap.size (fun r L1 f1 => (G.1 r = 4) ∧ L = L1 ∧ f = f1)) ([.ref x, .int a] : List Value).toArray s 0 0 (va_A (va_pl L f) s.heap.size)) (F0 m 21 ls [.ref v_34]) := by
    intro v_34 H_j21 locs ls tyv_34 hw hl
    exact py_rret G0 hr (Or.inl ⟨_, rfl⟩) hlk hw ⟨tyv_34, rfl, rfl⟩ dX11_lawOf_21
  refine lv_if_eq (tgt := 17) G0.1 G0.2.1 dX11_lawOf_5 (by decide) (fun c_35 => ?_) (fun c_35 => ?_)
  · skip
    have tc_35 := ti_eq c_35
    refine lv_aload_n G0.1 G0.2.1 dX11_lawOf_17 rfl (lv_at hl 0 rfl) ?_
    refine py_get (C := RX11) (T := TX11) (N := 16) (k := 4) (v := .ref (G.2 x 4)) G0 hw in_X11_lawOf_X11 rfl hr_24 (by decide) (by decide +kernel) rfl dX11_lawOf_18 ?_
    exact jn_21 (G.2 x 4) _ _ ls t_5 hw (lv_sub hl [0, 1] rfl)
  · skip
    have tc_35 := ti_ne c_35
    refine lv_aload_n G0.1 G0.2.1 dX11_lawOf_8 rfl (lv_at hl 0 rfl) ?_
    refine py_get (C := RX11) (T := TX11) (N := 16) (k := 3) (v := .ref (G.2 x 3)) G0 hw in_X11_lawOf_X11 rfl hr_24 (by decide) (by decide +kernel) rfl dX11_lawOf_9 ?_
    refine lv_iload_n G0.1 G0.2.1 dX11_lawOf_12 rfl (lv_at hl 1 rfl) ?_
    obtain ⟨g_36, ha_37, hc_38⟩ := wf_l22 hWF t_4
    have rg_41 : vp_in a 4 := ti_in (by omega) (by omega)
    obtain ⟨z_39, ez_40⟩ := Option.ne_none_iff_exists'.mp (hLO _ g_36 ha_37.2 a.toNatClampNeg (by have hz := (st_nat rg_41).1; omega))
    refine py_aaldS G0 hw ha_37 rg_41 ez_40 dX11_lawOf_13 ?_
    refine lv_goto (tgt := 21) G0.1 G0.2.1 dX11_lawOf_14 (by decide) ?_
    exact jn_21 z_39 _ _ ls (hc_38 _ _ ez_40) hw (lv_sub hl [0, 1] rfl)

def w_X11_feed : List Cond := .code yX11_feed cX11_feed 7 (some .int) :: ([Cond.methodLink RX11 105 yX8_bytesOf, Cond.static yX8_bytesOf, Cond.initialized RX8, Cond.fieldLink RX11 10 "HeadYear" "tape" "LHeadYear$Tape;", Cond.fieldLink RX11 109 "HeadYear$Tape" "length" "I", Cond.methodLink RX11 112 yX8_append, Cond.instanceMethod yX8_append, Cond.selects RX8 yX8_append yX8_append] ++ (u_ws RX11 TX11 16 ++ (u_ws RX8 TX8 4 ++ (w_X8_bytesOf ++ (w_X8_append ++ ([]))))))
theorem in_X11_feed_X11 : ∀ w ∈ u_ws RX11 TX11 16, w ∈ w_X11_feed := fun _ h => List.mem_cons_of_mem _ (List.mem_append_right _ (List.mem_append_left _ h))
theorem in_X11_feed_X8 : ∀ w ∈ u_ws RX8 TX8 4, w ∈ w_X11_feed := fun _ h => List.mem_cons_of_mem _ (List.mem_append_right _ (List.mem_append_right _ (List.mem_append_left _ h)))
theorem gg_X11_feed_X8_bytesOf : GoodIn w_X11_feed w_X8_bytesOf := goodIn_sub (fun _ h => List.mem_cons_of_mem _ (List.mem_append_right _ (List.mem_append_right _ (List.mem_append_right _ (List.mem_append_left _ h))))) (by decide +kernel)
theorem gg_X11_feed_X8_append : GoodIn w_X11_feed w_X8_append := goodIn_sub (fun _ h => List.mem_cons_of_mem _ (List.mem_append_right _ (List.mem_append_right _ (List.mem_append_right _ (List.mem_append_right _ (List.mem_append_left _ h)))))) (by decide +kernel)
theorem g_X11_feed_X8_append_112 : GoodIn w_X11_feed (wsV RX11 112 RX8 yX8_append w_X8_append) := goodIn_app (goodIn_of _ (by decide +kernel)) gg_X11_feed_X8_append
theorem g_X11_feed_X8_bytesOf_105 : GoodIn w_X11_feed (va_wsS RX11 105 yX8_bytesOf w_X8_bytesOf) := goodIn_app (goodIn_of _ (by decide +kernel)) gg_X11_feed_X8_bytesOf
set_option maxHeartbeats 4000000 in
set_option maxRecDepth 100000 in
theorem c_X11_feed (l : Launch) (E : py_E) (G : wf_G) (L : List Nat) (f : py_F) (sz : Nat) (x : Nat) (a : Int32) (b : Int32) (q : Int32) (d : Int32) (v : Int32) (gb : rs_B) (nb : Int) (hG : GT G) (hWF : WF E G L f) (Tx : G.1 x = 12) (hp0 : tp_l f (G.2 x 0) = nb ∧ 0 ≤ nb) (hq0 : GI E G f x) (hq1 : gfn f (G.2 (G.2 x 0) 0) = gb) : Met l yX11_feed w_X11_feed ({ frames := 1, cells := 0, slots := 0, locals := 23 }) (py_Pc E [.ref x, .int a, .int b, .int q, .int d, .int v] L f sz) (py_Qi E L f sz (fun r L1 f1 => (FDC gb nb a b q d v r.toInt (gfn f1 (G.2 (G.2 x 0) 0)) (tp_l f1 (G.2 x 0))) ∧ WF E G L1 f1 ∧ KP G [9, 38] false f f1 ∧ GI E G f1 x)) 0 0 (va_A (va_pl L f) sz) := by
  refine Met.ofW (cc := cX11_feed) (maxL := 7) (ret := (some .int)) (by decide) rfl ?_
  intro p e s m args below meth c s₁ B hml hv
  obtain ⟨rfl, rfl, hw⟩ := py_start hv
  have G0 : CallFix p m c cX11_feed 7 s _ w_X11_feed RX11 := ⟨B.exec, B.bytes, hml, findClass_of_methodNamed B.named, atoms_spec (ws := w_X11_feed) B.pre⟩
  have hr := B.returns
  have hlk := B.notSynchronized
  have kcm1 : (-1 : Int32).toInt = -1 := rfl
  have kc0 : (0 : Int32).toInt = 0 := rfl
  have kc1 : (1 : Int32).toInt = 1 := rfl
  have kc160 : (160 : Int32).toInt = 160 := rfl
  have hl := lv_entry ([.ref x, .int a, .int b, .int q, .int d, .int v]) (n := 7) (Nat.le_of_ble_eq_true rfl)
  rw [lg_entry_eq]
  generalize (lg_sl ([.ref x, .int a, .int b, .int q, .int d, .int v]) ++ List.replicate (7 - (lg_sl ([.ref x, .int a, .int b, .int q, .int d, .int v])).length) Slot.unset).toArray = ls at hl ⊢
  have hl : lv_has ls 7 [(0, .ref x), (1, .int a), (2, .int b), (3, .int q), (4, .int d), (5, .int v)] := hl
  have hGI := hq0
  have hKP : KP G [9, 38] false f f := KP.refl
  have hTB := hq1
  obtain ⟨t_1, t_2, t_3, t_4, t_5, t_6, t_7, t_8, t_9, t_10, t_11, t_12, t_13, tx_14, tx_15, tx_16, tx_17⟩ := wt_11 hG Tx
  have hca := fb_cw_le a
  have hcb := fb_cw_le b
  have hcq := fb_cw_le q
  have hcd := fb_cw_le d
  have hcv := fb_cw_le v
  have hC : fb_C a b q d v = fb_cw a + fb_cw b + fb_cw q + fb_cw d + fb_cw v := rfl
  refine lv_iload_n G0.1 G0.2.1 dX11_feed_0 rfl (lv_at hl 1 rfl) ?_
  refine py_calli hw (va_runS (As := [.int a]) (rest := []) G0 (c_X8_bytesOfV l E G L f s.heap.size a hG hWF) (va_cwS 1 G0.2.2.2.2 g_X11_feed_X8_bytesOf_105 rfl rfl rfl (by decide +kernel) ⟨(Nat.le_of_ble_eq_true rfl), (Nat.le_of_ble_eq_true rfl)⟩) (py_preS hw) rfl rfl hl.1 rfl (lv_room (Nat.le_of_ble_eq_true rfl)) dX11_feed_1 ⟨(Nat.le_of_ble_eq_true rfl), (Nat.le_of_ble_eq_true rfl)⟩) (fun r_22 L_18 f_19 H_20 locs hp_21 hw => ?_)
  obtain ⟨b_24, en_23, rfl, rfl⟩ := hp_21
  refine lv_iload_n G0.1 G0.2.1 dX11_feed_4 rfl (lv_at hl 2 rfl) ?_
  refine py_calli hw (va_runS (As := [.int b]) (rest := [.int r_22]) G0 (c_X8_bytesOfV l E G L f H_20.size b hG hWF) (va_cwS 1 G0.2.2.2.2 g_X11_feed_X8_bytesOf_105 rfl rfl rfl (by decide +kernel) ⟨(Nat.le_of_ble_eq_true rfl), (Nat.le_of_ble_eq_true rfl)⟩) (py_preS hw) rfl rfl hl.1 rfl (lv_room (Nat.le_of_ble_eq_true rfl)) dX11_feed_5 ⟨(Nat.le_of_ble_eq_true rfl), (Nat.le_of_ble_eq_true rfl)⟩) (fun r_29 L_25 f_26 H_27 locs hp_28 hw => ?_)
  obtain ⟨b_31, en_30, rfl, rfl⟩ := hp_28
  refine lv_iadd G0.1 G0.2.1 dX11_feed_8 ?_
  refine lv_topi (fun x_32 ex_32 => ?_)
  first | have tx_32 := ti_add ex_32 (by omega) (by omega) | skip
  refine lv_iload_n G0.1 G0.2.1 dX11_feed_9 rfl (lv_at hl 3 rfl) ?_
  refine py_calli hw (va_runS (As := [.int q]) (rest := [.int x_32]) G0 (c_X8_bytesOfV l E G L f H_27.size q hG hWF) (va_cwS 1 G0.2.2.2.2 g_X11_feed_X8_bytesOf_105 rfl rfl rfl (by decide +kernel) ⟨(Nat.le_of_ble_eq_true rfl), (Nat.le_of_ble_eq_true rfl)⟩) (py_preS hw) rfl rfl hl.1 rfl (lv_room (Nat.le_of_ble_eq_true rfl)) dX11_feed_10 ⟨(Nat.le_of_ble_eq_true rfl), (Nat.le_of_ble_eq_true rfl)⟩) (fun r_37 L_33 f_34 H_35 locs hp_36 hw => ?_)
  obtain ⟨b_39, en_38, rfl, rfl⟩ := hp_36
  refine lv_iadd G0.1 G0.2.1 dX11_feed_13 ?_
  refine lv_topi (fun x_40 ex_40 => ?_)
  first | have tx_40 := ti_add ex_40 (by omega) (by omega) | skip
  refine lv_iload G0.1 G0.2.1 dX11_feed_14 (lv_at hl 4 rfl) ?_
  refine py_calli hw (va_runS (As := [.int d]) (rest := [.int x_40]) G0 (c_X8_bytesOfV l E G L f H_35.size d hG hWF) (va_cwS 1 G0.2.2.2.2 g_X11_feed_X8_bytesOf_105 rfl rfl rfl (by decide +kernel) ⟨(Nat.le_of_ble_eq_true rfl), (Nat.le_of_ble_eq_true rfl)⟩) (py_preS hw) rfl rfl hl.1 rfl (lv_room (Nat.le_of_ble_eq_true rfl)) dX11_feed_16 ⟨(Nat.le_of_ble_eq_true rfl), (Nat.le_of_ble_eq_true rfl)⟩) (fun r_45 L_41 f_42 H_43 locs hp_44 hw => ?_)
  obtain ⟨b_47, en_46, rfl, rfl⟩ := hp_44
  refine lv_iadd G0.1 G0.2.1 dX11_feed_19 ?_
  refine lv_topi (fun x_48 ex_48 => ?_)
  first | have tx_48 := ti_add ex_48 (by omega) (by omega) | skip
  refine lv_iload G0.1 G0.2.1 dX11_feed_20 (lv_at hl 5 rfl) ?_
  refine py_calli hw (va_runS (As := [.int v]) (rest := [.int x_48]) G0 (c_X8_bytesOfV l E G L f H_43.size v hG hWF) (va_cwS 1 G0.2.2.2.2 g_X11_feed_X8_bytesOf_105 rfl rfl rfl (by decide +kernel) ⟨(Nat.le_of_ble_eq_true rfl), (Nat.le_of_ble_eq_true rfl)⟩) (py_preS hw) rfl rfl hl.1 rfl (lv_room (Nat.le_of_ble_eq_true rfl)) dX11_feed_22 ⟨(Nat.le_of_ble_eq_true rfl), (Nat.le_of_ble_eq_true rfl)⟩) (fun r_53 L_49 f_50 H_51 locs hp_52 hw => ?_)
  obtain ⟨b_55, en_54, rfl, rfl⟩ := hp_52
  refine lv_iadd G0.1 G0.2.1 dX11_feed_25 ?_
  refine lv_topi (fun x_56 ex_56 => ?_)
  first | have tx_56 := ti_add ex_56 (by omega) (by omega) | skip
  refine lv_istore (lv' := [(6, .int x_56), (0, .ref x), (1, .int a), (2, .int b), (3, .int q), (4, .int d), (5, .int v)]) G0.1 G0.2.1 dX11_feed_26 hl (by decide) rfl (fun ls hl => ?_)
  refine lv_aload_n G0.1 G0.2.1 dX11_feed_28 rfl (lv_at hl 1 rfl) ?_
  obtain ⟨v_57, v_58, v_59, hr_63, b_60, b_61, b_62⟩ := wg_11 hWF Tx
  have tq_64 := hy_eq hr_63
  refine py_get (C := RX11) (T := TX11) (N := 16) (k := 0) (v := .ref (G.2 x 0)) G0 hw in_X11_feed_X11 rfl hr_63 (by decide) (by decide +kernel) rfl dX11_feed_29 ?_
  have t_65 := wt_8 hG t_1
  obtain ⟨v_66, v_67, v_68, hr_71, b_69, b_70⟩ := wg_8 hWF t_1
  have bv_68 := wf_free v_68
  have tq_72 := tp_eq hr_71
  refine py_get (C := RX8) (T := TX8) (N := 4) (k := 1) (v := .int v_66) G0 hw in_X11_feed_X8 rfl hr_71 (by decide) (by decide +kernel) rfl dX11_feed_32 ?_
  refine lv_iload G0.1 G0.2.1 dX11_feed_35 (lv_at hl 0 rfl) ?_
  refine lv_iadd G0.1 G0.2.1 dX11_feed_37 ?_
  refine lv_topi (fun x_73 ex_73 => ?_)
  first | have tx_73 := ti_add ex_73 (by omega) (by omega) | skip
  refine lv_sipush (v := 160) G0.1 G0.2.1 dX11_feed_38 (by decide) ?_
  refine lv_icmp_le (tgt := 46) G0.1 G0.2.1 dX11_feed_41 (by decide) (fun c_74 => ?_) (fun c_74 => ?_)
  · skip
    have tc_74 := ti_le c_74
    refine lv_aload_n G0.1 G0.2.1 dX11_feed_46 rfl (lv_at hl 1 rfl) ?_
    refine py_get (C := RX11) (T := TX11) (N := 16) (k := 0) (v := .ref (G.2 x 0)) G0 hw in_X11_feed_X11 rfl hr_63 (by decide) (by decide +kernel) rfl dX11_feed_47 ?_
    refine lv_iload_n G0.1 G0.2.1 dX11_feed_50 rfl (lv_at hl 2 rfl) ?_
    refine py_callv hw (va_runV (As := [.int a]) (rest := []) G0 (c_X8_appendV l E G L f H_51.size (G.2 x 0) a gb nb hG hWF t_1 (show tp_l f (G.2 x 0) = nb by omega) (show 0 ≤ nb ∧ nb + fb_cw a ≤ 160 by omega) hTB) (cwV 1 G0.2.2.2.2 g_X11_feed_X8_append_112 rfl rfl rfl (by decide +kernel) ⟨(Nat.le_of_ble_eq_true rfl), (Nat.le_of_ble_eq_true rfl)⟩) (py_preV hw (C := RX8) (T := TX8) (N := 4) rfl hr_71) rfl rfl hl.1 rfl (lv_room (Nat.le_of_ble_eq_true rfl)) dX11_feed_51 ⟨(Nat.le_of_ble_eq_true rfl), (Nat.le_of_ble_eq_true rfl)⟩) (fun L_75 f_76 H_77 locs hp_78 hw => ?_)
    have ht_85 := fo_ty hWF t_6
    obtain ⟨en_80, en_81, en_82, hWF, hq_83, kp_84⟩ := hp_78
    have hGI := hGI.kp hG Tx ht_85 hq_83 kp_84 (by decide)
    have hKP := hKP.trans kp_84 (by decide) (by decide)
    have hr_63 := kp_at kp_84 hWF Tx (by decide) (by decide) (by decide) hr_63
    have tq_86 := hy_eq hr_63
    refine lv_aload_n G0.1 G0.2.1 dX11_feed_54 rfl (lv_at hl 1 rfl) ?_
    refine py_get (C := RX11) (T := TX11) (N := 16) (k := 0) (v := .ref (G.2 x 0)) G0 hw in_X11_feed_X11 rfl hr_63 (by decide) (by decide +kernel) rfl dX11_feed_55 ?_
    refine lv_iload_n G0.1 G0.2.1 dX11_feed_58 rfl (lv_at hl 3 rfl) ?_
    obtain ⟨v_87, v_88, v_89, hr_92, b_90, b_91⟩ := wg_8 hWF t_1
    have bv_89 := wf_free v_89
    have tq_93 := tp_eq hr_92
    refine py_callv hw (va_runV (As := [.int b]) (rest := []) G0 (c_X8_appendV l E G L_75 f_76 H_77.size (G.2 x 0) b (fb_w (gb, nb) a).1 (fb_w (gb, nb) a).2 hG hWF t_1 (show tp_l f_76 (G.2 x 0) = (fb_w (gb, nb) a).2 by omega) (show 0 ≤ (fb_w (gb, nb) a).2 ∧ (fb_w (gb, nb) a).2 + fb_cw b ≤ 160 by omega) en_80) (cwV 1 G0.2.2.2.2 g_X11_feed_X8_append_112 rfl rfl rfl (by decide +kernel) ⟨(Nat.le_of_ble_eq_true rfl), (Nat.le_of_ble_eq_true rfl)⟩) (py_preV hw (C := RX8) (T := TX8) (N := 4) rfl hr_92) rfl rfl hl.1 rfl (lv_room (Nat.le_of_ble_eq_true rfl)) dX11_feed_59 ⟨(Nat.le_of_ble_eq_true rfl), (Nat.le_of_ble_eq_true rfl)⟩) (fun L_94 f_95 H_96 locs hp_97 hw => ?_)
    have ht_104 := fo_ty hWF t_6
    obtain ⟨en_99, en_100, en_101, hWF, hq_102, kp_103⟩ := hp_97
    have hGI := hGI.kp hG Tx ht_104 hq_102 kp_103 (by decide)
    have hKP := hKP.trans kp_103 (by decide) (by decide)
    have hr_63 := kp_at kp_103 hWF Tx (by decide) (by decide) (by decide) hr_63
    have tq_105 := hy_eq hr_63
    refine lv_aload_n G0.1 G0.2.1 dX11_feed_62 rfl (lv_at hl 1 rfl) ?_
    refine py_get (C := RX11) (T := TX11) (N := 16) (k := 0) (v := .ref (G.2 x 0)) G0 hw in_X11_feed_X11 rfl hr_63 (by decide) (by decide +kernel) rfl dX11_feed_63 ?_
    refine lv_iload_n G0.1 G0.2.1 dX11_feed_66 rfl (lv_at hl 4 rfl) ?_
    obtain ⟨v_106, v_107, v_108, hr_111, b_109, b_110⟩ := wg_8 hWF t_1
    have bv_108 := wf_free v_108
    have tq_112 := tp_eq hr_111
    refine py_callv hw (va_runV (As := [.int q]) (rest := []) G0 (c_X8_appendV l E G L_94 f_95 H_96.size (G.2 x 0) q (fb_w ((fb_w (gb, nb) a).1, (fb_w (gb, nb) a).2) b).1 (fb_w ((fb_w (gb, nb) a).1, (fb_w (gb, nb) a).2) b).2 hG hWF t_1 (show tp_l f_95 (G.2 x 0) = (fb_w ((fb_w (gb, nb) a).1, (fb_w (gb, nb) a).2) b).2 by omega) (show 0 ≤ (fb_w ((fb_w (gb, nb) a).1, (fb_w (gb, nb) a).2) b).2 ∧ (fb_w ((fb_w (gb, nb) a).1, (fb_w (gb, nb) a).2) b).2 + fb_cw q ≤ 160 by omega) en_99) (cwV 1 G0.2.2.2.2 g_X11_feed_X8_append_112 rfl rfl rfl (by decide +kernel) ⟨(Nat.le_of_ble_eq_true rfl), (Nat.le_of_ble_eq_true rfl)⟩) (py_preV hw (C := RX8) (T := TX8) (N := 4) rfl hr_111) rfl rfl hl.1 rfl (lv_room (Nat.le_of_ble_eq_true rfl)) dX11_feed_67 ⟨(Nat.le_of_ble_eq_true rfl), (Nat.le_of_ble_eq_true rfl)⟩) (fun L_113 f_114 H_115 locs hp_116 hw => ?_)
    have ht_123 := fo_ty hWF t_6
    obtain ⟨en_118, en_119, en_120, hWF, hq_121, kp_122⟩ := hp_116
    have hGI := hGI.kp hG Tx ht_123 hq_121 kp_122 (by decide)
    have hKP := hKP.trans kp_122 (by decide) (by decide)
    have hr_63 := kp_at kp_122 hWF Tx (by decide) (by decide) (by decide) hr_63
    have tq_124 := hy_eq hr_63
    refine lv_aload_n G0.1 G0.2.1 dX11_feed_70 rfl (lv_at hl 1 rfl) ?_
    refine py_get (C := RX11) (T := TX11) (N := 16) (k := 0) (v := .ref (G.2 x 0)) G0 hw in_X11_feed_X11 rfl hr_63 (by decide) (by decide +kernel) rfl dX11_feed_71 ?_
    refine lv_iload G0.1 G0.2.1 dX11_feed_74 (lv_at hl 5 rfl) ?_
    obtain ⟨v_125, v_126, v_127, hr_130, b_128, b_129⟩ := wg_8 hWF t_1
    have bv_127 := wf_free v_127
    have tq_131 := tp_eq hr_130
    refine py_callv hw (va_runV (As := [.int d]) (rest := []) G0 (c_X8_appendV l E G L_113 f_114 H_115.size (G.2 x 0) d (fb_w ((fb_w ((fb_w (gb, nb) a).1, (fb_w (gb, nb) a).2) b).1, (fb_w ((fb_w (gb, nb) a).1, (fb_w (gb, nb) a).2) b).2) q).1 (fb_w ((fb_w ((fb_w (gb, nb) a).1, (fb_w (gb, nb) a).2) b).1, (fb_w ((fb_w (gb, nb) a).1, (fb_w (gb, nb) a).2) b).2) q).2 hG hWF t_1 (show tp_l f_114 (G.2 x 0) = (fb_w ((fb_w ((fb_w (gb, nb) a).1, (fb_w (gb, nb) a).2) b).1, (fb_w ((fb_w (gb, nb) a).1, (fb_w (gb, nb) a).2) b).2) q).2 by omega) (show 0 ≤ (fb_w ((fb_w ((fb_w (gb, nb) a).1, (fb_w (gb, nb) a).2) b).1, (fb_w ((fb_w (gb, nb) a).1, (fb_w (gb, nb) a).2) b).2) q).2 ∧ (fb_w ((fb_w ((fb_w (gb, nb) a).1, (fb_w (gb, nb) a).2) b).1, (fb_w ((fb_w (gb, nb) a).1, (fb_w (gb, nb) a).2) b).2) q).2 + fb_cw d ≤ 160 by omega) en_118) (cwV 1 G0.2.2.2.2 g_X11_feed_X8_append_112 rfl rfl rfl (by decide +kernel) ⟨(Nat.le_of_ble_eq_true rfl), (Nat.le_of_ble_eq_true rfl)⟩) (py_preV hw (C := RX8) (T := TX8) (N := 4) rfl hr_130) rfl rfl hl.1 rfl (lv_room (Nat.le_of_ble_eq_true rfl)) dX11_feed_76 ⟨(Nat.le_of_ble_eq_true rfl), (Nat.le_of_ble_eq_true rfl)⟩) (fun L_132 f_133 H_134 locs hp_135 hw => ?_)
    have ht_142 := fo_ty hWF t_6
    obtain ⟨en_137, en_138, en_139, hWF, hq_140, kp_141⟩ := hp_135
    have hGI := hGI.kp hG Tx ht_142 hq_140 kp_141 (by decide)
    have hKP := hKP.trans kp_141 (by decide) (by decide)
    have hr_63 := kp_at kp_141 hWF Tx (by decide) (by decide) (by decide) hr_63
    have tq_143 := hy_eq hr_63
    refine lv_aload_n G0.1 G0.2.1 dX11_feed_79 rfl (lv_at hl 1 rfl) ?_
    refine py_get (C := RX11) (T := TX11) (N := 16) (k := 0) (v := .ref (G.2 x 0)) G0 hw in_X11_feed_X11 rfl hr_63 (by decide) (by decide +kernel) rfl dX11_feed_80 ?_
    refine lv_iload G0.1 G0.2.1 dX11_feed_83 (lv_at hl 6 rfl) ?_
    obtain ⟨v_144, v_145, v_146, hr_149, b_147, b_148⟩ := wg_8 hWF t_1
    have bv_146 := wf_free v_146
    have tq_150 := tp_eq hr_149
    refine py_callv hw (va_runV (As := [.int v]) (rest := []) G0 (c_X8_appendV l E G L_132 f_133 H_134.size (G.2 x 0) v (fb_w ((fb_w ((fb_w ((fb_w (gb, nb) a).1, (fb_w (gb, nb) a).2) b).1, (fb_w ((fb_w (gb, nb) a).1, (fb_w (gb, nb) a).2) b).2) q).1, (fb_w ((fb_w ((fb_w (gb, nb) a).1, (fb_w (gb, nb) a).2) b).1, (fb_w ((fb_w (gb, nb) a).1, (fb_w (gb, nb) a).2) b).2) q).2) d).1 (fb_w ((fb_w ((fb_w ((fb_w (gb, nb) a).1, (fb_w (gb, nb) a).2) b).1, (fb_w ((fb_w (gb, nb) a).1, (fb_w (gb, nb) a).2) b).2) q).1, (fb_w ((fb_w ((fb_w (gb, nb) a).1, (fb_w (gb, nb) a).2) b).1, (fb_w ((fb_w (gb, nb) a).1, (fb_w (gb, nb) a).2) b).2) q).2) d).2 hG hWF t_1 (show tp_l f_133 (G.2 x 0) = (fb_w ((fb_w ((fb_w ((fb_w (gb, nb) a).1, (fb_w (gb, nb) a).2) b).1, (fb_w ((fb_w (gb, nb) a).1, (fb_w (gb, nb) a).2) b).2) q).1, (fb_w ((fb_w ((fb_w (gb, nb) a).1, (fb_w (gb, nb) a).2) b).1, (fb_w ((fb_w (gb, nb) a).1, (fb_w (gb, nb) a).2) b).2) q).2) d).2 by omega) (show 0 ≤ (fb_w ((fb_w ((fb_w ((fb_w (gb, nb) a).1, (fb_w (gb, nb) a).2) b).1, (fb_w ((fb_w (gb, nb) a).1, (fb_w (gb, nb) a).2) b).2) q).1, (fb_w ((fb_w ((fb_w (gb, nb) a).1, (fb_w (gb, nb) a).2) b).1, (fb_w ((fb_w (gb, nb) a).1, (fb_w (gb, nb) a).2) b).2) q).2) d).2 ∧ (fb_w ((fb_w ((fb_w ((fb_w (gb, nb) a).1, (fb_w (gb, nb) a).2) b).1, (fb_w ((fb_w (gb, nb) a).1, (fb_w (gb, nb) a).2) b).2) q).1, (fb_w ((fb_w ((fb_w (gb, nb) a).1, (fb_w (gb, nb) a).2) b).1, (fb_w ((fb_w (gb, nb) a).1, (fb_w (gb, nb) a).2) b).2) q).2) d).2 + fb_cw v ≤ 160 by omega) en_137) (cwV 1 G0.2.2.2.2 g_X11_feed_X8_append_112 rfl rfl rfl (by decide +kernel) ⟨(Nat.le_of_ble_eq_true rfl), (Nat.le_of_ble_eq_true rfl)⟩) (py_preV hw (C := RX8) (T := TX8) (N := 4) rfl hr_149) rfl rfl hl.1 rfl (lv_room (Nat.le_of_ble_eq_true rfl)) dX11_feed_85 ⟨(Nat.le_of_ble_eq_true rfl), (Nat.le_of_ble_eq_true rfl)⟩) (fun L_151 f_152 H_153 locs hp_154 hw => ?_)
    have ht_161 := fo_ty hWF t_6
    obtain ⟨en_156, en_157, en_158, hWF, hq_159, kp_160⟩ := hp_154
    have hGI := hGI.kp hG Tx ht_161 hq_159 kp_160 (by decide)
    have hKP := hKP.trans kp_160 (by decide) (by decide)
    have hr_63 := kp_at kp_160 hWF Tx (by decide) (by decide) (by decide) hr_63
    have tq_162 := hy_eq hr_63
    refine lv_aload_n G0.1 G0.2.1 dX11_feed_88 rfl (lv_at hl 1 rfl) ?_
    refine py_get (C := RX11) (T := TX11) (N := 16) (k := 0) (v := .ref (G.2 x 0)) G0 hw in_X11_feed_X11 rfl hr_63 (by decide) (by decide +kernel) rfl dX11_feed_89 ?_
    obtain ⟨v_163, v_164, v_165, hr_168, b_166, b_167⟩ := wg_8 hWF t_1
    have bv_165 := wf_free v_165
    have tq_169 := tp_eq hr_168
    refine py_get (C := RX8) (T := TX8) (N := 4) (k := 1) (v := .int v_163) G0 hw in_X11_feed_X8 rfl hr_168 (by decide) (by decide +kernel) rfl dX11_feed_92 ?_
    exact py_iret G0 hr rfl hlk hw ⟨(Or.inr ⟨by omega, by omega, en_156, en_157⟩), hWF, hKP, hGI⟩ dX11_feed_95
  · skip
    have tc_74 := ti_nle c_74
    refine lv_iconst (v := (-1)) G0.1 G0.2.1 dX11_feed_44 (by decide) ?_
    exact py_iret G0 hr rfl hlk hw ⟨(Or.inl ⟨by omega, by omega, hTB, by omega⟩), hWF, hKP, hGI⟩ dX11_feed_45

def w_X11_end : List Cond := .code yX11_end cX11_end 2 (some .boolean) :: ([Cond.fieldLink RX11 10 "HeadYear" "tape" "LHeadYear$Tape;", Cond.fieldLink RX11 109 "HeadYear$Tape" "length" "I"] ++ (u_ws RX11 TX11 16 ++ (u_ws RX8 TX8 4 ++ ([]))))
theorem in_X11_end_X11 : ∀ w ∈ u_ws RX11 TX11 16, w ∈ w_X11_end := fun _ h => List.mem_cons_of_mem _ (List.mem_append_right _ (List.mem_append_left _ h))
theorem in_X11_end_X8 : ∀ w ∈ u_ws RX8 TX8 4, w ∈ w_X11_end := fun _ h => List.mem_cons_of_mem _ (List.mem_append_right _ (List.mem_append_right _ (List.mem_append_left _ h)))
set_option maxHeartbeats 4000000 in
set_option maxRecDepth 100000 in
theorem c_X11_end (l : Launch) (E : py_E) (G : wf_G) (L : List Nat) (f : py_F) (sz : Nat) (x : Nat) (a : Int32) (hG : GT G) (hWF : WF E G L f) (Tx : G.1 x = 12) (hq0 : GI E G f x) : Met l yX11_end w_X11_end ({ frames := 0, cells := 0, slots := 0, locals := 0 }) (py_Pc E [.ref x, .int a] L f sz) (py_Qi E L f sz (fun r L1 f1 => (0 ≤ r.toInt ∧ r.toInt ≤ 1) ∧ (r.toInt ≠ 0 → 0 ≤ a.toInt ∧ a.toInt ≤ tp_l f (G.2 x 0) ∧ tp_l f1 (G.2 x 0) = a.toInt) ∧ (r.toInt = 0 → (a.toInt < 0 ∨ tp_l f (G.2 x 0) < a.toInt) ∧ tp_l f1 (G.2 x 0) = tp_l f (G.2 x 0)) ∧ WF E G L1 f1 ∧ KP G [9] false f f1 ∧ GI E G f1 x)) 0 0 (va_A (va_pl L f) sz) := by
  refine Met.ofW (cc := cX11_end) (maxL := 2) (ret := (some .boolean)) (by decide) rfl ?_
  intro p e s m args below meth c s₁ B hml hv
  obtain ⟨rfl, rfl, hw⟩ := py_start hv
  have G0 : CallFix p m c cX11_end 2 s _ w_X11_end RX11 := ⟨B.exec, B.bytes, hml, findClass_of_methodNamed B.named, atoms_spec (ws := w_X11_end) B.pre⟩
  have hr := B.returns
  have hlk := B.notSynchronized
  have kcm1 : (-1 : Int32).toInt = -1 := rfl
  have kc0 : (0 : Int32).toInt = 0 := rfl
  have kc1 : (1 : Int32).toInt = 1 := rfl
  have hl := lv_entry ([.ref x, .int a]) (n := 2) (Nat.le_of_ble_eq_true rfl)
  rw [lg_entry_eq]
  generalize (lg_sl ([.ref x, .int a]) ++ List.replicate (2 - (lg_sl ([.ref x, .int a])).length) Slot.unset).toArray = ls at hl ⊢
  have hl : lv_has ls 2 [(0, .ref x), (1, .int a)] := hl
  have hGI := hq0
  have hKP : KP G [9] false f f := KP.refl
  obtain ⟨t_1, t_2, t_3, t_4, t_5, t_6, t_7, t_8, t_9, t_10, t_11, t_12, t_13, tx_14, tx_15, tx_16, tx_17⟩ := wt_11 hG Tx
  refine lv_iload_n G0.1 G0.2.1 dX11_end_0 rfl (lv_at hl 1 rfl) ?_
  refine lv_if_lt (tgt := 15) G0.1 G0.2.1 dX11_end_1 (by decide) (fun c_18 => ?_) (fun c_18 => ?_)
  · skip
    have tc_18 := ti_lt c_18
    refine lv_iconst (v := 0) G0.1 G0.2.1 dX11_end_15 (by decide) ?_
    exact py_iret G0 hr rfl hlk hw ⟨⟨by omega, by omega⟩, (by first | omega | (intro q; omega)), (by first | omega | (intro q; omega)), hWF, hKP, hGI⟩ dX11_end_16
  · skip
    have tc_18 := ti_nlt c_18
    refine lv_iload_n G0.1 G0.2.1 dX11_end_4 rfl (lv_at hl 1 rfl) ?_
    refine lv_aload_n G0.1 G0.2.1 dX11_end_5 rfl (lv_at hl 0 rfl) ?_
    obtain ⟨v_19, v_20, v_21, hr_25, b_22, b_23, b_24⟩ := wg_11 hWF Tx
    have tq_26 := hy_eq hr_25
    refine py_get (C := RX11) (T := TX11) (N := 16) (k := 0) (v := .ref (G.2 x 0)) G0 hw in_X11_end_X11 rfl hr_25 (by decide) (by decide +kernel) rfl dX11_end_6 ?_
    have t_27 := wt_8 hG t_1
    obtain ⟨v_28, v_29, v_30, hr_33, b_31, b_32⟩ := wg_8 hWF t_1
    have bv_30 := wf_free v_30
    have tq_34 := tp_eq hr_33
    refine py_get (C := RX8) (T := TX8) (N := 4) (k := 1) (v := .int v_28) G0 hw in_X11_end_X8 rfl hr_33 (by decide) (by decide +kernel) rfl dX11_end_9 ?_
    refine lv_icmp_le (tgt := 17) G0.1 G0.2.1 dX11_end_12 (by decide) (fun c_35 => ?_) (fun c_35 => ?_)
    · skip
      have tc_35 := ti_le c_35
      refine lv_aload_n G0.1 G0.2.1 dX11_end_17 rfl (lv_at hl 0 rfl) ?_
      refine py_get (C := RX11) (T := TX11) (N := 16) (k := 0) (v := .ref (G.2 x 0)) G0 hw in_X11_end_X11 rfl hr_25 (by decide) (by decide +kernel) rfl dX11_end_18 ?_
      refine lv_iload_n G0.1 G0.2.1 dX11_end_21 rfl (lv_at hl 1 rfl) ?_
      refine py_put (C := RX8) (T := TX8) (N := 4) (k := 1) (v := .int a) (fs' := [.ref (G.2 (G.2 x 0) 0), .int a, .int v_29, .int v_30]) (ty0 := tyX8) G0 hw tyX8_ok nmX8 in_X11_end_X8 rfl hr_33 (by decide) (by decide +kernel) rfl rfl rfl rfl (Nat.le_of_ble_eq_true rfl) rfl dX11_end_22 (fun f_36 H_37 locs h_38 x_39 hw => ?_)
      have hGI := hGI.kp hG Tx (fo_ty hWF t_6) (rp_upd hG hWF x_39 hr_33.2 h_38.2 (rp_code hG t_1 (by decide)) rfl : RP E G f f_36) (KP.refl.upd hWF x_39 t_1 (Or.inl (by decide)) : KP G [9] false f f_36) (by decide)
      have hKP := hKP.upd hWF x_39 t_1 (Or.inl (by decide))
      have hWF := wf_upd hWF h_38 x_39 (by rw [t_1]; exact ⟨a, v_29, v_30, rfl, ⟨by omega, by omega⟩, ⟨by omega, by omega⟩⟩)
      have tq_40 := tp_eq h_38
      have hr_25 := hr_25.ext x_39 (py_ne_kind hr_25 hr_33 (by decide))
      have tq_41 := hy_eq hr_25
      refine lv_iconst (v := 1) G0.1 G0.2.1 dX11_end_25 (by decide) ?_
      exact py_iret G0 hr rfl hlk hw ⟨⟨by omega, by omega⟩, (by first | omega | (intro q; omega)), (by first | omega | (intro q; omega)), hWF, hKP, hGI⟩ dX11_end_26
    · skip
      have tc_35 := ti_nle c_35
      refine lv_iconst (v := 0) G0.1 G0.2.1 dX11_end_15 (by decide) ?_
      exact py_iret G0 hr rfl hlk hw ⟨⟨by omega, by omega⟩, (by first | omega | (intro q; omega)), (by first | omega | (intro q; omega)), hWF, hKP, hGI⟩ dX11_end_16

def w_X11_fault : List Cond := .code yX11_fault cX11_fault 2 (some .int) :: ([Cond.fieldLink RX11 26 "HeadYear" "lawReader" "LHeadYear$LawReader;", Cond.fieldLink RX11 10 "HeadYear" "tape" "LHeadYear$Tape;", Cond.methodLink RX11 120 yX4_faultOf, Cond.instanceMethod yX4_faultOf, Cond.selects RX4 yX4_faultOf yX4_faultOf, Cond.initialized RX4, Cond.fieldLink RX11 19 "HeadYear" "valleyReader" "LHeadYear$ValleyReader;", Cond.methodLink RX11 116 yX10_faultOf, Cond.instanceMethod yX10_faultOf, Cond.selects RX10 yX10_faultOf yX10_faultOf, Cond.initialized RX10] ++ (u_ws RX11 TX11 16 ++ (w_X4_faultOf ++ (w_X10_faultOf ++ ([])))))
theorem in_X11_fault_X11 : ∀ w ∈ u_ws RX11 TX11 16, w ∈ w_X11_fault := fun _ h => List.mem_cons_of_mem _ (List.mem_append_right _ (List.mem_append_left _ h))
theorem gg_X11_fault_X4_faultOf : GoodIn w_X11_fault w_X4_faultOf := goodIn_sub (fun _ h => List.mem_cons_of_mem _ (List.mem_append_right _ (List.mem_append_right _ (List.mem_append_left _ h)))) (by decide +kernel)
theorem gg_X11_fault_X10_faultOf : GoodIn w_X11_fault w_X10_faultOf := goodIn_sub (fun _ h => List.mem_cons_of_mem _ (List.mem_append_right _ (List.mem_append_right _ (List.mem_append_right _ (List.mem_append_left _ h))))) (by decide +kernel)
theorem g_X11_fault_X10_faultOf_116 : GoodIn w_X11_fault (wsV RX11 116 RX10 yX10_faultOf w_X10_faultOf) := goodIn_app (goodIn_of _ (by decide +kernel)) gg_X11_fault_X10_faultOf
theorem g_X11_fault_X4_faultOf_120 : GoodIn w_X11_fault (wsV RX11 120 RX4 yX4_faultOf w_X4_faultOf) := goodIn_app (goodIn_of _ (by decide +kernel)) gg_X11_fault_X4_faultOf
set_option maxHeartbeats 4000000 in
set_option maxRecDepth 100000 in
theorem c_X11_fault (l : Launch) (E : py_E) (G : wf_G) (L : List Nat) (f : py_F) (sz : Nat) (x : Nat) (a : Int32) (gb : rs_B) (nb : Int) (hG : GT G) (hWF : WF E G L f) (Tx : G.1 x = 12) (hp0 : tp_l f (G.2 x 0) = nb ∧ 0 ≤ nb ∧ nb ≤ 160) (hq0 : GI E G f x) (hq1 : gfn f (G.2 (G.2 x 0) 0) = gb) (hq2 : rs_tp gb nb) : Met l yX11_fault w_X11_fault ({ frames := 62, cells := 0, slots := 0, locals := 3315 }) (py_Pc E [.ref x, .int a] L f sz) (py_Qi E L f sz (fun r L1 f1 => (tp_l f1 (G.2 x 0) = nb) ∧ (a.toInt = 0 → RVF gb nb r.toInt) ∧ (a.toInt = 1 → r.toInt = rs_law gb nb) ∧ (a.toInt ≠ 0 → a.toInt ≠ 1 → r.toInt = -2) ∧ (fv_l f1 (G.2 x 5) = fv_l f (G.2 x 5) ∧ fo_y f1 (G.2 x 5) = fo_y f (G.2 x 5) ∧ fo_y f1 (G.2 x 7) = fo_y f (G.2 x 7)) ∧ WF E G L1 f1 ∧ KP G [9, 36, 10, 24, 80, 27, 25, 26, 4, 20] false f f1 ∧ GI E G f1 x)) 0 0 (va_A (va_pl L f) sz) := by
  refine Met.ofW (cc := cX11_fault) (maxL := 2) (ret := (some .int)) (by decide) rfl ?_
  intro p e s m args below meth c s₁ B hml hv
  obtain ⟨rfl, rfl, hw⟩ := py_start hv
  have G0 : CallFix p m c cX11_fault 2 s _ w_X11_fault RX11 := ⟨B.exec, B.bytes, hml, findClass_of_methodNamed B.named, atoms_spec (ws := w_X11_fault) B.pre⟩
  have hr := B.returns
  have hlk := B.notSynchronized
  have kcm2 : (-2 : Int32).toInt = -2 := rfl
  have kcm1 : (-1 : Int32).toInt = -1 := rfl
  have kc0 : (0 : Int32).toInt = 0 := rfl
  have kc1 : (1 : Int32).toInt = 1 := rfl
  have hl := lv_entry ([.ref x, .int a]) (n := 2) (Nat.le_of_ble_eq_true rfl)
  rw [lg_entry_eq]
  generalize (lg_sl ([.ref x, .int a]) ++ List.replicate (2 - (lg_sl ([.ref x, .int a])).length) Slot.unset).toArray = ls at hl ⊢
  have hl : lv_has ls 2 [(0, .ref x), (1, .int a)] := hl
  have hGI := hq0
  have hKP : KP G [9, 36, 10, 24, 80, 27, 25, 26, 4, 20] false f f := KP.refl
  have hTB := hq1
  have hTP := hq2
  obtain ⟨t_1, t_2, t_3, t_4, t_5, t_6, t_7, t_8, t_9, t_10, t_11, t_12, t_13, tx_14, tx_15, tx_16, tx_17⟩ := wt_11 hG Tx
  refine lv_iload_n G0.1 G0.2.1 dX11_fault_0 rfl (lv_at hl 1 rfl) ?_
  refine lv_if_ne (tgt := 16) G0.1 G0.2.1 dX11_fault_1 (by decide) (fun c_18 => ?_) (fun c_18 => ?_)
  · skip
    have tc_18 := ti_ne c_18
    refine lv_iload_n G0.1 G0.2.1 dX11_fault_16 rfl (lv_at hl 1 rfl) ?_
    refine lv_iconst (v := 1) G0.1 G0.2.1 dX11_fault_17 (by decide) ?_
    refine lv_icmp_ne (tgt := 35) G0.1 G0.2.1 dX11_fault_18 (by decide) (fun c_19 => ?_) (fun c_19 => ?_)
    · skip
      have tc_19 := ti_ne c_19
      refine lv_bipush (v := (-2)) G0.1 G0.2.1 dX11_fault_35 (by decide) ?_
      exact py_iret G0 hr rfl hlk hw ⟨(by first | omega | (intro q; omega)), (fun q => absurd q (by omega)), (by first | omega | (intro q; omega)), (by first | omega | (intro q; omega)), (by first | omega | (intro q; omega)), hWF, hKP, hGI⟩ dX11_fault_37
    · skip
      have tc_19 := ti_eq c_19
      refine lv_aload_n G0.1 G0.2.1 dX11_fault_21 rfl (lv_at hl 0 rfl) ?_
      obtain ⟨v_20, v_21, v_22, hr_26, b_23, b_24, b_25⟩ := wg_11 hWF Tx
      have tq_27 := hy_eq hr_26
      refine py_get (C := RX11) (T := TX11) (N := 16) (k := 2) (v := .ref (G.2 x 2)) G0 hw in_X11_fault_X11 rfl hr_26 (by decide) (by decide +kernel) rfl dX11_fault_22 ?_
      refine lv_aload_n G0.1 G0.2.1 dX11_fault_25 rfl (lv_at hl 0 rfl) ?_
      refine py_get (C := RX11) (T := TX11) (N := 16) (k := 0) (v := .ref (G.2 x 0)) G0 hw in_X11_fault_X11 rfl hr_26 (by decide) (by decide +kernel) rfl dX11_fault_26 ?_
      obtain ⟨r_28, hr_30, ty_29⟩ := wg_4 hWF t_3
      refine py_calli hw (va_runV (As := [.ref (G.2 x 0)]) (rest := []) G0 (c_X4_faultOf l E G L f s.heap.size (G.2 x 2) (G.2 x 0) gb nb hG hWF t_3 t_1 (show tp_l f (G.2 x 0) = nb by omega) (show 0 ≤ nb ∧ nb ≤ 160 by omega) hTB hTP.tb) (cwV 1 G0.2.2.2.2 g_X11_fault_X4_faultOf_120 rfl rfl rfl (by decide +kernel) ⟨(Nat.le_of_ble_eq_true rfl), (Nat.le_of_ble_eq_true rfl)⟩) (py_preV hw (C := RX4) (T := TX4) (N := 1) rfl hr_30) rfl rfl hl.1 rfl (lv_room (Nat.le_of_ble_eq_true rfl)) dX11_fault_29 ⟨(Nat.le_of_ble_eq_true rfl), (Nat.le_of_ble_eq_true rfl)⟩) (fun r_35 L_31 f_32 H_33 locs hp_34 hw => ?_)
      have ht_41 := fo_ty hWF t_6
      have ht_42 := fo_ty hWF t_6
      have ht_43 := fo_ty hWF t_8
      obtain ⟨b_38, en_36, en_37, hWF, hq_39, kp_40⟩ := hp_34
      have hTB := (gfn_kp (kp_f kp_40 (wt_8 hG (wt_11 hG Tx).1) (by decide) (by decide) (fun _ => by decide))).trans hTB
      have hGI := hGI.kp hG Tx ht_41 hq_39 kp_40 (by decide)
      have fq_44 := fv_one hq_39 kp_40 (by decide) ht_42 t_6
      have fq_45 := fv_one hq_39 kp_40 (by decide) ht_43 t_8
      have hKP := hKP.trans kp_40 (by decide) (by decide)
      have hr_26 := kp_at kp_40 hWF Tx (by decide) (by decide) (by decide) hr_26
      have tq_46 := hy_eq hr_26
      have hr_30 := kp_at kp_40 hWF t_3 (by decide) (by decide) (by decide) hr_30
      refine lv_goto (tgt := 37) G0.1 G0.2.1 dX11_fault_32 (by decide) ?_
      exact py_iret G0 hr rfl hlk hw ⟨(by first | omega | (intro q; omega)), (fun q => absurd q (by omega)), (by first | omega | (intro q; omega)), (by first | omega | (intro q; omega)), (by first | omega | (intro q; omega)), hWF, hKP, hGI⟩ dX11_fault_37
  · skip
    have tc_18 := ti_eq c_18
    refine lv_aload_n G0.1 G0.2.1 dX11_fault_4 rfl (lv_at hl 0 rfl) ?_
    obtain ⟨v_47, v_48, v_49, hr_53, b_50, b_51, b_52⟩ := wg_11 hWF Tx
    have tq_54 := hy_eq hr_53
    refine py_get (C := RX11) (T := TX11) (N := 16) (k := 1) (v := .ref (G.2 x 1)) G0 hw in_X11_fault_X11 rfl hr_53 (by decide) (by decide +kernel) rfl dX11_fault_5 ?_
    refine lv_aload_n G0.1 G0.2.1 dX11_fault_8 rfl (lv_at hl 0 rfl) ?_
    refine py_get (C := RX11) (T := TX11) (N := 16) (k := 0) (v := .ref (G.2 x 0)) G0 hw in_X11_fault_X11 rfl hr_53 (by decide) (by decide +kernel) rfl dX11_fault_9 ?_
    have t_55 := wt_10 hG t_2
    obtain ⟨r_56, hr_58, ty_57⟩ := wg_10 hWF t_2
    have tq_59 := rd_eq hr_58
    refine py_calli hw (va_runV (As := [.ref (G.2 x 0)]) (rest := []) G0 (c_X10_faultOf l E G L f s.heap.size (G.2 x 1) (G.2 x 0) gb nb r_56 hG hWF t_2 t_1 (show tp_l f (G.2 x 0) = nb by omega) (show 0 ≤ nb ∧ nb ≤ 160 by omega) ty_57 (dr_eq hr_58) hTB hTP.tb) (cwV 1 G0.2.2.2.2 g_X11_fault_X10_faultOf_116 rfl rfl rfl (by decide +kernel) ⟨(Nat.le_of_ble_eq_true rfl), (Nat.le_of_ble_eq_true rfl)⟩) (py_preV hw (C := RX10) (T := TX10) (N := 2) rfl hr_58) rfl rfl hl.1 rfl (lv_room (Nat.le_of_ble_eq_true rfl)) dX11_fault_12 ⟨(Nat.le_of_ble_eq_true rfl), (Nat.le_of_ble_eq_true rfl)⟩) (fun r_64 L_60 f_61 H_62 locs hp_63 hw => ?_)
    have ht_73 := fo_ty hWF t_6
    have ht_74 := fo_ty hWF t_6
    have ht_75 := fo_ty hWF t_8
    obtain ⟨b_69, en_65, en_66, en_67, en_68, hWF, hq_70, kp_71, vo_72⟩ := hp_63
    have hTB := (gfn_kp (kp_f kp_71 (wt_8 hG (wt_11 hG Tx).1) (by decide) (by decide) (fun _ => by decide))).trans hTB
    have hGIo := hGI
    have hGI := hGI.vo hG Tx ht_73 hq_70 kp_71 vo_72 (by decide)
    have hKP := hKP.trans kp_71 (by decide) (by decide)
    have hr_53 := kp_at kp_71 hWF Tx (by decide) (by decide) (by decide) hr_53
    have tq_76 := hy_eq hr_53
    have hr_58 := kp_at kp_71 hWF t_2 (by decide) (by decide) (by decide) hr_58
    have tq_77 := rd_eq hr_58
    have fqv := fv_v (hq_70 _ t_6).2.1 (vo_72 _ ht_73 hGIo.2.1.1)
    have fqw := (hq_70 _ t_6).2
    have fqx := (hq_70 _ t_8).2
    exact py_iret G0 hr rfl hlk hw ⟨(by first | omega | (intro q; omega)), (fun _ => en_67), (by first | omega | (intro q; omega)), (by first | omega | (intro q; omega)), (by first | omega | (intro q; omega)), hWF, hKP, hGI⟩ dX11_fault_15

def w_X11_family : List Cond := .code yX11_family cX11_family 3 (some .int) :: ([Cond.methodLink RX11 163 yX11_isFamily, Cond.instanceMethod yX11_isFamily, Cond.selects RX11 yX11_isFamily yX11_isFamily, Cond.initialized RX11, Cond.fieldLink RX11 47 "HeadYear" "folk" "LHeadYear$Folk;", Cond.fieldLink RX11 167 "HeadYear$Folk" "heads" "[I", Cond.fieldLink RX11 170 "HeadYear$Folk" "level" "[I", Cond.fieldLink RX11 173 "HeadYear$Folk" "hut" "[I", Cond.fieldLink RX11 176 "HeadYear$Folk" "debt" "[I", Cond.methodLink RX11 179 yX2_want, Cond.instanceMethod yX2_want, Cond.selects RX2 yX2_want yX2_want, Cond.initialized RX2, Cond.fieldLink RX11 182 "HeadYear$Folk" "born" "[I", Cond.fieldLink RX11 185 "HeadYear$Folk" "dead" "[I", Cond.fieldLink RX11 188 "HeadYear$Folk" "bought" "[I", Cond.fieldLink RX11 191 "HeadYear$Folk" "hushed" "[Z", Cond.fieldLink RX11 195 "HeadYear$Folk" "spent" "[I", Cond.constant RX11 166 (-1000000)] ++ (u_ws RX11 TX11 16 ++ (u_ws RX2 TX2 12 ++ (w_X11_isFamily ++ (w_X2_want ++ ([]))))))
theorem in_X11_family_X11 : ∀ w ∈ u_ws RX11 TX11 16, w ∈ w_X11_family := fun _ h => List.mem_cons_of_mem _ (List.mem_append_right _ (List.mem_append_left _ h))
theorem in_X11_family_X2 : ∀ w ∈ u_ws RX2 TX2 12, w ∈ w_X11_family := fun _ h => List.mem_cons_of_mem _ (List.mem_append_right _ (List.mem_append_right _ (List.mem_append_left _ h)))
theorem gg_X11_family_X11_isFamily : GoodIn w_X11_family w_X11_isFamily := goodIn_sub (fun _ h => List.mem_cons_of_mem _ (List.mem_append_right _ (List.mem_append_right _ (List.mem_append_right _ (List.mem_append_left _ h))))) (by decide +kernel)
theorem gg_X11_family_X2_want : GoodIn w_X11_family w_X2_want := goodIn_sub (fun _ h => List.mem_cons_of_mem _ (List.mem_append_right _ (List.mem_append_right _ (List.mem_append_right _ (List.mem_append_right _ (List.mem_append_left _ h)))))) (by decide +kernel)
theorem g_X11_family_X11_isFamily_163 : GoodIn w_X11_family (wsV RX11 163 RX11 yX11_isFamily w_X11_isFamily) := goodIn_app (goodIn_of _ (by decide +kernel)) gg_X11_family_X11_isFamily
theorem g_X11_family_X2_want_179 : GoodIn w_X11_family (wsV RX11 179 RX2 yX2_want w_X2_want) := goodIn_app (goodIn_of _ (by decide +kernel)) gg_X11_family_X2_want
theorem sw_X11_family_12 (x : Int32) : x = 0 ∨ x = 1 ∨ x = 2 ∨ x = 3 ∨ x = 4 ∨ x = 5 ∨ x = 6 ∨ x = 7 ∨ x = 8 ∨ x = 9 ∨ (x.toInt < 0 ∨ 9 < x.toInt) := by
  by_cases h0 : x = 0
  · exact Or.inl h0
  by_cases h1 : x = 1
  · exact Or.inr (Or.inl h1)
  by_cases h2 : x = 2
  · exact Or.inr (Or.inr (Or.inl h2))
  by_cases h3 : x = 3
  · exact Or.inr (Or.inr (Or.inr (Or.inl h3)))
  by_cases h4 : x = 4
  · exact Or.inr (Or.inr (Or.inr (Or.inr (Or.inl h4))))
  by_cases h5 : x = 5
  · exact Or.inr (Or.inr (Or.inr (Or.inr (Or.inr (Or.inl h5)))))
  by_cases h6 : x = 6
  · exact Or.inr (Or.inr (Or.inr (Or.inr (Or.inr (Or.inr (Or.inl h6))))))
  by_cases h7 : x = 7
  · exact Or.inr (Or.inr (Or.inr (Or.inr (Or.inr (Or.inr (Or.inr (Or.inl h7)))))))
  by_cases h8 : x = 8
  · exact Or.inr (Or.inr (Or.inr (Or.inr (Or.inr (Or.inr (Or.inr (Or.inr (Or.inl h8))))))))
  by_cases h9 : x = 9
  · exact Or.inr (Or.inr (Or.inr (Or.inr (Or.inr (Or.inr (Or.inr (Or.inr (Or.inr (Or.inl h9)))))))))
  have t0 := ti_ne h0
  have k0 : (0 : Int32).toInt = 0 := rfl
  have t1 := ti_ne h1
  have k1 : (1 : Int32).toInt = 1 := rfl
  have t2 := ti_ne h2
  have k2 : (2 : Int32).toInt = 2 := rfl
  have t3 := ti_ne h3
  have k3 : (3 : Int32).toInt = 3 := rfl
  have t4 := ti_ne h4
  have k4 : (4 : Int32).toInt = 4 := rfl
  have t5 := ti_ne h5
  have k5 : (5 : Int32).toInt = 5 := rfl
  have t6 := ti_ne h6
  have k6 : (6 : Int32).toInt = 6 := rfl
  have t7 := ti_ne h7
  have k7 : (7 : Int32).toInt = 7 := rfl
  have t8 := ti_ne h8
  have k8 : (8 : Int32).toInt = 8 := rfl
  have t9 := ti_ne h9
  have k9 : (9 : Int32).toInt = 9 := rfl
  exact Or.inr (Or.inr (Or.inr (Or.inr (Or.inr (Or.inr (Or.inr (Or.inr (Or.inr (Or.inr ((by omega)))))))))))
set_option maxHeartbeats 4000000 in
set_option maxRecDepth 100000 in
theorem c_X11_family (l : Launch) (E : py_E) (G : wf_G) (L : List Nat) (f : py_F) (sz : Nat) (x : Nat) (a : Int32) (b : Int32) (hG : GT G) (hWF : WF E G L f) (Tx : G.1 x = 12) : Met l yX11_family w_X11_family ({ frames := 2, cells := 0, slots := 0, locals := 46 }) (py_Pc E [.ref x, .int a, .int b] L f sz) (py_Qi E L f sz (fun _ L1 f1 => L = L1 ∧ f = f1)) 0 0 (va_A (va_pl L f) sz) := by
  refine Met.ofW (cc := cX11_family) (maxL := 3) (ret := (some .int)) (by decide) rfl ?_
  intro p e s m args below meth c s₁ B hml hv
  obtain ⟨rfl, rfl, hw⟩ := py_start hv
  have G0 : CallFix p m c cX11_family 3 s _ w_X11_family RX11 := ⟨B.exec, B.bytes, hml, findClass_of_methodNamed B.named, atoms_spec (ws := w_X11_family) B.pre⟩
  have hr := B.returns
  have hlk := B.notSynchronized
  have kcm1000000 : (-1000000 : Int32).toInt = -1000000 := rfl
  have kcm1 : (-1 : Int32).toInt = -1 := rfl
  have kc0 : (0 : Int32).toInt = 0 := rfl
  have kc1 : (1 : Int32).toInt = 1 := rfl
  have kc2 : (2 : Int32).toInt = 2 := rfl
  have kc3 : (3 : Int32).toInt = 3 := rfl
  have kc4 : (4 : Int32).toInt = 4 := rfl
  have kc5 : (5 : Int32).toInt = 5 := rfl
  have kc6 : (6 : Int32).toInt = 6 := rfl
  have kc7 : (7 : Int32).toInt = 7 := rfl
  have kc8 : (8 : Int32).toInt = 8 := rfl
  have kc9 : (9 : Int32).toInt = 9 := rfl
  have hl := lv_entry ([.ref x, .int a, .int b]) (n := 3) (Nat.le_of_ble_eq_true rfl)
  rw [lg_entry_eq]
  generalize (lg_sl ([.ref x, .int a, .int b]) ++ List.replicate (3 - (lg_sl ([.ref x, .int a, .int b])).length) Slot.unset).toArray = ls at hl ⊢
  have hl : lv_has ls 3 [(0, .ref x), (1, .int a), (2, .int b)] := hl
  have hRP : RP E G f f := RP.refl
  refine lv_aload_n G0.1 G0.2.1 dX11_family_0 rfl (lv_at hl 0 rfl) ?_
  refine lv_iload_n G0.1 G0.2.1 dX11_family_1 rfl (lv_at hl 1 rfl) ?_
  obtain ⟨t_1, t_2, t_3, t_4, t_5, t_6, t_7, t_8, t_9, t_10, t_11, t_12, t_13, tx_14, tx_15, tx_16, tx_17⟩ := wt_11 hG Tx
  obtain ⟨v_18, v_19, v_20, hr_24, b_21, b_22, b_23⟩ := wg_11 hWF Tx
  have tq_25 := hy_eq hr_24
  refine py_calli hw (va_runV (As := [.int a]) (rest := []) G0 (c_X11_isFamily l E G L f s.heap.size x a hG hWF Tx) (cwV 1 G0.2.2.2.2 g_X11_family_X11_isFamily_163 rfl rfl rfl (by decide +kernel) ⟨(Nat.le_of_ble_eq_true rfl), (Nat.le_of_ble_eq_true rfl)⟩) (py_preV hw (C := RX11) (T := TX11) (N := 16) rfl hr_24) rfl rfl hl.1 rfl (lv_room (Nat.le_of_ble_eq_true rfl)) dX11_family_2 ⟨(Nat.le_of_ble_eq_true rfl), (Nat.le_of_ble_eq_true rfl)⟩) (fun r_30 L_26 f_27 H_28 locs hp_29 hw => ?_)
  obtain ⟨b_32, en_31, rfl, rfl⟩ := hp_29
  refine lv_if_ne (tgt := 11) G0.1 G0.2.1 dX11_family_5 (by decide) (fun c_33 => ?_) (fun c_33 => ?_)
  · skip
    have tc_33 := ti_ne c_33
    refine lv_iload_n G0.1 G0.2.1 dX11_family_11 rfl (lv_at hl 2 rfl) ?_
    rcases sw_X11_family_12 b with e_sw | e_sw | e_sw | e_sw | e_sw | e_sw | e_sw | e_sw | e_sw | e_sw | e_sw
    · skip
      have te := ti_eq e_sw
      refine lv_tableIn (off := 56) (tgt := 68) G0.1 G0.2.1 dX11_family_12 (by omega) (by omega) (by rw [e_sw]; decide) (by decide) ?_
      refine lv_aload_n G0.1 G0.2.1 dX11_family_68 rfl (lv_at hl 0 rfl) ?_
      refine py_get (C := RX11) (T := TX11) (N := 16) (k := 5) (v := .ref (G.2 x 5)) G0 hw in_X11_family_X11 rfl hr_24 (by decide) (by decide +kernel) rfl dX11_family_69 ?_
      obtain ⟨t_34, t_35, t_36, t_37, t_38, t_39, t_40, t_41, t_42⟩ := wt_2 hG t_6
      obtain ⟨r_43, y_44, v_45, hr_48, ty_46, b_47⟩ := wg_2 hWF t_6
      refine py_get (C := RX2) (T := TX2) (N := 12) (k := 0) (v := .ref (G.2 (G.2 x 5) 0)) G0 hw in_X11_family_X2 rfl hr_48 (by decide) (by decide +kernel) rfl dX11_family_72 ?_
      refine lv_iload_n G0.1 G0.2.1 dX11_family_75 rfl (lv_at hl 1 rfl) ?_
      obtain ⟨g_49, ha_50, hi_51⟩ := wf_arr (n := 10) (lo := 0) (hi := 20) hWF t_34 (by omega) (wf_own0 E G _ (G.2 x 5))
      have rg_52 : vp_in a 10 := ti_in (by omega) (by omega)
      refine py_iald G0 hw ha_50 rg_52 dX11_family_76 ?_
      refine lv_topi (fun x_53 ex_53 => ?_)
      have bx_53 := ti_at hi_51 rg_52 ex_53
      exact py_iret G0 hr rfl hlk hw ⟨rfl, rfl⟩ dX11_family_77
    · skip
      have te := ti_eq e_sw
      refine lv_tableIn (off := 66) (tgt := 78) G0.1 G0.2.1 dX11_family_12 (by omega) (by omega) (by rw [e_sw]; decide) (by decide) ?_
      refine lv_aload_n G0.1 G0.2.1 dX11_family_78 rfl (lv_at hl 0 rfl) ?_
      refine py_get (C := RX11) (T := TX11) (N := 16) (k := 5) (v := .ref (G.2 x 5)) G0 hw in_X11_family_X11 rfl hr_24 (by decide) (by decide +kernel) rfl dX11_family_79 ?_
      obtain ⟨t_54, t_55, t_56, t_57, t_58, t_59, t_60, t_61, t_62⟩ := wt_2 hG t_6
      obtain ⟨r_63, y_64, v_65, hr_68, ty_66, b_67⟩ := wg_2 hWF t_6
      refine py_get (C := RX2) (T := TX2) (N := 12) (k := 1) (v := .ref (G.2 (G.2 x 5) 1)) G0 hw in_X11_family_X2 rfl hr_68 (by decide) (by decide +kernel) rfl dX11_family_82 ?_
      refine lv_iload_n G0.1 G0.2.1 dX11_family_85 rfl (lv_at hl 1 rfl) ?_
      obtain ⟨g_69, ha_70, hi_71⟩ := wf_arr (n := 10) (lo := (-1)) (hi := 7) hWF t_55 (by omega) (wf_own1 E G _ (G.2 x 5))
      have rg_72 : vp_in a 10 := ti_in (by omega) (by omega)
      refine py_iald G0 hw ha_70 rg_72 dX11_family_86 ?_
      refine lv_topi (fun x_73 ex_73 => ?_)
      have bx_73 := ti_at hi_71 rg_72 ex_73
      exact py_iret G0 hr rfl hlk hw ⟨rfl, rfl⟩ dX11_family_87
    · skip
      have te := ti_eq e_sw
      refine lv_tableIn (off := 76) (tgt := 88) G0.1 G0.2.1 dX11_family_12 (by omega) (by omega) (by rw [e_sw]; decide) (by decide) ?_
      refine lv_aload_n G0.1 G0.2.1 dX11_family_88 rfl (lv_at hl 0 rfl) ?_
      refine py_get (C := RX11) (T := TX11) (N := 16) (k := 5) (v := .ref (G.2 x 5)) G0 hw in_X11_family_X11 rfl hr_24 (by decide) (by decide +kernel) rfl dX11_family_89 ?_
      obtain ⟨t_74, t_75, t_76, t_77, t_78, t_79, t_80, t_81, t_82⟩ := wt_2 hG t_6
      obtain ⟨r_83, y_84, v_85, hr_88, ty_86, b_87⟩ := wg_2 hWF t_6
      refine py_get (C := RX2) (T := TX2) (N := 12) (k := 2) (v := .ref (G.2 (G.2 x 5) 2)) G0 hw in_X11_family_X2 rfl hr_88 (by decide) (by decide +kernel) rfl dX11_family_92 ?_
      refine lv_iload_n G0.1 G0.2.1 dX11_family_95 rfl (lv_at hl 1 rfl) ?_
      obtain ⟨g_89, ha_90, hi_91⟩ := wf_arr (n := 10) (lo := (-2147483648)) (hi := 2147483647) hWF t_76 (by decide) (fun _ => rfl)
      have rg_92 : vp_in a 10 := ti_in (by omega) (by omega)
      refine py_iald G0 hw ha_90 rg_92 dX11_family_96 ?_
      refine lv_topi (fun x_93 ex_93 => ?_)
      have bx_93 := wf_free x_93
      exact py_iret G0 hr rfl hlk hw ⟨rfl, rfl⟩ dX11_family_97
    · skip
      have te := ti_eq e_sw
      refine lv_tableIn (off := 86) (tgt := 98) G0.1 G0.2.1 dX11_family_12 (by omega) (by omega) (by rw [e_sw]; decide) (by decide) ?_
      refine lv_aload_n G0.1 G0.2.1 dX11_family_98 rfl (lv_at hl 0 rfl) ?_
      refine py_get (C := RX11) (T := TX11) (N := 16) (k := 5) (v := .ref (G.2 x 5)) G0 hw in_X11_family_X11 rfl hr_24 (by decide) (by decide +kernel) rfl dX11_family_99 ?_
      obtain ⟨t_94, t_95, t_96, t_97, t_98, t_99, t_100, t_101, t_102⟩ := wt_2 hG t_6
      obtain ⟨r_103, y_104, v_105, hr_108, ty_106, b_107⟩ := wg_2 hWF t_6
      refine py_get (C := RX2) (T := TX2) (N := 12) (k := 3) (v := .ref (G.2 (G.2 x 5) 3)) G0 hw in_X11_family_X2 rfl hr_108 (by decide) (by decide +kernel) rfl dX11_family_102 ?_
      refine lv_iload_n G0.1 G0.2.1 dX11_family_105 rfl (lv_at hl 1 rfl) ?_
      obtain ⟨g_109, ha_110, hi_111⟩ := wf_arr (n := 10) (lo := (-2147483648)) (hi := 2147483647) hWF t_97 (by decide) (fun _ => rfl)
      have rg_112 : vp_in a 10 := ti_in (by omega) (by omega)
      refine py_iald G0 hw ha_110 rg_112 dX11_family_106 ?_
      refine lv_topi (fun x_113 ex_113 => ?_)
      have bx_113 := wf_free x_113
      exact py_iret G0 hr rfl hlk hw ⟨rfl, rfl⟩ dX11_family_107
    · skip
      have te := ti_eq e_sw
      refine lv_tableIn (off := 96) (tgt := 108) G0.1 G0.2.1 dX11_family_12 (by omega) (by omega) (by rw [e_sw]; decide) (by decide) ?_
      refine lv_aload_n G0.1 G0.2.1 dX11_family_108 rfl (lv_at hl 0 rfl) ?_
      refine py_get (C := RX11) (T := TX11) (N := 16) (k := 5) (v := .ref (G.2 x 5)) G0 hw in_X11_family_X11 rfl hr_24 (by decide) (by decide +kernel) rfl dX11_family_109 ?_
      refine lv_iload_n G0.1 G0.2.1 dX11_family_112 rfl (lv_at hl 1 rfl) ?_
      obtain ⟨t_114, t_115, t_116, t_117, t_118, t_119, t_120, t_121, t_122⟩ := wt_2 hG t_6
      obtain ⟨r_123, y_124, v_125, hr_128, ty_126, b_127⟩ := wg_2 hWF t_6
      refine py_calli hw (va_runV (As := [.int a]) (rest := []) G0 (c_X2_want l E G L f H_28.size (G.2 x 5) a hG hWF t_6 ⟨by omega, by omega⟩) (cwV 1 G0.2.2.2.2 g_X11_family_X2_want_179 rfl rfl rfl (by decide +kernel) ⟨(Nat.le_of_ble_eq_true rfl), (Nat.le_of_ble_eq_true rfl)⟩) (py_preV hw (C := RX2) (T := TX2) (N := 12) rfl hr_128) rfl rfl hl.1 rfl (lv_room (Nat.le_of_ble_eq_true rfl)) dX11_family_113 ⟨(Nat.le_of_ble_eq_true rfl), (Nat.le_of_ble_eq_true rfl)⟩) (fun r_133 L_129 f_130 H_131 locs hp_132 hw => ?_)
      obtain ⟨b_135, en_134, rfl, rfl⟩ := hp_132
      exact py_iret G0 hr rfl hlk hw ⟨rfl, rfl⟩ dX11_family_116
    · skip
      have te := ti_eq e_sw
      refine lv_tableIn (off := 105) (tgt := 117) G0.1 G0.2.1 dX11_family_12 (by omega) (by omega) (by rw [e_sw]; decide) (by decide) ?_
      refine lv_aload_n G0.1 G0.2.1 dX11_family_117 rfl (lv_at hl 0 rfl) ?_
      refine py_get (C := RX11) (T := TX11) (N := 16) (k := 5) (v := .ref (G.2 x 5)) G0 hw in_X11_family_X11 rfl hr_24 (by decide) (by decide +kernel) rfl dX11_family_118 ?_
      obtain ⟨t_136, t_137, t_138, t_139, t_140, t_141, t_142, t_143, t_144⟩ := wt_2 hG t_6
      obtain ⟨r_145, y_146, v_147, hr_150, ty_148, b_149⟩ := wg_2 hWF t_6
      refine py_get (C := RX2) (T := TX2) (N := 12) (k := 4) (v := .ref (G.2 (G.2 x 5) 4)) G0 hw in_X11_family_X2 rfl hr_150 (by decide) (by decide +kernel) rfl dX11_family_121 ?_
      refine lv_iload_n G0.1 G0.2.1 dX11_family_124 rfl (lv_at hl 1 rfl) ?_
      obtain ⟨g_151, ha_152, hi_153⟩ := wf_arr (n := 10) (lo := (-2147483648)) (hi := 2147483647) hWF t_140 (by decide) (fun _ => rfl)
      have rg_154 : vp_in a 10 := ti_in (by omega) (by omega)
      refine py_iald G0 hw ha_152 rg_154 dX11_family_125 ?_
      refine lv_topi (fun x_155 ex_155 => ?_)
      have bx_155 := wf_free x_155
      exact py_iret G0 hr rfl hlk hw ⟨rfl, rfl⟩ dX11_family_126
    · skip
      have te := ti_eq e_sw
      refine lv_tableIn (off := 115) (tgt := 127) G0.1 G0.2.1 dX11_family_12 (by omega) (by omega) (by rw [e_sw]; decide) (by decide) ?_
      refine lv_aload_n G0.1 G0.2.1 dX11_family_127 rfl (lv_at hl 0 rfl) ?_
      refine py_get (C := RX11) (T := TX11) (N := 16) (k := 5) (v := .ref (G.2 x 5)) G0 hw in_X11_family_X11 rfl hr_24 (by decide) (by decide +kernel) rfl dX11_family_128 ?_
      obtain ⟨t_156, t_157, t_158, t_159, t_160, t_161, t_162, t_163, t_164⟩ := wt_2 hG t_6
      obtain ⟨r_165, y_166, v_167, hr_170, ty_168, b_169⟩ := wg_2 hWF t_6
      refine py_get (C := RX2) (T := TX2) (N := 12) (k := 5) (v := .ref (G.2 (G.2 x 5) 5)) G0 hw in_X11_family_X2 rfl hr_170 (by decide) (by decide +kernel) rfl dX11_family_131 ?_
      refine lv_iload_n G0.1 G0.2.1 dX11_family_134 rfl (lv_at hl 1 rfl) ?_
      obtain ⟨g_171, ha_172, hi_173⟩ := wf_arr (n := 10) (lo := (-2147483648)) (hi := 2147483647) hWF t_161 (by decide) (fun _ => rfl)
      have rg_174 : vp_in a 10 := ti_in (by omega) (by omega)
      refine py_iald G0 hw ha_172 rg_174 dX11_family_135 ?_
      refine lv_topi (fun x_175 ex_175 => ?_)
      have bx_175 := wf_free x_175
      exact py_iret G0 hr rfl hlk hw ⟨rfl, rfl⟩ dX11_family_136
    · skip
      have te := ti_eq e_sw
      refine lv_tableIn (off := 125) (tgt := 137) G0.1 G0.2.1 dX11_family_12 (by omega) (by omega) (by rw [e_sw]; decide) (by decide) ?_
      refine lv_aload_n G0.1 G0.2.1 dX11_family_137 rfl (lv_at hl 0 rfl) ?_
      refine py_get (C := RX11) (T := TX11) (N := 16) (k := 5) (v := .ref (G.2 x 5)) G0 hw in_X11_family_X11 rfl hr_24 (by decide) (by decide +kernel) rfl dX11_family_138 ?_
      obtain ⟨t_176, t_177, t_178, t_179, t_180, t_181, t_182, t_183, t_184⟩ := wt_2 hG t_6
      obtain ⟨r_185, y_186, v_187, hr_190, ty_188, b_189⟩ := wg_2 hWF t_6
      refine py_get (C := RX2) (T := TX2) (N := 12) (k := 6) (v := .ref (G.2 (G.2 x 5) 6)) G0 hw in_X11_family_X2 rfl hr_190 (by decide) (by decide +kernel) rfl dX11_family_141 ?_
      refine lv_iload_n G0.1 G0.2.1 dX11_family_144 rfl (lv_at hl 1 rfl) ?_
      obtain ⟨g_191, ha_192, hi_193⟩ := wf_arr (n := 10) (lo := (-2147483648)) (hi := 2147483647) hWF t_182 (by decide) (fun _ => rfl)
      have rg_194 : vp_in a 10 := ti_in (by omega) (by omega)
      refine py_iald G0 hw ha_192 rg_194 dX11_family_145 ?_
      refine lv_topi (fun x_195 ex_195 => ?_)
      have bx_195 := wf_free x_195
      exact py_iret G0 hr rfl hlk hw ⟨rfl, rfl⟩ dX11_family_146
    · skip
      have te := ti_eq e_sw
      refine lv_tableIn (off := 135) (tgt := 147) G0.1 G0.2.1 dX11_family_12 (by omega) (by omega) (by rw [e_sw]; decide) (by decide) ?_
      refine lv_aload_n G0.1 G0.2.1 dX11_family_147 rfl (lv_at hl 0 rfl) ?_
      refine py_get (C := RX11) (T := TX11) (N := 16) (k := 5) (v := .ref (G.2 x 5)) G0 hw in_X11_family_X11 rfl hr_24 (by decide) (by decide +kernel) rfl dX11_family_148 ?_
      obtain ⟨t_196, t_197, t_198, t_199, t_200, t_201, t_202, t_203, t_204⟩ := wt_2 hG t_6
      obtain ⟨r_205, y_206, v_207, hr_210, ty_208, b_209⟩ := wg_2 hWF t_6
      refine py_get (C := RX2) (T := TX2) (N := 12) (k := 8) (v := .ref (G.2 (G.2 x 5) 8)) G0 hw in_X11_family_X2 rfl hr_210 (by decide) (by decide +kernel) rfl dX11_family_151 ?_
      refine lv_iload_n G0.1 G0.2.1 dX11_family_154 rfl (lv_at hl 1 rfl) ?_
      obtain ⟨g_211, ha_212⟩ := wf_z30 hWF t_204
      have rg_213 : vp_in a 10 := ti_in (by omega) (by omega)
      refine py_zald G0 hw ha_212 rg_213 dX11_family_155 ?_
      refine lv_topi (fun x_214 ex_214 => ?_)
      have jn_164 : ∀ (v_215 : Int32) (H_j164 : Heap) (locs : List Loc) (ls : Array Slot), (0 ≤ v_215.toInt ∧ v_215.toInt ≤ 1) → py_W E (va_A (va_pl L f) s.heap.size) s L f H_j164 locs → lv_has ls 3 [(0, .ref x), (1, .int a), (2, .int b)] → W p l e (headSpec w_X11_family ({ frames := 2, cells := 0, slots := 0, locals := 46 })).room s m ([.ref x, .int a, .int b] : List Value).toArray below meth c H_j164 locs 0 0 (MQ below (py_Qi E L f s.heap.size (fun _ L1 f1 => L = L1 ∧ f = f1)) ([.ref x, .int a, .int b] : List Value).toArray s 0 0 (va_A (va_pl L f) s.heap.size)) (F0 m 164 ls [.int v_215]) := by
        intro v_215 H_j164 locs ls bv_215 hw hl
        exact py_iret G0 hr rfl hlk hw ⟨rfl, rfl⟩ dX11_family_164
      refine lv_if_eq (tgt := 163) G0.1 G0.2.1 dX11_family_156 (by decide) (fun c_216 => ?_) (fun c_216 => ?_)
      · skip
        have tc_216 := ti_eq c_216
        refine lv_iconst (v := 0) G0.1 G0.2.1 dX11_family_163 (by decide) ?_
        exact jn_164 0 _ _ ls ⟨by omega, by omega⟩ hw (lv_sub hl [0, 1, 2] rfl)
      · skip
        have tc_216 := ti_ne c_216
        refine lv_iconst (v := 1) G0.1 G0.2.1 dX11_family_159 (by decide) ?_
        refine lv_goto (tgt := 164) G0.1 G0.2.1 dX11_family_160 (by decide) ?_
        exact jn_164 1 _ _ ls ⟨by omega, by omega⟩ hw (lv_sub hl [0, 1, 2] rfl)
    · skip
      have te := ti_eq e_sw
      refine lv_tableIn (off := 153) (tgt := 165) G0.1 G0.2.1 dX11_family_12 (by omega) (by omega) (by rw [e_sw]; decide) (by decide) ?_
      refine lv_aload_n G0.1 G0.2.1 dX11_family_165 rfl (lv_at hl 0 rfl) ?_
      refine py_get (C := RX11) (T := TX11) (N := 16) (k := 5) (v := .ref (G.2 x 5)) G0 hw in_X11_family_X11 rfl hr_24 (by decide) (by decide +kernel) rfl dX11_family_166 ?_
      obtain ⟨t_217, t_218, t_219, t_220, t_221, t_222, t_223, t_224, t_225⟩ := wt_2 hG t_6
      obtain ⟨r_226, y_227, v_228, hr_231, ty_229, b_230⟩ := wg_2 hWF t_6
      refine py_get (C := RX2) (T := TX2) (N := 12) (k := 7) (v := .ref (G.2 (G.2 x 5) 7)) G0 hw in_X11_family_X2 rfl hr_231 (by decide) (by decide +kernel) rfl dX11_family_169 ?_
      refine lv_iload_n G0.1 G0.2.1 dX11_family_172 rfl (lv_at hl 1 rfl) ?_
      obtain ⟨g_232, ha_233, hi_234⟩ := wf_arr (n := 10) (lo := (-2147483648)) (hi := 2147483647) hWF t_224 (by decide) (fun _ => rfl)
      have rg_235 : vp_in a 10 := ti_in (by omega) (by omega)
      refine py_iald G0 hw ha_233 rg_235 dX11_family_173 ?_
      refine lv_topi (fun x_236 ex_236 => ?_)
      have bx_236 := wf_free x_236
      exact py_iret G0 hr rfl hlk hw ⟨rfl, rfl⟩ dX11_family_174
    · skip
      refine lv_tableOut (tgt := 175) G0.1 G0.2.1 dX11_family_12 e_sw (by decide) ?_
      refine lv_ldc (v := (-1000000)) G0.1 G0.2.1 G0.2.2.2.1 (G0.2.2.2.2 (Cond.constant RX11 166 (-1000000)) (by decide +kernel)) dX11_family_175 ?_
      exact py_iret G0 hr rfl hlk hw ⟨rfl, rfl⟩ dX11_family_177
  · skip
    have tc_33 := ti_eq c_33
    refine lv_ldc (v := (-1000000)) G0.1 G0.2.1 G0.2.2.2.1 (G0.2.2.2.2 (Cond.constant RX11 166 (-1000000)) (by decide +kernel)) dX11_family_8 ?_
    exact py_iret G0 hr rfl hlk hw ⟨rfl, rfl⟩ dX11_family_10

def w_X11_hut : List Cond := .code yX11_hut cX11_hut 3 (some .int) :: ([Cond.methodLink RX11 132 yX11_isLevel, Cond.instanceMethod yX11_isLevel, Cond.selects RX11 yX11_isLevel yX11_isLevel, Cond.initialized RX11, Cond.fieldLink RX11 47 "HeadYear" "folk" "LHeadYear$Folk;", Cond.methodLink RX11 198 yX2_dweller, Cond.instanceMethod yX2_dweller, Cond.selects RX2 yX2_dweller yX2_dweller, Cond.initialized RX2] ++ (u_ws RX11 TX11 16 ++ (w_X11_isLevel ++ (w_X2_dweller ++ ([])))))
theorem in_X11_hut_X11 : ∀ w ∈ u_ws RX11 TX11 16, w ∈ w_X11_hut := fun _ h => List.mem_cons_of_mem _ (List.mem_append_right _ (List.mem_append_left _ h))
theorem gg_X11_hut_X11_isLevel : GoodIn w_X11_hut w_X11_isLevel := goodIn_sub (fun _ h => List.mem_cons_of_mem _ (List.mem_append_right _ (List.mem_append_right _ (List.mem_append_left _ h)))) (by decide +kernel)
theorem gg_X11_hut_X2_dweller : GoodIn w_X11_hut w_X2_dweller := goodIn_sub (fun _ h => List.mem_cons_of_mem _ (List.mem_append_right _ (List.mem_append_right _ (List.mem_append_right _ (List.mem_append_left _ h))))) (by decide +kernel)
theorem g_X11_hut_X11_isLevel_132 : GoodIn w_X11_hut (wsV RX11 132 RX11 yX11_isLevel w_X11_isLevel) := goodIn_app (goodIn_of _ (by decide +kernel)) gg_X11_hut_X11_isLevel
theorem g_X11_hut_X2_dweller_198 : GoodIn w_X11_hut (wsV RX11 198 RX2 yX2_dweller w_X2_dweller) := goodIn_app (goodIn_of _ (by decide +kernel)) gg_X11_hut_X2_dweller
set_option maxHeartbeats 4000000 in
set_option maxRecDepth 100000 in
theorem c_X11_hut (l : Launch) (E : py_E) (G : wf_G) (L : List Nat) (f : py_F) (sz : Nat) (x : Nat) (a : Int32) (b : Int32) (hG : GT G) (hWF : WF E G L f) (Tx : G.1 x = 12) : Met l yX11_hut w_X11_hut ({ frames := 1, cells := 0, slots := 0, locals := 23 }) (py_Pc E [.ref x, .int a, .int b] L f sz) (py_Qi E L f sz (fun _ L1 f1 => L = L1 ∧ f = f1)) 0 0 (va_A (va_pl L f) sz) := by
  refine Met.ofW (cc := cX11_hut) (maxL := 3) (ret := (some .int)) (by decide) rfl ?_
  intro p e s m args below meth c s₁ B hml hv
  obtain ⟨rfl, rfl, hw⟩ := py_start hv
  have G0 : CallFix p m c cX11_hut 3 s _ w_X11_hut RX11 := ⟨B.exec, B.bytes, hml, findClass_of_methodNamed B.named, atoms_spec (ws := w_X11_hut) B.pre⟩
  have hr := B.returns
  have hlk := B.notSynchronized
  have kcm1 : (-1 : Int32).toInt = -1 := rfl
  have kc0 : (0 : Int32).toInt = 0 := rfl
  have kc1 : (1 : Int32).toInt = 1 := rfl
  have hl := lv_entry ([.ref x, .int a, .int b]) (n := 3) (Nat.le_of_ble_eq_true rfl)
  rw [lg_entry_eq]
  generalize (lg_sl ([.ref x, .int a, .int b]) ++ List.replicate (3 - (lg_sl ([.ref x, .int a, .int b])).length) Slot.unset).toArray = ls at hl ⊢
  have hl : lv_has ls 3 [(0, .ref x), (1, .int a), (2, .int b)] := hl
  have hRP : RP E G f f := RP.refl
  refine lv_aload_n G0.1 G0.2.1 dX11_hut_0 rfl (lv_at hl 0 rfl) ?_
  refine lv_iload_n G0.1 G0.2.1 dX11_hut_1 rfl (lv_at hl 1 rfl) ?_
  obtain ⟨t_1, t_2, t_3, t_4, t_5, t_6, t_7, t_8, t_9, t_10, t_11, t_12, t_13, tx_14, tx_15, tx_16, tx_17⟩ := wt_11 hG Tx
  obtain ⟨v_18, v_19, v_20, hr_24, b_21, b_22, b_23⟩ := wg_11 hWF Tx
  have tq_25 := hy_eq hr_24
  refine py_calli hw (va_runV (As := [.int a]) (rest := []) G0 (c_X11_isLevel l E G L f s.heap.size x a hG hWF Tx) (cwV 1 G0.2.2.2.2 g_X11_hut_X11_isLevel_132 rfl rfl rfl (by decide +kernel) ⟨(Nat.le_of_ble_eq_true rfl), (Nat.le_of_ble_eq_true rfl)⟩) (py_preV hw (C := RX11) (T := TX11) (N := 16) rfl hr_24) rfl rfl hl.1 rfl (lv_room (Nat.le_of_ble_eq_true rfl)) dX11_hut_2 ⟨(Nat.le_of_ble_eq_true rfl), (Nat.le_of_ble_eq_true rfl)⟩) (fun r_30 L_26 f_27 H_28 locs hp_29 hw => ?_)
  obtain ⟨b_32, en_31, rfl, rfl⟩ := hp_29
  have jn_21 : ∀ (v_33 : Int32) (H_j21 : Heap) (locs : List Loc) (ls : Array Slot), py_W E (va_A (va_pl L f) s.heap.size) s L f H_j21 locs → lv_has ls 3 [(0, .ref x), (1, .int a), (2, .int b)] → W p l e (headSpec w_X11_hut ({ frames := 1, cells := 0, slots := 0, locals := 23 })).room s m ([.ref x, .int a, .int b] : List Value).toArray below meth c H_j21 locs 0 0 (MQ below (py_Qi E L f s.heap.size (fun _ L1 f1 => L = L1 ∧ f = f1)) ([.ref x, .int a, .int b] : List Value).toArray s 0 0 (va_A (va_pl L f) s.heap.size)) (F0 m 21 ls [.int v_33]) := by
    intro v_33 H_j21 locs ls hw hl
    exact py_iret G0 hr rfl hlk hw ⟨rfl, rfl⟩ dX11_hut_21
  refine lv_if_eq (tgt := 20) G0.1 G0.2.1 dX11_hut_5 (by decide) (fun c_34 => ?_) (fun c_34 => ?_)
  · skip
    have tc_34 := ti_eq c_34
    refine lv_iconst (v := (-1)) G0.1 G0.2.1 dX11_hut_20 (by decide) ?_
    exact jn_21 (-1) _ _ ls hw (lv_sub hl [0, 1, 2] rfl)
  · skip
    have tc_34 := ti_ne c_34
    refine lv_aload_n G0.1 G0.2.1 dX11_hut_8 rfl (lv_at hl 0 rfl) ?_
    refine py_get (C := RX11) (T := TX11) (N := 16) (k := 5) (v := .ref (G.2 x 5)) G0 hw in_X11_hut_X11 rfl hr_24 (by decide) (by decide +kernel) rfl dX11_hut_9 ?_
    refine lv_iload_n G0.1 G0.2.1 dX11_hut_12 rfl (lv_at hl 1 rfl) ?_
    refine lv_iload_n G0.1 G0.2.1 dX11_hut_13 rfl (lv_at hl 2 rfl) ?_
    obtain ⟨t_35, t_36, t_37, t_38, t_39, t_40, t_41, t_42, t_43⟩ := wt_2 hG t_6
    obtain ⟨r_44, y_45, v_46, hr_49, ty_47, b_48⟩ := wg_2 hWF t_6
    refine py_calli hw (va_runV (As := [.int a, .int b]) (rest := []) G0 (c_X2_dweller l E G L f H_28.size (G.2 x 5) a b hG hWF t_6) (cwV 2 G0.2.2.2.2 g_X11_hut_X2_dweller_198 rfl rfl rfl (by decide +kernel) ⟨(Nat.le_of_ble_eq_true rfl), (Nat.le_of_ble_eq_true rfl)⟩) (py_preV hw (C := RX2) (T := TX2) (N := 12) rfl hr_49) rfl rfl hl.1 rfl (lv_room (Nat.le_of_ble_eq_true rfl)) dX11_hut_14 ⟨(Nat.le_of_ble_eq_true rfl), (Nat.le_of_ble_eq_true rfl)⟩) (fun r_54 L_50 f_51 H_52 locs hp_53 hw => ?_)
    obtain ⟨rfl, rfl⟩ := hp_53
    have br_54 := wf_free r_54
    refine lv_goto (tgt := 21) G0.1 G0.2.1 dX11_hut_17 (by decide) ?_
    exact jn_21 r_54 _ _ ls hw (lv_sub hl [0, 1, 2] rfl)

def w_X11_law : List Cond := .code yX11_law cX11_law 2 (some .boolean) :: ([Cond.fieldLink RX11 98 "HeadYear" "heldLaw" "I", Cond.methodLink RX11 202 yX11_isLaw, Cond.instanceMethod yX11_isLaw, Cond.selects RX11 yX11_isLaw yX11_isLaw, Cond.initialized RX11] ++ (u_ws RX11 TX11 16 ++ (w_X11_isLaw ++ ([]))))
theorem in_X11_law_X11 : ∀ w ∈ u_ws RX11 TX11 16, w ∈ w_X11_law := fun _ h => List.mem_cons_of_mem _ (List.mem_append_right _ (List.mem_append_left _ h))
theorem gg_X11_law_X11_isLaw : GoodIn w_X11_law w_X11_isLaw := goodIn_sub (fun _ h => List.mem_cons_of_mem _ (List.mem_append_right _ (List.mem_append_right _ (List.mem_append_left _ h)))) (by decide +kernel)
theorem g_X11_law_X11_isLaw_202 : GoodIn w_X11_law (wsV RX11 202 RX11 yX11_isLaw w_X11_isLaw) := goodIn_app (goodIn_of _ (by decide +kernel)) gg_X11_law_X11_isLaw
set_option maxHeartbeats 4000000 in
set_option maxRecDepth 100000 in
theorem c_X11_law (l : Launch) (E : py_E) (G : wf_G) (L : List Nat) (f : py_F) (sz : Nat) (x : Nat) (a : Int32) (hG : GT G) (hWF : WF E G L f) (Tx : G.1 x = 12) (hq0 : GI E G f x) : Met l yX11_law w_X11_law ({ frames := 1, cells := 0, slots := 0, locals := 21 }) (py_Pc E [.ref x, .int a] L f sz) (py_Qi E L f sz (fun r L1 f1 => (0 ≤ r.toInt ∧ r.toInt ≤ 1) ∧ (r.toInt ≠ 0 → -1 ≤ a.toInt ∧ a.toInt < hy_n f x) ∧ (r.toInt = 0 → a.toInt < -1 ∨ hy_n f x ≤ a.toInt) ∧ (hy_n f1 x = hy_n f x) ∧ (hy_m f1 x = hy_m f x) ∧ WF E G L1 f1 ∧ KP G [12] false f f1 ∧ GI E G f1 x)) 0 0 (va_A (va_pl L f) sz) := by
  refine Met.ofW (cc := cX11_law) (maxL := 2) (ret := (some .boolean)) (by decide) rfl ?_
  intro p e s m args below meth c s₁ B hml hv
  obtain ⟨rfl, rfl, hw⟩ := py_start hv
  have G0 : CallFix p m c cX11_law 2 s _ w_X11_law RX11 := ⟨B.exec, B.bytes, hml, findClass_of_methodNamed B.named, atoms_spec (ws := w_X11_law) B.pre⟩
  have hr := B.returns
  have hlk := B.notSynchronized
  have kcm1 : (-1 : Int32).toInt = -1 := rfl
  have kc0 : (0 : Int32).toInt = 0 := rfl
  have kc1 : (1 : Int32).toInt = 1 := rfl
  have hl := lv_entry ([.ref x, .int a]) (n := 2) (Nat.le_of_ble_eq_true rfl)
  rw [lg_entry_eq]
  generalize (lg_sl ([.ref x, .int a]) ++ List.replicate (2 - (lg_sl ([.ref x, .int a])).length) Slot.unset).toArray = ls at hl ⊢
  have hl : lv_has ls 2 [(0, .ref x), (1, .int a)] := hl
  have hGI := hq0
  have hKP : KP G [12] false f f := KP.refl
  obtain ⟨t_1, t_2, t_3, t_4, t_5, t_6, t_7, t_8, t_9, t_10, t_11, t_12, t_13, tx_14, tx_15, tx_16, tx_17⟩ := wt_11 hG Tx
  refine lv_iload_n G0.1 G0.2.1 dX11_law_0 rfl (lv_at hl 1 rfl) ?_
  refine lv_iconst (v := (-1)) G0.1 G0.2.1 dX11_law_1 (by decide) ?_
  refine lv_icmp_eq (tgt := 15) G0.1 G0.2.1 dX11_law_2 (by decide) (fun c_18 => ?_) (fun c_18 => ?_)
  · skip
    have tc_18 := ti_eq c_18
    refine lv_aload_n G0.1 G0.2.1 dX11_law_15 rfl (lv_at hl 0 rfl) ?_
    refine lv_iload_n G0.1 G0.2.1 dX11_law_16 rfl (lv_at hl 1 rfl) ?_
    obtain ⟨v_19, v_20, v_21, hr_25, b_22, b_23, b_24⟩ := wg_11 hWF Tx
    have tq_26 := hy_eq hr_25
    refine py_put (C := RX11) (T := TX11) (N := 16) (k := 14) (v := .int a) (fs' := [.ref (G.2 x 0), .ref (G.2 x 1), .ref (G.2 x 2), .ref (G.2 x 3), .ref (G.2 x 4), .ref (G.2 x 5), .ref (G.2 x 6), .ref (G.2 x 7), .ref (G.2 x 8), .ref (G.2 x 9), .ref (G.2 x 10), .ref (G.2 x 11), .ref (G.2 x 12), .int v_19, .int a, .int v_21]) (ty0 := tyX11) G0 hw tyX11_ok nmX11 in_X11_law_X11 rfl hr_25 (by decide) (by decide +kernel) rfl rfl rfl rfl (Nat.le_of_ble_eq_true rfl) rfl dX11_law_17 (fun f_27 H_28 locs h_29 x_30 hw => ?_)
    have hGI := hGI.own hG hWF Tx x_30 (rp_upd hG hWF x_30 hr_25.2 h_29.2 (rp_code hG Tx (by decide)) rfl : RP E G f f_27) (by have z1 := hy_eq hr_25; have z2 := hy_eq h_29; omega) (by first | exact Or.inl (by have z1 := hy_eq hr_25; have z2 := hy_eq h_29; omega) | exact Or.inr him)
    have hKP := hKP.upd hWF x_30 Tx (Or.inl (by decide))
    have hWF := wf_upd hWF h_29 x_30 (by rw [Tx]; exact ⟨v_19, a, v_21, rfl, ⟨by omega, by omega⟩, ⟨by omega, by omega⟩, ⟨by omega, by omega⟩⟩)
    have tq_31 := hy_eq h_29
    refine lv_iconst (v := 1) G0.1 G0.2.1 dX11_law_20 (by decide) ?_
    exact py_iret G0 hr rfl hlk hw ⟨⟨by omega, by omega⟩, (by first | omega | (intro q; omega)), (by first | omega | (intro q; omega)), (by first | omega | (intro q; omega)), (by first | omega | (intro q; omega)), hWF, hKP, hGI⟩ dX11_law_21
  · skip
    have tc_18 := ti_ne c_18
    refine lv_aload_n G0.1 G0.2.1 dX11_law_5 rfl (lv_at hl 0 rfl) ?_
    refine lv_iload_n G0.1 G0.2.1 dX11_law_6 rfl (lv_at hl 1 rfl) ?_
    obtain ⟨v_32, v_33, v_34, hr_38, b_35, b_36, b_37⟩ := wg_11 hWF Tx
    have tq_39 := hy_eq hr_38
    refine py_calli hw (va_runV (As := [.int a]) (rest := []) G0 (c_X11_isLaw l E G L f s.heap.size x a hG hWF Tx) (cwV 1 G0.2.2.2.2 g_X11_law_X11_isLaw_202 rfl rfl rfl (by decide +kernel) ⟨(Nat.le_of_ble_eq_true rfl), (Nat.le_of_ble_eq_true rfl)⟩) (py_preV hw (C := RX11) (T := TX11) (N := 16) rfl hr_38) rfl rfl hl.1 rfl (lv_room (Nat.le_of_ble_eq_true rfl)) dX11_law_7 ⟨(Nat.le_of_ble_eq_true rfl), (Nat.le_of_ble_eq_true rfl)⟩) (fun r_44 L_40 f_41 H_42 locs hp_43 hw => ?_)
    obtain ⟨b_47, en_45, en_46, rfl, rfl⟩ := hp_43
    refine lv_if_ne (tgt := 15) G0.1 G0.2.1 dX11_law_10 (by decide) (fun c_48 => ?_) (fun c_48 => ?_)
    · skip
      have tc_48 := ti_ne c_48
      refine lv_aload_n G0.1 G0.2.1 dX11_law_15 rfl (lv_at hl 0 rfl) ?_
      refine lv_iload_n G0.1 G0.2.1 dX11_law_16 rfl (lv_at hl 1 rfl) ?_
      refine py_put (C := RX11) (T := TX11) (N := 16) (k := 14) (v := .int a) (fs' := [.ref (G.2 x 0), .ref (G.2 x 1), .ref (G.2 x 2), .ref (G.2 x 3), .ref (G.2 x 4), .ref (G.2 x 5), .ref (G.2 x 6), .ref (G.2 x 7), .ref (G.2 x 8), .ref (G.2 x 9), .ref (G.2 x 10), .ref (G.2 x 11), .ref (G.2 x 12), .int v_32, .int a, .int v_34]) (ty0 := tyX11) G0 hw tyX11_ok nmX11 in_X11_law_X11 rfl hr_38 (by decide) (by decide +kernel) rfl rfl rfl rfl (Nat.le_of_ble_eq_true rfl) rfl dX11_law_17 (fun f_49 H_50 locs h_51 x_52 hw => ?_)
      have hGI := hGI.own hG hWF Tx x_52 (rp_upd hG hWF x_52 hr_38.2 h_51.2 (rp_code hG Tx (by decide)) rfl : RP E G f f_49) (by have z1 := hy_eq hr_38; have z2 := hy_eq h_51; omega) (by first | exact Or.inl (by have z1 := hy_eq hr_38; have z2 := hy_eq h_51; omega) | exact Or.inr him)
      have hKP := hKP.upd hWF x_52 Tx (Or.inl (by decide))
      have hWF := wf_upd hWF h_51 x_52 (by rw [Tx]; exact ⟨v_32, a, v_34, rfl, ⟨by omega, by omega⟩, ⟨by omega, by omega⟩, ⟨by omega, by omega⟩⟩)
      have tq_53 := hy_eq h_51
      refine lv_iconst (v := 1) G0.1 G0.2.1 dX11_law_20 (by decide) ?_
      exact py_iret G0 hr rfl hlk hw ⟨⟨by omega, by omega⟩, (by first | omega | (intro q; omega)), (by first | omega | (intro q; omega)), (by first | omega | (intro q; omega)), (by first | omega | (intro q; omega)), hWF, hKP, hGI⟩ dX11_law_21
    · skip
      have tc_48 := ti_eq c_48
      refine lv_iconst (v := 0) G0.1 G0.2.1 dX11_law_13 (by decide) ?_
      exact py_iret G0 hr rfl hlk hw ⟨⟨by omega, by omega⟩, (by first | omega | (intro q; omega)), (by first | omega | (intro q; omega)), (by first | omega | (intro q; omega)), (by first | omega | (intro q; omega)), hWF, hKP, hGI⟩ dX11_law_14

def w_X11_set : List Cond := .code yX11_set cX11_set 3 (some .boolean) :: ([Cond.fieldLink RX11 67 "HeadYear" "buyings" "LHeadYear$Buyings;", Cond.fieldLink RX11 211 "HeadYear$Buyings" "price" "I", Cond.fieldLink RX11 74 "HeadYear" "seasons" "LHeadYear$Seasons;", Cond.fieldLink RX11 208 "HeadYear$Seasons" "luck" "Z", Cond.fieldLink RX11 205 "HeadYear$Seasons" "find" "I"] ++ (u_ws RX11 TX11 16 ++ (u_ws RX0 TX0 5 ++ (u_ws RX7 TX7 5 ++ ([])))))
theorem in_X11_set_X11 : ∀ w ∈ u_ws RX11 TX11 16, w ∈ w_X11_set := fun _ h => List.mem_cons_of_mem _ (List.mem_append_right _ (List.mem_append_left _ h))
theorem in_X11_set_X0 : ∀ w ∈ u_ws RX0 TX0 5, w ∈ w_X11_set := fun _ h => List.mem_cons_of_mem _ (List.mem_append_right _ (List.mem_append_right _ (List.mem_append_left _ h)))
theorem in_X11_set_X7 : ∀ w ∈ u_ws RX7 TX7 5, w ∈ w_X11_set := fun _ h => List.mem_cons_of_mem _ (List.mem_append_right _ (List.mem_append_right _ (List.mem_append_right _ (List.mem_append_left _ h))))
set_option maxHeartbeats 4000000 in
set_option maxRecDepth 100000 in
theorem c_X11_set (l : Launch) (E : py_E) (G : wf_G) (L : List Nat) (f : py_F) (sz : Nat) (x : Nat) (a : Int32) (b : Int32) (hG : GT G) (hWF : WF E G L f) (Tx : G.1 x = 12) (hq0 : GI E G f x) : Met l yX11_set w_X11_set ({ frames := 0, cells := 0, slots := 0, locals := 0 }) (py_Pc E [.ref x, .int a, .int b] L f sz) (py_Qi E L f sz (fun r L1 f1 => (0 ≤ r.toInt ∧ r.toInt ≤ 1) ∧ WF E G L1 f1 ∧ KP G [8, 1] false f f1 ∧ GI E G f1 x)) 0 0 (va_A (va_pl L f) sz) := by
  refine Met.ofW (cc := cX11_set) (maxL := 3) (ret := (some .boolean)) (by decide) rfl ?_
  intro p e s m args below meth c s₁ B hml hv
  obtain ⟨rfl, rfl, hw⟩ := py_start hv
  have G0 : CallFix p m c cX11_set 3 s _ w_X11_set RX11 := ⟨B.exec, B.bytes, hml, findClass_of_methodNamed B.named, atoms_spec (ws := w_X11_set) B.pre⟩
  have hr := B.returns
  have hlk := B.notSynchronized
  have kcm1 : (-1 : Int32).toInt = -1 := rfl
  have kc0 : (0 : Int32).toInt = 0 := rfl
  have kc1 : (1 : Int32).toInt = 1 := rfl
  have kc2 : (2 : Int32).toInt = 2 := rfl
  have kc99 : (99 : Int32).toInt = 99 := rfl
  have kc100 : (100 : Int32).toInt = 100 := rfl
  have hl := lv_entry ([.ref x, .int a, .int b]) (n := 3) (Nat.le_of_ble_eq_true rfl)
  rw [lg_entry_eq]
  generalize (lg_sl ([.ref x, .int a, .int b]) ++ List.replicate (3 - (lg_sl ([.ref x, .int a, .int b])).length) Slot.unset).toArray = ls at hl ⊢
  have hl : lv_has ls 3 [(0, .ref x), (1, .int a), (2, .int b)] := hl
  have hGI := hq0
  have hKP : KP G [8, 1] false f f := KP.refl
  obtain ⟨t_1, t_2, t_3, t_4, t_5, t_6, t_7, t_8, t_9, t_10, t_11, t_12, t_13, tx_14, tx_15, tx_16, tx_17⟩ := wt_11 hG Tx
  refine lv_iload_n G0.1 G0.2.1 dX11_set_0 rfl (lv_at hl 2 rfl) ?_
  refine lv_if_ge (tgt := 6) G0.1 G0.2.1 dX11_set_1 (by decide) (fun c_18 => ?_) (fun c_18 => ?_)
  · skip
    have tc_18 := ti_le c_18
    refine lv_iload_n G0.1 G0.2.1 dX11_set_6 rfl (lv_at hl 1 rfl) ?_
    refine lv_if_ne (tgt := 26) G0.1 G0.2.1 dX11_set_7 (by decide) (fun c_19 => ?_) (fun c_19 => ?_)
    · skip
      have tc_19 := ti_ne c_19
      refine lv_iload_n G0.1 G0.2.1 dX11_set_26 rfl (lv_at hl 1 rfl) ?_
      refine lv_iconst (v := 1) G0.1 G0.2.1 dX11_set_27 (by decide) ?_
      refine lv_icmp_ne (tgt := 55) G0.1 G0.2.1 dX11_set_28 (by decide) (fun c_20 => ?_) (fun c_20 => ?_)
      · skip
        have tc_20 := ti_ne c_20
        refine lv_iload_n G0.1 G0.2.1 dX11_set_55 rfl (lv_at hl 1 rfl) ?_
        refine lv_iconst (v := 2) G0.1 G0.2.1 dX11_set_56 (by decide) ?_
        refine lv_icmp_ne (tgt := 76) G0.1 G0.2.1 dX11_set_57 (by decide) (fun c_21 => ?_) (fun c_21 => ?_)
        · skip
          have tc_21 := ti_ne c_21
          refine lv_iconst (v := 0) G0.1 G0.2.1 dX11_set_76 (by decide) ?_
          exact py_iret G0 hr rfl hlk hw ⟨⟨by omega, by omega⟩, hWF, hKP, hGI⟩ dX11_set_77
        · skip
          have tc_21 := ti_eq c_21
          refine lv_iload_n G0.1 G0.2.1 dX11_set_60 rfl (lv_at hl 2 rfl) ?_
          refine lv_bipush (v := 99) G0.1 G0.2.1 dX11_set_61 (by decide) ?_
          refine lv_icmp_gt (tgt := 76) G0.1 G0.2.1 dX11_set_63 (by decide) (fun c_22 => ?_) (fun c_22 => ?_)
          · skip
            have tc_22 := ti_lt c_22
            refine lv_iconst (v := 0) G0.1 G0.2.1 dX11_set_76 (by decide) ?_
            exact py_iret G0 hr rfl hlk hw ⟨⟨by omega, by omega⟩, hWF, hKP, hGI⟩ dX11_set_77
          · skip
            have tc_22 := ti_nlt c_22
            refine lv_aload_n G0.1 G0.2.1 dX11_set_66 rfl (lv_at hl 0 rfl) ?_
            obtain ⟨v_23, v_24, v_25, hr_29, b_26, b_27, b_28⟩ := wg_11 hWF Tx
            have tq_30 := hy_eq hr_29
            refine py_get (C := RX11) (T := TX11) (N := 16) (k := 9) (v := .ref (G.2 x 9)) G0 hw in_X11_set_X11 rfl hr_29 (by decide) (by decide +kernel) rfl dX11_set_67 ?_
            refine lv_iload_n G0.1 G0.2.1 dX11_set_70 rfl (lv_at hl 2 rfl) ?_
            obtain ⟨t_31, t_32, t_33⟩ := wt_0 hG t_10
            obtain ⟨v_34, v_35, hr_38, b_36, b_37⟩ := wg_0 hWF t_10
            refine py_put (C := RX0) (T := TX0) (N := 5) (k := 4) (v := .int b) (fs' := [.ref (G.2 (G.2 x 9) 0), .ref (G.2 (G.2 x 9) 1), .ref (G.2 (G.2 x 9) 2), .int v_34, .int b]) (ty0 := tyX0) G0 hw tyX0_ok nmX0 in_X11_set_X0 rfl hr_38 (by decide) (by decide +kernel) rfl rfl rfl rfl (Nat.le_of_ble_eq_true rfl) rfl dX11_set_71 (fun f_39 H_40 locs h_41 x_42 hw => ?_)
            have hGI := hGI.kp hG Tx (fo_ty hWF t_6) (rp_upd hG hWF x_42 hr_38.2 h_41.2 (rp_code hG t_10 (by decide)) rfl : RP E G f f_39) (KP.refl.upd hWF x_42 t_10 (Or.inl (by decide)) : KP G [1] false f f_39) (by decide)
            have hKP := hKP.upd hWF x_42 t_10 (Or.inl (by decide))
            have hWF := wf_upd hWF h_41 x_42 (by rw [t_10]; exact ⟨v_34, b, rfl, ⟨by omega, by omega⟩, ⟨by omega, by omega⟩⟩)
            have hr_29 := hr_29.ext x_42 (py_ne_kind hr_29 hr_38 (by decide))
            have tq_43 := hy_eq hr_29
            refine lv_iconst (v := 1) G0.1 G0.2.1 dX11_set_74 (by decide) ?_
            exact py_iret G0 hr rfl hlk hw ⟨⟨by omega, by omega⟩, hWF, hKP, hGI⟩ dX11_set_75
      · skip
        have tc_20 := ti_eq c_20
        refine lv_iload_n G0.1 G0.2.1 dX11_set_31 rfl (lv_at hl 2 rfl) ?_
        refine lv_iconst (v := 1) G0.1 G0.2.1 dX11_set_32 (by decide) ?_
        refine lv_icmp_gt (tgt := 55) G0.1 G0.2.1 dX11_set_33 (by decide) (fun c_44 => ?_) (fun c_44 => ?_)
        · skip
          have tc_44 := ti_lt c_44
          refine lv_iload_n G0.1 G0.2.1 dX11_set_55 rfl (lv_at hl 1 rfl) ?_
          refine lv_iconst (v := 2) G0.1 G0.2.1 dX11_set_56 (by decide) ?_
          refine lv_icmp_ne (tgt := 76) G0.1 G0.2.1 dX11_set_57 (by decide) (fun c_45 => ?_) (fun c_45 => ?_)
          · skip
            have tc_45 := ti_ne c_45
            refine lv_iconst (v := 0) G0.1 G0.2.1 dX11_set_76 (by decide) ?_
            exact py_iret G0 hr rfl hlk hw ⟨⟨by omega, by omega⟩, hWF, hKP, hGI⟩ dX11_set_77
          · skip
            have tc_45 := ti_eq c_45
            refine lv_iload_n G0.1 G0.2.1 dX11_set_60 rfl (lv_at hl 2 rfl) ?_
            refine lv_bipush (v := 99) G0.1 G0.2.1 dX11_set_61 (by decide) ?_
            refine lv_icmp_gt (tgt := 76) G0.1 G0.2.1 dX11_set_63 (by decide) (fun c_46 => ?_) (fun c_46 => ?_)
            · skip
              have tc_46 := ti_lt c_46
              refine lv_iconst (v := 0) G0.1 G0.2.1 dX11_set_76 (by decide) ?_
              exact py_iret G0 hr rfl hlk hw ⟨⟨by omega, by omega⟩, hWF, hKP, hGI⟩ dX11_set_77
            · skip
              have tc_46 := ti_nlt c_46
              refine lv_aload_n G0.1 G0.2.1 dX11_set_66 rfl (lv_at hl 0 rfl) ?_
              obtain ⟨v_47, v_48, v_49, hr_53, b_50, b_51, b_52⟩ := wg_11 hWF Tx
              have tq_54 := hy_eq hr_53
              refine py_get (C := RX11) (T := TX11) (N := 16) (k := 9) (v := .ref (G.2 x 9)) G0 hw in_X11_set_X11 rfl hr_53 (by decide) (by decide +kernel) rfl dX11_set_67 ?_
              refine lv_iload_n G0.1 G0.2.1 dX11_set_70 rfl (lv_at hl 2 rfl) ?_
              obtain ⟨t_55, t_56, t_57⟩ := wt_0 hG t_10
              obtain ⟨v_58, v_59, hr_62, b_60, b_61⟩ := wg_0 hWF t_10
              refine py_put (C := RX0) (T := TX0) (N := 5) (k := 4) (v := .int b) (fs' := [.ref (G.2 (G.2 x 9) 0), .ref (G.2 (G.2 x 9) 1), .ref (G.2 (G.2 x 9) 2), .int v_58, .int b]) (ty0 := tyX0) G0 hw tyX0_ok nmX0 in_X11_set_X0 rfl hr_62 (by decide) (by decide +kernel) rfl rfl rfl rfl (Nat.le_of_ble_eq_true rfl) rfl dX11_set_71 (fun f_63 H_64 locs h_65 x_66 hw => ?_)
              have hGI := hGI.kp hG Tx (fo_ty hWF t_6) (rp_upd hG hWF x_66 hr_62.2 h_65.2 (rp_code hG t_10 (by decide)) rfl : RP E G f f_63) (KP.refl.upd hWF x_66 t_10 (Or.inl (by decide)) : KP G [1] false f f_63) (by decide)
              have hKP := hKP.upd hWF x_66 t_10 (Or.inl (by decide))
              have hWF := wf_upd hWF h_65 x_66 (by rw [t_10]; exact ⟨v_58, b, rfl, ⟨by omega, by omega⟩, ⟨by omega, by omega⟩⟩)
              have hr_53 := hr_53.ext x_66 (py_ne_kind hr_53 hr_62 (by decide))
              have tq_67 := hy_eq hr_53
              refine lv_iconst (v := 1) G0.1 G0.2.1 dX11_set_74 (by decide) ?_
              exact py_iret G0 hr rfl hlk hw ⟨⟨by omega, by omega⟩, hWF, hKP, hGI⟩ dX11_set_75
        · skip
          have tc_44 := ti_nlt c_44
          refine lv_aload_n G0.1 G0.2.1 dX11_set_36 rfl (lv_at hl 0 rfl) ?_
          obtain ⟨v_68, v_69, v_70, hr_74, b_71, b_72, b_73⟩ := wg_11 hWF Tx
          have tq_75 := hy_eq hr_74
          refine py_get (C := RX11) (T := TX11) (N := 16) (k := 10) (v := .ref (G.2 x 10)) G0 hw in_X11_set_X11 rfl hr_74 (by decide) (by decide +kernel) rfl dX11_set_37 ?_
          refine lv_iload_n G0.1 G0.2.1 dX11_set_40 rfl (lv_at hl 2 rfl) ?_
          refine lv_iconst (v := 1) G0.1 G0.2.1 dX11_set_41 (by decide) ?_
          have jn_50 : ∀ (v_76 : Int32) (H_j50 : Heap) (locs : List Loc) (ls : Array Slot), (0 ≤ v_76.toInt ∧ v_76.toInt ≤ 1) → py_W E (va_A (va_pl L f) s.heap.size) s L f H_j50 locs → lv_has ls 3 [(0, .ref x), (1, .int a), (2, .int b)] → W p l e (headSpec w_X11_set ({ frames := 0, cells := 0, slots := 0, locals := 0 })).room s m ([.ref x, .int a, .int b] : List Value).toArray below meth c H_j50 locs 0 0 (MQ below (py_Qi E L f s.heap.size (fun r L1 f1 => (0 ≤ r.toInt ∧ r.toInt ≤ 1) ∧ WF E G L1 f1 ∧ KP G [8, 1] false f f1 ∧ GI E G f1 x)) ([.ref x, .int a, .int b] : List Value).toArray s 0 0 (va_A (va_pl L f) s.heap.size)) (F0 m 50 ls [.int v_76, .ref (G.2 x 10)]) := by
            intro v_76 H_j50 locs ls bv_76 hw hl
            obtain ⟨t_77, t_78, t_79⟩ := wt_7 hG t_11
            obtain ⟨v_80, v_81, hr_83, b_82⟩ := wg_7 hWF t_11
            have bv_80 := wf_free v_80
            refine py_put (C := RX7) (T := TX7) (N := 5) (k := 4) (v := .int v_76) (fs' := [.ref (G.2 (G.2 x 10) 0), .ref (G.2 (G.2 x 10) 1), .ref (G.2 (G.2 x 10) 2), .int v_80, .int v_76]) (ty0 := tyX7) G0 hw tyX7_ok nmX7 in_X11_set_X7 rfl hr_83 (by decide) (by decide +kernel) rfl rfl (ti_bool (by omega) (by omega)) (ti_fit (by omega) (by omega)) (Nat.le_of_ble_eq_true rfl) rfl dX11_set_50 (fun f_84 H_85 locs h_86 x_87 hw => ?_)
            have hGI := hGI.kp hG Tx (fo_ty hWF t_6) (rp_upd hG hWF x_87 hr_83.2 h_86.2 (rp_code hG t_11 (by decide)) rfl : RP E G f f_84) (KP.refl.upd hWF x_87 t_11 (Or.inl (by decide)) : KP G [8] false f f_84) (by decide)
            have hKP := hKP.upd hWF x_87 t_11 (Or.inl (by decide))
            have hWF := wf_upd hWF h_86 x_87 (by rw [t_11]; exact ⟨v_80, v_76, rfl, ⟨by omega, by omega⟩⟩)
            have hr_74 := hr_74.ext x_87 (py_ne_kind hr_74 hr_83 (by decide))
            have tq_88 := hy_eq hr_74
            refine lv_iconst (v := 1) G0.1 G0.2.1 dX11_set_53 (by decide) ?_
            exact py_iret G0 hr rfl hlk hw ⟨⟨by omega, by omega⟩, hWF, hKP, hGI⟩ dX11_set_54
          refine lv_icmp_ne (tgt := 49) G0.1 G0.2.1 dX11_set_42 (by decide) (fun c_89 => ?_) (fun c_89 => ?_)
          · skip
            have tc_89 := ti_ne c_89
            refine lv_iconst (v := 0) G0.1 G0.2.1 dX11_set_49 (by decide) ?_
            exact jn_50 0 _ _ ls ⟨by omega, by omega⟩ hw (lv_sub hl [0, 1, 2] rfl)
          · skip
            have tc_89 := ti_eq c_89
            refine lv_iconst (v := 1) G0.1 G0.2.1 dX11_set_45 (by decide) ?_
            refine lv_goto (tgt := 50) G0.1 G0.2.1 dX11_set_46 (by decide) ?_
            exact jn_50 1 _ _ ls ⟨by omega, by omega⟩ hw (lv_sub hl [0, 1, 2] rfl)
    · skip
      have tc_19 := ti_eq c_19
      refine lv_iload_n G0.1 G0.2.1 dX11_set_10 rfl (lv_at hl 2 rfl) ?_
      refine lv_bipush (v := 100) G0.1 G0.2.1 dX11_set_11 (by decide) ?_
      refine lv_icmp_gt (tgt := 26) G0.1 G0.2.1 dX11_set_13 (by decide) (fun c_90 => ?_) (fun c_90 => ?_)
      · skip
        have tc_90 := ti_lt c_90
        refine lv_iload_n G0.1 G0.2.1 dX11_set_26 rfl (lv_at hl 1 rfl) ?_
        refine lv_iconst (v := 1) G0.1 G0.2.1 dX11_set_27 (by decide) ?_
        refine lv_icmp_ne (tgt := 55) G0.1 G0.2.1 dX11_set_28 (by decide) (fun c_91 => ?_) (fun c_91 => ?_)
        · skip
          have tc_91 := ti_ne c_91
          refine lv_iload_n G0.1 G0.2.1 dX11_set_55 rfl (lv_at hl 1 rfl) ?_
          refine lv_iconst (v := 2) G0.1 G0.2.1 dX11_set_56 (by decide) ?_
          refine lv_icmp_ne (tgt := 76) G0.1 G0.2.1 dX11_set_57 (by decide) (fun c_92 => ?_) (fun c_92 => ?_)
          · skip
            have tc_92 := ti_ne c_92
            refine lv_iconst (v := 0) G0.1 G0.2.1 dX11_set_76 (by decide) ?_
            exact py_iret G0 hr rfl hlk hw ⟨⟨by omega, by omega⟩, hWF, hKP, hGI⟩ dX11_set_77
          · skip
            have tc_92 := ti_eq c_92
            refine lv_iload_n G0.1 G0.2.1 dX11_set_60 rfl (lv_at hl 2 rfl) ?_
            refine lv_bipush (v := 99) G0.1 G0.2.1 dX11_set_61 (by decide) ?_
            refine lv_icmp_gt (tgt := 76) G0.1 G0.2.1 dX11_set_63 (by decide) (fun c_93 => ?_) (fun c_93 => ?_)
            · skip
              have tc_93 := ti_lt c_93
              refine lv_iconst (v := 0) G0.1 G0.2.1 dX11_set_76 (by decide) ?_
              exact py_iret G0 hr rfl hlk hw ⟨⟨by omega, by omega⟩, hWF, hKP, hGI⟩ dX11_set_77
            · skip
              have tc_93 := ti_nlt c_93
              refine lv_aload_n G0.1 G0.2.1 dX11_set_66 rfl (lv_at hl 0 rfl) ?_
              obtain ⟨v_94, v_95, v_96, hr_100, b_97, b_98, b_99⟩ := wg_11 hWF Tx
              have tq_101 := hy_eq hr_100
              refine py_get (C := RX11) (T := TX11) (N := 16) (k := 9) (v := .ref (G.2 x 9)) G0 hw in_X11_set_X11 rfl hr_100 (by decide) (by decide +kernel) rfl dX11_set_67 ?_
              refine lv_iload_n G0.1 G0.2.1 dX11_set_70 rfl (lv_at hl 2 rfl) ?_
              obtain ⟨t_102, t_103, t_104⟩ := wt_0 hG t_10
              obtain ⟨v_105, v_106, hr_109, b_107, b_108⟩ := wg_0 hWF t_10
              refine py_put (C := RX0) (T := TX0) (N := 5) (k := 4) (v := .int b) (fs' := [.ref (G.2 (G.2 x 9) 0), .ref (G.2 (G.2 x 9) 1), .ref (G.2 (G.2 x 9) 2), .int v_105, .int b]) (ty0 := tyX0) G0 hw tyX0_ok nmX0 in_X11_set_X0 rfl hr_109 (by decide) (by decide +kernel) rfl rfl rfl rfl (Nat.le_of_ble_eq_true rfl) rfl dX11_set_71 (fun f_110 H_111 locs h_112 x_113 hw => ?_)
              have hGI := hGI.kp hG Tx (fo_ty hWF t_6) (rp_upd hG hWF x_113 hr_109.2 h_112.2 (rp_code hG t_10 (by decide)) rfl : RP E G f f_110) (KP.refl.upd hWF x_113 t_10 (Or.inl (by decide)) : KP G [1] false f f_110) (by decide)
              have hKP := hKP.upd hWF x_113 t_10 (Or.inl (by decide))
              have hWF := wf_upd hWF h_112 x_113 (by rw [t_10]; exact ⟨v_105, b, rfl, ⟨by omega, by omega⟩, ⟨by omega, by omega⟩⟩)
              have hr_100 := hr_100.ext x_113 (py_ne_kind hr_100 hr_109 (by decide))
              have tq_114 := hy_eq hr_100
              refine lv_iconst (v := 1) G0.1 G0.2.1 dX11_set_74 (by decide) ?_
              exact py_iret G0 hr rfl hlk hw ⟨⟨by omega, by omega⟩, hWF, hKP, hGI⟩ dX11_set_75
        · skip
          have tc_91 := ti_eq c_91
          refine lv_iload_n G0.1 G0.2.1 dX11_set_31 rfl (lv_at hl 2 rfl) ?_
          refine lv_iconst (v := 1) G0.1 G0.2.1 dX11_set_32 (by decide) ?_
          refine lv_icmp_gt (tgt := 55) G0.1 G0.2.1 dX11_set_33 (by decide) (fun c_115 => ?_) (fun c_115 => ?_)
          · skip
            have tc_115 := ti_lt c_115
            refine lv_iload_n G0.1 G0.2.1 dX11_set_55 rfl (lv_at hl 1 rfl) ?_
            refine lv_iconst (v := 2) G0.1 G0.2.1 dX11_set_56 (by decide) ?_
            refine lv_icmp_ne (tgt := 76) G0.1 G0.2.1 dX11_set_57 (by decide) (fun c_116 => ?_) (fun c_116 => ?_)
            · skip
              have tc_116 := ti_ne c_116
              refine lv_iconst (v := 0) G0.1 G0.2.1 dX11_set_76 (by decide) ?_
              exact py_iret G0 hr rfl hlk hw ⟨⟨by omega, by omega⟩, hWF, hKP, hGI⟩ dX11_set_77
            · skip
              have tc_116 := ti_eq c_116
              refine lv_iload_n G0.1 G0.2.1 dX11_set_60 rfl (lv_at hl 2 rfl) ?_
              refine lv_bipush (v := 99) G0.1 G0.2.1 dX11_set_61 (by decide) ?_
              refine lv_icmp_gt (tgt := 76) G0.1 G0.2.1 dX11_set_63 (by decide) (fun c_117 => ?_) (fun c_117 => ?_)
              · skip
                have tc_117 := ti_lt c_117
                refine lv_iconst (v := 0) G0.1 G0.2.1 dX11_set_76 (by decide) ?_
                exact py_iret G0 hr rfl hlk hw ⟨⟨by omega, by omega⟩, hWF, hKP, hGI⟩ dX11_set_77
              · skip
                have tc_117 := ti_nlt c_117
                refine lv_aload_n G0.1 G0.2.1 dX11_set_66 rfl (lv_at hl 0 rfl) ?_
                obtain ⟨v_118, v_119, v_120, hr_124, b_121, b_122, b_123⟩ := wg_11 hWF Tx
                have tq_125 := hy_eq hr_124
                refine py_get (C := RX11) (T := TX11) (N := 16) (k := 9) (v := .ref (G.2 x 9)) G0 hw in_X11_set_X11 rfl hr_124 (by decide) (by decide +kernel) rfl dX11_set_67 ?_
                refine lv_iload_n G0.1 G0.2.1 dX11_set_70 rfl (lv_at hl 2 rfl) ?_
                obtain ⟨t_126, t_127, t_128⟩ := wt_0 hG t_10
                obtain ⟨v_129, v_130, hr_133, b_131, b_132⟩ := wg_0 hWF t_10
                refine py_put (C := RX0) (T := TX0) (N := 5) (k := 4) (v := .int b) (fs' := [.ref (G.2 (G.2 x 9) 0), .ref (G.2 (G.2 x 9) 1), .ref (G.2 (G.2 x 9) 2), .int v_129, .int b]) (ty0 := tyX0) G0 hw tyX0_ok nmX0 in_X11_set_X0 rfl hr_133 (by decide) (by decide +kernel) rfl rfl rfl rfl (Nat.le_of_ble_eq_true rfl) rfl dX11_set_71 (fun f_134 H_135 locs h_136 x_137 hw => ?_)
                have hGI := hGI.kp hG Tx (fo_ty hWF t_6) (rp_upd hG hWF x_137 hr_133.2 h_136.2 (rp_code hG t_10 (by decide)) rfl : RP E G f f_134) (KP.refl.upd hWF x_137 t_10 (Or.inl (by decide)) : KP G [1] false f f_134) (by decide)
                have hKP := hKP.upd hWF x_137 t_10 (Or.inl (by decide))
                have hWF := wf_upd hWF h_136 x_137 (by rw [t_10]; exact ⟨v_129, b, rfl, ⟨by omega, by omega⟩, ⟨by omega, by omega⟩⟩)
                have hr_124 := hr_124.ext x_137 (py_ne_kind hr_124 hr_133 (by decide))
                have tq_138 := hy_eq hr_124
                refine lv_iconst (v := 1) G0.1 G0.2.1 dX11_set_74 (by decide) ?_
                exact py_iret G0 hr rfl hlk hw ⟨⟨by omega, by omega⟩, hWF, hKP, hGI⟩ dX11_set_75
          · skip
            have tc_115 := ti_nlt c_115
            refine lv_aload_n G0.1 G0.2.1 dX11_set_36 rfl (lv_at hl 0 rfl) ?_
            obtain ⟨v_139, v_140, v_141, hr_145, b_142, b_143, b_144⟩ := wg_11 hWF Tx
            have tq_146 := hy_eq hr_145
            refine py_get (C := RX11) (T := TX11) (N := 16) (k := 10) (v := .ref (G.2 x 10)) G0 hw in_X11_set_X11 rfl hr_145 (by decide) (by decide +kernel) rfl dX11_set_37 ?_
            refine lv_iload_n G0.1 G0.2.1 dX11_set_40 rfl (lv_at hl 2 rfl) ?_
            refine lv_iconst (v := 1) G0.1 G0.2.1 dX11_set_41 (by decide) ?_
            have jn_50 : ∀ (v_147 : Int32) (H_j50 : Heap) (locs : List Loc) (ls : Array Slot), (0 ≤ v_147.toInt ∧ v_147.toInt ≤ 1) → py_W E (va_A (va_pl L f) s.heap.size) s L f H_j50 locs → lv_has ls 3 [(0, .ref x), (1, .int a), (2, .int b)] → W p l e (headSpec w_X11_set ({ frames := 0, cells := 0, slots := 0, locals := 0 })).room s m ([.ref x, .int a, .int b] : List Value).toArray below meth c H_j50 locs 0 0 (MQ below (py_Qi E L f s.heap.size (fun r L1 f1 => (0 ≤ r.toInt ∧ r.toInt ≤ 1) ∧ WF E G L1 f1 ∧ KP G [8, 1] false f f1 ∧ GI E G f1 x)) ([.ref x, .int a, .int b] : List Value).toArray s 0 0 (va_A (va_pl L f) s.heap.size)) (F0 m 50 ls [.int v_147, .ref (G.2 x 10)]) := by
              intro v_147 H_j50 locs ls bv_147 hw hl
              obtain ⟨t_148, t_149, t_150⟩ := wt_7 hG t_11
              obtain ⟨v_151, v_152, hr_154, b_153⟩ := wg_7 hWF t_11
              have bv_151 := wf_free v_151
              refine py_put (C := RX7) (T := TX7) (N := 5) (k := 4) (v := .int v_147) (fs' := [.ref (G.2 (G.2 x 10) 0), .ref (G.2 (G.2 x 10) 1), .ref (G.2 (G.2 x 10) 2), .int v_151, .int v_147]) (ty0 := tyX7) G0 hw tyX7_ok nmX7 in_X11_set_X7 rfl hr_154 (by decide) (by decide +kernel) rfl rfl (ti_bool (by omega) (by omega)) (ti_fit (by omega) (by omega)) (Nat.le_of_ble_eq_true rfl) rfl dX11_set_50 (fun f_155 H_156 locs h_157 x_158 hw => ?_)
              have hGI := hGI.kp hG Tx (fo_ty hWF t_6) (rp_upd hG hWF x_158 hr_154.2 h_157.2 (rp_code hG t_11 (by decide)) rfl : RP E G f f_155) (KP.refl.upd hWF x_158 t_11 (Or.inl (by decide)) : KP G [8] false f f_155) (by decide)
              have hKP := hKP.upd hWF x_158 t_11 (Or.inl (by decide))
              have hWF := wf_upd hWF h_157 x_158 (by rw [t_11]; exact ⟨v_151, v_147, rfl, ⟨by omega, by omega⟩⟩)
              have hr_145 := hr_145.ext x_158 (py_ne_kind hr_145 hr_154 (by decide))
              have tq_159 := hy_eq hr_145
              refine lv_iconst (v := 1) G0.1 G0.2.1 dX11_set_53 (by decide) ?_
              exact py_iret G0 hr rfl hlk hw ⟨⟨by omega, by omega⟩, hWF, hKP, hGI⟩ dX11_set_54
            refine lv_icmp_ne (tgt := 49) G0.1 G0.2.1 dX11_set_42 (by decide) (fun c_160 => ?_) (fun c_160 => ?_)
            · skip
              have tc_160 := ti_ne c_160
              refine lv_iconst (v := 0) G0.1 G0.2.1 dX11_set_49 (by decide) ?_
              exact jn_50 0 _ _ ls ⟨by omega, by omega⟩ hw (lv_sub hl [0, 1, 2] rfl)
            · skip
              have tc_160 := ti_eq c_160
              refine lv_iconst (v := 1) G0.1 G0.2.1 dX11_set_45 (by decide) ?_
              refine lv_goto (tgt := 50) G0.1 G0.2.1 dX11_set_46 (by decide) ?_
              exact jn_50 1 _ _ ls ⟨by omega, by omega⟩ hw (lv_sub hl [0, 1, 2] rfl)
      · skip
        have tc_90 := ti_nlt c_90
        refine lv_aload_n G0.1 G0.2.1 dX11_set_16 rfl (lv_at hl 0 rfl) ?_
        obtain ⟨v_161, v_162, v_163, hr_167, b_164, b_165, b_166⟩ := wg_11 hWF Tx
        have tq_168 := hy_eq hr_167
        refine py_get (C := RX11) (T := TX11) (N := 16) (k := 10) (v := .ref (G.2 x 10)) G0 hw in_X11_set_X11 rfl hr_167 (by decide) (by decide +kernel) rfl dX11_set_17 ?_
        refine lv_iload_n G0.1 G0.2.1 dX11_set_20 rfl (lv_at hl 2 rfl) ?_
        obtain ⟨t_169, t_170, t_171⟩ := wt_7 hG t_11
        obtain ⟨v_172, v_173, hr_175, b_174⟩ := wg_7 hWF t_11
        have bv_172 := wf_free v_172
        refine py_put (C := RX7) (T := TX7) (N := 5) (k := 3) (v := .int b) (fs' := [.ref (G.2 (G.2 x 10) 0), .ref (G.2 (G.2 x 10) 1), .ref (G.2 (G.2 x 10) 2), .int b, .int v_173]) (ty0 := tyX7) G0 hw tyX7_ok nmX7 in_X11_set_X7 rfl hr_175 (by decide) (by decide +kernel) rfl rfl rfl rfl (Nat.le_of_ble_eq_true rfl) rfl dX11_set_21 (fun f_176 H_177 locs h_178 x_179 hw => ?_)
        have hGI := hGI.kp hG Tx (fo_ty hWF t_6) (rp_upd hG hWF x_179 hr_175.2 h_178.2 (rp_code hG t_11 (by decide)) rfl : RP E G f f_176) (KP.refl.upd hWF x_179 t_11 (Or.inl (by decide)) : KP G [8] false f f_176) (by decide)
        have hKP := hKP.upd hWF x_179 t_11 (Or.inl (by decide))
        have hWF := wf_upd hWF h_178 x_179 (by rw [t_11]; exact ⟨b, v_173, rfl, ⟨by omega, by omega⟩⟩)
        have hr_167 := hr_167.ext x_179 (py_ne_kind hr_167 hr_175 (by decide))
        have tq_180 := hy_eq hr_167
        refine lv_iconst (v := 1) G0.1 G0.2.1 dX11_set_24 (by decide) ?_
        exact py_iret G0 hr rfl hlk hw ⟨⟨by omega, by omega⟩, hWF, hKP, hGI⟩ dX11_set_25
  · skip
    have tc_18 := ti_nle c_18
    refine lv_iconst (v := 0) G0.1 G0.2.1 dX11_set_4 (by decide) ?_
    exact py_iret G0 hr rfl hlk hw ⟨⟨by omega, by omega⟩, hWF, hKP, hGI⟩ dX11_set_5

def w_X11_seed : List Cond := .code yX11_seed cX11_seed 3 (some .boolean) :: ([Cond.fieldLink RX11 47 "HeadYear" "folk" "LHeadYear$Folk;", Cond.fieldLink RX11 214 "HeadYear$Folk" "x" "J"] ++ (u_ws RX11 TX11 16 ++ (u_ws RX2 TX2 12 ++ ([]))))
theorem in_X11_seed_X11 : ∀ w ∈ u_ws RX11 TX11 16, w ∈ w_X11_seed := fun _ h => List.mem_cons_of_mem _ (List.mem_append_right _ (List.mem_append_left _ h))
theorem in_X11_seed_X2 : ∀ w ∈ u_ws RX2 TX2 12, w ∈ w_X11_seed := fun _ h => List.mem_cons_of_mem _ (List.mem_append_right _ (List.mem_append_right _ (List.mem_append_left _ h)))
set_option maxHeartbeats 4000000 in
set_option maxRecDepth 100000 in
theorem c_X11_seed (l : Launch) (E : py_E) (G : wf_G) (L : List Nat) (f : py_F) (sz : Nat) (x : Nat) (v : Int64) (hG : GT G) (hWF : WF E G L f) (Tx : G.1 x = 12) (hq0 : GI E G f x) : Met l yX11_seed w_X11_seed ({ frames := 0, cells := 0, slots := 0, locals := 0 }) (py_Pc E [.ref x, .long v] L f sz) (py_Qi E L f sz (fun r L1 f1 => (0 ≤ r.toInt ∧ r.toInt ≤ 1) ∧ (fv_l f1 (G.2 x 5) = fv_l f (G.2 x 5) ∧ fo_y f1 (G.2 x 5) = fo_y f (G.2 x 5) ∧ fo_y f1 (G.2 x 7) = fo_y f (G.2 x 7)) ∧ WF E G L1 f1 ∧ KP G [3] false f f1 ∧ GI E G f1 x)) 0 0 (va_A (va_pl L f) sz) := by
  refine Met.ofW (cc := cX11_seed) (maxL := 3) (ret := (some .boolean)) (by decide) rfl ?_
  intro p e s m args below meth c s₁ B hml hv
  obtain ⟨rfl, rfl, hw⟩ := py_start hv
  have G0 : CallFix p m c cX11_seed 3 s _ w_X11_seed RX11 := ⟨B.exec, B.bytes, hml, findClass_of_methodNamed B.named, atoms_spec (ws := w_X11_seed) B.pre⟩
  have hr := B.returns
  have hlk := B.notSynchronized
  have kcm1 : (-1 : Int32).toInt = -1 := rfl
  have kc0 : (0 : Int32).toInt = 0 := rfl
  have kc1 : (1 : Int32).toInt = 1 := rfl
  have hl := lv_entry ([.ref x, .long v]) (n := 3) (Nat.le_of_ble_eq_true rfl)
  rw [lg_entry_eq]
  generalize (lg_sl ([.ref x, .long v]) ++ List.replicate (3 - (lg_sl ([.ref x, .long v])).length) Slot.unset).toArray = ls at hl ⊢
  have hl : lv_has ls 3 [(0, .ref x), (1, .long v)] := hl
  have hGI := hq0
  have hKP : KP G [3] false f f := KP.refl
  obtain ⟨t_1, t_2, t_3, t_4, t_5, t_6, t_7, t_8, t_9, t_10, t_11, t_12, t_13, tx_14, tx_15, tx_16, tx_17⟩ := wt_11 hG Tx
  refine lv_aload_n G0.1 G0.2.1 dX11_seed_0 rfl (lv_at hl 0 rfl) ?_
  obtain ⟨v_18, v_19, v_20, hr_24, b_21, b_22, b_23⟩ := wg_11 hWF Tx
  have tq_25 := hy_eq hr_24
  refine py_get (C := RX11) (T := TX11) (N := 16) (k := 5) (v := .ref (G.2 x 5)) G0 hw in_X11_seed_X11 rfl hr_24 (by decide) (by decide +kernel) rfl dX11_seed_1 ?_
  refine lv_lload_n G0.1 G0.2.1 dX11_seed_4 rfl (lv_at hl 1 rfl) ?_
  obtain ⟨t_26, t_27, t_28, t_29, t_30, t_31, t_32, t_33, t_34⟩ := wt_2 hG t_6
  obtain ⟨r_35, y_36, v_37, hr_40, ty_38, b_39⟩ := wg_2 hWF t_6
  refine py_put (C := RX2) (T := TX2) (N := 12) (k := 10) (v := .long v) (fs' := [.ref (G.2 (G.2 x 5) 0), .ref (G.2 (G.2 x 5) 1), .ref (G.2 (G.2 x 5) 2), .ref (G.2 (G.2 x 5) 3), .ref (G.2 (G.2 x 5) 4), .ref (G.2 (G.2 x 5) 5), .ref (G.2 (G.2 x 5) 6), .ref (G.2 (G.2 x 5) 7), .ref (G.2 (G.2 x 5) 8), .ref r_35, .long v, .int v_37]) (ty0 := tyX2) G0 hw tyX2_ok nmX2 in_X11_seed_X2 rfl hr_40 (by decide) (by decide +kernel) rfl rfl rfl rfl (Nat.le_of_ble_eq_true rfl) rfl dX11_seed_5 (fun f_41 H_42 locs h_43 x_44 hw => ?_)
  have hGI := hGI.kp hG Tx (fo_ty hWF t_6) (rp_upd hG hWF x_44 hr_40.2 h_43.2 (rp_code hG t_6 (by decide)) rfl : RP E G f f_41) (KP.refl.upd hWF x_44 t_6 (Or.inl (by decide)) : KP G [3] false f f_41) (by decide)
  have fq_45 := fv_one (rp_upd hG hWF x_44 hr_40.2 h_43.2 (rp_code hG t_6 (by decide)) rfl : RP E G f f_41) (KP.refl.upd hWF x_44 t_6 (Or.inl (by decide)) : KP G [3] false f f_41) (by decide) (fo_ty hWF t_6) t_6
  have fq_46 := fv_one (rp_upd hG hWF x_44 hr_40.2 h_43.2 (rp_code hG t_6 (by decide)) rfl : RP E G f f_41) (KP.refl.upd hWF x_44 t_6 (Or.inl (by decide)) : KP G [3] false f f_41) (by decide) (fo_ty hWF t_8) t_8
  have hKP := hKP.upd hWF x_44 t_6 (Or.inl (by decide))
  have hWF := wf_upd hWF h_43 x_44 (by rw [t_6]; exact ⟨r_35, v, v_37, rfl, ty_38, ⟨by omega, by omega⟩⟩)
  have hr_24 := hr_24.ext x_44 (py_ne_kind hr_24 hr_40 (by decide))
  have tq_47 := hy_eq hr_24
  refine lv_iconst (v := 1) G0.1 G0.2.1 dX11_seed_8 (by decide) ?_
  exact py_iret G0 hr rfl hlk hw ⟨⟨by omega, by omega⟩, (by first | omega | (intro q; omega)), hWF, hKP, hGI⟩ dX11_seed_9

def w_X11_buy : List Cond := .code yX11_buy cX11_buy 4 (some .int) :: ([Cond.methodLink RX11 246 yX11_lives, Cond.instanceMethod yX11_lives, Cond.selects RX11 yX11_lives yX11_lives, Cond.initialized RX11, Cond.methodLink RX11 249 yX11_mayBeBought, Cond.static yX11_mayBeBought, Cond.fieldLink RX11 67 "HeadYear" "buyings" "LHeadYear$Buyings;", Cond.fieldLink RX11 240 "HeadYear$Buyings" "count" "I", Cond.fieldLink RX11 47 "HeadYear" "folk" "LHeadYear$Folk;", Cond.fieldLink RX11 188 "HeadYear$Folk" "bought" "[I", Cond.methodLink RX11 252 yX0_add, Cond.instanceMethod yX0_add, Cond.selects RX0 yX0_add yX0_add, Cond.initialized RX0, Cond.fieldLink RX11 195 "HeadYear$Folk" "spent" "[I"] ++ (u_ws RX11 TX11 16 ++ (u_ws RX0 TX0 5 ++ (u_ws RX2 TX2 12 ++ (w_X11_lives ++ (w_X11_mayBeBought ++ (w_X0_add ++ ([]))))))))
theorem in_X11_buy_X11 : ∀ w ∈ u_ws RX11 TX11 16, w ∈ w_X11_buy := fun _ h => List.mem_cons_of_mem _ (List.mem_append_right _ (List.mem_append_left _ h))
theorem in_X11_buy_X0 : ∀ w ∈ u_ws RX0 TX0 5, w ∈ w_X11_buy := fun _ h => List.mem_cons_of_mem _ (List.mem_append_right _ (List.mem_append_right _ (List.mem_append_left _ h)))
theorem in_X11_buy_X2 : ∀ w ∈ u_ws RX2 TX2 12, w ∈ w_X11_buy := fun _ h => List.mem_cons_of_mem _ (List.mem_append_right _ (List.mem_append_right _ (List.mem_append_right _ (List.mem_append_left _ h))))
theorem gg_X11_buy_X11_lives : GoodIn w_X11_buy w_X11_lives := goodIn_sub (fun _ h => List.mem_cons_of_mem _ (List.mem_append_right _ (List.mem_append_right _ (List.mem_append_right _ (List.mem_append_right _ (List.mem_append_left _ h)))))) (by decide +kernel)
theorem gg_X11_buy_X11_mayBeBought : GoodIn w_X11_buy w_X11_mayBeBought := goodIn_sub (fun _ h => List.mem_cons_of_mem _ (List.mem_append_right _ (List.mem_append_right _ (List.mem_append_right _ (List.mem_append_right _ (List.mem_append_right _ (List.mem_append_left _ h))))))) (by decide +kernel)
theorem gg_X11_buy_X0_add : GoodIn w_X11_buy w_X0_add := goodIn_sub (fun _ h => List.mem_cons_of_mem _ (List.mem_append_right _ (List.mem_append_right _ (List.mem_append_right _ (List.mem_append_right _ (List.mem_append_right _ (List.mem_append_right _ (List.mem_append_left _ h)))))))) (by decide +kernel)
theorem g_X11_buy_X0_add_252 : GoodIn w_X11_buy (wsV RX11 252 RX0 yX0_add w_X0_add) := goodIn_app (goodIn_of _ (by decide +kernel)) gg_X11_buy_X0_add
theorem g_X11_buy_X11_lives_246 : GoodIn w_X11_buy (wsV RX11 246 RX11 yX11_lives w_X11_lives) := goodIn_app (goodIn_of _ (by decide +kernel)) gg_X11_buy_X11_lives
theorem g_X11_buy_X11_mayBeBought_249 : GoodIn w_X11_buy (va_wsS RX11 249 yX11_mayBeBought w_X11_mayBeBought) := goodIn_app (goodIn_of _ (by decide +kernel)) gg_X11_buy_X11_mayBeBought
set_option maxHeartbeats 4000000 in
set_option maxRecDepth 100000 in
theorem c_X11_buy (l : Launch) (E : py_E) (G : wf_G) (L : List Nat) (f : py_F) (sz : Nat) (x : Nat) (a : Int32) (b : Int32) (hG : GT G) (hWF : WF E G L f) (Tx : G.1 x = 12) (hq0 : GI E G f x) : Met l yX11_buy w_X11_buy ({ frames := 2, cells := 0, slots := 0, locals := 47 }) (py_Pc E [.ref x, .int a, .int b] L f sz) (py_Qi E L f sz (fun _ L1 f1 => WF E G L1 f1 ∧ KP G [1, 28, 29, 26] false f f1 ∧ GI E G f1 x)) 0 0 (va_A (va_pl L f) sz) := by
  refine Met.ofW (cc := cX11_buy) (maxL := 4) (ret := (some .int)) (by decide) rfl ?_
  intro p e s m args below meth c s₁ B hml hv
  obtain ⟨rfl, rfl, hw⟩ := py_start hv
  have G0 : CallFix p m c cX11_buy 4 s _ w_X11_buy RX11 := ⟨B.exec, B.bytes, hml, findClass_of_methodNamed B.named, atoms_spec (ws := w_X11_buy) B.pre⟩
  have hr := B.returns
  have hlk := B.notSynchronized
  have kcm1 : (-1 : Int32).toInt = -1 := rfl
  have kc0 : (0 : Int32).toInt = 0 := rfl
  have kc1 : (1 : Int32).toInt = 1 := rfl
  have kc40 : (40 : Int32).toInt = 40 := rfl
  have hl := lv_entry ([.ref x, .int a, .int b]) (n := 4) (Nat.le_of_ble_eq_true rfl)
  rw [lg_entry_eq]
  generalize (lg_sl ([.ref x, .int a, .int b]) ++ List.replicate (4 - (lg_sl ([.ref x, .int a, .int b])).length) Slot.unset).toArray = ls at hl ⊢
  have hl : lv_has ls 4 [(0, .ref x), (1, .int a), (2, .int b)] := hl
  have hGI := hq0
  have hKP : KP G [1, 28, 29, 26] false f f := KP.refl
  obtain ⟨t_1, t_2, t_3, t_4, t_5, t_6, t_7, t_8, t_9, t_10, t_11, t_12, t_13, tx_14, tx_15, tx_16, tx_17⟩ := wt_11 hG Tx
  refine lv_aload_n G0.1 G0.2.1 dX11_buy_0 rfl (lv_at hl 0 rfl) ?_
  refine lv_iload_n G0.1 G0.2.1 dX11_buy_1 rfl (lv_at hl 1 rfl) ?_
  obtain ⟨v_18, v_19, v_20, hr_24, b_21, b_22, b_23⟩ := wg_11 hWF Tx
  have tq_25 := hy_eq hr_24
  refine py_calli hw (va_runV (As := [.int a]) (rest := []) G0 (c_X11_lives l E G L f s.heap.size x a hG hWF Tx) (cwV 1 G0.2.2.2.2 g_X11_buy_X11_lives_246 rfl rfl rfl (by decide +kernel) ⟨(Nat.le_of_ble_eq_true rfl), (Nat.le_of_ble_eq_true rfl)⟩) (py_preV hw (C := RX11) (T := TX11) (N := 16) rfl hr_24) rfl rfl hl.1 rfl (lv_room (Nat.le_of_ble_eq_true rfl)) dX11_buy_2 ⟨(Nat.le_of_ble_eq_true rfl), (Nat.le_of_ble_eq_true rfl)⟩) (fun r_30 L_26 f_27 H_28 locs hp_29 hw => ?_)
  obtain ⟨b_32, en_31, rfl, rfl⟩ := hp_29
  refine lv_if_eq (tgt := 31) G0.1 G0.2.1 dX11_buy_5 (by decide) (fun c_33 => ?_) (fun c_33 => ?_)
  · skip
    have tc_33 := ti_eq c_33
    refine lv_iconst (v := (-1)) G0.1 G0.2.1 dX11_buy_31 (by decide) ?_
    exact py_iret G0 hr rfl hlk hw ⟨hWF, hKP, hGI⟩ dX11_buy_32
  · skip
    have tc_33 := ti_ne c_33
    refine lv_iload_n G0.1 G0.2.1 dX11_buy_8 rfl (lv_at hl 2 rfl) ?_
    refine lv_if_eq (tgt := 31) G0.1 G0.2.1 dX11_buy_9 (by decide) (fun c_34 => ?_) (fun c_34 => ?_)
    · skip
      have tc_34 := ti_eq c_34
      refine lv_iconst (v := (-1)) G0.1 G0.2.1 dX11_buy_31 (by decide) ?_
      exact py_iret G0 hr rfl hlk hw ⟨hWF, hKP, hGI⟩ dX11_buy_32
    · skip
      have tc_34 := ti_ne c_34
      refine lv_iload_n G0.1 G0.2.1 dX11_buy_12 rfl (lv_at hl 2 rfl) ?_
      refine py_calli hw (va_runS (As := [.int b]) (rest := []) G0 (c_X11_mayBeBought l E G L f H_28.size b hG hWF) (va_cwS 1 G0.2.2.2.2 g_X11_buy_X11_mayBeBought_249 rfl rfl rfl (by decide +kernel) ⟨(Nat.le_of_ble_eq_true rfl), (Nat.le_of_ble_eq_true rfl)⟩) (py_preS hw) rfl rfl hl.1 rfl (lv_room (Nat.le_of_ble_eq_true rfl)) dX11_buy_13 ⟨(Nat.le_of_ble_eq_true rfl), (Nat.le_of_ble_eq_true rfl)⟩) (fun r_39 L_35 f_36 H_37 locs hp_38 hw => ?_)
      obtain ⟨b_41, en_40, rfl, rfl⟩ := hp_38
      refine lv_if_eq (tgt := 31) G0.1 G0.2.1 dX11_buy_16 (by decide) (fun c_42 => ?_) (fun c_42 => ?_)
      · skip
        have tc_42 := ti_eq c_42
        refine lv_iconst (v := (-1)) G0.1 G0.2.1 dX11_buy_31 (by decide) ?_
        exact py_iret G0 hr rfl hlk hw ⟨hWF, hKP, hGI⟩ dX11_buy_32
      · skip
        have tc_42 := ti_ne c_42
        refine lv_aload_n G0.1 G0.2.1 dX11_buy_19 rfl (lv_at hl 0 rfl) ?_
        refine py_get (C := RX11) (T := TX11) (N := 16) (k := 9) (v := .ref (G.2 x 9)) G0 hw in_X11_buy_X11 rfl hr_24 (by decide) (by decide +kernel) rfl dX11_buy_20 ?_
        obtain ⟨t_43, t_44, t_45⟩ := wt_0 hG t_10
        obtain ⟨v_46, v_47, hr_50, b_48, b_49⟩ := wg_0 hWF t_10
        refine py_get (C := RX0) (T := TX0) (N := 5) (k := 3) (v := .int v_46) G0 hw in_X11_buy_X0 rfl hr_50 (by decide) (by decide +kernel) rfl dX11_buy_23 ?_
        refine lv_bipush (v := 40) G0.1 G0.2.1 dX11_buy_26 (by decide) ?_
        refine lv_icmp_lt (tgt := 33) G0.1 G0.2.1 dX11_buy_28 (by decide) (fun c_51 => ?_) (fun c_51 => ?_)
        · skip
          have tc_51 := ti_lt c_51
          refine lv_aload_n G0.1 G0.2.1 dX11_buy_33 rfl (lv_at hl 0 rfl) ?_
          refine py_get (C := RX11) (T := TX11) (N := 16) (k := 5) (v := .ref (G.2 x 5)) G0 hw in_X11_buy_X11 rfl hr_24 (by decide) (by decide +kernel) rfl dX11_buy_34 ?_
          obtain ⟨t_52, t_53, t_54, t_55, t_56, t_57, t_58, t_59, t_60⟩ := wt_2 hG t_6
          obtain ⟨r_61, y_62, v_63, hr_66, ty_64, b_65⟩ := wg_2 hWF t_6
          refine py_get (C := RX2) (T := TX2) (N := 12) (k := 6) (v := .ref (G.2 (G.2 x 5) 6)) G0 hw in_X11_buy_X2 rfl hr_66 (by decide) (by decide +kernel) rfl dX11_buy_37 ?_
          refine lv_iload_n G0.1 G0.2.1 dX11_buy_40 rfl (lv_at hl 1 rfl) ?_
          obtain ⟨g_67, ha_68, hi_69⟩ := wf_arr (n := 10) (lo := (-2147483648)) (hi := 2147483647) hWF t_58 (by decide) (fun _ => rfl)
          have rg_70 : vp_in a 10 := ti_in (by omega) (by omega)
          refine py_iald G0 hw ha_68 rg_70 dX11_buy_41 ?_
          refine lv_topi (fun x_71 ex_71 => ?_)
          have bx_71 := wf_free x_71
          refine lv_iload_n G0.1 G0.2.1 dX11_buy_42 rfl (lv_at hl 2 rfl) ?_
          refine lv_iadd G0.1 G0.2.1 dX11_buy_43 ?_
          refine lv_topi (fun x_72 ex_72 => ?_)
          first | have tx_72 := ti_add ex_72 (by omega) (by omega) | skip
          refine py_calli hw (va_runS (As := [.int x_72]) (rest := []) G0 (c_X11_mayBeBought l E G L f H_37.size x_72 hG hWF) (va_cwS 1 G0.2.2.2.2 g_X11_buy_X11_mayBeBought_249 rfl rfl rfl (by decide +kernel) ⟨(Nat.le_of_ble_eq_true rfl), (Nat.le_of_ble_eq_true rfl)⟩) (py_preS hw) rfl rfl hl.1 rfl (lv_room (Nat.le_of_ble_eq_true rfl)) dX11_buy_44 ⟨(Nat.le_of_ble_eq_true rfl), (Nat.le_of_ble_eq_true rfl)⟩) (fun r_77 L_73 f_74 H_75 locs hp_76 hw => ?_)
          obtain ⟨b_79, en_78, rfl, rfl⟩ := hp_76
          refine lv_if_ne (tgt := 52) G0.1 G0.2.1 dX11_buy_47 (by decide) (fun c_80 => ?_) (fun c_80 => ?_)
          · skip
            have tc_80 := ti_ne c_80
            refine lv_aload_n G0.1 G0.2.1 dX11_buy_52 rfl (lv_at hl 0 rfl) ?_
            refine py_get (C := RX11) (T := TX11) (N := 16) (k := 9) (v := .ref (G.2 x 9)) G0 hw in_X11_buy_X11 rfl hr_24 (by decide) (by decide +kernel) rfl dX11_buy_53 ?_
            refine lv_iload_n G0.1 G0.2.1 dX11_buy_56 rfl (lv_at hl 1 rfl) ?_
            refine lv_iload_n G0.1 G0.2.1 dX11_buy_57 rfl (lv_at hl 2 rfl) ?_
            refine py_calli hw (va_runV (As := [.int a, .int b]) (rest := []) G0 (c_X0_add l E G L f H_75.size (G.2 x 9) a b hG hWF t_10 ⟨by omega, by omega⟩) (cwV 2 G0.2.2.2.2 g_X11_buy_X0_add_252 rfl rfl rfl (by decide +kernel) ⟨(Nat.le_of_ble_eq_true rfl), (Nat.le_of_ble_eq_true rfl)⟩) (py_preV hw (C := RX0) (T := TX0) (N := 5) rfl hr_50) rfl rfl hl.1 rfl (lv_room (Nat.le_of_ble_eq_true rfl)) dX11_buy_58 ⟨(Nat.le_of_ble_eq_true rfl), (Nat.le_of_ble_eq_true rfl)⟩) (fun r_85 L_81 f_82 H_83 locs hp_84 hw => ?_)
            have ht_88 := fo_ty hWF t_6
            obtain ⟨hWF, hq_86, kp_87⟩ := hp_84
            have hGI := hGI.kp hG Tx ht_88 hq_86 kp_87 (by decide)
            have hKP := hKP.trans kp_87 (by decide) (by decide)
            have hr_24 := kp_at kp_87 hWF Tx (by decide) (by decide) (by decide) hr_24
            have tq_89 := hy_eq hr_24
            have hr_66 := kp_at kp_87 hWF t_6 (by decide) (by decide) (by decide) hr_66
            have ha_68 := kp_at kp_87 hWF t_58 (by decide) (by decide) (by decide) ha_68
            have br_85 := wf_free r_85
            refine lv_istore_n (lv' := [(3, .int r_85), (0, .ref x), (1, .int a), (2, .int b)]) G0.1 G0.2.1 dX11_buy_61 rfl hl (by decide) rfl (fun ls hl => ?_)
            refine lv_aload_n G0.1 G0.2.1 dX11_buy_62 rfl (lv_at hl 1 rfl) ?_
            refine py_get (C := RX11) (T := TX11) (N := 16) (k := 5) (v := .ref (G.2 x 5)) G0 hw in_X11_buy_X11 rfl hr_24 (by decide) (by decide +kernel) rfl dX11_buy_63 ?_
            refine py_get (C := RX2) (T := TX2) (N := 12) (k := 6) (v := .ref (G.2 (G.2 x 5) 6)) G0 hw in_X11_buy_X2 rfl hr_66 (by decide) (by decide +kernel) rfl dX11_buy_66 ?_
            refine lv_iload_n G0.1 G0.2.1 dX11_buy_69 rfl (lv_at hl 2 rfl) ?_
            refine lv_dup2_11 G0.1 G0.2.1 dX11_buy_70 rfl rfl ?_
            have rg_90 : vp_in a 10 := ti_in (by omega) (by omega)
            refine py_iald G0 hw ha_68 rg_90 dX11_buy_71 ?_
            refine lv_topi (fun x_91 ex_91 => ?_)
            have bx_91 := wf_free x_91
            refine lv_iload_n G0.1 G0.2.1 dX11_buy_72 rfl (lv_at hl 3 rfl) ?_
            refine lv_iadd G0.1 G0.2.1 dX11_buy_73 ?_
            refine lv_topi (fun x_92 ex_92 => ?_)
            first | have tx_92 := ti_add ex_92 (by omega) (by omega) | skip
            have rg_93 : vp_in a 10 := ti_in (by omega) (by omega)
            refine py_iast G0 hw ha_68 rg_93 dX11_buy_74 (fun f_94 H_95 locs h_96 x_97 hw => ?_)
            have hGI := hGI.kp hG Tx (fo_ty hWF t_6) (rp_upd hG hWF x_97 ha_68.2 h_96.2 (rp_code hG t_58 (by decide)) rfl : RP E G f_82 f_94) (KP.refl.upd hWF x_97 t_58 (Or.inl (by decide)) : KP G [26] false f_82 f_94) (by decide)
            have hKP := hKP.upd hWF x_97 t_58 (Or.inl (by decide))
            have hi_98 := wf_inu (k := (a : Int32).toNatClampNeg) (x := x_92) hi_69 (wf_free x_92).1 (wf_free x_92).2
            have hWF := wf_upd hWF h_96 x_97 (by rw [t_58]; exact ⟨_, rfl, hi_98⟩)
            have hr_24 := hr_24.ext x_97 (py_ne_arr hr_24 ha_68)
            have tq_99 := hy_eq hr_24
            have hr_66 := hr_66.ext x_97 (py_ne_arr hr_66 ha_68)
            refine lv_aload_n G0.1 G0.2.1 dX11_buy_75 rfl (lv_at hl 1 rfl) ?_
            refine py_get (C := RX11) (T := TX11) (N := 16) (k := 5) (v := .ref (G.2 x 5)) G0 hw in_X11_buy_X11 rfl hr_24 (by decide) (by decide +kernel) rfl dX11_buy_76 ?_
            refine py_get (C := RX2) (T := TX2) (N := 12) (k := 7) (v := .ref (G.2 (G.2 x 5) 7)) G0 hw in_X11_buy_X2 rfl hr_66 (by decide) (by decide +kernel) rfl dX11_buy_79 ?_
            refine lv_iload_n G0.1 G0.2.1 dX11_buy_82 rfl (lv_at hl 2 rfl) ?_
            refine lv_dup2_11 G0.1 G0.2.1 dX11_buy_83 rfl rfl ?_
            obtain ⟨g_100, ha_101, hi_102⟩ := wf_arr (n := 10) (lo := (-2147483648)) (hi := 2147483647) hWF t_59 (by decide) (fun _ => rfl)
            have rg_103 : vp_in a 10 := ti_in (by omega) (by omega)
            refine py_iald G0 hw ha_101 rg_103 dX11_buy_84 ?_
            refine lv_topi (fun x_104 ex_104 => ?_)
            have bx_104 := wf_free x_104
            refine lv_iload_n G0.1 G0.2.1 dX11_buy_85 rfl (lv_at hl 0 rfl) ?_
            refine lv_iadd G0.1 G0.2.1 dX11_buy_86 ?_
            refine lv_topi (fun x_105 ex_105 => ?_)
            first | have tx_105 := ti_add ex_105 (by omega) (by omega) | skip
            have rg_106 : vp_in a 10 := ti_in (by omega) (by omega)
            refine py_iast G0 hw ha_101 rg_106 dX11_buy_87 (fun f_107 H_108 locs h_109 x_110 hw => ?_)
            have hGI := hGI.kp hG Tx (fo_ty hWF t_6) (rp_upd hG hWF x_110 ha_101.2 h_109.2 (rp_code hG t_59 (by decide)) rfl : RP E G f_94 f_107) (KP.refl.upd hWF x_110 t_59 (Or.inl (by decide)) : KP G [26] false f_94 f_107) (by decide)
            have hKP := hKP.upd hWF x_110 t_59 (Or.inl (by decide))
            have hi_111 := wf_inu (k := (a : Int32).toNatClampNeg) (x := x_105) hi_102 (wf_free x_105).1 (wf_free x_105).2
            have hWF := wf_upd hWF h_109 x_110 (by rw [t_59]; exact ⟨_, rfl, hi_111⟩)
            have hr_24 := hr_24.ext x_110 (py_ne_arr hr_24 ha_101)
            have tq_112 := hy_eq hr_24
            have hr_66 := hr_66.ext x_110 (py_ne_arr hr_66 ha_101)
            refine lv_iload_n G0.1 G0.2.1 dX11_buy_88 rfl (lv_at hl 0 rfl) ?_
            exact py_iret G0 hr rfl hlk hw ⟨hWF, hKP, hGI⟩ dX11_buy_89
          · skip
            have tc_80 := ti_eq c_80
            refine lv_iconst (v := (-1)) G0.1 G0.2.1 dX11_buy_50 (by decide) ?_
            exact py_iret G0 hr rfl hlk hw ⟨hWF, hKP, hGI⟩ dX11_buy_51
        · skip
          have tc_51 := ti_nlt c_51
          refine lv_iconst (v := (-1)) G0.1 G0.2.1 dX11_buy_31 (by decide) ?_
          exact py_iret G0 hr rfl hlk hw ⟨hWF, hKP, hGI⟩ dX11_buy_32

def w_X11_undo : List Cond := .code yX11_undo cX11_undo 3 (some .int) :: ([Cond.fieldLink RX11 67 "HeadYear" "buyings" "LHeadYear$Buyings;", Cond.fieldLink RX11 240 "HeadYear$Buyings" "count" "I", Cond.fieldLink RX11 255 "HeadYear$Buyings" "family" "[I", Cond.fieldLink RX11 47 "HeadYear" "folk" "LHeadYear$Folk;", Cond.fieldLink RX11 188 "HeadYear$Folk" "bought" "[I", Cond.fieldLink RX11 258 "HeadYear$Buyings" "levels" "[I", Cond.fieldLink RX11 195 "HeadYear$Folk" "spent" "[I", Cond.fieldLink RX11 261 "HeadYear$Buyings" "cost" "[I"] ++ (u_ws RX11 TX11 16 ++ (u_ws RX0 TX0 5 ++ (u_ws RX2 TX2 12 ++ ([])))))
theorem in_X11_undo_X11 : ∀ w ∈ u_ws RX11 TX11 16, w ∈ w_X11_undo := fun _ h => List.mem_cons_of_mem _ (List.mem_append_right _ (List.mem_append_left _ h))
theorem in_X11_undo_X0 : ∀ w ∈ u_ws RX0 TX0 5, w ∈ w_X11_undo := fun _ h => List.mem_cons_of_mem _ (List.mem_append_right _ (List.mem_append_right _ (List.mem_append_left _ h)))
theorem in_X11_undo_X2 : ∀ w ∈ u_ws RX2 TX2 12, w ∈ w_X11_undo := fun _ h => List.mem_cons_of_mem _ (List.mem_append_right _ (List.mem_append_right _ (List.mem_append_right _ (List.mem_append_left _ h))))
set_option maxHeartbeats 4000000 in
set_option maxRecDepth 100000 in
theorem c_X11_undo (l : Launch) (E : py_E) (G : wf_G) (L : List Nat) (f : py_F) (sz : Nat) (x : Nat) (hG : GT G) (hWF : WF E G L f) (Tx : G.1 x = 12) (hq0 : GI E G f x) : Met l yX11_undo w_X11_undo ({ frames := 0, cells := 0, slots := 0, locals := 0 }) (py_Pc E [.ref x] L f sz) (py_Qi E L f sz (fun _ L1 f1 => WF E G L1 f1 ∧ KP G [1, 26] false f f1 ∧ GI E G f1 x)) 0 0 (va_A (va_pl L f) sz) := by
  refine Met.ofW (cc := cX11_undo) (maxL := 3) (ret := (some .int)) (by decide) rfl ?_
  intro p e s m args below meth c s₁ B hml hv
  obtain ⟨rfl, rfl, hw⟩ := py_start hv
  have G0 : CallFix p m c cX11_undo 3 s _ w_X11_undo RX11 := ⟨B.exec, B.bytes, hml, findClass_of_methodNamed B.named, atoms_spec (ws := w_X11_undo) B.pre⟩
  have hr := B.returns
  have hlk := B.notSynchronized
  have kcm1 : (-1 : Int32).toInt = -1 := rfl
  have kc0 : (0 : Int32).toInt = 0 := rfl
  have kc1 : (1 : Int32).toInt = 1 := rfl
  have hl := lv_entry ([.ref x]) (n := 3) (Nat.le_of_ble_eq_true rfl)
  rw [lg_entry_eq]
  generalize (lg_sl ([.ref x]) ++ List.replicate (3 - (lg_sl ([.ref x])).length) Slot.unset).toArray = ls at hl ⊢
  have hl : lv_has ls 3 [(0, .ref x)] := hl
  have hGI := hq0
  have hKP : KP G [1, 26] false f f := KP.refl
  obtain ⟨t_1, t_2, t_3, t_4, t_5, t_6, t_7, t_8, t_9, t_10, t_11, t_12, t_13, tx_14, tx_15, tx_16, tx_17⟩ := wt_11 hG Tx
  refine lv_aload_n G0.1 G0.2.1 dX11_undo_0 rfl (lv_at hl 0 rfl) ?_
  obtain ⟨v_18, v_19, v_20, hr_24, b_21, b_22, b_23⟩ := wg_11 hWF Tx
  have tq_25 := hy_eq hr_24
  refine py_get (C := RX11) (T := TX11) (N := 16) (k := 9) (v := .ref (G.2 x 9)) G0 hw in_X11_undo_X11 rfl hr_24 (by decide) (by decide +kernel) rfl dX11_undo_1 ?_
  obtain ⟨t_26, t_27, t_28⟩ := wt_0 hG t_10
  obtain ⟨v_29, v_30, hr_33, b_31, b_32⟩ := wg_0 hWF t_10
  refine py_get (C := RX0) (T := TX0) (N := 5) (k := 3) (v := .int v_29) G0 hw in_X11_undo_X0 rfl hr_33 (by decide) (by decide +kernel) rfl dX11_undo_4 ?_
  refine lv_iconst (v := 1) G0.1 G0.2.1 dX11_undo_7 (by decide) ?_
  refine lv_icmp_ge (tgt := 13) G0.1 G0.2.1 dX11_undo_8 (by decide) (fun c_34 => ?_) (fun c_34 => ?_)
  · skip
    have tc_34 := ti_le c_34
    refine lv_aload_n G0.1 G0.2.1 dX11_undo_13 rfl (lv_at hl 0 rfl) ?_
    refine py_get (C := RX11) (T := TX11) (N := 16) (k := 9) (v := .ref (G.2 x 9)) G0 hw in_X11_undo_X11 rfl hr_24 (by decide) (by decide +kernel) rfl dX11_undo_14 ?_
    refine py_get (C := RX0) (T := TX0) (N := 5) (k := 3) (v := .int v_29) G0 hw in_X11_undo_X0 rfl hr_33 (by decide) (by decide +kernel) rfl dX11_undo_17 ?_
    refine lv_iconst (v := 1) G0.1 G0.2.1 dX11_undo_20 (by decide) ?_
    refine lv_isub G0.1 G0.2.1 dX11_undo_21 ?_
    refine lv_topi (fun x_35 ex_35 => ?_)
    first | have tx_35 := ti_sub ex_35 (by omega) (by omega) | skip
    refine lv_istore_n (lv' := [(1, .int x_35), (0, .ref x)]) G0.1 G0.2.1 dX11_undo_22 rfl hl (by decide) rfl (fun ls hl => ?_)
    refine lv_aload_n G0.1 G0.2.1 dX11_undo_23 rfl (lv_at hl 1 rfl) ?_
    refine py_get (C := RX11) (T := TX11) (N := 16) (k := 9) (v := .ref (G.2 x 9)) G0 hw in_X11_undo_X11 rfl hr_24 (by decide) (by decide +kernel) rfl dX11_undo_24 ?_
    refine py_get (C := RX0) (T := TX0) (N := 5) (k := 0) (v := .ref (G.2 (G.2 x 9) 0)) G0 hw in_X11_undo_X0 rfl hr_33 (by decide) (by decide +kernel) rfl dX11_undo_27 ?_
    refine lv_iload_n G0.1 G0.2.1 dX11_undo_30 rfl (lv_at hl 0 rfl) ?_
    obtain ⟨g_36, ha_37, hi_38⟩ := wf_arr (n := 40) (lo := 0) (hi := 9) hWF t_26 (by decide) (fun _ => rfl)
    have rg_39 : vp_in x_35 40 := ti_in (by omega) (by omega)
    refine py_iald G0 hw ha_37 rg_39 dX11_undo_31 ?_
    refine lv_topi (fun x_40 ex_40 => ?_)
    have bx_40 := ti_at hi_38 rg_39 ex_40
    refine lv_istore_n (lv' := [(2, .int x_40), (1, .int x_35), (0, .ref x)]) G0.1 G0.2.1 dX11_undo_32 rfl hl (by decide) rfl (fun ls hl => ?_)
    refine lv_aload_n G0.1 G0.2.1 dX11_undo_33 rfl (lv_at hl 2 rfl) ?_
    refine py_get (C := RX11) (T := TX11) (N := 16) (k := 5) (v := .ref (G.2 x 5)) G0 hw in_X11_undo_X11 rfl hr_24 (by decide) (by decide +kernel) rfl dX11_undo_34 ?_
    obtain ⟨t_41, t_42, t_43, t_44, t_45, t_46, t_47, t_48, t_49⟩ := wt_2 hG t_6
    obtain ⟨r_50, y_51, v_52, hr_55, ty_53, b_54⟩ := wg_2 hWF t_6
    refine py_get (C := RX2) (T := TX2) (N := 12) (k := 6) (v := .ref (G.2 (G.2 x 5) 6)) G0 hw in_X11_undo_X2 rfl hr_55 (by decide) (by decide +kernel) rfl dX11_undo_37 ?_
    refine lv_iload_n G0.1 G0.2.1 dX11_undo_40 rfl (lv_at hl 0 rfl) ?_
    refine lv_dup2_11 G0.1 G0.2.1 dX11_undo_41 rfl rfl ?_
    obtain ⟨g_56, ha_57, hi_58⟩ := wf_arr (n := 10) (lo := (-2147483648)) (hi := 2147483647) hWF t_47 (by decide) (fun _ => rfl)
    have rg_59 : vp_in x_40 10 := ti_in (by omega) (by omega)
    refine py_iald G0 hw ha_57 rg_59 dX11_undo_42 ?_
    refine lv_topi (fun x_60 ex_60 => ?_)
    have bx_60 := wf_free x_60
    refine lv_aload_n G0.1 G0.2.1 dX11_undo_43 rfl (lv_at hl 2 rfl) ?_
    refine py_get (C := RX11) (T := TX11) (N := 16) (k := 9) (v := .ref (G.2 x 9)) G0 hw in_X11_undo_X11 rfl hr_24 (by decide) (by decide +kernel) rfl dX11_undo_44 ?_
    refine py_get (C := RX0) (T := TX0) (N := 5) (k := 1) (v := .ref (G.2 (G.2 x 9) 1)) G0 hw in_X11_undo_X0 rfl hr_33 (by decide) (by decide +kernel) rfl dX11_undo_47 ?_
    refine lv_iload_n G0.1 G0.2.1 dX11_undo_50 rfl (lv_at hl 1 rfl) ?_
    obtain ⟨g_61, ha_62, hi_63⟩ := wf_arr (n := 40) (lo := (-2147483648)) (hi := 2147483647) hWF t_27 (by decide) (fun _ => rfl)
    have rg_64 : vp_in x_35 40 := ti_in (by omega) (by omega)
    refine py_iald G0 hw ha_62 rg_64 dX11_undo_51 ?_
    refine lv_topi (fun x_65 ex_65 => ?_)
    have bx_65 := wf_free x_65
    refine lv_isub G0.1 G0.2.1 dX11_undo_52 ?_
    refine lv_topi (fun x_66 ex_66 => ?_)
    first | have tx_66 := ti_sub ex_66 (by omega) (by omega) | skip
    have rg_67 : vp_in x_40 10 := ti_in (by omega) (by omega)
    refine py_iast G0 hw ha_57 rg_67 dX11_undo_53 (fun f_68 H_69 locs h_70 x_71 hw => ?_)
    have hGI := hGI.kp hG Tx (fo_ty hWF t_6) (rp_upd hG hWF x_71 ha_57.2 h_70.2 (rp_code hG t_47 (by decide)) rfl : RP E G f f_68) (KP.refl.upd hWF x_71 t_47 (Or.inl (by decide)) : KP G [26] false f f_68) (by decide)
    have hKP := hKP.upd hWF x_71 t_47 (Or.inl (by decide))
    have hi_72 := wf_inu (k := (x_40 : Int32).toNatClampNeg) (x := x_66) hi_58 (wf_free x_66).1 (wf_free x_66).2
    have hWF := wf_upd hWF h_70 x_71 (by rw [t_47]; exact ⟨_, rfl, hi_72⟩)
    have hr_24 := hr_24.ext x_71 (py_ne_arr hr_24 ha_57)
    have tq_73 := hy_eq hr_24
    have hr_33 := hr_33.ext x_71 (py_ne_arr hr_33 ha_57)
    have hr_55 := hr_55.ext x_71 (py_ne_arr hr_55 ha_57)
    have ha_37 := ha_37.ext x_71 (wf_ne t_26 t_47 (by decide))
    have ha_62 := ha_62.ext x_71 (wf_ne t_27 t_47 (by decide))
    refine lv_aload_n G0.1 G0.2.1 dX11_undo_54 rfl (lv_at hl 2 rfl) ?_
    refine py_get (C := RX11) (T := TX11) (N := 16) (k := 5) (v := .ref (G.2 x 5)) G0 hw in_X11_undo_X11 rfl hr_24 (by decide) (by decide +kernel) rfl dX11_undo_55 ?_
    refine py_get (C := RX2) (T := TX2) (N := 12) (k := 7) (v := .ref (G.2 (G.2 x 5) 7)) G0 hw in_X11_undo_X2 rfl hr_55 (by decide) (by decide +kernel) rfl dX11_undo_58 ?_
    refine lv_iload_n G0.1 G0.2.1 dX11_undo_61 rfl (lv_at hl 0 rfl) ?_
    refine lv_dup2_11 G0.1 G0.2.1 dX11_undo_62 rfl rfl ?_
    obtain ⟨g_74, ha_75, hi_76⟩ := wf_arr (n := 10) (lo := (-2147483648)) (hi := 2147483647) hWF t_48 (by decide) (fun _ => rfl)
    have rg_77 : vp_in x_40 10 := ti_in (by omega) (by omega)
    refine py_iald G0 hw ha_75 rg_77 dX11_undo_63 ?_
    refine lv_topi (fun x_78 ex_78 => ?_)
    have bx_78 := wf_free x_78
    refine lv_aload_n G0.1 G0.2.1 dX11_undo_64 rfl (lv_at hl 2 rfl) ?_
    refine py_get (C := RX11) (T := TX11) (N := 16) (k := 9) (v := .ref (G.2 x 9)) G0 hw in_X11_undo_X11 rfl hr_24 (by decide) (by decide +kernel) rfl dX11_undo_65 ?_
    refine py_get (C := RX0) (T := TX0) (N := 5) (k := 2) (v := .ref (G.2 (G.2 x 9) 2)) G0 hw in_X11_undo_X0 rfl hr_33 (by decide) (by decide +kernel) rfl dX11_undo_68 ?_
    refine lv_iload_n G0.1 G0.2.1 dX11_undo_71 rfl (lv_at hl 1 rfl) ?_
    obtain ⟨g_79, ha_80, hi_81⟩ := wf_arr (n := 40) (lo := (-2147483648)) (hi := 2147483647) hWF t_28 (by decide) (fun _ => rfl)
    have rg_82 : vp_in x_35 40 := ti_in (by omega) (by omega)
    refine py_iald G0 hw ha_80 rg_82 dX11_undo_72 ?_
    refine lv_topi (fun x_83 ex_83 => ?_)
    have bx_83 := wf_free x_83
    refine lv_isub G0.1 G0.2.1 dX11_undo_73 ?_
    refine lv_topi (fun x_84 ex_84 => ?_)
    first | have tx_84 := ti_sub ex_84 (by omega) (by omega) | skip
    have rg_85 : vp_in x_40 10 := ti_in (by omega) (by omega)
    refine py_iast G0 hw ha_75 rg_85 dX11_undo_74 (fun f_86 H_87 locs h_88 x_89 hw => ?_)
    have hGI := hGI.kp hG Tx (fo_ty hWF t_6) (rp_upd hG hWF x_89 ha_75.2 h_88.2 (rp_code hG t_48 (by decide)) rfl : RP E G f_68 f_86) (KP.refl.upd hWF x_89 t_48 (Or.inl (by decide)) : KP G [26] false f_68 f_86) (by decide)
    have hKP := hKP.upd hWF x_89 t_48 (Or.inl (by decide))
    have hi_90 := wf_inu (k := (x_40 : Int32).toNatClampNeg) (x := x_84) hi_76 (wf_free x_84).1 (wf_free x_84).2
    have hWF := wf_upd hWF h_88 x_89 (by rw [t_48]; exact ⟨_, rfl, hi_90⟩)
    have hr_24 := hr_24.ext x_89 (py_ne_arr hr_24 ha_75)
    have tq_91 := hy_eq hr_24
    have hr_33 := hr_33.ext x_89 (py_ne_arr hr_33 ha_75)
    have hr_55 := hr_55.ext x_89 (py_ne_arr hr_55 ha_75)
    have ha_37 := ha_37.ext x_89 (wf_ne t_26 t_48 (by decide))
    have ha_62 := ha_62.ext x_89 (wf_ne t_27 t_48 (by decide))
    have ha_80 := ha_80.ext x_89 (wf_ne t_28 t_48 (by decide))
    refine lv_aload_n G0.1 G0.2.1 dX11_undo_75 rfl (lv_at hl 2 rfl) ?_
    refine py_get (C := RX11) (T := TX11) (N := 16) (k := 9) (v := .ref (G.2 x 9)) G0 hw in_X11_undo_X11 rfl hr_24 (by decide) (by decide +kernel) rfl dX11_undo_76 ?_
    refine lv_iload_n G0.1 G0.2.1 dX11_undo_79 rfl (lv_at hl 1 rfl) ?_
    refine py_put (C := RX0) (T := TX0) (N := 5) (k := 3) (v := .int x_35) (fs' := [.ref (G.2 (G.2 x 9) 0), .ref (G.2 (G.2 x 9) 1), .ref (G.2 (G.2 x 9) 2), .int x_35, .int v_30]) (ty0 := tyX0) G0 hw tyX0_ok nmX0 in_X11_undo_X0 rfl hr_33 (by decide) (by decide +kernel) rfl rfl rfl rfl (Nat.le_of_ble_eq_true rfl) rfl dX11_undo_80 (fun f_92 H_93 locs h_94 x_95 hw => ?_)
    have hGI := hGI.kp hG Tx (fo_ty hWF t_6) (rp_upd hG hWF x_95 hr_33.2 h_94.2 (rp_code hG t_10 (by decide)) rfl : RP E G f_86 f_92) (KP.refl.upd hWF x_95 t_10 (Or.inl (by decide)) : KP G [1] false f_86 f_92) (by decide)
    have hKP := hKP.upd hWF x_95 t_10 (Or.inl (by decide))
    have hWF := wf_upd hWF h_94 x_95 (by rw [t_10]; exact ⟨x_35, v_30, rfl, ⟨by omega, by omega⟩, ⟨by omega, by omega⟩⟩)
    have h_88 := h_88.ext x_95 (Ne.symm (py_ne_arr hr_33 h_88))
    have ha_37 := ha_37.ext x_95 (Ne.symm (py_ne_arr hr_33 ha_37))
    have ha_62 := ha_62.ext x_95 (Ne.symm (py_ne_arr hr_33 ha_62))
    have ha_80 := ha_80.ext x_95 (Ne.symm (py_ne_arr hr_33 ha_80))
    have hr_24 := hr_24.ext x_95 (py_ne_kind hr_24 hr_33 (by decide))
    have tq_96 := hy_eq hr_24
    have hr_55 := hr_55.ext x_95 (py_ne_kind hr_55 hr_33 (by decide))
    refine lv_iload_n G0.1 G0.2.1 dX11_undo_83 rfl (lv_at hl 0 rfl) ?_
    exact py_iret G0 hr rfl hlk hw ⟨hWF, hKP, hGI⟩ dX11_undo_84
  · skip
    have tc_34 := ti_nle c_34
    refine lv_iconst (v := (-1)) G0.1 G0.2.1 dX11_undo_11 (by decide) ?_
    exact py_iret G0 hr rfl hlk hw ⟨hWF, hKP, hGI⟩ dX11_undo_12

def w_X11_hush : List Cond := .code yX11_hush cX11_hush 3 (some .boolean) :: ([Cond.methodLink RX11 246 yX11_lives, Cond.instanceMethod yX11_lives, Cond.selects RX11 yX11_lives yX11_lives, Cond.initialized RX11, Cond.fieldLink RX11 47 "HeadYear" "folk" "LHeadYear$Folk;", Cond.fieldLink RX11 191 "HeadYear$Folk" "hushed" "[Z"] ++ (u_ws RX11 TX11 16 ++ (u_ws RX2 TX2 12 ++ (w_X11_lives ++ ([])))))
theorem in_X11_hush_X11 : ∀ w ∈ u_ws RX11 TX11 16, w ∈ w_X11_hush := fun _ h => List.mem_cons_of_mem _ (List.mem_append_right _ (List.mem_append_left _ h))
theorem in_X11_hush_X2 : ∀ w ∈ u_ws RX2 TX2 12, w ∈ w_X11_hush := fun _ h => List.mem_cons_of_mem _ (List.mem_append_right _ (List.mem_append_right _ (List.mem_append_left _ h)))
theorem gg_X11_hush_X11_lives : GoodIn w_X11_hush w_X11_lives := goodIn_sub (fun _ h => List.mem_cons_of_mem _ (List.mem_append_right _ (List.mem_append_right _ (List.mem_append_right _ (List.mem_append_left _ h))))) (by decide +kernel)
theorem g_X11_hush_X11_lives_246 : GoodIn w_X11_hush (wsV RX11 246 RX11 yX11_lives w_X11_lives) := goodIn_app (goodIn_of _ (by decide +kernel)) gg_X11_hush_X11_lives
set_option maxHeartbeats 4000000 in
set_option maxRecDepth 100000 in
theorem c_X11_hush (l : Launch) (E : py_E) (G : wf_G) (L : List Nat) (f : py_F) (sz : Nat) (x : Nat) (a : Int32) (b : Int32) (hG : GT G) (hWF : WF E G L f) (Tx : G.1 x = 12) (Bb : (0 ≤ b.toInt ∧ b.toInt ≤ 1)) (hq0 : GI E G f x) : Met l yX11_hush w_X11_hush ({ frames := 2, cells := 0, slots := 0, locals := 42 }) (py_Pc E [.ref x, .int a, .int b] L f sz) (py_Qi E L f sz (fun r L1 f1 => (0 ≤ r.toInt ∧ r.toInt ≤ 1) ∧ WF E G L1 f1 ∧ KP G [30] false f f1 ∧ GI E G f1 x)) 0 0 (va_A (va_pl L f) sz) := by
  refine Met.ofW (cc := cX11_hush) (maxL := 3) (ret := (some .boolean)) (by decide) rfl ?_
  intro p e s m args below meth c s₁ B hml hv
  obtain ⟨rfl, rfl, hw⟩ := py_start hv
  have G0 : CallFix p m c cX11_hush 3 s _ w_X11_hush RX11 := ⟨B.exec, B.bytes, hml, findClass_of_methodNamed B.named, atoms_spec (ws := w_X11_hush) B.pre⟩
  have hr := B.returns
  have hlk := B.notSynchronized
  have kcm1 : (-1 : Int32).toInt = -1 := rfl
  have kc0 : (0 : Int32).toInt = 0 := rfl
  have kc1 : (1 : Int32).toInt = 1 := rfl
  have hl := lv_entry ([.ref x, .int a, .int b]) (n := 3) (Nat.le_of_ble_eq_true rfl)
  rw [lg_entry_eq]
  generalize (lg_sl ([.ref x, .int a, .int b]) ++ List.replicate (3 - (lg_sl ([.ref x, .int a, .int b])).length) Slot.unset).toArray = ls at hl ⊢
  have hl : lv_has ls 3 [(0, .ref x), (1, .int a), (2, .int b)] := hl
  have hGI := hq0
  have hKP : KP G [30] false f f := KP.refl
  obtain ⟨t_1, t_2, t_3, t_4, t_5, t_6, t_7, t_8, t_9, t_10, t_11, t_12, t_13, tx_14, tx_15, tx_16, tx_17⟩ := wt_11 hG Tx
  refine lv_aload_n G0.1 G0.2.1 dX11_hush_0 rfl (lv_at hl 0 rfl) ?_
  refine lv_iload_n G0.1 G0.2.1 dX11_hush_1 rfl (lv_at hl 1 rfl) ?_
  obtain ⟨v_18, v_19, v_20, hr_24, b_21, b_22, b_23⟩ := wg_11 hWF Tx
  have tq_25 := hy_eq hr_24
  refine py_calli hw (va_runV (As := [.int a]) (rest := []) G0 (c_X11_lives l E G L f s.heap.size x a hG hWF Tx) (cwV 1 G0.2.2.2.2 g_X11_hush_X11_lives_246 rfl rfl rfl (by decide +kernel) ⟨(Nat.le_of_ble_eq_true rfl), (Nat.le_of_ble_eq_true rfl)⟩) (py_preV hw (C := RX11) (T := TX11) (N := 16) rfl hr_24) rfl rfl hl.1 rfl (lv_room (Nat.le_of_ble_eq_true rfl)) dX11_hush_2 ⟨(Nat.le_of_ble_eq_true rfl), (Nat.le_of_ble_eq_true rfl)⟩) (fun r_30 L_26 f_27 H_28 locs hp_29 hw => ?_)
  obtain ⟨b_32, en_31, rfl, rfl⟩ := hp_29
  refine lv_if_eq (tgt := 21) G0.1 G0.2.1 dX11_hush_5 (by decide) (fun c_33 => ?_) (fun c_33 => ?_)
  · skip
    have tc_33 := ti_eq c_33
    refine lv_iconst (v := 0) G0.1 G0.2.1 dX11_hush_21 (by decide) ?_
    exact py_iret G0 hr rfl hlk hw ⟨⟨by omega, by omega⟩, hWF, hKP, hGI⟩ dX11_hush_22
  · skip
    have tc_33 := ti_ne c_33
    refine lv_aload_n G0.1 G0.2.1 dX11_hush_8 rfl (lv_at hl 0 rfl) ?_
    refine py_get (C := RX11) (T := TX11) (N := 16) (k := 5) (v := .ref (G.2 x 5)) G0 hw in_X11_hush_X11 rfl hr_24 (by decide) (by decide +kernel) rfl dX11_hush_9 ?_
    obtain ⟨t_34, t_35, t_36, t_37, t_38, t_39, t_40, t_41, t_42⟩ := wt_2 hG t_6
    obtain ⟨r_43, y_44, v_45, hr_48, ty_46, b_47⟩ := wg_2 hWF t_6
    refine py_get (C := RX2) (T := TX2) (N := 12) (k := 8) (v := .ref (G.2 (G.2 x 5) 8)) G0 hw in_X11_hush_X2 rfl hr_48 (by decide) (by decide +kernel) rfl dX11_hush_12 ?_
    refine lv_iload_n G0.1 G0.2.1 dX11_hush_15 rfl (lv_at hl 1 rfl) ?_
    obtain ⟨g_49, ha_50⟩ := wf_z30 hWF t_42
    have rg_51 : vp_in a 10 := ti_in (by omega) (by omega)
    refine py_zald G0 hw ha_50 rg_51 dX11_hush_16 ?_
    refine lv_topi (fun x_52 ex_52 => ?_)
    refine lv_iload_n G0.1 G0.2.1 dX11_hush_17 rfl (lv_at hl 2 rfl) ?_
    refine lv_icmp_ne (tgt := 23) G0.1 G0.2.1 dX11_hush_18 (by decide) (fun c_53 => ?_) (fun c_53 => ?_)
    · skip
      have tc_53 := ti_ne c_53
      refine lv_aload_n G0.1 G0.2.1 dX11_hush_23 rfl (lv_at hl 0 rfl) ?_
      refine py_get (C := RX11) (T := TX11) (N := 16) (k := 5) (v := .ref (G.2 x 5)) G0 hw in_X11_hush_X11 rfl hr_24 (by decide) (by decide +kernel) rfl dX11_hush_24 ?_
      refine py_get (C := RX2) (T := TX2) (N := 12) (k := 8) (v := .ref (G.2 (G.2 x 5) 8)) G0 hw in_X11_hush_X2 rfl hr_48 (by decide) (by decide +kernel) rfl dX11_hush_27 ?_
      refine lv_iload_n G0.1 G0.2.1 dX11_hush_30 rfl (lv_at hl 1 rfl) ?_
      refine lv_iload_n G0.1 G0.2.1 dX11_hush_31 rfl (lv_at hl 2 rfl) ?_
      obtain ⟨g_54, ha_55⟩ := wf_z30 hWF t_42
      have rg_56 : vp_in a 10 := ti_in (by omega) (by omega)
      refine py_zast G0 hw ha_55 rg_56 dX11_hush_32 (fun f_57 H_58 locs h_59 x_60 hw => ?_)
      have hGI := hGI.kp hG Tx (fo_ty hWF t_6) (rp_upd hG hWF x_60 ha_55.2 h_59.2 (rp_code hG t_42 (by decide)) rfl : RP E G f f_57) (KP.refl.upd hWF x_60 t_42 (Or.inl (by decide)) : KP G [30] false f f_57) (by decide)
      have hKP := hKP.upd hWF x_60 t_42 (Or.inl (by decide))
      have hWF := wf_upd hWF h_59 x_60 (by rw [t_42]; exact ⟨_, rfl⟩)
      have hr_24 := hr_24.ext x_60 (py_ne_arr hr_24 ha_55)
      have tq_61 := hy_eq hr_24
      have hr_48 := hr_48.ext x_60 (py_ne_arr hr_48 ha_55)
      refine lv_iconst (v := 1) G0.1 G0.2.1 dX11_hush_33 (by decide) ?_
      exact py_iret G0 hr rfl hlk hw ⟨⟨by omega, by omega⟩, hWF, hKP, hGI⟩ dX11_hush_34
    · skip
      have tc_53 := ti_eq c_53
      refine lv_iconst (v := 0) G0.1 G0.2.1 dX11_hush_21 (by decide) ?_
      exact py_iret G0 hr rfl hlk hw ⟨⟨by omega, by omega⟩, hWF, hKP, hGI⟩ dX11_hush_22

def w_X11_waiting : List Cond := .code yX11_waiting cX11_waiting 1 (some .int) :: ([Cond.methodLink RX11 218 yX11_hasValley, Cond.instanceMethod yX11_hasValley, Cond.selects RX11 yX11_hasValley yX11_hasValley, Cond.initialized RX11, Cond.fieldLink RX11 47 "HeadYear" "folk" "LHeadYear$Folk;", Cond.methodLink RX11 264 yX2_waitingBits, Cond.instanceMethod yX2_waitingBits, Cond.selects RX2 yX2_waitingBits yX2_waitingBits, Cond.initialized RX2] ++ (u_ws RX11 TX11 16 ++ (w_X11_hasValley ++ (w_X2_waitingBits ++ ([])))))
theorem in_X11_waiting_X11 : ∀ w ∈ u_ws RX11 TX11 16, w ∈ w_X11_waiting := fun _ h => List.mem_cons_of_mem _ (List.mem_append_right _ (List.mem_append_left _ h))
theorem gg_X11_waiting_X11_hasValley : GoodIn w_X11_waiting w_X11_hasValley := goodIn_sub (fun _ h => List.mem_cons_of_mem _ (List.mem_append_right _ (List.mem_append_right _ (List.mem_append_left _ h)))) (by decide +kernel)
theorem gg_X11_waiting_X2_waitingBits : GoodIn w_X11_waiting w_X2_waitingBits := goodIn_sub (fun _ h => List.mem_cons_of_mem _ (List.mem_append_right _ (List.mem_append_right _ (List.mem_append_right _ (List.mem_append_left _ h))))) (by decide +kernel)
theorem g_X11_waiting_X11_hasValley_218 : GoodIn w_X11_waiting (wsV RX11 218 RX11 yX11_hasValley w_X11_hasValley) := goodIn_app (goodIn_of _ (by decide +kernel)) gg_X11_waiting_X11_hasValley
theorem g_X11_waiting_X2_waitingBits_264 : GoodIn w_X11_waiting (wsV RX11 264 RX2 yX2_waitingBits w_X2_waitingBits) := goodIn_app (goodIn_of _ (by decide +kernel)) gg_X11_waiting_X2_waitingBits
set_option maxHeartbeats 4000000 in
set_option maxRecDepth 100000 in
theorem c_X11_waiting (l : Launch) (E : py_E) (G : wf_G) (L : List Nat) (f : py_F) (sz : Nat) (x : Nat) (hG : GT G) (hWF : WF E G L f) (Tx : G.1 x = 12) : Met l yX11_waiting w_X11_waiting ({ frames := 4, cells := 0, slots := 0, locals := 89 }) (py_Pc E [.ref x] L f sz) (py_Qi E L f sz (fun _ L1 f1 => L = L1 ∧ f = f1)) 0 0 (va_A (va_pl L f) sz) := by
  refine Met.ofW (cc := cX11_waiting) (maxL := 1) (ret := (some .int)) (by decide) rfl ?_
  intro p e s m args below meth c s₁ B hml hv
  obtain ⟨rfl, rfl, hw⟩ := py_start hv
  have G0 : CallFix p m c cX11_waiting 1 s _ w_X11_waiting RX11 := ⟨B.exec, B.bytes, hml, findClass_of_methodNamed B.named, atoms_spec (ws := w_X11_waiting) B.pre⟩
  have hr := B.returns
  have hlk := B.notSynchronized
  have kcm1 : (-1 : Int32).toInt = -1 := rfl
  have kc0 : (0 : Int32).toInt = 0 := rfl
  have kc1 : (1 : Int32).toInt = 1 := rfl
  have hl := lv_entry ([.ref x]) (n := 1) (Nat.le_of_ble_eq_true rfl)
  rw [lg_entry_eq]
  generalize (lg_sl ([.ref x]) ++ List.replicate (1 - (lg_sl ([.ref x])).length) Slot.unset).toArray = ls at hl ⊢
  have hl : lv_has ls 1 [(0, .ref x)] := hl
  have hRP : RP E G f f := RP.refl
  refine lv_aload_n G0.1 G0.2.1 dX11_waiting_0 rfl (lv_at hl 0 rfl) ?_
  obtain ⟨t_1, t_2, t_3, t_4, t_5, t_6, t_7, t_8, t_9, t_10, t_11, t_12, t_13, tx_14, tx_15, tx_16, tx_17⟩ := wt_11 hG Tx
  obtain ⟨v_18, v_19, v_20, hr_24, b_21, b_22, b_23⟩ := wg_11 hWF Tx
  have tq_25 := hy_eq hr_24
  refine py_calli hw (va_runV (As := []) (rest := []) G0 (c_X11_hasValley l E G L f s.heap.size x hG hWF Tx) (cwV 0 G0.2.2.2.2 g_X11_waiting_X11_hasValley_218 rfl rfl rfl (by decide +kernel) ⟨(Nat.le_of_ble_eq_true rfl), (Nat.le_of_ble_eq_true rfl)⟩) (py_preV hw (C := RX11) (T := TX11) (N := 16) rfl hr_24) rfl rfl hl.1 rfl (lv_room (Nat.le_of_ble_eq_true rfl)) dX11_waiting_1 ⟨(Nat.le_of_ble_eq_true rfl), (Nat.le_of_ble_eq_true rfl)⟩) (fun r_30 L_26 f_27 H_28 locs hp_29 hw => ?_)
  obtain ⟨b_33, en_31, en_32, rfl, rfl⟩ := hp_29
  have jn_18 : ∀ (v_34 : Int32) (H_j18 : Heap) (locs : List Loc) (ls : Array Slot), py_W E (va_A (va_pl L f) s.heap.size) s L f H_j18 locs → lv_has ls 1 [(0, .ref x)] → W p l e (headSpec w_X11_waiting ({ frames := 4, cells := 0, slots := 0, locals := 89 })).room s m ([.ref x] : List Value).toArray below meth c H_j18 locs 0 0 (MQ below (py_Qi E L f s.heap.size (fun _ L1 f1 => L = L1 ∧ f = f1)) ([.ref x] : List Value).toArray s 0 0 (va_A (va_pl L f) s.heap.size)) (F0 m 18 ls [.int v_34]) := by
    intro v_34 H_j18 locs ls hw hl
    exact py_iret G0 hr rfl hlk hw ⟨rfl, rfl⟩ dX11_waiting_18
  refine lv_if_eq (tgt := 17) G0.1 G0.2.1 dX11_waiting_4 (by decide) (fun c_35 => ?_) (fun c_35 => ?_)
  · skip
    have tc_35 := ti_eq c_35
    refine lv_iconst (v := (-1)) G0.1 G0.2.1 dX11_waiting_17 (by decide) ?_
    exact jn_18 (-1) _ _ ls hw (lv_sub hl [0] rfl)
  · skip
    have tc_35 := ti_ne c_35
    refine lv_aload_n G0.1 G0.2.1 dX11_waiting_7 rfl (lv_at hl 0 rfl) ?_
    refine py_get (C := RX11) (T := TX11) (N := 16) (k := 5) (v := .ref (G.2 x 5)) G0 hw in_X11_waiting_X11 rfl hr_24 (by decide) (by decide +kernel) rfl dX11_waiting_8 ?_
    obtain ⟨t_36, t_37, t_38, t_39, t_40, t_41, t_42, t_43, t_44⟩ := wt_2 hG t_6
    obtain ⟨r_45, y_46, v_47, hr_50, ty_48, b_49⟩ := wg_2 hWF t_6
    refine py_calli hw (va_runV (As := []) (rest := []) G0 (c_X2_waitingBits l E G L f H_28.size (G.2 x 5) hG hWF t_6) (cwV 0 G0.2.2.2.2 g_X11_waiting_X2_waitingBits_264 rfl rfl rfl (by decide +kernel) ⟨(Nat.le_of_ble_eq_true rfl), (Nat.le_of_ble_eq_true rfl)⟩) (py_preV hw (C := RX2) (T := TX2) (N := 12) rfl hr_50) rfl rfl hl.1 rfl (lv_room (Nat.le_of_ble_eq_true rfl)) dX11_waiting_11 ⟨(Nat.le_of_ble_eq_true rfl), (Nat.le_of_ble_eq_true rfl)⟩) (fun r_55 L_51 f_52 H_53 locs hp_54 hw => ?_)
    obtain ⟨b_56, rfl, rfl⟩ := hp_54
    refine lv_goto (tgt := 18) G0.1 G0.2.1 dX11_waiting_14 (by decide) ?_
    exact jn_18 r_55 _ _ ls hw (lv_sub hl [0] rfl)

def w_X11_most : List Cond := .code yX11_most cX11_most 3 (some .int) :: ([Cond.methodLink RX11 218 yX11_hasValley, Cond.instanceMethod yX11_hasValley, Cond.selects RX11 yX11_hasValley yX11_hasValley, Cond.initialized RX11, Cond.methodLink RX11 267 yX11_isZeroOrOne, Cond.static yX11_isZeroOrOne, Cond.fieldLink RX11 81 "HeadYear" "moves" "LHeadYear$Moves;", Cond.fieldLink RX11 47 "HeadYear" "folk" "LHeadYear$Folk;", Cond.methodLink RX11 270 yX5_mostBits, Cond.instanceMethod yX5_mostBits, Cond.selects RX5 yX5_mostBits yX5_mostBits, Cond.initialized RX5, Cond.methodLink RX11 273 yJ6_bitCount_0f7a4, Cond.static yJ6_bitCount_0f7a4, Cond.initialized RJ6] ++ (u_ws RX11 TX11 16 ++ (w_X11_hasValley ++ (w_X11_isZeroOrOne ++ (w_X5_mostBits ++ (w_J6_bitCount_0f7a4 ++ ([])))))))
theorem in_X11_most_X11 : ∀ w ∈ u_ws RX11 TX11 16, w ∈ w_X11_most := fun _ h => List.mem_cons_of_mem _ (List.mem_append_right _ (List.mem_append_left _ h))
theorem gg_X11_most_X11_hasValley : GoodIn w_X11_most w_X11_hasValley := goodIn_sub (fun _ h => List.mem_cons_of_mem _ (List.mem_append_right _ (List.mem_append_right _ (List.mem_append_left _ h)))) (by decide +kernel)
theorem gg_X11_most_X11_isZeroOrOne : GoodIn w_X11_most w_X11_isZeroOrOne := goodIn_sub (fun _ h => List.mem_cons_of_mem _ (List.mem_append_right _ (List.mem_append_right _ (List.mem_append_right _ (List.mem_append_left _ h))))) (by decide +kernel)
theorem gg_X11_most_X5_mostBits : GoodIn w_X11_most w_X5_mostBits := goodIn_sub (fun _ h => List.mem_cons_of_mem _ (List.mem_append_right _ (List.mem_append_right _ (List.mem_append_right _ (List.mem_append_right _ (List.mem_append_left _ h)))))) (by decide +kernel)
theorem gg_X11_most_J6_bitCount_0f7a4 : GoodIn w_X11_most w_J6_bitCount_0f7a4 := goodIn_sub (fun _ h => List.mem_cons_of_mem _ (List.mem_append_right _ (List.mem_append_right _ (List.mem_append_right _ (List.mem_append_right _ (List.mem_append_right _ (List.mem_append_left _ h))))))) (by decide +kernel)
theorem g_X11_most_J6_bitCount_0f7a4_273 : GoodIn w_X11_most (va_wsS RX11 273 yJ6_bitCount_0f7a4 w_J6_bitCount_0f7a4) := goodIn_app (goodIn_of _ (by decide +kernel)) gg_X11_most_J6_bitCount_0f7a4
theorem g_X11_most_X11_hasValley_218 : GoodIn w_X11_most (wsV RX11 218 RX11 yX11_hasValley w_X11_hasValley) := goodIn_app (goodIn_of _ (by decide +kernel)) gg_X11_most_X11_hasValley
theorem g_X11_most_X11_isZeroOrOne_267 : GoodIn w_X11_most (va_wsS RX11 267 yX11_isZeroOrOne w_X11_isZeroOrOne) := goodIn_app (goodIn_of _ (by decide +kernel)) gg_X11_most_X11_isZeroOrOne
theorem g_X11_most_X5_mostBits_270 : GoodIn w_X11_most (wsV RX11 270 RX5 yX5_mostBits w_X5_mostBits) := goodIn_app (goodIn_of _ (by decide +kernel)) gg_X11_most_X5_mostBits
set_option maxHeartbeats 4000000 in
set_option maxRecDepth 100000 in
theorem c_X11_most (l : Launch) (E : py_E) (G : wf_G) (L : List Nat) (f : py_F) (sz : Nat) (x : Nat) (a : Int32) (hG : GT G) (hWF : WF E G L f) (Tx : G.1 x = 12) (hq0 : GI E G f x) : Met l yX11_most w_X11_most ({ frames := 5, cells := 0, slots := 0, locals := 114 }) (py_Pc E [.ref x, .int a] L f sz) (py_Qi E L f sz (fun _ L1 f1 => WF E G L1 f1 ∧ KP G [24] false f f1 ∧ GI E G f1 x)) 0 0 (va_A (va_pl L f) sz) := by
  refine Met.ofW (cc := cX11_most) (maxL := 3) (ret := (some .int)) (by decide) rfl ?_
  intro p e s m args below meth c s₁ B hml hv
  obtain ⟨rfl, rfl, hw⟩ := py_start hv
  have G0 : CallFix p m c cX11_most 3 s _ w_X11_most RX11 := ⟨B.exec, B.bytes, hml, findClass_of_methodNamed B.named, atoms_spec (ws := w_X11_most) B.pre⟩
  have hr := B.returns
  have hlk := B.notSynchronized
  have kcm1 : (-1 : Int32).toInt = -1 := rfl
  have kc0 : (0 : Int32).toInt = 0 := rfl
  have kc1 : (1 : Int32).toInt = 1 := rfl
  have hl := lv_entry ([.ref x, .int a]) (n := 3) (Nat.le_of_ble_eq_true rfl)
  rw [lg_entry_eq]
  generalize (lg_sl ([.ref x, .int a]) ++ List.replicate (3 - (lg_sl ([.ref x, .int a])).length) Slot.unset).toArray = ls at hl ⊢
  have hl : lv_has ls 3 [(0, .ref x), (1, .int a)] := hl
  have hGI := hq0
  have hKP : KP G [24] false f f := KP.refl
  obtain ⟨t_1, t_2, t_3, t_4, t_5, t_6, t_7, t_8, t_9, t_10, t_11, t_12, t_13, tx_14, tx_15, tx_16, tx_17⟩ := wt_11 hG Tx
  refine lv_aload_n G0.1 G0.2.1 dX11_most_0 rfl (lv_at hl 0 rfl) ?_
  obtain ⟨v_18, v_19, v_20, hr_24, b_21, b_22, b_23⟩ := wg_11 hWF Tx
  have tq_25 := hy_eq hr_24
  refine py_calli hw (va_runV (As := []) (rest := []) G0 (c_X11_hasValley l E G L f s.heap.size x hG hWF Tx) (cwV 0 G0.2.2.2.2 g_X11_most_X11_hasValley_218 rfl rfl rfl (by decide +kernel) ⟨(Nat.le_of_ble_eq_true rfl), (Nat.le_of_ble_eq_true rfl)⟩) (py_preV hw (C := RX11) (T := TX11) (N := 16) rfl hr_24) rfl rfl hl.1 rfl (lv_room (Nat.le_of_ble_eq_true rfl)) dX11_most_1 ⟨(Nat.le_of_ble_eq_true rfl), (Nat.le_of_ble_eq_true rfl)⟩) (fun r_30 L_26 f_27 H_28 locs hp_29 hw => ?_)
  obtain ⟨b_33, en_31, en_32, rfl, rfl⟩ := hp_29
  refine lv_if_eq (tgt := 14) G0.1 G0.2.1 dX11_most_4 (by decide) (fun c_34 => ?_) (fun c_34 => ?_)
  · skip
    have tc_34 := ti_eq c_34
    refine lv_iconst (v := (-1)) G0.1 G0.2.1 dX11_most_14 (by decide) ?_
    exact py_iret G0 hr rfl hlk hw ⟨hWF, hKP, hGI⟩ dX11_most_15
  · skip
    have tc_34 := ti_ne c_34
    refine lv_iload_n G0.1 G0.2.1 dX11_most_7 rfl (lv_at hl 1 rfl) ?_
    refine py_calli hw (va_runS (As := [.int a]) (rest := []) G0 (c_X11_isZeroOrOne l E G L f H_28.size a hG hWF) (va_cwS 1 G0.2.2.2.2 g_X11_most_X11_isZeroOrOne_267 rfl rfl rfl (by decide +kernel) ⟨(Nat.le_of_ble_eq_true rfl), (Nat.le_of_ble_eq_true rfl)⟩) (py_preS hw) rfl rfl hl.1 rfl (lv_room (Nat.le_of_ble_eq_true rfl)) dX11_most_8 ⟨(Nat.le_of_ble_eq_true rfl), (Nat.le_of_ble_eq_true rfl)⟩) (fun r_39 L_35 f_36 H_37 locs hp_38 hw => ?_)
    obtain ⟨b_41, en_40, rfl, rfl⟩ := hp_38
    refine lv_if_ne (tgt := 16) G0.1 G0.2.1 dX11_most_11 (by decide) (fun c_42 => ?_) (fun c_42 => ?_)
    · skip
      have tc_42 := ti_ne c_42
      refine lv_aload_n G0.1 G0.2.1 dX11_most_16 rfl (lv_at hl 0 rfl) ?_
      refine py_get (C := RX11) (T := TX11) (N := 16) (k := 11) (v := .ref (G.2 x 11)) G0 hw in_X11_most_X11 rfl hr_24 (by decide) (by decide +kernel) rfl dX11_most_17 ?_
      refine lv_aload_n G0.1 G0.2.1 dX11_most_20 rfl (lv_at hl 0 rfl) ?_
      refine py_get (C := RX11) (T := TX11) (N := 16) (k := 5) (v := .ref (G.2 x 5)) G0 hw in_X11_most_X11 rfl hr_24 (by decide) (by decide +kernel) rfl dX11_most_21 ?_
      have t_43 := wt_5 hG t_12
      have hr_44 := wg_5 hWF t_12
      refine py_calli hw (va_runV (As := [.ref (G.2 x 5)]) (rest := []) G0 (c_X5_mostBits l E G L f H_37.size (G.2 x 11) (G.2 x 5) hG hWF t_12 t_6) (cwV 1 G0.2.2.2.2 g_X11_most_X5_mostBits_270 rfl rfl rfl (by decide +kernel) ⟨(Nat.le_of_ble_eq_true rfl), (Nat.le_of_ble_eq_true rfl)⟩) (py_preV hw (C := RX5) (T := TX5) (N := 1) rfl hr_44) rfl rfl hl.1 rfl (lv_room (Nat.le_of_ble_eq_true rfl)) dX11_most_24 ⟨(Nat.le_of_ble_eq_true rfl), (Nat.le_of_ble_eq_true rfl)⟩) (fun r_49 L_45 f_46 H_47 locs hp_48 hw => ?_)
      have ht_52 := fo_ty hWF t_6
      obtain ⟨hWF, hq_50, kp_51⟩ := hp_48
      have hGI := hGI.kp hG Tx ht_52 hq_50 kp_51 (by decide)
      have hKP := hKP.trans kp_51 (by decide) (by decide)
      have hr_24 := kp_at kp_51 hWF Tx (by decide) (by decide) (by decide) hr_24
      have tq_53 := hy_eq hr_24
      have hr_44 := kp_at kp_51 hWF t_12 (by decide) (by decide) (by decide) hr_44
      have br_49 := wf_free r_49
      refine lv_istore_n (lv' := [(2, .int r_49), (0, .ref x), (1, .int a)]) G0.1 G0.2.1 dX11_most_27 rfl hl (by decide) rfl (fun ls hl => ?_)
      refine lv_iload_n G0.1 G0.2.1 dX11_most_28 rfl (lv_at hl 2 rfl) ?_
      have jn_40 : ∀ (v_54 : Int32) (H_j40 : Heap) (locs : List Loc) (ls : Array Slot), py_W E (va_A (va_pl L f) s.heap.size) s L_45 f_46 H_j40 locs → lv_has ls 3 [(2, .int r_49), (0, .ref x), (1, .int a)] → W p l e (headSpec w_X11_most ({ frames := 5, cells := 0, slots := 0, locals := 114 })).room s m ([.ref x, .int a] : List Value).toArray below meth c H_j40 locs 0 0 (MQ below (py_Qi E L f s.heap.size (fun _ L1 f1 => WF E G L1 f1 ∧ KP G [24] false f f1 ∧ GI E G f1 x)) ([.ref x, .int a] : List Value).toArray s 0 0 (va_A (va_pl L f) s.heap.size)) (F0 m 40 ls [.int v_54]) := by
        intro v_54 H_j40 locs ls hw hl
        exact py_iret G0 hr rfl hlk hw ⟨hWF, hKP, hGI⟩ dX11_most_40
      refine lv_if_ne (tgt := 39) G0.1 G0.2.1 dX11_most_29 (by decide) (fun c_55 => ?_) (fun c_55 => ?_)
      · skip
        have tc_55 := ti_ne c_55
        refine lv_iload_n G0.1 G0.2.1 dX11_most_39 rfl (lv_at hl 0 rfl) ?_
        exact jn_40 r_49 _ _ ls hw (lv_sub hl [0, 1, 2] rfl)
      · skip
        have tc_55 := ti_eq c_55
        refine lv_iload_n G0.1 G0.2.1 dX11_most_32 rfl (lv_at hl 0 rfl) ?_
        refine py_calli hw (va_runS (As := [.int r_49]) (rest := []) G0 (c_J6_bitCount_0f7a4 l E G L_45 f_46 H_47.size r_49 hG hWF) (va_cwS 1 G0.2.2.2.2 g_X11_most_J6_bitCount_0f7a4_273 rfl rfl rfl (by decide +kernel) ⟨(Nat.le_of_ble_eq_true rfl), (Nat.le_of_ble_eq_true rfl)⟩) (py_preS hw) rfl rfl hl.1 rfl (lv_room (Nat.le_of_ble_eq_true rfl)) dX11_most_33 ⟨(Nat.le_of_ble_eq_true rfl), (Nat.le_of_ble_eq_true rfl)⟩) (fun r_60 L_56 f_57 H_58 locs hp_59 hw => ?_)
        obtain ⟨rfl, rfl⟩ := hp_59
        have br_60 := wf_free r_60
        refine lv_goto (tgt := 40) G0.1 G0.2.1 dX11_most_36 (by decide) ?_
        exact jn_40 r_60 _ _ ls hw (lv_sub hl [0, 1, 2] rfl)
    · skip
      have tc_42 := ti_eq c_42
      refine lv_iconst (v := (-1)) G0.1 G0.2.1 dX11_most_14 (by decide) ?_
      exact py_iret G0 hr rfl hlk hw ⟨hWF, hKP, hGI⟩ dX11_most_15

def w_X11_needs : List Cond := .code yX11_needs cX11_needs 2 (some .int) :: ([Cond.methodLink RX11 163 yX11_isFamily, Cond.instanceMethod yX11_isFamily, Cond.selects RX11 yX11_isFamily yX11_isFamily, Cond.initialized RX11, Cond.fieldLink RX11 47 "HeadYear" "folk" "LHeadYear$Folk;", Cond.methodLink RX11 278 yX2_waits, Cond.instanceMethod yX2_waits, Cond.selects RX2 yX2_waits yX2_waits, Cond.initialized RX2, Cond.fieldLink RX11 81 "HeadYear" "moves" "LHeadYear$Moves;", Cond.methodLink RX11 281 yX5_fewestFirst, Cond.instanceMethod yX5_fewestFirst, Cond.selects RX5 yX5_fewestFirst yX5_fewestFirst, Cond.initialized RX5] ++ (u_ws RX11 TX11 16 ++ (w_X11_isFamily ++ (w_X2_waits ++ (w_X5_fewestFirst ++ ([]))))))
theorem in_X11_needs_X11 : ∀ w ∈ u_ws RX11 TX11 16, w ∈ w_X11_needs := fun _ h => List.mem_cons_of_mem _ (List.mem_append_right _ (List.mem_append_left _ h))
theorem gg_X11_needs_X11_isFamily : GoodIn w_X11_needs w_X11_isFamily := goodIn_sub (fun _ h => List.mem_cons_of_mem _ (List.mem_append_right _ (List.mem_append_right _ (List.mem_append_left _ h)))) (by decide +kernel)
theorem gg_X11_needs_X2_waits : GoodIn w_X11_needs w_X2_waits := goodIn_sub (fun _ h => List.mem_cons_of_mem _ (List.mem_append_right _ (List.mem_append_right _ (List.mem_append_right _ (List.mem_append_left _ h))))) (by decide +kernel)
theorem gg_X11_needs_X5_fewestFirst : GoodIn w_X11_needs w_X5_fewestFirst := goodIn_sub (fun _ h => List.mem_cons_of_mem _ (List.mem_append_right _ (List.mem_append_right _ (List.mem_append_right _ (List.mem_append_right _ (List.mem_append_left _ h)))))) (by decide +kernel)
theorem g_X11_needs_X11_isFamily_163 : GoodIn w_X11_needs (wsV RX11 163 RX11 yX11_isFamily w_X11_isFamily) := goodIn_app (goodIn_of _ (by decide +kernel)) gg_X11_needs_X11_isFamily
theorem g_X11_needs_X2_waits_278 : GoodIn w_X11_needs (wsV RX11 278 RX2 yX2_waits w_X2_waits) := goodIn_app (goodIn_of _ (by decide +kernel)) gg_X11_needs_X2_waits
theorem g_X11_needs_X5_fewestFirst_281 : GoodIn w_X11_needs (wsV RX11 281 RX5 yX5_fewestFirst w_X5_fewestFirst) := goodIn_app (goodIn_of _ (by decide +kernel)) gg_X11_needs_X5_fewestFirst
set_option maxHeartbeats 4000000 in
set_option maxRecDepth 100000 in
theorem c_X11_needs (l : Launch) (E : py_E) (G : wf_G) (L : List Nat) (f : py_F) (sz : Nat) (x : Nat) (a : Int32) (hG : GT G) (hWF : WF E G L f) (Tx : G.1 x = 12) : Met l yX11_needs w_X11_needs ({ frames := 5, cells := 0, slots := 0, locals := 115 }) (py_Pc E [.ref x, .int a] L f sz) (py_Qi E L f sz (fun _ L1 f1 => L = L1 ∧ f = f1)) 0 0 (va_A (va_pl L f) sz) := by
  refine Met.ofW (cc := cX11_needs) (maxL := 2) (ret := (some .int)) (by decide) rfl ?_
  intro p e s m args below meth c s₁ B hml hv
  obtain ⟨rfl, rfl, hw⟩ := py_start hv
  have G0 : CallFix p m c cX11_needs 2 s _ w_X11_needs RX11 := ⟨B.exec, B.bytes, hml, findClass_of_methodNamed B.named, atoms_spec (ws := w_X11_needs) B.pre⟩
  have hr := B.returns
  have hlk := B.notSynchronized
  have kcm1 : (-1 : Int32).toInt = -1 := rfl
  have kc0 : (0 : Int32).toInt = 0 := rfl
  have kc1 : (1 : Int32).toInt = 1 := rfl
  have hl := lv_entry ([.ref x, .int a]) (n := 2) (Nat.le_of_ble_eq_true rfl)
  rw [lg_entry_eq]
  generalize (lg_sl ([.ref x, .int a]) ++ List.replicate (2 - (lg_sl ([.ref x, .int a])).length) Slot.unset).toArray = ls at hl ⊢
  have hl : lv_has ls 2 [(0, .ref x), (1, .int a)] := hl
  have hRP : RP E G f f := RP.refl
  refine lv_aload_n G0.1 G0.2.1 dX11_needs_0 rfl (lv_at hl 0 rfl) ?_
  refine lv_iload_n G0.1 G0.2.1 dX11_needs_1 rfl (lv_at hl 1 rfl) ?_
  obtain ⟨t_1, t_2, t_3, t_4, t_5, t_6, t_7, t_8, t_9, t_10, t_11, t_12, t_13, tx_14, tx_15, tx_16, tx_17⟩ := wt_11 hG Tx
  obtain ⟨v_18, v_19, v_20, hr_24, b_21, b_22, b_23⟩ := wg_11 hWF Tx
  have tq_25 := hy_eq hr_24
  refine py_calli hw (va_runV (As := [.int a]) (rest := []) G0 (c_X11_isFamily l E G L f s.heap.size x a hG hWF Tx) (cwV 1 G0.2.2.2.2 g_X11_needs_X11_isFamily_163 rfl rfl rfl (by decide +kernel) ⟨(Nat.le_of_ble_eq_true rfl), (Nat.le_of_ble_eq_true rfl)⟩) (py_preV hw (C := RX11) (T := TX11) (N := 16) rfl hr_24) rfl rfl hl.1 rfl (lv_room (Nat.le_of_ble_eq_true rfl)) dX11_needs_2 ⟨(Nat.le_of_ble_eq_true rfl), (Nat.le_of_ble_eq_true rfl)⟩) (fun r_30 L_26 f_27 H_28 locs hp_29 hw => ?_)
  obtain ⟨b_32, en_31, rfl, rfl⟩ := hp_29
  refine lv_if_eq (tgt := 19) G0.1 G0.2.1 dX11_needs_5 (by decide) (fun c_33 => ?_) (fun c_33 => ?_)
  · skip
    have tc_33 := ti_eq c_33
    refine lv_iconst (v := (-1)) G0.1 G0.2.1 dX11_needs_19 (by decide) ?_
    exact py_iret G0 hr rfl hlk hw ⟨rfl, rfl⟩ dX11_needs_20
  · skip
    have tc_33 := ti_ne c_33
    refine lv_aload_n G0.1 G0.2.1 dX11_needs_8 rfl (lv_at hl 0 rfl) ?_
    refine py_get (C := RX11) (T := TX11) (N := 16) (k := 5) (v := .ref (G.2 x 5)) G0 hw in_X11_needs_X11 rfl hr_24 (by decide) (by decide +kernel) rfl dX11_needs_9 ?_
    refine lv_iload_n G0.1 G0.2.1 dX11_needs_12 rfl (lv_at hl 1 rfl) ?_
    obtain ⟨t_34, t_35, t_36, t_37, t_38, t_39, t_40, t_41, t_42⟩ := wt_2 hG t_6
    obtain ⟨r_43, y_44, v_45, hr_48, ty_46, b_47⟩ := wg_2 hWF t_6
    refine py_calli hw (va_runV (As := [.int a]) (rest := []) G0 (c_X2_waits l E G L f H_28.size (G.2 x 5) a hG hWF t_6 ⟨by omega, by omega⟩) (cwV 1 G0.2.2.2.2 g_X11_needs_X2_waits_278 rfl rfl rfl (by decide +kernel) ⟨(Nat.le_of_ble_eq_true rfl), (Nat.le_of_ble_eq_true rfl)⟩) (py_preV hw (C := RX2) (T := TX2) (N := 12) rfl hr_48) rfl rfl hl.1 rfl (lv_room (Nat.le_of_ble_eq_true rfl)) dX11_needs_13 ⟨(Nat.le_of_ble_eq_true rfl), (Nat.le_of_ble_eq_true rfl)⟩) (fun r_53 L_49 f_50 H_51 locs hp_52 hw => ?_)
    obtain ⟨b_54, rfl, rfl⟩ := hp_52
    refine lv_if_ne (tgt := 21) G0.1 G0.2.1 dX11_needs_16 (by decide) (fun c_55 => ?_) (fun c_55 => ?_)
    · skip
      have tc_55 := ti_ne c_55
      refine lv_aload_n G0.1 G0.2.1 dX11_needs_21 rfl (lv_at hl 0 rfl) ?_
      refine py_get (C := RX11) (T := TX11) (N := 16) (k := 11) (v := .ref (G.2 x 11)) G0 hw in_X11_needs_X11 rfl hr_24 (by decide) (by decide +kernel) rfl dX11_needs_22 ?_
      refine lv_aload_n G0.1 G0.2.1 dX11_needs_25 rfl (lv_at hl 0 rfl) ?_
      refine py_get (C := RX11) (T := TX11) (N := 16) (k := 5) (v := .ref (G.2 x 5)) G0 hw in_X11_needs_X11 rfl hr_24 (by decide) (by decide +kernel) rfl dX11_needs_26 ?_
      refine lv_iload_n G0.1 G0.2.1 dX11_needs_29 rfl (lv_at hl 1 rfl) ?_
      have t_56 := wt_5 hG t_12
      have hr_57 := wg_5 hWF t_12
      refine py_calli hw (va_runV (As := [.ref (G.2 x 5), .int a]) (rest := []) G0 (c_X5_fewestFirst l E G L f H_51.size (G.2 x 11) (G.2 x 5) a hG hWF t_12 t_6 ⟨by omega, by omega⟩) (cwV 2 G0.2.2.2.2 g_X11_needs_X5_fewestFirst_281 rfl rfl rfl (by decide +kernel) ⟨(Nat.le_of_ble_eq_true rfl), (Nat.le_of_ble_eq_true rfl)⟩) (py_preV hw (C := RX5) (T := TX5) (N := 1) rfl hr_57) rfl rfl hl.1 rfl (lv_room (Nat.le_of_ble_eq_true rfl)) dX11_needs_30 ⟨(Nat.le_of_ble_eq_true rfl), (Nat.le_of_ble_eq_true rfl)⟩) (fun r_62 L_58 f_59 H_60 locs hp_61 hw => ?_)
      obtain ⟨rfl, rfl⟩ := hp_61
      have br_62 := wf_free r_62
      exact py_iret G0 hr rfl hlk hw ⟨rfl, rfl⟩ dX11_needs_33
    · skip
      have tc_55 := ti_eq c_55
      refine lv_iconst (v := (-1)) G0.1 G0.2.1 dX11_needs_19 (by decide) ?_
      exact py_iret G0 hr rfl hlk hw ⟨rfl, rfl⟩ dX11_needs_20

def w_X11_diary : List Cond := .code yX11_diary cX11_diary 4 (some .int) :: ([Cond.methodLink RX11 163 yX11_isFamily, Cond.instanceMethod yX11_isFamily, Cond.selects RX11 yX11_isFamily yX11_isFamily, Cond.initialized RX11, Cond.constant RX11 166 (-1000000), Cond.fieldLink RX11 60 "HeadYear" "diary" "LHeadYear$Diary;", Cond.fieldLink RX11 304 "HeadYear$Diary" "years" "I", Cond.methodLink RX11 267 yX11_isZeroOrOne, Cond.static yX11_isZeroOrOne, Cond.methodLink RX11 308 yX1_headsIn, Cond.instanceMethod yX1_headsIn, Cond.selects RX1 yX1_headsIn yX1_headsIn, Cond.initialized RX1, Cond.methodLink RX11 305 yX1_levelIn, Cond.instanceMethod yX1_levelIn, Cond.selects RX1 yX1_levelIn yX1_levelIn] ++ (u_ws RX11 TX11 16 ++ (u_ws RX1 TX1 3 ++ (w_X11_isFamily ++ (w_X11_isZeroOrOne ++ (w_X1_headsIn ++ (w_X1_levelIn ++ ([]))))))))
theorem in_X11_diary_X11 : ∀ w ∈ u_ws RX11 TX11 16, w ∈ w_X11_diary := fun _ h => List.mem_cons_of_mem _ (List.mem_append_right _ (List.mem_append_left _ h))
theorem in_X11_diary_X1 : ∀ w ∈ u_ws RX1 TX1 3, w ∈ w_X11_diary := fun _ h => List.mem_cons_of_mem _ (List.mem_append_right _ (List.mem_append_right _ (List.mem_append_left _ h)))
theorem gg_X11_diary_X11_isFamily : GoodIn w_X11_diary w_X11_isFamily := goodIn_sub (fun _ h => List.mem_cons_of_mem _ (List.mem_append_right _ (List.mem_append_right _ (List.mem_append_right _ (List.mem_append_left _ h))))) (by decide +kernel)
theorem gg_X11_diary_X11_isZeroOrOne : GoodIn w_X11_diary w_X11_isZeroOrOne := goodIn_sub (fun _ h => List.mem_cons_of_mem _ (List.mem_append_right _ (List.mem_append_right _ (List.mem_append_right _ (List.mem_append_right _ (List.mem_append_left _ h)))))) (by decide +kernel)
theorem gg_X11_diary_X1_headsIn : GoodIn w_X11_diary w_X1_headsIn := goodIn_sub (fun _ h => List.mem_cons_of_mem _ (List.mem_append_right _ (List.mem_append_right _ (List.mem_append_right _ (List.mem_append_right _ (List.mem_append_right _ (List.mem_append_left _ h))))))) (by decide +kernel)
theorem gg_X11_diary_X1_levelIn : GoodIn w_X11_diary w_X1_levelIn := goodIn_sub (fun _ h => List.mem_cons_of_mem _ (List.mem_append_right _ (List.mem_append_right _ (List.mem_append_right _ (List.mem_append_right _ (List.mem_append_right _ (List.mem_append_right _ (List.mem_append_left _ h)))))))) (by decide +kernel)
theorem g_X11_diary_X11_isFamily_163 : GoodIn w_X11_diary (wsV RX11 163 RX11 yX11_isFamily w_X11_isFamily) := goodIn_app (goodIn_of _ (by decide +kernel)) gg_X11_diary_X11_isFamily
theorem g_X11_diary_X11_isZeroOrOne_267 : GoodIn w_X11_diary (va_wsS RX11 267 yX11_isZeroOrOne w_X11_isZeroOrOne) := goodIn_app (goodIn_of _ (by decide +kernel)) gg_X11_diary_X11_isZeroOrOne
theorem g_X11_diary_X1_headsIn_308 : GoodIn w_X11_diary (wsV RX11 308 RX1 yX1_headsIn w_X1_headsIn) := goodIn_app (goodIn_of _ (by decide +kernel)) gg_X11_diary_X1_headsIn
theorem g_X11_diary_X1_levelIn_305 : GoodIn w_X11_diary (wsV RX11 305 RX1 yX1_levelIn w_X1_levelIn) := goodIn_app (goodIn_of _ (by decide +kernel)) gg_X11_diary_X1_levelIn
set_option maxHeartbeats 4000000 in
set_option maxRecDepth 100000 in
theorem c_X11_diary (l : Launch) (E : py_E) (G : wf_G) (L : List Nat) (f : py_F) (sz : Nat) (x : Nat) (a : Int32) (b : Int32) (q : Int32) (hG : GT G) (hWF : WF E G L f) (Tx : G.1 x = 12) : Met l yX11_diary w_X11_diary ({ frames := 1, cells := 0, slots := 0, locals := 22 }) (py_Pc E [.ref x, .int a, .int b, .int q] L f sz) (py_Qi E L f sz (fun _ L1 f1 => L = L1 ∧ f = f1)) 0 0 (va_A (va_pl L f) sz) := by
  refine Met.ofW (cc := cX11_diary) (maxL := 4) (ret := (some .int)) (by decide) rfl ?_
  intro p e s m args below meth c s₁ B hml hv
  obtain ⟨rfl, rfl, hw⟩ := py_start hv
  have G0 : CallFix p m c cX11_diary 4 s _ w_X11_diary RX11 := ⟨B.exec, B.bytes, hml, findClass_of_methodNamed B.named, atoms_spec (ws := w_X11_diary) B.pre⟩
  have hr := B.returns
  have hlk := B.notSynchronized
  have kcm1000000 : (-1000000 : Int32).toInt = -1000000 := rfl
  have kcm1 : (-1 : Int32).toInt = -1 := rfl
  have kc0 : (0 : Int32).toInt = 0 := rfl
  have kc1 : (1 : Int32).toInt = 1 := rfl
  have hl := lv_entry ([.ref x, .int a, .int b, .int q]) (n := 4) (Nat.le_of_ble_eq_true rfl)
  rw [lg_entry_eq]
  generalize (lg_sl ([.ref x, .int a, .int b, .int q]) ++ List.replicate (4 - (lg_sl ([.ref x, .int a, .int b, .int q])).length) Slot.unset).toArray = ls at hl ⊢
  have hl : lv_has ls 4 [(0, .ref x), (1, .int a), (2, .int b), (3, .int q)] := hl
  have hRP : RP E G f f := RP.refl
  refine lv_aload_n G0.1 G0.2.1 dX11_diary_0 rfl (lv_at hl 0 rfl) ?_
  refine lv_iload_n G0.1 G0.2.1 dX11_diary_1 rfl (lv_at hl 1 rfl) ?_
  obtain ⟨t_1, t_2, t_3, t_4, t_5, t_6, t_7, t_8, t_9, t_10, t_11, t_12, t_13, tx_14, tx_15, tx_16, tx_17⟩ := wt_11 hG Tx
  obtain ⟨v_18, v_19, v_20, hr_24, b_21, b_22, b_23⟩ := wg_11 hWF Tx
  have tq_25 := hy_eq hr_24
  refine py_calli hw (va_runV (As := [.int a]) (rest := []) G0 (c_X11_isFamily l E G L f s.heap.size x a hG hWF Tx) (cwV 1 G0.2.2.2.2 g_X11_diary_X11_isFamily_163 rfl rfl rfl (by decide +kernel) ⟨(Nat.le_of_ble_eq_true rfl), (Nat.le_of_ble_eq_true rfl)⟩) (py_preV hw (C := RX11) (T := TX11) (N := 16) rfl hr_24) rfl rfl hl.1 rfl (lv_room (Nat.le_of_ble_eq_true rfl)) dX11_diary_2 ⟨(Nat.le_of_ble_eq_true rfl), (Nat.le_of_ble_eq_true rfl)⟩) (fun r_30 L_26 f_27 H_28 locs hp_29 hw => ?_)
  obtain ⟨b_32, en_31, rfl, rfl⟩ := hp_29
  refine lv_if_eq (tgt := 30) G0.1 G0.2.1 dX11_diary_5 (by decide) (fun c_33 => ?_) (fun c_33 => ?_)
  · skip
    have tc_33 := ti_eq c_33
    refine lv_ldc (v := (-1000000)) G0.1 G0.2.1 G0.2.2.2.1 (G0.2.2.2.2 (Cond.constant RX11 166 (-1000000)) (by decide +kernel)) dX11_diary_30 ?_
    exact py_iret G0 hr rfl hlk hw ⟨rfl, rfl⟩ dX11_diary_32
  · skip
    have tc_33 := ti_ne c_33
    refine lv_iload_n G0.1 G0.2.1 dX11_diary_8 rfl (lv_at hl 2 rfl) ?_
    refine lv_if_lt (tgt := 30) G0.1 G0.2.1 dX11_diary_9 (by decide) (fun c_34 => ?_) (fun c_34 => ?_)
    · skip
      have tc_34 := ti_lt c_34
      refine lv_ldc (v := (-1000000)) G0.1 G0.2.1 G0.2.2.2.1 (G0.2.2.2.2 (Cond.constant RX11 166 (-1000000)) (by decide +kernel)) dX11_diary_30 ?_
      exact py_iret G0 hr rfl hlk hw ⟨rfl, rfl⟩ dX11_diary_32
    · skip
      have tc_34 := ti_nlt c_34
      refine lv_iload_n G0.1 G0.2.1 dX11_diary_12 rfl (lv_at hl 2 rfl) ?_
      refine lv_aload_n G0.1 G0.2.1 dX11_diary_13 rfl (lv_at hl 0 rfl) ?_
      refine py_get (C := RX11) (T := TX11) (N := 16) (k := 8) (v := .ref (G.2 x 8)) G0 hw in_X11_diary_X11 rfl hr_24 (by decide) (by decide +kernel) rfl dX11_diary_14 ?_
      obtain ⟨t_35, t_36⟩ := wt_1 hG t_9
      obtain ⟨v_37, hr_39, b_38⟩ := wg_1 hWF t_9
      refine py_get (C := RX1) (T := TX1) (N := 3) (k := 2) (v := .int v_37) G0 hw in_X11_diary_X1 rfl hr_39 (by decide) (by decide +kernel) rfl dX11_diary_17 ?_
      refine lv_icmp_ge (tgt := 30) G0.1 G0.2.1 dX11_diary_20 (by decide) (fun c_40 => ?_) (fun c_40 => ?_)
      · skip
        have tc_40 := ti_le c_40
        refine lv_ldc (v := (-1000000)) G0.1 G0.2.1 G0.2.2.2.1 (G0.2.2.2.2 (Cond.constant RX11 166 (-1000000)) (by decide +kernel)) dX11_diary_30 ?_
        exact py_iret G0 hr rfl hlk hw ⟨rfl, rfl⟩ dX11_diary_32
      · skip
        have tc_40 := ti_nle c_40
        refine lv_iload_n G0.1 G0.2.1 dX11_diary_23 rfl (lv_at hl 3 rfl) ?_
        refine py_calli hw (va_runS (As := [.int q]) (rest := []) G0 (c_X11_isZeroOrOne l E G L f H_28.size q hG hWF) (va_cwS 1 G0.2.2.2.2 g_X11_diary_X11_isZeroOrOne_267 rfl rfl rfl (by decide +kernel) ⟨(Nat.le_of_ble_eq_true rfl), (Nat.le_of_ble_eq_true rfl)⟩) (py_preS hw) rfl rfl hl.1 rfl (lv_room (Nat.le_of_ble_eq_true rfl)) dX11_diary_24 ⟨(Nat.le_of_ble_eq_true rfl), (Nat.le_of_ble_eq_true rfl)⟩) (fun r_45 L_41 f_42 H_43 locs hp_44 hw => ?_)
        obtain ⟨b_47, en_46, rfl, rfl⟩ := hp_44
        refine lv_if_ne (tgt := 33) G0.1 G0.2.1 dX11_diary_27 (by decide) (fun c_48 => ?_) (fun c_48 => ?_)
        · skip
          have tc_48 := ti_ne c_48
          refine lv_iload_n G0.1 G0.2.1 dX11_diary_33 rfl (lv_at hl 3 rfl) ?_
          have jn_58 : ∀ (v_49 : Int32) (H_j58 : Heap) (locs : List Loc) (ls : Array Slot), py_W E (va_A (va_pl L f) s.heap.size) s L f H_j58 locs → lv_has ls 4 [(0, .ref x), (1, .int a), (2, .int b), (3, .int q)] → W p l e (headSpec w_X11_diary ({ frames := 1, cells := 0, slots := 0, locals := 22 })).room s m ([.ref x, .int a, .int b, .int q] : List Value).toArray below meth c H_j58 locs 0 0 (MQ below (py_Qi E L f s.heap.size (fun _ L1 f1 => L = L1 ∧ f = f1)) ([.ref x, .int a, .int b, .int q] : List Value).toArray s 0 0 (va_A (va_pl L f) s.heap.size)) (F0 m 58 ls [.int v_49]) := by
            intro v_49 H_j58 locs ls hw hl
            exact py_iret G0 hr rfl hlk hw ⟨rfl, rfl⟩ dX11_diary_58
          refine lv_if_ne (tgt := 49) G0.1 G0.2.1 dX11_diary_34 (by decide) (fun c_50 => ?_) (fun c_50 => ?_)
          · skip
            have tc_50 := ti_ne c_50
            refine lv_aload_n G0.1 G0.2.1 dX11_diary_49 rfl (lv_at hl 0 rfl) ?_
            refine py_get (C := RX11) (T := TX11) (N := 16) (k := 8) (v := .ref (G.2 x 8)) G0 hw in_X11_diary_X11 rfl hr_24 (by decide) (by decide +kernel) rfl dX11_diary_50 ?_
            refine lv_iload_n G0.1 G0.2.1 dX11_diary_53 rfl (lv_at hl 2 rfl) ?_
            refine lv_iload_n G0.1 G0.2.1 dX11_diary_54 rfl (lv_at hl 1 rfl) ?_
            refine py_calli hw (va_runV (As := [.int b, .int a]) (rest := []) G0 (c_X1_headsIn l E G L f H_43.size (G.2 x 8) b a hG hWF t_9 ⟨by omega, by omega⟩ ⟨by omega, by omega⟩) (cwV 2 G0.2.2.2.2 g_X11_diary_X1_headsIn_308 rfl rfl rfl (by decide +kernel) ⟨(Nat.le_of_ble_eq_true rfl), (Nat.le_of_ble_eq_true rfl)⟩) (py_preV hw (C := RX1) (T := TX1) (N := 3) rfl hr_39) rfl rfl hl.1 rfl (lv_room (Nat.le_of_ble_eq_true rfl)) dX11_diary_55 ⟨(Nat.le_of_ble_eq_true rfl), (Nat.le_of_ble_eq_true rfl)⟩) (fun r_55 L_51 f_52 H_53 locs hp_54 hw => ?_)
            obtain ⟨rfl, rfl⟩ := hp_54
            have br_55 := wf_free r_55
            exact jn_58 r_55 _ _ ls hw (lv_sub hl [0, 1, 2, 3] rfl)
          · skip
            have tc_50 := ti_eq c_50
            refine lv_aload_n G0.1 G0.2.1 dX11_diary_37 rfl (lv_at hl 0 rfl) ?_
            refine py_get (C := RX11) (T := TX11) (N := 16) (k := 8) (v := .ref (G.2 x 8)) G0 hw in_X11_diary_X11 rfl hr_24 (by decide) (by decide +kernel) rfl dX11_diary_38 ?_
            refine lv_iload_n G0.1 G0.2.1 dX11_diary_41 rfl (lv_at hl 2 rfl) ?_
            refine lv_iload_n G0.1 G0.2.1 dX11_diary_42 rfl (lv_at hl 1 rfl) ?_
            refine py_calli hw (va_runV (As := [.int b, .int a]) (rest := []) G0 (c_X1_levelIn l E G L f H_43.size (G.2 x 8) b a hG hWF t_9 ⟨by omega, by omega⟩ ⟨by omega, by omega⟩) (cwV 2 G0.2.2.2.2 g_X11_diary_X1_levelIn_305 rfl rfl rfl (by decide +kernel) ⟨(Nat.le_of_ble_eq_true rfl), (Nat.le_of_ble_eq_true rfl)⟩) (py_preV hw (C := RX1) (T := TX1) (N := 3) rfl hr_39) rfl rfl hl.1 rfl (lv_room (Nat.le_of_ble_eq_true rfl)) dX11_diary_43 ⟨(Nat.le_of_ble_eq_true rfl), (Nat.le_of_ble_eq_true rfl)⟩) (fun r_60 L_56 f_57 H_58 locs hp_59 hw => ?_)
            obtain ⟨rfl, rfl⟩ := hp_59
            have br_60 := wf_free r_60
            refine lv_goto (tgt := 58) G0.1 G0.2.1 dX11_diary_46 (by decide) ?_
            exact jn_58 r_60 _ _ ls hw (lv_sub hl [0, 1, 2, 3] rfl)
        · skip
          have tc_48 := ti_eq c_48
          refine lv_ldc (v := (-1000000)) G0.1 G0.2.1 G0.2.2.2.1 (G0.2.2.2.2 (Cond.constant RX11 166 (-1000000)) (by decide +kernel)) dX11_diary_30 ?_
          exact py_iret G0 hr rfl hlk hw ⟨rfl, rfl⟩ dX11_diary_32

def w_X11_climb : List Cond := .code yX11_climb cX11_climb 7 (some .int) :: ([Cond.methodLink RX11 163 yX11_isFamily, Cond.instanceMethod yX11_isFamily, Cond.selects RX11 yX11_isFamily yX11_isFamily, Cond.initialized RX11, Cond.constant RX11 166 (-1000000), Cond.methodLink RX11 267 yX11_isZeroOrOne, Cond.static yX11_isZeroOrOne, Cond.fieldLink RX11 60 "HeadYear" "diary" "LHeadYear$Diary;", Cond.fieldLink RX11 304 "HeadYear$Diary" "years" "I", Cond.methodLink RX11 311 yX1_climbFrom, Cond.instanceMethod yX1_climbFrom, Cond.selects RX1 yX1_climbFrom yX1_climbFrom, Cond.initialized RX1] ++ (u_ws RX11 TX11 16 ++ (u_ws RX1 TX1 3 ++ (w_X11_isFamily ++ (w_X11_isZeroOrOne ++ (w_X1_climbFrom ++ ([])))))))
theorem in_X11_climb_X11 : ∀ w ∈ u_ws RX11 TX11 16, w ∈ w_X11_climb := fun _ h => List.mem_cons_of_mem _ (List.mem_append_right _ (List.mem_append_left _ h))
theorem in_X11_climb_X1 : ∀ w ∈ u_ws RX1 TX1 3, w ∈ w_X11_climb := fun _ h => List.mem_cons_of_mem _ (List.mem_append_right _ (List.mem_append_right _ (List.mem_append_left _ h)))
theorem gg_X11_climb_X11_isFamily : GoodIn w_X11_climb w_X11_isFamily := goodIn_sub (fun _ h => List.mem_cons_of_mem _ (List.mem_append_right _ (List.mem_append_right _ (List.mem_append_right _ (List.mem_append_left _ h))))) (by decide +kernel)
theorem gg_X11_climb_X11_isZeroOrOne : GoodIn w_X11_climb w_X11_isZeroOrOne := goodIn_sub (fun _ h => List.mem_cons_of_mem _ (List.mem_append_right _ (List.mem_append_right _ (List.mem_append_right _ (List.mem_append_right _ (List.mem_append_left _ h)))))) (by decide +kernel)
theorem gg_X11_climb_X1_climbFrom : GoodIn w_X11_climb w_X1_climbFrom := goodIn_sub (fun _ h => List.mem_cons_of_mem _ (List.mem_append_right _ (List.mem_append_right _ (List.mem_append_right _ (List.mem_append_right _ (List.mem_append_right _ (List.mem_append_left _ h))))))) (by decide +kernel)
theorem g_X11_climb_X11_isFamily_163 : GoodIn w_X11_climb (wsV RX11 163 RX11 yX11_isFamily w_X11_isFamily) := goodIn_app (goodIn_of _ (by decide +kernel)) gg_X11_climb_X11_isFamily
theorem g_X11_climb_X11_isZeroOrOne_267 : GoodIn w_X11_climb (va_wsS RX11 267 yX11_isZeroOrOne w_X11_isZeroOrOne) := goodIn_app (goodIn_of _ (by decide +kernel)) gg_X11_climb_X11_isZeroOrOne
theorem g_X11_climb_X1_climbFrom_311 : GoodIn w_X11_climb (wsV RX11 311 RX1 yX1_climbFrom w_X1_climbFrom) := goodIn_app (goodIn_of _ (by decide +kernel)) gg_X11_climb_X1_climbFrom
set_option maxHeartbeats 4000000 in
set_option maxRecDepth 100000 in
theorem c_X11_climb (l : Launch) (E : py_E) (G : wf_G) (L : List Nat) (f : py_F) (sz : Nat) (x : Nat) (a : Int32) (b : Int32) (hG : GT G) (hWF : WF E G L f) (Tx : G.1 x = 12) : Met l yX11_climb w_X11_climb ({ frames := 2, cells := 0, slots := 0, locals := 50 }) (py_Pc E [.ref x, .int a, .int b] L f sz) (py_Qi E L f sz (fun _ L1 f1 => L = L1 ∧ f = f1)) 0 0 (va_A (va_pl L f) sz) := by
  refine Met.ofW (cc := cX11_climb) (maxL := 7) (ret := (some .int)) (by decide) rfl ?_
  intro p e s m args below meth c s₁ B hml hv
  obtain ⟨rfl, rfl, hw⟩ := py_start hv
  have G0 : CallFix p m c cX11_climb 7 s _ w_X11_climb RX11 := ⟨B.exec, B.bytes, hml, findClass_of_methodNamed B.named, atoms_spec (ws := w_X11_climb) B.pre⟩
  have hr := B.returns
  have hlk := B.notSynchronized
  have kcm1000000 : (-1000000 : Int32).toInt = -1000000 := rfl
  have kcm1 : (-1 : Int32).toInt = -1 := rfl
  have kc0 : (0 : Int32).toInt = 0 := rfl
  have kc1 : (1 : Int32).toInt = 1 := rfl
  have hl := lv_entry ([.ref x, .int a, .int b]) (n := 7) (Nat.le_of_ble_eq_true rfl)
  rw [lg_entry_eq]
  generalize (lg_sl ([.ref x, .int a, .int b]) ++ List.replicate (7 - (lg_sl ([.ref x, .int a, .int b])).length) Slot.unset).toArray = ls at hl ⊢
  have hl : lv_has ls 7 [(0, .ref x), (1, .int a), (2, .int b)] := hl
  have hRP : RP E G f f := RP.refl
  refine lv_aload_n G0.1 G0.2.1 dX11_climb_0 rfl (lv_at hl 0 rfl) ?_
  refine lv_iload_n G0.1 G0.2.1 dX11_climb_1 rfl (lv_at hl 1 rfl) ?_
  obtain ⟨t_1, t_2, t_3, t_4, t_5, t_6, t_7, t_8, t_9, t_10, t_11, t_12, t_13, tx_14, tx_15, tx_16, tx_17⟩ := wt_11 hG Tx
  obtain ⟨v_18, v_19, v_20, hr_24, b_21, b_22, b_23⟩ := wg_11 hWF Tx
  have tq_25 := hy_eq hr_24
  refine py_calli hw (va_runV (As := [.int a]) (rest := []) G0 (c_X11_isFamily l E G L f s.heap.size x a hG hWF Tx) (cwV 1 G0.2.2.2.2 g_X11_climb_X11_isFamily_163 rfl rfl rfl (by decide +kernel) ⟨(Nat.le_of_ble_eq_true rfl), (Nat.le_of_ble_eq_true rfl)⟩) (py_preV hw (C := RX11) (T := TX11) (N := 16) rfl hr_24) rfl rfl hl.1 rfl (lv_room (Nat.le_of_ble_eq_true rfl)) dX11_climb_2 ⟨(Nat.le_of_ble_eq_true rfl), (Nat.le_of_ble_eq_true rfl)⟩) (fun r_30 L_26 f_27 H_28 locs hp_29 hw => ?_)
  obtain ⟨b_32, en_31, rfl, rfl⟩ := hp_29
  refine lv_if_eq (tgt := 15) G0.1 G0.2.1 dX11_climb_5 (by decide) (fun c_33 => ?_) (fun c_33 => ?_)
  · skip
    have tc_33 := ti_eq c_33
    refine lv_ldc (v := (-1000000)) G0.1 G0.2.1 G0.2.2.2.1 (G0.2.2.2.2 (Cond.constant RX11 166 (-1000000)) (by decide +kernel)) dX11_climb_15 ?_
    exact py_iret G0 hr rfl hlk hw ⟨rfl, rfl⟩ dX11_climb_17
  · skip
    have tc_33 := ti_ne c_33
    refine lv_iload_n G0.1 G0.2.1 dX11_climb_8 rfl (lv_at hl 2 rfl) ?_
    refine py_calli hw (va_runS (As := [.int b]) (rest := []) G0 (c_X11_isZeroOrOne l E G L f H_28.size b hG hWF) (va_cwS 1 G0.2.2.2.2 g_X11_climb_X11_isZeroOrOne_267 rfl rfl rfl (by decide +kernel) ⟨(Nat.le_of_ble_eq_true rfl), (Nat.le_of_ble_eq_true rfl)⟩) (py_preS hw) rfl rfl hl.1 rfl (lv_room (Nat.le_of_ble_eq_true rfl)) dX11_climb_9 ⟨(Nat.le_of_ble_eq_true rfl), (Nat.le_of_ble_eq_true rfl)⟩) (fun r_38 L_34 f_35 H_36 locs hp_37 hw => ?_)
    obtain ⟨b_40, en_39, rfl, rfl⟩ := hp_37
    refine lv_if_ne (tgt := 18) G0.1 G0.2.1 dX11_climb_12 (by decide) (fun c_41 => ?_) (fun c_41 => ?_)
    · skip
      have tc_41 := ti_ne c_41
      refine lv_aload_n G0.1 G0.2.1 dX11_climb_18 rfl (lv_at hl 0 rfl) ?_
      refine py_get (C := RX11) (T := TX11) (N := 16) (k := 8) (v := .ref (G.2 x 8)) G0 hw in_X11_climb_X11 rfl hr_24 (by decide) (by decide +kernel) rfl dX11_climb_19 ?_
      obtain ⟨t_42, t_43⟩ := wt_1 hG t_9
      obtain ⟨v_44, hr_46, b_45⟩ := wg_1 hWF t_9
      refine py_get (C := RX1) (T := TX1) (N := 3) (k := 2) (v := .int v_44) G0 hw in_X11_climb_X1 rfl hr_46 (by decide) (by decide +kernel) rfl dX11_climb_22 ?_
      refine lv_if_ne (tgt := 38) G0.1 G0.2.1 dX11_climb_25 (by decide) (fun c_47 => ?_) (fun c_47 => ?_)
      · skip
        have tc_47 := ti_ne c_47
        refine lv_iconst (v := 0) G0.1 G0.2.1 dX11_climb_38 (by decide) ?_
        refine lv_istore_n (lv' := [(3, .int 0), (0, .ref x), (1, .int a), (2, .int b)]) G0.1 G0.2.1 dX11_climb_39 rfl hl (by decide) rfl (fun ls hl => ?_)
        refine lv_iconst (v := 0) G0.1 G0.2.1 dX11_climb_40 (by decide) ?_
        refine lv_istore (lv' := [(4, .int 0), (3, .int 0), (0, .ref x), (1, .int a), (2, .int b)]) G0.1 G0.2.1 dX11_climb_41 hl (by decide) rfl (fun ls hl => ?_)
        refine lv_iconst (v := 0) G0.1 G0.2.1 dX11_climb_43 (by decide) ?_
        refine lv_istore (lv' := [(5, .int 0), (4, .int 0), (3, .int 0), (0, .ref x), (1, .int a), (2, .int b)]) G0.1 G0.2.1 dX11_climb_44 hl (by decide) rfl (fun ls hl => ?_)
        have lo_46 : ∀ n_46 : Nat, ∀ (v_48 : Int32) (v_49 : Int32) (v_50 : Int32) (H_j46 : Heap) (locs : List Loc) (ls : Array Slot), (2147483647 - v_48.toInt).toNat = n_46 → (0 ≤ v_48.toInt ∧ v_48.toInt ≤ 2147483647) → py_W E (va_A (va_pl L f) s.heap.size) s L f H_j46 locs → lv_has ls 7 [(5, .int v_48), (4, .int v_49), (3, .int v_50), (0, .ref x), (1, .int a), (2, .int b)] → W p l e (headSpec w_X11_climb ({ frames := 2, cells := 0, slots := 0, locals := 50 })).room s m ([.ref x, .int a, .int b] : List Value).toArray below meth c H_j46 locs 0 0 (MQ below (py_Qi E L f s.heap.size (fun _ L1 f1 => L = L1 ∧ f = f1)) ([.ref x, .int a, .int b] : List Value).toArray s 0 0 (va_A (va_pl L f) s.heap.size)) (F0 m 46 ls []) := by
          intro n_46
          induction n_46 using Nat.strongRecOn with
          | _ n_46 ih_46 =>
            intro v_48 v_49 v_50 H_j46 locs ls hn_46 bv_48 hw hl
            refine lv_iload G0.1 G0.2.1 dX11_climb_46 (lv_at hl 0 rfl) ?_
            refine lv_aload_n G0.1 G0.2.1 dX11_climb_48 rfl (lv_at hl 3 rfl) ?_
            refine py_get (C := RX11) (T := TX11) (N := 16) (k := 8) (v := .ref (G.2 x 8)) G0 hw in_X11_climb_X11 rfl hr_24 (by decide) (by decide +kernel) rfl dX11_climb_49 ?_
            refine py_get (C := RX1) (T := TX1) (N := 3) (k := 2) (v := .int v_44) G0 hw in_X11_climb_X1 rfl hr_46 (by decide) (by decide +kernel) rfl dX11_climb_52 ?_
            refine lv_icmp_ge (tgt := 89) G0.1 G0.2.1 dX11_climb_55 (by decide) (fun c_51 => ?_) (fun c_51 => ?_)
            · skip
              have tc_51 := ti_le c_51
              refine lv_iload_n G0.1 G0.2.1 dX11_climb_89 rfl (lv_at hl 5 rfl) ?_
              have jn_99 : ∀ (v_52 : Int32) (H_j99 : Heap) (locs : List Loc) (ls : Array Slot), py_W E (va_A (va_pl L f) s.heap.size) s L f H_j99 locs → lv_has ls 7 [(5, .int v_48), (4, .int v_49), (3, .int v_50), (0, .ref x), (1, .int a), (2, .int b)] → W p l e (headSpec w_X11_climb ({ frames := 2, cells := 0, slots := 0, locals := 50 })).room s m ([.ref x, .int a, .int b] : List Value).toArray below meth c H_j99 locs 0 0 (MQ below (py_Qi E L f s.heap.size (fun _ L1 f1 => L = L1 ∧ f = f1)) ([.ref x, .int a, .int b] : List Value).toArray s 0 0 (va_A (va_pl L f) s.heap.size)) (F0 m 99 ls [.int v_52]) := by
                intro v_52 H_j99 locs ls hw hl
                exact py_iret G0 hr rfl hlk hw ⟨rfl, rfl⟩ dX11_climb_99
              refine lv_if_ne (tgt := 97) G0.1 G0.2.1 dX11_climb_90 (by decide) (fun c_53 => ?_) (fun c_53 => ?_)
              · skip
                have tc_53 := ti_ne c_53
                refine lv_iload G0.1 G0.2.1 dX11_climb_97 (lv_at hl 1 rfl) ?_
                exact jn_99 v_49 _ _ ls hw (lv_sub hl [0, 1, 2, 3, 4, 5] rfl)
              · skip
                have tc_53 := ti_eq c_53
                refine lv_iload_n G0.1 G0.2.1 dX11_climb_93 rfl (lv_at hl 2 rfl) ?_
                refine lv_goto (tgt := 99) G0.1 G0.2.1 dX11_climb_94 (by decide) ?_
                exact jn_99 v_50 _ _ ls hw (lv_sub hl [0, 1, 2, 3, 4, 5] rfl)
            · skip
              have tc_51 := ti_nle c_51
              refine lv_aload_n G0.1 G0.2.1 dX11_climb_58 rfl (lv_at hl 3 rfl) ?_
              refine py_get (C := RX11) (T := TX11) (N := 16) (k := 8) (v := .ref (G.2 x 8)) G0 hw in_X11_climb_X11 rfl hr_24 (by decide) (by decide +kernel) rfl dX11_climb_59 ?_
              refine lv_iload G0.1 G0.2.1 dX11_climb_62 (lv_at hl 0 rfl) ?_
              refine lv_iload_n G0.1 G0.2.1 dX11_climb_64 rfl (lv_at hl 4 rfl) ?_
              refine py_calli hw (va_runV (As := [.int v_48, .int a]) (rest := []) G0 (c_X1_climbFrom l E G L f H_j46.size (G.2 x 8) v_48 a hG hWF t_9 ⟨by omega, by omega⟩ ⟨by omega, by omega⟩) (cwV 2 G0.2.2.2.2 g_X11_climb_X1_climbFrom_311 rfl rfl rfl (by decide +kernel) ⟨(Nat.le_of_ble_eq_true rfl), (Nat.le_of_ble_eq_true rfl)⟩) (py_preV hw (C := RX1) (T := TX1) (N := 3) rfl hr_46) rfl rfl hl.1 rfl (lv_room (Nat.le_of_ble_eq_true rfl)) dX11_climb_65 ⟨(Nat.le_of_ble_eq_true rfl), (Nat.le_of_ble_eq_true rfl)⟩) (fun r_58 L_54 f_55 H_56 locs hp_57 hw => ?_)
              obtain ⟨rfl, rfl⟩ := hp_57
              have br_58 := wf_free r_58
              refine lv_istore (lv' := [(6, .int r_58), (5, .int v_48), (4, .int v_49), (3, .int v_50), (0, .ref x), (1, .int a), (2, .int b)]) G0.1 G0.2.1 dX11_climb_68 hl (by decide) rfl (fun ls hl => ?_)
              refine lv_iload G0.1 G0.2.1 dX11_climb_70 (lv_at hl 0 rfl) ?_
              refine lv_iload_n G0.1 G0.2.1 dX11_climb_72 rfl (lv_at hl 3 rfl) ?_
              refine lv_icmp_le (tgt := 83) G0.1 G0.2.1 dX11_climb_73 (by decide) (fun c_59 => ?_) (fun c_59 => ?_)
              · skip
                have tc_59 := ti_le c_59
                obtain ⟨x_60, ex_60⟩ : ∃ y : Int32, y = v_48 + 1 := ⟨_, rfl⟩
                first | have tx_60 := ti_add ex_60 (by omega) (by omega) | skip
                refine lv_iinc (v := x_60) (lv' := [(5, .int x_60), (6, .int r_58), (4, .int v_49), (3, .int v_50), (0, .ref x), (1, .int a), (2, .int b)]) G0.1 G0.2.1 dX11_climb_83 hl (k := 1) rfl (show _ + (1 : Int32) = _ from ex_60.symm) (by decide) rfl (fun ls hl => ?_)
                refine lv_goto (tgt := 46) G0.1 G0.2.1 dX11_climb_86 (by decide) ?_
                exact ih_46 ((2147483647 - x_60.toInt).toNat) (by omega) x_60 v_49 v_50 _ _ ls rfl ⟨by omega, by omega⟩ hw (lv_sub hl [0, 2, 3, 4, 5, 6] rfl)
              · skip
                have tc_59 := ti_nle c_59
                refine lv_iload G0.1 G0.2.1 dX11_climb_76 (lv_at hl 0 rfl) ?_
                refine lv_istore_n (lv' := [(3, .int r_58), (6, .int r_58), (5, .int v_48), (4, .int v_49), (0, .ref x), (1, .int a), (2, .int b)]) G0.1 G0.2.1 dX11_climb_78 rfl hl (by decide) rfl (fun ls hl => ?_)
                refine lv_iload G0.1 G0.2.1 dX11_climb_79 (lv_at hl 2 rfl) ?_
                refine lv_istore (lv' := [(4, .int v_48), (3, .int r_58), (6, .int r_58), (5, .int v_48), (0, .ref x), (1, .int a), (2, .int b)]) G0.1 G0.2.1 dX11_climb_81 hl (by decide) rfl (fun ls hl => ?_)
                obtain ⟨x_61, ex_61⟩ : ∃ y : Int32, y = v_48 + 1 := ⟨_, rfl⟩
                first | have tx_61 := ti_add ex_61 (by omega) (by omega) | skip
                refine lv_iinc (v := x_61) (lv' := [(5, .int x_61), (4, .int v_48), (3, .int r_58), (6, .int r_58), (0, .ref x), (1, .int a), (2, .int b)]) G0.1 G0.2.1 dX11_climb_83 hl (k := 3) rfl (show _ + (1 : Int32) = _ from ex_61.symm) (by decide) rfl (fun ls hl => ?_)
                refine lv_goto (tgt := 46) G0.1 G0.2.1 dX11_climb_86 (by decide) ?_
                exact ih_46 ((2147483647 - x_61.toInt).toNat) (by omega) x_61 v_48 r_58 _ _ ls rfl ⟨by omega, by omega⟩ hw (lv_sub hl [0, 1, 2, 4, 5, 6] rfl)
        exact lo_46 _ 0 0 0 _ _ ls rfl ⟨by omega, by omega⟩ hw (lv_sub hl [0, 1, 2, 3, 4, 5] rfl)
      · skip
        have tc_47 := ti_eq c_47
        refine lv_iload_n G0.1 G0.2.1 dX11_climb_28 rfl (lv_at hl 2 rfl) ?_
        have jn_37 : ∀ (v_62 : Int32) (H_j37 : Heap) (locs : List Loc) (ls : Array Slot), ((-1) ≤ v_62.toInt ∧ v_62.toInt ≤ 0) → py_W E (va_A (va_pl L f) s.heap.size) s L f H_j37 locs → lv_has ls 7 [(0, .ref x), (1, .int a), (2, .int b)] → W p l e (headSpec w_X11_climb ({ frames := 2, cells := 0, slots := 0, locals := 50 })).room s m ([.ref x, .int a, .int b] : List Value).toArray below meth c H_j37 locs 0 0 (MQ below (py_Qi E L f s.heap.size (fun _ L1 f1 => L = L1 ∧ f = f1)) ([.ref x, .int a, .int b] : List Value).toArray s 0 0 (va_A (va_pl L f) s.heap.size)) (F0 m 37 ls [.int v_62]) := by
          intro v_62 H_j37 locs ls bv_62 hw hl
          exact py_iret G0 hr rfl hlk hw ⟨rfl, rfl⟩ dX11_climb_37
        refine lv_if_ne (tgt := 36) G0.1 G0.2.1 dX11_climb_29 (by decide) (fun c_63 => ?_) (fun c_63 => ?_)
        · skip
          have tc_63 := ti_ne c_63
          refine lv_iconst (v := (-1)) G0.1 G0.2.1 dX11_climb_36 (by decide) ?_
          exact jn_37 (-1) _ _ ls ⟨by omega, by omega⟩ hw (lv_sub hl [0, 1, 2] rfl)
        · skip
          have tc_63 := ti_eq c_63
          refine lv_iconst (v := 0) G0.1 G0.2.1 dX11_climb_32 (by decide) ?_
          refine lv_goto (tgt := 37) G0.1 G0.2.1 dX11_climb_33 (by decide) ?_
          exact jn_37 0 _ _ ls ⟨by omega, by omega⟩ hw (lv_sub hl [0, 1, 2] rfl)
    · skip
      have tc_41 := ti_eq c_41
      refine lv_ldc (v := (-1000000)) G0.1 G0.2.1 G0.2.2.2.1 (G0.2.2.2.2 (Cond.constant RX11 166 (-1000000)) (by decide +kernel)) dX11_climb_15 ?_
      exact py_iret G0 hr rfl hlk hw ⟨rfl, rfl⟩ dX11_climb_17

def w_X11_full : List Cond := .code yX11_full cX11_full 1 (some .int) :: ([Cond.methodLink RX11 218 yX11_hasValley, Cond.instanceMethod yX11_hasValley, Cond.selects RX11 yX11_hasValley yX11_hasValley, Cond.initialized RX11, Cond.fieldLink RX11 47 "HeadYear" "folk" "LHeadYear$Folk;", Cond.methodLink RX11 314 yX2_fullBits, Cond.instanceMethod yX2_fullBits, Cond.selects RX2 yX2_fullBits yX2_fullBits, Cond.initialized RX2] ++ (u_ws RX11 TX11 16 ++ (w_X11_hasValley ++ (w_X2_fullBits ++ ([])))))
theorem in_X11_full_X11 : ∀ w ∈ u_ws RX11 TX11 16, w ∈ w_X11_full := fun _ h => List.mem_cons_of_mem _ (List.mem_append_right _ (List.mem_append_left _ h))
theorem gg_X11_full_X11_hasValley : GoodIn w_X11_full w_X11_hasValley := goodIn_sub (fun _ h => List.mem_cons_of_mem _ (List.mem_append_right _ (List.mem_append_right _ (List.mem_append_left _ h)))) (by decide +kernel)
theorem gg_X11_full_X2_fullBits : GoodIn w_X11_full w_X2_fullBits := goodIn_sub (fun _ h => List.mem_cons_of_mem _ (List.mem_append_right _ (List.mem_append_right _ (List.mem_append_right _ (List.mem_append_left _ h))))) (by decide +kernel)
theorem g_X11_full_X11_hasValley_218 : GoodIn w_X11_full (wsV RX11 218 RX11 yX11_hasValley w_X11_hasValley) := goodIn_app (goodIn_of _ (by decide +kernel)) gg_X11_full_X11_hasValley
theorem g_X11_full_X2_fullBits_314 : GoodIn w_X11_full (wsV RX11 314 RX2 yX2_fullBits w_X2_fullBits) := goodIn_app (goodIn_of _ (by decide +kernel)) gg_X11_full_X2_fullBits
set_option maxHeartbeats 4000000 in
set_option maxRecDepth 100000 in
theorem c_X11_full (l : Launch) (E : py_E) (G : wf_G) (L : List Nat) (f : py_F) (sz : Nat) (x : Nat) (hG : GT G) (hWF : WF E G L f) (Tx : G.1 x = 12) : Met l yX11_full w_X11_full ({ frames := 3, cells := 0, slots := 0, locals := 66 }) (py_Pc E [.ref x] L f sz) (py_Qi E L f sz (fun _ L1 f1 => L = L1 ∧ f = f1)) 0 0 (va_A (va_pl L f) sz) := by
  refine Met.ofW (cc := cX11_full) (maxL := 1) (ret := (some .int)) (by decide) rfl ?_
  intro p e s m args below meth c s₁ B hml hv
  obtain ⟨rfl, rfl, hw⟩ := py_start hv
  have G0 : CallFix p m c cX11_full 1 s _ w_X11_full RX11 := ⟨B.exec, B.bytes, hml, findClass_of_methodNamed B.named, atoms_spec (ws := w_X11_full) B.pre⟩
  have hr := B.returns
  have hlk := B.notSynchronized
  have kcm1 : (-1 : Int32).toInt = -1 := rfl
  have kc0 : (0 : Int32).toInt = 0 := rfl
  have kc1 : (1 : Int32).toInt = 1 := rfl
  have hl := lv_entry ([.ref x]) (n := 1) (Nat.le_of_ble_eq_true rfl)
  rw [lg_entry_eq]
  generalize (lg_sl ([.ref x]) ++ List.replicate (1 - (lg_sl ([.ref x])).length) Slot.unset).toArray = ls at hl ⊢
  have hl : lv_has ls 1 [(0, .ref x)] := hl
  have hRP : RP E G f f := RP.refl
  refine lv_aload_n G0.1 G0.2.1 dX11_full_0 rfl (lv_at hl 0 rfl) ?_
  obtain ⟨t_1, t_2, t_3, t_4, t_5, t_6, t_7, t_8, t_9, t_10, t_11, t_12, t_13, tx_14, tx_15, tx_16, tx_17⟩ := wt_11 hG Tx
  obtain ⟨v_18, v_19, v_20, hr_24, b_21, b_22, b_23⟩ := wg_11 hWF Tx
  have tq_25 := hy_eq hr_24
  refine py_calli hw (va_runV (As := []) (rest := []) G0 (c_X11_hasValley l E G L f s.heap.size x hG hWF Tx) (cwV 0 G0.2.2.2.2 g_X11_full_X11_hasValley_218 rfl rfl rfl (by decide +kernel) ⟨(Nat.le_of_ble_eq_true rfl), (Nat.le_of_ble_eq_true rfl)⟩) (py_preV hw (C := RX11) (T := TX11) (N := 16) rfl hr_24) rfl rfl hl.1 rfl (lv_room (Nat.le_of_ble_eq_true rfl)) dX11_full_1 ⟨(Nat.le_of_ble_eq_true rfl), (Nat.le_of_ble_eq_true rfl)⟩) (fun r_30 L_26 f_27 H_28 locs hp_29 hw => ?_)
  obtain ⟨b_33, en_31, en_32, rfl, rfl⟩ := hp_29
  have jn_18 : ∀ (v_34 : Int32) (H_j18 : Heap) (locs : List Loc) (ls : Array Slot), py_W E (va_A (va_pl L f) s.heap.size) s L f H_j18 locs → lv_has ls 1 [(0, .ref x)] → W p l e (headSpec w_X11_full ({ frames := 3, cells := 0, slots := 0, locals := 66 })).room s m ([.ref x] : List Value).toArray below meth c H_j18 locs 0 0 (MQ below (py_Qi E L f s.heap.size (fun _ L1 f1 => L = L1 ∧ f = f1)) ([.ref x] : List Value).toArray s 0 0 (va_A (va_pl L f) s.heap.size)) (F0 m 18 ls [.int v_34]) := by
    intro v_34 H_j18 locs ls hw hl
    exact py_iret G0 hr rfl hlk hw ⟨rfl, rfl⟩ dX11_full_18
  refine lv_if_eq (tgt := 17) G0.1 G0.2.1 dX11_full_4 (by decide) (fun c_35 => ?_) (fun c_35 => ?_)
  · skip
    have tc_35 := ti_eq c_35
    refine lv_iconst (v := (-1)) G0.1 G0.2.1 dX11_full_17 (by decide) ?_
    exact jn_18 (-1) _ _ ls hw (lv_sub hl [0] rfl)
  · skip
    have tc_35 := ti_ne c_35
    refine lv_aload_n G0.1 G0.2.1 dX11_full_7 rfl (lv_at hl 0 rfl) ?_
    refine py_get (C := RX11) (T := TX11) (N := 16) (k := 5) (v := .ref (G.2 x 5)) G0 hw in_X11_full_X11 rfl hr_24 (by decide) (by decide +kernel) rfl dX11_full_8 ?_
    obtain ⟨t_36, t_37, t_38, t_39, t_40, t_41, t_42, t_43, t_44⟩ := wt_2 hG t_6
    obtain ⟨r_45, y_46, v_47, hr_50, ty_48, b_49⟩ := wg_2 hWF t_6
    refine py_calli hw (va_runV (As := []) (rest := []) G0 (c_X2_fullBits l E G L f H_28.size (G.2 x 5) hG hWF t_6) (cwV 0 G0.2.2.2.2 g_X11_full_X2_fullBits_314 rfl rfl rfl (by decide +kernel) ⟨(Nat.le_of_ble_eq_true rfl), (Nat.le_of_ble_eq_true rfl)⟩) (py_preV hw (C := RX2) (T := TX2) (N := 12) rfl hr_50) rfl rfl hl.1 rfl (lv_room (Nat.le_of_ble_eq_true rfl)) dX11_full_11 ⟨(Nat.le_of_ble_eq_true rfl), (Nat.le_of_ble_eq_true rfl)⟩) (fun r_55 L_51 f_52 H_53 locs hp_54 hw => ?_)
    obtain ⟨rfl, rfl⟩ := hp_54
    have br_55 := wf_free r_55
    refine lv_goto (tgt := 18) G0.1 G0.2.1 dX11_full_14 (by decide) ?_
    exact jn_18 r_55 _ _ ls hw (lv_sub hl [0] rfl)

def w_X11_hungry : List Cond := .code yX11_hungry cX11_hungry 6 (some .int) :: ([Cond.methodLink RX11 218 yX11_hasValley, Cond.instanceMethod yX11_hasValley, Cond.selects RX11 yX11_hasValley yX11_hasValley, Cond.initialized RX11, Cond.methodLink RX11 267 yX11_isZeroOrOne, Cond.static yX11_isZeroOrOne, Cond.fieldLink RX11 47 "HeadYear" "folk" "LHeadYear$Folk;", Cond.fieldLink RX11 128 "HeadYear$Folk" "valley" "LHeadYear$Valley;", Cond.fieldLink RX11 317 "HeadYear$Valley" "levels" "I", Cond.methodLink RX11 160 yX2_lackAt, Cond.instanceMethod yX2_lackAt, Cond.selects RX2 yX2_lackAt yX2_lackAt, Cond.initialized RX2] ++ (u_ws RX11 TX11 16 ++ (u_ws RX2 TX2 12 ++ (u_ws RX9 TX9 10 ++ (w_X11_hasValley ++ (w_X11_isZeroOrOne ++ (w_X2_lackAt ++ ([]))))))))
theorem in_X11_hungry_X11 : ∀ w ∈ u_ws RX11 TX11 16, w ∈ w_X11_hungry := fun _ h => List.mem_cons_of_mem _ (List.mem_append_right _ (List.mem_append_left _ h))
theorem in_X11_hungry_X2 : ∀ w ∈ u_ws RX2 TX2 12, w ∈ w_X11_hungry := fun _ h => List.mem_cons_of_mem _ (List.mem_append_right _ (List.mem_append_right _ (List.mem_append_left _ h)))
theorem in_X11_hungry_X9 : ∀ w ∈ u_ws RX9 TX9 10, w ∈ w_X11_hungry := fun _ h => List.mem_cons_of_mem _ (List.mem_append_right _ (List.mem_append_right _ (List.mem_append_right _ (List.mem_append_left _ h))))
theorem gg_X11_hungry_X11_hasValley : GoodIn w_X11_hungry w_X11_hasValley := goodIn_sub (fun _ h => List.mem_cons_of_mem _ (List.mem_append_right _ (List.mem_append_right _ (List.mem_append_right _ (List.mem_append_right _ (List.mem_append_left _ h)))))) (by decide +kernel)
theorem gg_X11_hungry_X11_isZeroOrOne : GoodIn w_X11_hungry w_X11_isZeroOrOne := goodIn_sub (fun _ h => List.mem_cons_of_mem _ (List.mem_append_right _ (List.mem_append_right _ (List.mem_append_right _ (List.mem_append_right _ (List.mem_append_right _ (List.mem_append_left _ h))))))) (by decide +kernel)
theorem gg_X11_hungry_X2_lackAt : GoodIn w_X11_hungry w_X2_lackAt := goodIn_sub (fun _ h => List.mem_cons_of_mem _ (List.mem_append_right _ (List.mem_append_right _ (List.mem_append_right _ (List.mem_append_right _ (List.mem_append_right _ (List.mem_append_right _ (List.mem_append_left _ h)))))))) (by decide +kernel)
theorem g_X11_hungry_X11_hasValley_218 : GoodIn w_X11_hungry (wsV RX11 218 RX11 yX11_hasValley w_X11_hasValley) := goodIn_app (goodIn_of _ (by decide +kernel)) gg_X11_hungry_X11_hasValley
theorem g_X11_hungry_X11_isZeroOrOne_267 : GoodIn w_X11_hungry (va_wsS RX11 267 yX11_isZeroOrOne w_X11_isZeroOrOne) := goodIn_app (goodIn_of _ (by decide +kernel)) gg_X11_hungry_X11_isZeroOrOne
theorem g_X11_hungry_X2_lackAt_160 : GoodIn w_X11_hungry (wsV RX11 160 RX2 yX2_lackAt w_X2_lackAt) := goodIn_app (goodIn_of _ (by decide +kernel)) gg_X11_hungry_X2_lackAt
set_option maxHeartbeats 4000000 in
set_option maxRecDepth 100000 in
theorem c_X11_hungry (l : Launch) (E : py_E) (G : wf_G) (L : List Nat) (f : py_F) (sz : Nat) (x : Nat) (a : Int32) (hG : GT G) (hWF : WF E G L f) (Tx : G.1 x = 12) : Met l yX11_hungry w_X11_hungry ({ frames := 2, cells := 0, slots := 0, locals := 45 }) (py_Pc E [.ref x, .int a] L f sz) (py_Qi E L f sz (fun _ L1 f1 => L = L1 ∧ f = f1)) 0 0 (va_A (va_pl L f) sz) := by
  refine Met.ofW (cc := cX11_hungry) (maxL := 6) (ret := (some .int)) (by decide) rfl ?_
  intro p e s m args below meth c s₁ B hml hv
  obtain ⟨rfl, rfl, hw⟩ := py_start hv
  have G0 : CallFix p m c cX11_hungry 6 s _ w_X11_hungry RX11 := ⟨B.exec, B.bytes, hml, findClass_of_methodNamed B.named, atoms_spec (ws := w_X11_hungry) B.pre⟩
  have hr := B.returns
  have hlk := B.notSynchronized
  have kcm1 : (-1 : Int32).toInt = -1 := rfl
  have kc0 : (0 : Int32).toInt = 0 := rfl
  have kc1 : (1 : Int32).toInt = 1 := rfl
  have hl := lv_entry ([.ref x, .int a]) (n := 6) (Nat.le_of_ble_eq_true rfl)
  rw [lg_entry_eq]
  generalize (lg_sl ([.ref x, .int a]) ++ List.replicate (6 - (lg_sl ([.ref x, .int a])).length) Slot.unset).toArray = ls at hl ⊢
  have hl : lv_has ls 6 [(0, .ref x), (1, .int a)] := hl
  have hRP : RP E G f f := RP.refl
  refine lv_aload_n G0.1 G0.2.1 dX11_hungry_0 rfl (lv_at hl 0 rfl) ?_
  obtain ⟨t_1, t_2, t_3, t_4, t_5, t_6, t_7, t_8, t_9, t_10, t_11, t_12, t_13, tx_14, tx_15, tx_16, tx_17⟩ := wt_11 hG Tx
  obtain ⟨v_18, v_19, v_20, hr_24, b_21, b_22, b_23⟩ := wg_11 hWF Tx
  have tq_25 := hy_eq hr_24
  refine py_calli hw (va_runV (As := []) (rest := []) G0 (c_X11_hasValley l E G L f s.heap.size x hG hWF Tx) (cwV 0 G0.2.2.2.2 g_X11_hungry_X11_hasValley_218 rfl rfl rfl (by decide +kernel) ⟨(Nat.le_of_ble_eq_true rfl), (Nat.le_of_ble_eq_true rfl)⟩) (py_preV hw (C := RX11) (T := TX11) (N := 16) rfl hr_24) rfl rfl hl.1 rfl (lv_room (Nat.le_of_ble_eq_true rfl)) dX11_hungry_1 ⟨(Nat.le_of_ble_eq_true rfl), (Nat.le_of_ble_eq_true rfl)⟩) (fun r_30 L_26 f_27 H_28 locs hp_29 hw => ?_)
  obtain ⟨b_33, en_31, en_32, rfl, rfl⟩ := hp_29
  refine lv_if_eq (tgt := 14) G0.1 G0.2.1 dX11_hungry_4 (by decide) (fun c_34 => ?_) (fun c_34 => ?_)
  · skip
    have tc_34 := ti_eq c_34
    refine lv_iconst (v := (-1)) G0.1 G0.2.1 dX11_hungry_14 (by decide) ?_
    exact py_iret G0 hr rfl hlk hw ⟨rfl, rfl⟩ dX11_hungry_15
  · skip
    have tc_34 := ti_ne c_34
    refine lv_iload_n G0.1 G0.2.1 dX11_hungry_7 rfl (lv_at hl 1 rfl) ?_
    refine py_calli hw (va_runS (As := [.int a]) (rest := []) G0 (c_X11_isZeroOrOne l E G L f H_28.size a hG hWF) (va_cwS 1 G0.2.2.2.2 g_X11_hungry_X11_isZeroOrOne_267 rfl rfl rfl (by decide +kernel) ⟨(Nat.le_of_ble_eq_true rfl), (Nat.le_of_ble_eq_true rfl)⟩) (py_preS hw) rfl rfl hl.1 rfl (lv_room (Nat.le_of_ble_eq_true rfl)) dX11_hungry_8 ⟨(Nat.le_of_ble_eq_true rfl), (Nat.le_of_ble_eq_true rfl)⟩) (fun r_39 L_35 f_36 H_37 locs hp_38 hw => ?_)
    obtain ⟨b_41, en_40, rfl, rfl⟩ := hp_38
    refine lv_if_ne (tgt := 16) G0.1 G0.2.1 dX11_hungry_11 (by decide) (fun c_42 => ?_) (fun c_42 => ?_)
    · skip
      have tc_42 := ti_ne c_42
      refine lv_iconst (v := 0) G0.1 G0.2.1 dX11_hungry_16 (by decide) ?_
      refine lv_istore_n (lv' := [(2, .int 0), (0, .ref x), (1, .int a)]) G0.1 G0.2.1 dX11_hungry_17 rfl hl (by decide) rfl (fun ls hl => ?_)
      refine lv_iconst (v := 0) G0.1 G0.2.1 dX11_hungry_18 (by decide) ?_
      refine lv_istore_n (lv' := [(3, .int 0), (2, .int 0), (0, .ref x), (1, .int a)]) G0.1 G0.2.1 dX11_hungry_19 rfl hl (by decide) rfl (fun ls hl => ?_)
      refine lv_iconst (v := 0) G0.1 G0.2.1 dX11_hungry_20 (by decide) ?_
      refine lv_istore (lv' := [(4, .int 0), (3, .int 0), (2, .int 0), (0, .ref x), (1, .int a)]) G0.1 G0.2.1 dX11_hungry_21 hl (by decide) rfl (fun ls hl => ?_)
      have lo_23 : ∀ n_23 : Nat, ∀ (v_43 : Int32) (v_44 : Int32) (v_45 : Int32) (H_j23 : Heap) (locs : List Loc) (ls : Array Slot), (2147483647 - v_43.toInt).toNat = n_23 → (0 ≤ v_43.toInt ∧ v_43.toInt ≤ 2147483647) → py_W E (va_A (va_pl L f) s.heap.size) s L f H_j23 locs → lv_has ls 6 [(4, .int v_43), (3, .int v_44), (2, .int v_45), (0, .ref x), (1, .int a)] → W p l e (headSpec w_X11_hungry ({ frames := 2, cells := 0, slots := 0, locals := 45 })).room s m ([.ref x, .int a] : List Value).toArray below meth c H_j23 locs 0 0 (MQ below (py_Qi E L f s.heap.size (fun _ L1 f1 => L = L1 ∧ f = f1)) ([.ref x, .int a] : List Value).toArray s 0 0 (va_A (va_pl L f) s.heap.size)) (F0 m 23 ls []) := by
        intro n_23
        induction n_23 using Nat.strongRecOn with
        | _ n_23 ih_23 =>
          intro v_43 v_44 v_45 H_j23 locs ls hn_23 bv_43 hw hl
          refine lv_iload G0.1 G0.2.1 dX11_hungry_23 (lv_at hl 0 rfl) ?_
          refine lv_aload_n G0.1 G0.2.1 dX11_hungry_25 rfl (lv_at hl 3 rfl) ?_
          refine py_get (C := RX11) (T := TX11) (N := 16) (k := 5) (v := .ref (G.2 x 5)) G0 hw in_X11_hungry_X11 rfl hr_24 (by decide) (by decide +kernel) rfl dX11_hungry_26 ?_
          obtain ⟨t_46, t_47, t_48, t_49, t_50, t_51, t_52, t_53, t_54⟩ := wt_2 hG t_6
          obtain ⟨r_55, y_56, v_57, hr_60, ty_58, b_59⟩ := wg_2 hWF t_6
          refine py_get (C := RX2) (T := TX2) (N := 12) (k := 9) (v := .ref r_55) G0 hw in_X11_hungry_X2 rfl hr_60 (by decide) (by decide +kernel) rfl dX11_hungry_29 ?_
          obtain ⟨t_61, t_62, t_63, t_64, t_65, t_66, t_67, t_68⟩ := wt_9 hG ty_58
          obtain ⟨v_69, v_70, hr_73, b_71, b_72⟩ := wg_9 hWF ty_58
          have tq_74 := va_eq hr_73
          refine py_get (C := RX9) (T := TX9) (N := 10) (k := 8) (v := .int v_69) G0 hw in_X11_hungry_X9 rfl hr_73 (by decide) (by decide +kernel) rfl dX11_hungry_32 ?_
          refine lv_icmp_ge (tgt := 76) G0.1 G0.2.1 dX11_hungry_35 (by decide) (fun c_75 => ?_) (fun c_75 => ?_)
          · skip
            have tc_75 := ti_le c_75
            refine lv_iload_n G0.1 G0.2.1 dX11_hungry_76 rfl (lv_at hl 4 rfl) ?_
            have jn_85 : ∀ (v_76 : Int32) (H_j85 : Heap) (locs : List Loc) (ls : Array Slot), py_W E (va_A (va_pl L f) s.heap.size) s L f H_j85 locs → lv_has ls 6 [(4, .int v_43), (3, .int v_44), (2, .int v_45), (0, .ref x), (1, .int a)] → W p l e (headSpec w_X11_hungry ({ frames := 2, cells := 0, slots := 0, locals := 45 })).room s m ([.ref x, .int a] : List Value).toArray below meth c H_j85 locs 0 0 (MQ below (py_Qi E L f s.heap.size (fun _ L1 f1 => L = L1 ∧ f = f1)) ([.ref x, .int a] : List Value).toArray s 0 0 (va_A (va_pl L f) s.heap.size)) (F0 m 85 ls [.int v_76]) := by
              intro v_76 H_j85 locs ls hw hl
              exact py_iret G0 hr rfl hlk hw ⟨rfl, rfl⟩ dX11_hungry_85
            refine lv_if_ne (tgt := 84) G0.1 G0.2.1 dX11_hungry_77 (by decide) (fun c_77 => ?_) (fun c_77 => ?_)
            · skip
              have tc_77 := ti_ne c_77
              refine lv_iload_n G0.1 G0.2.1 dX11_hungry_84 rfl (lv_at hl 1 rfl) ?_
              exact jn_85 v_44 _ _ ls hw (lv_sub hl [0, 1, 2, 3, 4] rfl)
            · skip
              have tc_77 := ti_eq c_77
              refine lv_iload_n G0.1 G0.2.1 dX11_hungry_80 rfl (lv_at hl 2 rfl) ?_
              refine lv_goto (tgt := 85) G0.1 G0.2.1 dX11_hungry_81 (by decide) ?_
              exact jn_85 v_45 _ _ ls hw (lv_sub hl [0, 1, 2, 3, 4] rfl)
          · skip
            have tc_75 := ti_nle c_75
            refine lv_aload_n G0.1 G0.2.1 dX11_hungry_38 rfl (lv_at hl 3 rfl) ?_
            refine py_get (C := RX11) (T := TX11) (N := 16) (k := 5) (v := .ref (G.2 x 5)) G0 hw in_X11_hungry_X11 rfl hr_24 (by decide) (by decide +kernel) rfl dX11_hungry_39 ?_
            refine lv_iload G0.1 G0.2.1 dX11_hungry_42 (lv_at hl 0 rfl) ?_
            refine py_calli hw (va_runV (As := [.int v_43]) (rest := []) G0 (c_X2_lackAt l E G L f H_j23.size (G.2 x 5) v_43 hG hWF t_6 ⟨by omega, by omega⟩) (cwV 1 G0.2.2.2.2 g_X11_hungry_X2_lackAt_160 rfl rfl rfl (by decide +kernel) ⟨(Nat.le_of_ble_eq_true rfl), (Nat.le_of_ble_eq_true rfl)⟩) (py_preV hw (C := RX2) (T := TX2) (N := 12) rfl hr_60) rfl rfl hl.1 rfl (lv_room (Nat.le_of_ble_eq_true rfl)) dX11_hungry_44 ⟨(Nat.le_of_ble_eq_true rfl), (Nat.le_of_ble_eq_true rfl)⟩) (fun r_82 L_78 f_79 H_80 locs hp_81 hw => ?_)
            obtain ⟨rfl, rfl⟩ := hp_81
            have br_82 := wf_free r_82
            refine lv_istore (lv' := [(5, .int r_82), (4, .int v_43), (3, .int v_44), (2, .int v_45), (0, .ref x), (1, .int a)]) G0.1 G0.2.1 dX11_hungry_47 hl (by decide) rfl (fun ls hl => ?_)
            refine lv_iload_n G0.1 G0.2.1 dX11_hungry_49 rfl (lv_at hl 2 rfl) ?_
            refine lv_iload G0.1 G0.2.1 dX11_hungry_50 (lv_at hl 0 rfl) ?_
            refine lv_iadd G0.1 G0.2.1 dX11_hungry_52 ?_
            refine lv_topi (fun x_83 ex_83 => ?_)
            first | have tx_83 := ti_add ex_83 (by omega) (by omega) | skip
            refine lv_istore_n (lv' := [(3, .int x_83), (5, .int r_82), (4, .int v_43), (2, .int v_45), (0, .ref x), (1, .int a)]) G0.1 G0.2.1 dX11_hungry_53 rfl hl (by decide) rfl (fun ls hl => ?_)
            refine lv_iload_n G0.1 G0.2.1 dX11_hungry_54 rfl (lv_at hl 3 rfl) ?_
            refine lv_iload G0.1 G0.2.1 dX11_hungry_55 (lv_at hl 1 rfl) ?_
            have jn_68 : ∀ (v_84 : Int32) (H_j68 : Heap) (locs : List Loc) (ls : Array Slot), py_W E (va_A (va_pl L f) s.heap.size) s L f H_j68 locs → lv_has ls 6 [(3, .int x_83), (5, .int r_82), (4, .int v_43), (2, .int v_45), (0, .ref x), (1, .int a)] → W p l e (headSpec w_X11_hungry ({ frames := 2, cells := 0, slots := 0, locals := 45 })).room s m ([.ref x, .int a] : List Value).toArray below meth c H_j68 locs 0 0 (MQ below (py_Qi E L f s.heap.size (fun _ L1 f1 => L = L1 ∧ f = f1)) ([.ref x, .int a] : List Value).toArray s 0 0 (va_A (va_pl L f) s.heap.size)) (F0 m 68 ls [.int v_84, .int v_45]) := by
              intro v_84 H_j68 locs ls hw hl
              refine lv_ior G0.1 G0.2.1 dX11_hungry_68 ?_
              refine lv_topi (fun x_85 ex_85 => ?_)
              first | have bx_85 := ti_or ex_85 ⟨by omega, by omega⟩ ⟨by omega, by omega⟩ | skip
              refine lv_istore_n (lv' := [(2, .int x_85), (3, .int x_83), (5, .int r_82), (4, .int v_43), (0, .ref x), (1, .int a)]) G0.1 G0.2.1 dX11_hungry_69 rfl hl (by decide) rfl (fun ls hl => ?_)
              obtain ⟨x_86, ex_86⟩ : ∃ y : Int32, y = v_43 + 1 := ⟨_, rfl⟩
              first | have tx_86 := ti_add ex_86 (by omega) (by omega) | skip
              refine lv_iinc (v := x_86) (lv' := [(4, .int x_86), (2, .int x_85), (3, .int x_83), (5, .int r_82), (0, .ref x), (1, .int a)]) G0.1 G0.2.1 dX11_hungry_70 hl (k := 3) rfl (show _ + (1 : Int32) = _ from ex_86.symm) (by decide) rfl (fun ls hl => ?_)
              refine lv_goto (tgt := 23) G0.1 G0.2.1 dX11_hungry_73 (by decide) ?_
              exact ih_23 ((2147483647 - x_86.toInt).toNat) (by omega) x_86 x_83 x_85 _ _ ls rfl ⟨by omega, by omega⟩ hw (lv_sub hl [0, 2, 1, 4, 5] rfl)
            refine lv_if_le (tgt := 67) G0.1 G0.2.1 dX11_hungry_57 (by decide) (fun c_87 => ?_) (fun c_87 => ?_)
            · skip
              have tc_87 := ti_le c_87
              refine lv_iconst (v := 0) G0.1 G0.2.1 dX11_hungry_67 (by decide) ?_
              exact jn_68 0 _ _ ls hw (lv_sub hl [0, 1, 2, 3, 4, 5] rfl)
            · skip
              have tc_87 := ti_nle c_87
              refine lv_iconst (v := 1) G0.1 G0.2.1 dX11_hungry_60 (by decide) ?_
              refine lv_iload G0.1 G0.2.1 dX11_hungry_61 (lv_at hl 2 rfl) ?_
              refine lv_ishl G0.1 G0.2.1 dX11_hungry_63 ?_
              refine lv_topi (fun x_88 ex_88 => ?_)
              first | have bx_88 : 0 ≤ x_88.toInt ∧ x_88.toInt ≤ 512 := (by rcases ti_ten v_43 (by omega) (by omega) with h | h | h | h | h | h | h | h | h | h <;> (rw [ex_88, h]; decide +kernel)) | skip
              refine lv_goto (tgt := 68) G0.1 G0.2.1 dX11_hungry_64 (by decide) ?_
              exact jn_68 x_88 _ _ ls hw (lv_sub hl [0, 1, 2, 3, 4, 5] rfl)
      exact lo_23 _ 0 0 0 _ _ ls rfl ⟨by omega, by omega⟩ hw (lv_sub hl [0, 1, 2, 3, 4] rfl)
    · skip
      have tc_42 := ti_eq c_42
      refine lv_iconst (v := (-1)) G0.1 G0.2.1 dX11_hungry_14 (by decide) ?_
      exact py_iret G0 hr rfl hlk hw ⟨rfl, rfl⟩ dX11_hungry_15

def w_X11_rank : List Cond := .code yX11_rank cX11_rank 3 (some .int) :: ([Cond.methodLink RX11 163 yX11_isFamily, Cond.instanceMethod yX11_isFamily, Cond.selects RX11 yX11_isFamily yX11_isFamily, Cond.initialized RX11, Cond.fieldLink RX11 47 "HeadYear" "folk" "LHeadYear$Folk;", Cond.fieldLink RX11 128 "HeadYear$Folk" "valley" "LHeadYear$Valley;", Cond.fieldLink RX11 319 "HeadYear$Valley" "families" "I", Cond.methodLink RX11 322 yX2_familiesAhead, Cond.instanceMethod yX2_familiesAhead, Cond.selects RX2 yX2_familiesAhead yX2_familiesAhead, Cond.initialized RX2] ++ (u_ws RX11 TX11 16 ++ (u_ws RX2 TX2 12 ++ (u_ws RX9 TX9 10 ++ (w_X11_isFamily ++ (w_X2_familiesAhead ++ ([])))))))
theorem in_X11_rank_X11 : ∀ w ∈ u_ws RX11 TX11 16, w ∈ w_X11_rank := fun _ h => List.mem_cons_of_mem _ (List.mem_append_right _ (List.mem_append_left _ h))
theorem in_X11_rank_X2 : ∀ w ∈ u_ws RX2 TX2 12, w ∈ w_X11_rank := fun _ h => List.mem_cons_of_mem _ (List.mem_append_right _ (List.mem_append_right _ (List.mem_append_left _ h)))
theorem in_X11_rank_X9 : ∀ w ∈ u_ws RX9 TX9 10, w ∈ w_X11_rank := fun _ h => List.mem_cons_of_mem _ (List.mem_append_right _ (List.mem_append_right _ (List.mem_append_right _ (List.mem_append_left _ h))))
theorem gg_X11_rank_X11_isFamily : GoodIn w_X11_rank w_X11_isFamily := goodIn_sub (fun _ h => List.mem_cons_of_mem _ (List.mem_append_right _ (List.mem_append_right _ (List.mem_append_right _ (List.mem_append_right _ (List.mem_append_left _ h)))))) (by decide +kernel)
theorem gg_X11_rank_X2_familiesAhead : GoodIn w_X11_rank w_X2_familiesAhead := goodIn_sub (fun _ h => List.mem_cons_of_mem _ (List.mem_append_right _ (List.mem_append_right _ (List.mem_append_right _ (List.mem_append_right _ (List.mem_append_right _ (List.mem_append_left _ h))))))) (by decide +kernel)
theorem g_X11_rank_X11_isFamily_163 : GoodIn w_X11_rank (wsV RX11 163 RX11 yX11_isFamily w_X11_isFamily) := goodIn_app (goodIn_of _ (by decide +kernel)) gg_X11_rank_X11_isFamily
theorem g_X11_rank_X2_familiesAhead_322 : GoodIn w_X11_rank (wsV RX11 322 RX2 yX2_familiesAhead w_X2_familiesAhead) := goodIn_app (goodIn_of _ (by decide +kernel)) gg_X11_rank_X2_familiesAhead
set_option maxHeartbeats 4000000 in
set_option maxRecDepth 100000 in
theorem c_X11_rank (l : Launch) (E : py_E) (G : wf_G) (L : List Nat) (f : py_F) (sz : Nat) (x : Nat) (a : Int32) (hG : GT G) (hWF : WF E G L f) (Tx : G.1 x = 12) : Met l yX11_rank w_X11_rank ({ frames := 1, cells := 0, slots := 0, locals := 24 }) (py_Pc E [.ref x, .int a] L f sz) (py_Qi E L f sz (fun _ L1 f1 => L = L1 ∧ f = f1)) 0 0 (va_A (va_pl L f) sz) := by
  refine Met.ofW (cc := cX11_rank) (maxL := 3) (ret := (some .int)) (by decide) rfl ?_
  intro p e s m args below meth c s₁ B hml hv
  obtain ⟨rfl, rfl, hw⟩ := py_start hv
  have G0 : CallFix p m c cX11_rank 3 s _ w_X11_rank RX11 := ⟨B.exec, B.bytes, hml, findClass_of_methodNamed B.named, atoms_spec (ws := w_X11_rank) B.pre⟩
  have hr := B.returns
  have hlk := B.notSynchronized
  have kcm1 : (-1 : Int32).toInt = -1 := rfl
  have kc0 : (0 : Int32).toInt = 0 := rfl
  have kc1 : (1 : Int32).toInt = 1 := rfl
  have hl := lv_entry ([.ref x, .int a]) (n := 3) (Nat.le_of_ble_eq_true rfl)
  rw [lg_entry_eq]
  generalize (lg_sl ([.ref x, .int a]) ++ List.replicate (3 - (lg_sl ([.ref x, .int a])).length) Slot.unset).toArray = ls at hl ⊢
  have hl : lv_has ls 3 [(0, .ref x), (1, .int a)] := hl
  have hRP : RP E G f f := RP.refl
  refine lv_aload_n G0.1 G0.2.1 dX11_rank_0 rfl (lv_at hl 0 rfl) ?_
  refine lv_iload_n G0.1 G0.2.1 dX11_rank_1 rfl (lv_at hl 1 rfl) ?_
  obtain ⟨t_1, t_2, t_3, t_4, t_5, t_6, t_7, t_8, t_9, t_10, t_11, t_12, t_13, tx_14, tx_15, tx_16, tx_17⟩ := wt_11 hG Tx
  obtain ⟨v_18, v_19, v_20, hr_24, b_21, b_22, b_23⟩ := wg_11 hWF Tx
  have tq_25 := hy_eq hr_24
  refine py_calli hw (va_runV (As := [.int a]) (rest := []) G0 (c_X11_isFamily l E G L f s.heap.size x a hG hWF Tx) (cwV 1 G0.2.2.2.2 g_X11_rank_X11_isFamily_163 rfl rfl rfl (by decide +kernel) ⟨(Nat.le_of_ble_eq_true rfl), (Nat.le_of_ble_eq_true rfl)⟩) (py_preV hw (C := RX11) (T := TX11) (N := 16) rfl hr_24) rfl rfl hl.1 rfl (lv_room (Nat.le_of_ble_eq_true rfl)) dX11_rank_2 ⟨(Nat.le_of_ble_eq_true rfl), (Nat.le_of_ble_eq_true rfl)⟩) (fun r_30 L_26 f_27 H_28 locs hp_29 hw => ?_)
  obtain ⟨b_32, en_31, rfl, rfl⟩ := hp_29
  refine lv_if_ne (tgt := 10) G0.1 G0.2.1 dX11_rank_5 (by decide) (fun c_33 => ?_) (fun c_33 => ?_)
  · skip
    have tc_33 := ti_ne c_33
    refine lv_iconst (v := 0) G0.1 G0.2.1 dX11_rank_10 (by decide) ?_
    refine lv_istore_n (lv' := [(2, .int 0), (0, .ref x), (1, .int a)]) G0.1 G0.2.1 dX11_rank_11 rfl hl (by decide) rfl (fun ls hl => ?_)
    have lo_12 : ∀ n_12 : Nat, ∀ (v_34 : Int32) (H_j12 : Heap) (locs : List Loc) (ls : Array Slot), (2147483647 - v_34.toInt).toNat = n_12 → (0 ≤ v_34.toInt ∧ v_34.toInt ≤ 2147483647) → py_W E (va_A (va_pl L f) s.heap.size) s L f H_j12 locs → lv_has ls 3 [(2, .int v_34), (0, .ref x), (1, .int a)] → W p l e (headSpec w_X11_rank ({ frames := 1, cells := 0, slots := 0, locals := 24 })).room s m ([.ref x, .int a] : List Value).toArray below meth c H_j12 locs 0 0 (MQ below (py_Qi E L f s.heap.size (fun _ L1 f1 => L = L1 ∧ f = f1)) ([.ref x, .int a] : List Value).toArray s 0 0 (va_A (va_pl L f) s.heap.size)) (F0 m 12 ls []) := by
      intro n_12
      induction n_12 using Nat.strongRecOn with
      | _ n_12 ih_12 =>
        intro v_34 H_j12 locs ls hn_12 bv_34 hw hl
        refine lv_iload_n G0.1 G0.2.1 dX11_rank_12 rfl (lv_at hl 0 rfl) ?_
        refine lv_aload_n G0.1 G0.2.1 dX11_rank_13 rfl (lv_at hl 1 rfl) ?_
        refine py_get (C := RX11) (T := TX11) (N := 16) (k := 5) (v := .ref (G.2 x 5)) G0 hw in_X11_rank_X11 rfl hr_24 (by decide) (by decide +kernel) rfl dX11_rank_14 ?_
        obtain ⟨t_35, t_36, t_37, t_38, t_39, t_40, t_41, t_42, t_43⟩ := wt_2 hG t_6
        obtain ⟨r_44, y_45, v_46, hr_49, ty_47, b_48⟩ := wg_2 hWF t_6
        refine py_get (C := RX2) (T := TX2) (N := 12) (k := 9) (v := .ref r_44) G0 hw in_X11_rank_X2 rfl hr_49 (by decide) (by decide +kernel) rfl dX11_rank_17 ?_
        obtain ⟨t_50, t_51, t_52, t_53, t_54, t_55, t_56, t_57⟩ := wt_9 hG ty_47
        obtain ⟨v_58, v_59, hr_62, b_60, b_61⟩ := wg_9 hWF ty_47
        have tq_63 := va_eq hr_62
        refine py_get (C := RX9) (T := TX9) (N := 10) (k := 9) (v := .int v_59) G0 hw in_X11_rank_X9 rfl hr_62 (by decide) (by decide +kernel) rfl dX11_rank_20 ?_
        refine lv_icmp_ge (tgt := 46) G0.1 G0.2.1 dX11_rank_23 (by decide) (fun c_64 => ?_) (fun c_64 => ?_)
        · skip
          have tc_64 := ti_le c_64
          refine lv_iconst (v := (-1)) G0.1 G0.2.1 dX11_rank_46 (by decide) ?_
          exact py_iret G0 hr rfl hlk hw ⟨rfl, rfl⟩ dX11_rank_47
        · skip
          have tc_64 := ti_nle c_64
          refine lv_aload_n G0.1 G0.2.1 dX11_rank_26 rfl (lv_at hl 1 rfl) ?_
          refine py_get (C := RX11) (T := TX11) (N := 16) (k := 5) (v := .ref (G.2 x 5)) G0 hw in_X11_rank_X11 rfl hr_24 (by decide) (by decide +kernel) rfl dX11_rank_27 ?_
          refine lv_iload_n G0.1 G0.2.1 dX11_rank_30 rfl (lv_at hl 0 rfl) ?_
          refine py_calli hw (va_runV (As := [.int v_34]) (rest := []) G0 (c_X2_familiesAhead l E G L f H_j12.size (G.2 x 5) v_34 hG hWF t_6 ⟨by omega, by omega⟩) (cwV 1 G0.2.2.2.2 g_X11_rank_X2_familiesAhead_322 rfl rfl rfl (by decide +kernel) ⟨(Nat.le_of_ble_eq_true rfl), (Nat.le_of_ble_eq_true rfl)⟩) (py_preV hw (C := RX2) (T := TX2) (N := 12) rfl hr_49) rfl rfl hl.1 rfl (lv_room (Nat.le_of_ble_eq_true rfl)) dX11_rank_31 ⟨(Nat.le_of_ble_eq_true rfl), (Nat.le_of_ble_eq_true rfl)⟩) (fun r_69 L_65 f_66 H_67 locs hp_68 hw => ?_)
          obtain ⟨rfl, rfl⟩ := hp_68
          have br_69 := wf_free r_69
          refine lv_iload_n G0.1 G0.2.1 dX11_rank_34 rfl (lv_at hl 2 rfl) ?_
          refine lv_icmp_ne (tgt := 40) G0.1 G0.2.1 dX11_rank_35 (by decide) (fun c_70 => ?_) (fun c_70 => ?_)
          · skip
            have tc_70 := ti_ne c_70
            obtain ⟨x_71, ex_71⟩ : ∃ y : Int32, y = v_34 + 1 := ⟨_, rfl⟩
            first | have tx_71 := ti_add ex_71 (by omega) (by omega) | skip
            refine lv_iinc (v := x_71) (lv' := [(2, .int x_71), (0, .ref x), (1, .int a)]) G0.1 G0.2.1 dX11_rank_40 hl (k := 0) rfl (show _ + (1 : Int32) = _ from ex_71.symm) (by decide) rfl (fun ls hl => ?_)
            refine lv_goto (tgt := 12) G0.1 G0.2.1 dX11_rank_43 (by decide) ?_
            exact ih_12 ((2147483647 - x_71.toInt).toNat) (by omega) x_71 _ _ ls rfl ⟨by omega, by omega⟩ hw (lv_sub hl [0, 1, 2] rfl)
          · skip
            have tc_70 := ti_eq c_70
            refine lv_iload_n G0.1 G0.2.1 dX11_rank_38 rfl (lv_at hl 0 rfl) ?_
            exact py_iret G0 hr rfl hlk hw ⟨rfl, rfl⟩ dX11_rank_39
    exact lo_12 _ 0 _ _ ls rfl ⟨by omega, by omega⟩ hw (lv_sub hl [0, 1, 2] rfl)
  · skip
    have tc_33 := ti_eq c_33
    refine lv_iconst (v := (-1)) G0.1 G0.2.1 dX11_rank_8 (by decide) ?_
    exact py_iret G0 hr rfl hlk hw ⟨rfl, rfl⟩ dX11_rank_9

def w_X11_met : List Cond := .code yX11_met cX11_met 8 (some .int) :: ([Cond.methodLink RX11 163 yX11_isFamily, Cond.instanceMethod yX11_isFamily, Cond.selects RX11 yX11_isFamily yX11_isFamily, Cond.initialized RX11, Cond.constant RX11 166 (-1000000), Cond.methodLink RX11 267 yX11_isZeroOrOne, Cond.static yX11_isZeroOrOne, Cond.fieldLink RX11 60 "HeadYear" "diary" "LHeadYear$Diary;", Cond.fieldLink RX11 304 "HeadYear$Diary" "years" "I", Cond.methodLink RX11 305 yX1_levelIn, Cond.instanceMethod yX1_levelIn, Cond.selects RX1 yX1_levelIn yX1_levelIn, Cond.initialized RX1] ++ (u_ws RX11 TX11 16 ++ (u_ws RX1 TX1 3 ++ (w_X11_isFamily ++ (w_X11_isZeroOrOne ++ (w_X1_levelIn ++ ([])))))))
theorem in_X11_met_X11 : ∀ w ∈ u_ws RX11 TX11 16, w ∈ w_X11_met := fun _ h => List.mem_cons_of_mem _ (List.mem_append_right _ (List.mem_append_left _ h))
theorem in_X11_met_X1 : ∀ w ∈ u_ws RX1 TX1 3, w ∈ w_X11_met := fun _ h => List.mem_cons_of_mem _ (List.mem_append_right _ (List.mem_append_right _ (List.mem_append_left _ h)))
theorem gg_X11_met_X11_isFamily : GoodIn w_X11_met w_X11_isFamily := goodIn_sub (fun _ h => List.mem_cons_of_mem _ (List.mem_append_right _ (List.mem_append_right _ (List.mem_append_right _ (List.mem_append_left _ h))))) (by decide +kernel)
theorem gg_X11_met_X11_isZeroOrOne : GoodIn w_X11_met w_X11_isZeroOrOne := goodIn_sub (fun _ h => List.mem_cons_of_mem _ (List.mem_append_right _ (List.mem_append_right _ (List.mem_append_right _ (List.mem_append_right _ (List.mem_append_left _ h)))))) (by decide +kernel)
theorem gg_X11_met_X1_levelIn : GoodIn w_X11_met w_X1_levelIn := goodIn_sub (fun _ h => List.mem_cons_of_mem _ (List.mem_append_right _ (List.mem_append_right _ (List.mem_append_right _ (List.mem_append_right _ (List.mem_append_right _ (List.mem_append_left _ h))))))) (by decide +kernel)
theorem g_X11_met_X11_isFamily_163 : GoodIn w_X11_met (wsV RX11 163 RX11 yX11_isFamily w_X11_isFamily) := goodIn_app (goodIn_of _ (by decide +kernel)) gg_X11_met_X11_isFamily
theorem g_X11_met_X11_isZeroOrOne_267 : GoodIn w_X11_met (va_wsS RX11 267 yX11_isZeroOrOne w_X11_isZeroOrOne) := goodIn_app (goodIn_of _ (by decide +kernel)) gg_X11_met_X11_isZeroOrOne
theorem g_X11_met_X1_levelIn_305 : GoodIn w_X11_met (wsV RX11 305 RX1 yX1_levelIn w_X1_levelIn) := goodIn_app (goodIn_of _ (by decide +kernel)) gg_X11_met_X1_levelIn
set_option maxHeartbeats 4000000 in
set_option maxRecDepth 100000 in
theorem c_X11_met (l : Launch) (E : py_E) (G : wf_G) (L : List Nat) (f : py_F) (sz : Nat) (x : Nat) (a : Int32) (b : Int32) (q : Int32) (hG : GT G) (hWF : WF E G L f) (Tx : G.1 x = 12) : Met l yX11_met w_X11_met ({ frames := 1, cells := 0, slots := 0, locals := 22 }) (py_Pc E [.ref x, .int a, .int b, .int q] L f sz) (py_Qi E L f sz (fun _ L1 f1 => L = L1 ∧ f = f1)) 0 0 (va_A (va_pl L f) sz) := by
  refine Met.ofW (cc := cX11_met) (maxL := 8) (ret := (some .int)) (by decide) rfl ?_
  intro p e s m args below meth c s₁ B hml hv
  obtain ⟨rfl, rfl, hw⟩ := py_start hv
  have G0 : CallFix p m c cX11_met 8 s _ w_X11_met RX11 := ⟨B.exec, B.bytes, hml, findClass_of_methodNamed B.named, atoms_spec (ws := w_X11_met) B.pre⟩
  have hr := B.returns
  have hlk := B.notSynchronized
  have kcm1000000 : (-1000000 : Int32).toInt = -1000000 := rfl
  have kcm1 : (-1 : Int32).toInt = -1 := rfl
  have kc0 : (0 : Int32).toInt = 0 := rfl
  have kc1 : (1 : Int32).toInt = 1 := rfl
  have hl := lv_entry ([.ref x, .int a, .int b, .int q]) (n := 8) (Nat.le_of_ble_eq_true rfl)
  rw [lg_entry_eq]
  generalize (lg_sl ([.ref x, .int a, .int b, .int q]) ++ List.replicate (8 - (lg_sl ([.ref x, .int a, .int b, .int q])).length) Slot.unset).toArray = ls at hl ⊢
  have hl : lv_has ls 8 [(0, .ref x), (1, .int a), (2, .int b), (3, .int q)] := hl
  have hRP : RP E G f f := RP.refl
  refine lv_aload_n G0.1 G0.2.1 dX11_met_0 rfl (lv_at hl 0 rfl) ?_
  refine lv_iload_n G0.1 G0.2.1 dX11_met_1 rfl (lv_at hl 1 rfl) ?_
  obtain ⟨t_1, t_2, t_3, t_4, t_5, t_6, t_7, t_8, t_9, t_10, t_11, t_12, t_13, tx_14, tx_15, tx_16, tx_17⟩ := wt_11 hG Tx
  obtain ⟨v_18, v_19, v_20, hr_24, b_21, b_22, b_23⟩ := wg_11 hWF Tx
  have tq_25 := hy_eq hr_24
  refine py_calli hw (va_runV (As := [.int a]) (rest := []) G0 (c_X11_isFamily l E G L f s.heap.size x a hG hWF Tx) (cwV 1 G0.2.2.2.2 g_X11_met_X11_isFamily_163 rfl rfl rfl (by decide +kernel) ⟨(Nat.le_of_ble_eq_true rfl), (Nat.le_of_ble_eq_true rfl)⟩) (py_preV hw (C := RX11) (T := TX11) (N := 16) rfl hr_24) rfl rfl hl.1 rfl (lv_room (Nat.le_of_ble_eq_true rfl)) dX11_met_2 ⟨(Nat.le_of_ble_eq_true rfl), (Nat.le_of_ble_eq_true rfl)⟩) (fun r_30 L_26 f_27 H_28 locs hp_29 hw => ?_)
  obtain ⟨b_32, en_31, rfl, rfl⟩ := hp_29
  refine lv_if_eq (tgt := 28) G0.1 G0.2.1 dX11_met_5 (by decide) (fun c_33 => ?_) (fun c_33 => ?_)
  · skip
    have tc_33 := ti_eq c_33
    refine lv_ldc (v := (-1000000)) G0.1 G0.2.1 G0.2.2.2.1 (G0.2.2.2.2 (Cond.constant RX11 166 (-1000000)) (by decide +kernel)) dX11_met_28 ?_
    exact py_iret G0 hr rfl hlk hw ⟨rfl, rfl⟩ dX11_met_30
  · skip
    have tc_33 := ti_ne c_33
    refine lv_aload_n G0.1 G0.2.1 dX11_met_8 rfl (lv_at hl 0 rfl) ?_
    refine lv_iload_n G0.1 G0.2.1 dX11_met_9 rfl (lv_at hl 2 rfl) ?_
    refine py_calli hw (va_runV (As := [.int b]) (rest := []) G0 (c_X11_isFamily l E G L f H_28.size x b hG hWF Tx) (cwV 1 G0.2.2.2.2 g_X11_met_X11_isFamily_163 rfl rfl rfl (by decide +kernel) ⟨(Nat.le_of_ble_eq_true rfl), (Nat.le_of_ble_eq_true rfl)⟩) (py_preV hw (C := RX11) (T := TX11) (N := 16) rfl hr_24) rfl rfl hl.1 rfl (lv_room (Nat.le_of_ble_eq_true rfl)) dX11_met_10 ⟨(Nat.le_of_ble_eq_true rfl), (Nat.le_of_ble_eq_true rfl)⟩) (fun r_38 L_34 f_35 H_36 locs hp_37 hw => ?_)
    obtain ⟨b_40, en_39, rfl, rfl⟩ := hp_37
    refine lv_if_eq (tgt := 28) G0.1 G0.2.1 dX11_met_13 (by decide) (fun c_41 => ?_) (fun c_41 => ?_)
    · skip
      have tc_41 := ti_eq c_41
      refine lv_ldc (v := (-1000000)) G0.1 G0.2.1 G0.2.2.2.1 (G0.2.2.2.2 (Cond.constant RX11 166 (-1000000)) (by decide +kernel)) dX11_met_28 ?_
      exact py_iret G0 hr rfl hlk hw ⟨rfl, rfl⟩ dX11_met_30
    · skip
      have tc_41 := ti_ne c_41
      refine lv_iload_n G0.1 G0.2.1 dX11_met_16 rfl (lv_at hl 1 rfl) ?_
      refine lv_iload_n G0.1 G0.2.1 dX11_met_17 rfl (lv_at hl 2 rfl) ?_
      refine lv_icmp_eq (tgt := 28) G0.1 G0.2.1 dX11_met_18 (by decide) (fun c_42 => ?_) (fun c_42 => ?_)
      · skip
        have tc_42 := ti_eq c_42
        refine lv_ldc (v := (-1000000)) G0.1 G0.2.1 G0.2.2.2.1 (G0.2.2.2.2 (Cond.constant RX11 166 (-1000000)) (by decide +kernel)) dX11_met_28 ?_
        exact py_iret G0 hr rfl hlk hw ⟨rfl, rfl⟩ dX11_met_30
      · skip
        have tc_42 := ti_ne c_42
        refine lv_iload_n G0.1 G0.2.1 dX11_met_21 rfl (lv_at hl 3 rfl) ?_
        refine py_calli hw (va_runS (As := [.int q]) (rest := []) G0 (c_X11_isZeroOrOne l E G L f H_36.size q hG hWF) (va_cwS 1 G0.2.2.2.2 g_X11_met_X11_isZeroOrOne_267 rfl rfl rfl (by decide +kernel) ⟨(Nat.le_of_ble_eq_true rfl), (Nat.le_of_ble_eq_true rfl)⟩) (py_preS hw) rfl rfl hl.1 rfl (lv_room (Nat.le_of_ble_eq_true rfl)) dX11_met_22 ⟨(Nat.le_of_ble_eq_true rfl), (Nat.le_of_ble_eq_true rfl)⟩) (fun r_47 L_43 f_44 H_45 locs hp_46 hw => ?_)
        obtain ⟨b_49, en_48, rfl, rfl⟩ := hp_46
        refine lv_if_ne (tgt := 31) G0.1 G0.2.1 dX11_met_25 (by decide) (fun c_50 => ?_) (fun c_50 => ?_)
        · skip
          have tc_50 := ti_ne c_50
          refine lv_iconst (v := 0) G0.1 G0.2.1 dX11_met_31 (by decide) ?_
          refine lv_istore (lv' := [(4, .int 0), (0, .ref x), (1, .int a), (2, .int b), (3, .int q)]) G0.1 G0.2.1 dX11_met_32 hl (by decide) rfl (fun ls hl => ?_)
          refine lv_iconst (v := (-1)) G0.1 G0.2.1 dX11_met_34 (by decide) ?_
          refine lv_istore (lv' := [(5, .int (-1)), (4, .int 0), (0, .ref x), (1, .int a), (2, .int b), (3, .int q)]) G0.1 G0.2.1 dX11_met_35 hl (by decide) rfl (fun ls hl => ?_)
          refine lv_iconst (v := 0) G0.1 G0.2.1 dX11_met_37 (by decide) ?_
          refine lv_istore (lv' := [(6, .int 0), (5, .int (-1)), (4, .int 0), (0, .ref x), (1, .int a), (2, .int b), (3, .int q)]) G0.1 G0.2.1 dX11_met_38 hl (by decide) rfl (fun ls hl => ?_)
          have lo_40 : ∀ n_40 : Nat, ∀ (v_51 : Int32) (v_52 : Int32) (v_53 : Int32) (H_j40 : Heap) (locs : List Loc) (ls : Array Slot), (2147483647 - v_51.toInt).toNat = n_40 → (0 ≤ v_51.toInt ∧ v_51.toInt ≤ 2147483647) → py_W E (va_A (va_pl L f) s.heap.size) s L f H_j40 locs → lv_has ls 8 [(6, .int v_51), (5, .int v_52), (4, .int v_53), (0, .ref x), (1, .int a), (2, .int b), (3, .int q)] → W p l e (headSpec w_X11_met ({ frames := 1, cells := 0, slots := 0, locals := 22 })).room s m ([.ref x, .int a, .int b, .int q] : List Value).toArray below meth c H_j40 locs 0 0 (MQ below (py_Qi E L f s.heap.size (fun _ L1 f1 => L = L1 ∧ f = f1)) ([.ref x, .int a, .int b, .int q] : List Value).toArray s 0 0 (va_A (va_pl L f) s.heap.size)) (F0 m 40 ls []) := by
            intro n_40
            induction n_40 using Nat.strongRecOn with
            | _ n_40 ih_40 =>
              intro v_51 v_52 v_53 H_j40 locs ls hn_40 bv_51 hw hl
              refine lv_iload G0.1 G0.2.1 dX11_met_40 (lv_at hl 0 rfl) ?_
              refine lv_aload_n G0.1 G0.2.1 dX11_met_42 rfl (lv_at hl 3 rfl) ?_
              refine py_get (C := RX11) (T := TX11) (N := 16) (k := 8) (v := .ref (G.2 x 8)) G0 hw in_X11_met_X11 rfl hr_24 (by decide) (by decide +kernel) rfl dX11_met_43 ?_
              obtain ⟨t_54, t_55⟩ := wt_1 hG t_9
              obtain ⟨v_56, hr_58, b_57⟩ := wg_1 hWF t_9
              refine py_get (C := RX1) (T := TX1) (N := 3) (k := 2) (v := .int v_56) G0 hw in_X11_met_X1 rfl hr_58 (by decide) (by decide +kernel) rfl dX11_met_46 ?_
              refine lv_icmp_ge (tgt := 98) G0.1 G0.2.1 dX11_met_49 (by decide) (fun c_59 => ?_) (fun c_59 => ?_)
              · skip
                have tc_59 := ti_le c_59
                refine lv_iload_n G0.1 G0.2.1 dX11_met_98 rfl (lv_at hl 6 rfl) ?_
                have jn_109 : ∀ (v_60 : Int32) (H_j109 : Heap) (locs : List Loc) (ls : Array Slot), py_W E (va_A (va_pl L f) s.heap.size) s L f H_j109 locs → lv_has ls 8 [(6, .int v_51), (5, .int v_52), (4, .int v_53), (0, .ref x), (1, .int a), (2, .int b), (3, .int q)] → W p l e (headSpec w_X11_met ({ frames := 1, cells := 0, slots := 0, locals := 22 })).room s m ([.ref x, .int a, .int b, .int q] : List Value).toArray below meth c H_j109 locs 0 0 (MQ below (py_Qi E L f s.heap.size (fun _ L1 f1 => L = L1 ∧ f = f1)) ([.ref x, .int a, .int b, .int q] : List Value).toArray s 0 0 (va_A (va_pl L f) s.heap.size)) (F0 m 109 ls [.int v_60]) := by
                  intro v_60 H_j109 locs ls hw hl
                  exact py_iret G0 hr rfl hlk hw ⟨rfl, rfl⟩ dX11_met_109
                refine lv_if_ne (tgt := 107) G0.1 G0.2.1 dX11_met_99 (by decide) (fun c_61 => ?_) (fun c_61 => ?_)
                · skip
                  have tc_61 := ti_ne c_61
                  refine lv_iload G0.1 G0.2.1 dX11_met_107 (lv_at hl 1 rfl) ?_
                  exact jn_109 v_52 _ _ ls hw (lv_sub hl [0, 1, 2, 3, 4, 5, 6] rfl)
                · skip
                  have tc_61 := ti_eq c_61
                  refine lv_iload G0.1 G0.2.1 dX11_met_102 (lv_at hl 2 rfl) ?_
                  refine lv_goto (tgt := 109) G0.1 G0.2.1 dX11_met_104 (by decide) ?_
                  exact jn_109 v_53 _ _ ls hw (lv_sub hl [0, 1, 2, 3, 4, 5, 6] rfl)
              · skip
                have tc_59 := ti_nle c_59
                refine lv_aload_n G0.1 G0.2.1 dX11_met_52 rfl (lv_at hl 3 rfl) ?_
                refine py_get (C := RX11) (T := TX11) (N := 16) (k := 8) (v := .ref (G.2 x 8)) G0 hw in_X11_met_X11 rfl hr_24 (by decide) (by decide +kernel) rfl dX11_met_53 ?_
                refine lv_iload G0.1 G0.2.1 dX11_met_56 (lv_at hl 0 rfl) ?_
                refine lv_iload_n G0.1 G0.2.1 dX11_met_58 rfl (lv_at hl 4 rfl) ?_
                refine py_calli hw (va_runV (As := [.int v_51, .int a]) (rest := []) G0 (c_X1_levelIn l E G L f H_j40.size (G.2 x 8) v_51 a hG hWF t_9 ⟨by omega, by omega⟩ ⟨by omega, by omega⟩) (cwV 2 G0.2.2.2.2 g_X11_met_X1_levelIn_305 rfl rfl rfl (by decide +kernel) ⟨(Nat.le_of_ble_eq_true rfl), (Nat.le_of_ble_eq_true rfl)⟩) (py_preV hw (C := RX1) (T := TX1) (N := 3) rfl hr_58) rfl rfl hl.1 rfl (lv_room (Nat.le_of_ble_eq_true rfl)) dX11_met_59 ⟨(Nat.le_of_ble_eq_true rfl), (Nat.le_of_ble_eq_true rfl)⟩) (fun r_66 L_62 f_63 H_64 locs hp_65 hw => ?_)
                obtain ⟨rfl, rfl⟩ := hp_65
                have br_66 := wf_free r_66
                refine lv_istore (lv' := [(7, .int r_66), (6, .int v_51), (5, .int v_52), (4, .int v_53), (0, .ref x), (1, .int a), (2, .int b), (3, .int q)]) G0.1 G0.2.1 dX11_met_62 hl (by decide) rfl (fun ls hl => ?_)
                refine lv_iload G0.1 G0.2.1 dX11_met_64 (lv_at hl 0 rfl) ?_
                refine lv_iconst (v := (-1)) G0.1 G0.2.1 dX11_met_66 (by decide) ?_
                have jn_92 : ∀ (v_67 : Int32) (v_68 : Int32) (H_j92 : Heap) (locs : List Loc) (ls : Array Slot), py_W E (va_A (va_pl L f) s.heap.size) s L f H_j92 locs → lv_has ls 8 [(7, .int r_66), (6, .int v_51), (5, .int v_67), (4, .int v_68), (0, .ref x), (1, .int a), (2, .int b), (3, .int q)] → W p l e (headSpec w_X11_met ({ frames := 1, cells := 0, slots := 0, locals := 22 })).room s m ([.ref x, .int a, .int b, .int q] : List Value).toArray below meth c H_j92 locs 0 0 (MQ below (py_Qi E L f s.heap.size (fun _ L1 f1 => L = L1 ∧ f = f1)) ([.ref x, .int a, .int b, .int q] : List Value).toArray s 0 0 (va_A (va_pl L f) s.heap.size)) (F0 m 92 ls []) := by
                  intro v_67 v_68 H_j92 locs ls hw hl
                  obtain ⟨x_69, ex_69⟩ : ∃ y : Int32, y = v_51 + 1 := ⟨_, rfl⟩
                  first | have tx_69 := ti_add ex_69 (by omega) (by omega) | skip
                  refine lv_iinc (v := x_69) (lv' := [(6, .int x_69), (7, .int r_66), (5, .int v_67), (4, .int v_68), (0, .ref x), (1, .int a), (2, .int b), (3, .int q)]) G0.1 G0.2.1 dX11_met_92 hl (k := 1) rfl (show _ + (1 : Int32) = _ from ex_69.symm) (by decide) rfl (fun ls hl => ?_)
                  refine lv_goto (tgt := 40) G0.1 G0.2.1 dX11_met_95 (by decide) ?_
                  exact ih_40 ((2147483647 - x_69.toInt).toNat) (by omega) x_69 v_67 v_68 _ _ ls rfl ⟨by omega, by omega⟩ hw (lv_sub hl [0, 2, 3, 4, 5, 6, 7] rfl)
                refine lv_icmp_eq (tgt := 92) G0.1 G0.2.1 dX11_met_67 (by decide) (fun c_70 => ?_) (fun c_70 => ?_)
                · skip
                  have tc_70 := ti_eq c_70
                  exact jn_92 v_52 v_53 _ _ ls hw (lv_sub hl [0, 1, 2, 3, 4, 5, 6, 7] rfl)
                · skip
                  have tc_70 := ti_ne c_70
                  refine lv_iload G0.1 G0.2.1 dX11_met_70 (lv_at hl 0 rfl) ?_
                  refine lv_aload_n G0.1 G0.2.1 dX11_met_72 rfl (lv_at hl 4 rfl) ?_
                  refine py_get (C := RX11) (T := TX11) (N := 16) (k := 8) (v := .ref (G.2 x 8)) G0 hw in_X11_met_X11 rfl hr_24 (by decide) (by decide +kernel) rfl dX11_met_73 ?_
                  refine lv_iload G0.1 G0.2.1 dX11_met_76 (lv_at hl 1 rfl) ?_
                  refine lv_iload_n G0.1 G0.2.1 dX11_met_78 rfl (lv_at hl 6 rfl) ?_
                  refine py_calli hw (va_runV (As := [.int v_51, .int b]) (rest := [.int r_66]) G0 (c_X1_levelIn l E G L f H_64.size (G.2 x 8) v_51 b hG hWF t_9 ⟨by omega, by omega⟩ ⟨by omega, by omega⟩) (cwV 2 G0.2.2.2.2 g_X11_met_X1_levelIn_305 rfl rfl rfl (by decide +kernel) ⟨(Nat.le_of_ble_eq_true rfl), (Nat.le_of_ble_eq_true rfl)⟩) (py_preV hw (C := RX1) (T := TX1) (N := 3) rfl hr_58) rfl rfl hl.1 rfl (lv_room (Nat.le_of_ble_eq_true rfl)) dX11_met_79 ⟨(Nat.le_of_ble_eq_true rfl), (Nat.le_of_ble_eq_true rfl)⟩) (fun r_75 L_71 f_72 H_73 locs hp_74 hw => ?_)
                  obtain ⟨rfl, rfl⟩ := hp_74
                  have br_75 := wf_free r_75
                  refine lv_icmp_ne (tgt := 92) G0.1 G0.2.1 dX11_met_82 (by decide) (fun c_76 => ?_) (fun c_76 => ?_)
                  · skip
                    have tc_76 := ti_ne c_76
                    exact jn_92 v_52 v_53 _ _ ls hw (lv_sub hl [0, 1, 2, 3, 4, 5, 6, 7] rfl)
                  · skip
                    have tc_76 := ti_eq c_76
                    obtain ⟨x_77, ex_77⟩ : ∃ y : Int32, y = v_53 + 1 := ⟨_, rfl⟩
                    first | have tx_77 := ti_add ex_77 (by omega) (by omega) | skip
                    refine lv_iinc (v := x_77) (lv' := [(4, .int x_77), (7, .int r_66), (6, .int v_51), (5, .int v_52), (0, .ref x), (1, .int a), (2, .int b), (3, .int q)]) G0.1 G0.2.1 dX11_met_85 hl (k := 3) rfl (show _ + (1 : Int32) = _ from ex_77.symm) (by decide) rfl (fun ls hl => ?_)
                    refine lv_iload G0.1 G0.2.1 dX11_met_88 (lv_at hl 2 rfl) ?_
                    refine lv_istore (lv' := [(5, .int v_51), (4, .int x_77), (7, .int r_66), (6, .int v_51), (0, .ref x), (1, .int a), (2, .int b), (3, .int q)]) G0.1 G0.2.1 dX11_met_90 hl (by decide) rfl (fun ls hl => ?_)
                    exact jn_92 v_51 x_77 _ _ ls hw (lv_sub hl [2, 3, 0, 1, 4, 5, 6, 7] rfl)
          exact lo_40 _ 0 (-1) 0 _ _ ls rfl ⟨by omega, by omega⟩ hw (lv_sub hl [0, 1, 2, 3, 4, 5, 6] rfl)
        · skip
          have tc_50 := ti_eq c_50
          refine lv_ldc (v := (-1000000)) G0.1 G0.2.1 G0.2.2.2.1 (G0.2.2.2.2 (Cond.constant RX11 166 (-1000000)) (by decide +kernel)) dX11_met_28 ?_
          exact py_iret G0 hr rfl hlk hw ⟨rfl, rfl⟩ dX11_met_30

def w_X11_leap : List Cond := .code yX11_leap cX11_leap 6 (some .int) :: ([Cond.methodLink RX11 163 yX11_isFamily, Cond.instanceMethod yX11_isFamily, Cond.selects RX11 yX11_isFamily yX11_isFamily, Cond.initialized RX11, Cond.fieldLink RX11 60 "HeadYear" "diary" "LHeadYear$Diary;", Cond.fieldLink RX11 304 "HeadYear$Diary" "years" "I", Cond.methodLink RX11 305 yX1_levelIn, Cond.instanceMethod yX1_levelIn, Cond.selects RX1 yX1_levelIn yX1_levelIn, Cond.initialized RX1, Cond.methodLink RX11 325 Lib.Math.abs.name, Cond.static Lib.Math.abs.name, Cond.initialized "java/lang/Math", Cond.code Lib.Math.abs.name Lib.Math.abs.code 1 (some .int), Cond.methodLink RX11 330 Lib.Math.max.name, Cond.static Lib.Math.max.name, Cond.code Lib.Math.max.name Lib.Math.max.code 2 (some .int), Cond.constant RX11 166 (-1000000)] ++ (u_ws RX11 TX11 16 ++ (u_ws RX1 TX1 3 ++ (w_X11_isFamily ++ (w_X1_levelIn ++ ([]))))))
theorem in_X11_leap_X11 : ∀ w ∈ u_ws RX11 TX11 16, w ∈ w_X11_leap := fun _ h => List.mem_cons_of_mem _ (List.mem_append_right _ (List.mem_append_left _ h))
theorem in_X11_leap_X1 : ∀ w ∈ u_ws RX1 TX1 3, w ∈ w_X11_leap := fun _ h => List.mem_cons_of_mem _ (List.mem_append_right _ (List.mem_append_right _ (List.mem_append_left _ h)))
theorem gg_X11_leap_X11_isFamily : GoodIn w_X11_leap w_X11_isFamily := goodIn_sub (fun _ h => List.mem_cons_of_mem _ (List.mem_append_right _ (List.mem_append_right _ (List.mem_append_right _ (List.mem_append_left _ h))))) (by decide +kernel)
theorem gg_X11_leap_X1_levelIn : GoodIn w_X11_leap w_X1_levelIn := goodIn_sub (fun _ h => List.mem_cons_of_mem _ (List.mem_append_right _ (List.mem_append_right _ (List.mem_append_right _ (List.mem_append_right _ (List.mem_append_left _ h)))))) (by decide +kernel)
theorem g_X11_leap_X11_isFamily_163 : GoodIn w_X11_leap (wsV RX11 163 RX11 yX11_isFamily w_X11_isFamily) := goodIn_app (goodIn_of _ (by decide +kernel)) gg_X11_leap_X11_isFamily
theorem g_X11_leap_X1_levelIn_305 : GoodIn w_X11_leap (wsV RX11 305 RX1 yX1_levelIn w_X1_levelIn) := goodIn_app (goodIn_of _ (by decide +kernel)) gg_X11_leap_X1_levelIn
set_option maxHeartbeats 4000000 in
set_option maxRecDepth 100000 in
theorem c_X11_leap (l : Launch) (E : py_E) (G : wf_G) (L : List Nat) (f : py_F) (sz : Nat) (x : Nat) (a : Int32) (hG : GT G) (hWF : WF E G L f) (Tx : G.1 x = 12) : Met l yX11_leap w_X11_leap ({ frames := 1, cells := 0, slots := 0, locals := 24 }) (py_Pc E [.ref x, .int a] L f sz) (py_Qi E L f sz (fun _ L1 f1 => L = L1 ∧ f = f1)) 0 0 (va_A (va_pl L f) sz) := by
  refine Met.ofW (cc := cX11_leap) (maxL := 6) (ret := (some .int)) (by decide) rfl ?_
  intro p e s m args below meth c s₁ B hml hv
  obtain ⟨rfl, rfl, hw⟩ := py_start hv
  have G0 : CallFix p m c cX11_leap 6 s _ w_X11_leap RX11 := ⟨B.exec, B.bytes, hml, findClass_of_methodNamed B.named, atoms_spec (ws := w_X11_leap) B.pre⟩
  have hr := B.returns
  have hlk := B.notSynchronized
  have kcm1000000 : (-1000000 : Int32).toInt = -1000000 := rfl
  have kcm1 : (-1 : Int32).toInt = -1 := rfl
  have kc0 : (0 : Int32).toInt = 0 := rfl
  have kc1 : (1 : Int32).toInt = 1 := rfl
  have hl := lv_entry ([.ref x, .int a]) (n := 6) (Nat.le_of_ble_eq_true rfl)
  rw [lg_entry_eq]
  generalize (lg_sl ([.ref x, .int a]) ++ List.replicate (6 - (lg_sl ([.ref x, .int a])).length) Slot.unset).toArray = ls at hl ⊢
  have hl : lv_has ls 6 [(0, .ref x), (1, .int a)] := hl
  have hRP : RP E G f f := RP.refl
  refine lv_aload_n G0.1 G0.2.1 dX11_leap_0 rfl (lv_at hl 0 rfl) ?_
  refine lv_iload_n G0.1 G0.2.1 dX11_leap_1 rfl (lv_at hl 1 rfl) ?_
  obtain ⟨t_1, t_2, t_3, t_4, t_5, t_6, t_7, t_8, t_9, t_10, t_11, t_12, t_13, tx_14, tx_15, tx_16, tx_17⟩ := wt_11 hG Tx
  obtain ⟨v_18, v_19, v_20, hr_24, b_21, b_22, b_23⟩ := wg_11 hWF Tx
  have tq_25 := hy_eq hr_24
  refine py_calli hw (va_runV (As := [.int a]) (rest := []) G0 (c_X11_isFamily l E G L f s.heap.size x a hG hWF Tx) (cwV 1 G0.2.2.2.2 g_X11_leap_X11_isFamily_163 rfl rfl rfl (by decide +kernel) ⟨(Nat.le_of_ble_eq_true rfl), (Nat.le_of_ble_eq_true rfl)⟩) (py_preV hw (C := RX11) (T := TX11) (N := 16) rfl hr_24) rfl rfl hl.1 rfl (lv_room (Nat.le_of_ble_eq_true rfl)) dX11_leap_2 ⟨(Nat.le_of_ble_eq_true rfl), (Nat.le_of_ble_eq_true rfl)⟩) (fun r_30 L_26 f_27 H_28 locs hp_29 hw => ?_)
  obtain ⟨b_32, en_31, rfl, rfl⟩ := hp_29
  refine lv_if_ne (tgt := 11) G0.1 G0.2.1 dX11_leap_5 (by decide) (fun c_33 => ?_) (fun c_33 => ?_)
  · skip
    have tc_33 := ti_ne c_33
    refine lv_iconst (v := 0) G0.1 G0.2.1 dX11_leap_11 (by decide) ?_
    refine lv_istore_n (lv' := [(2, .int 0), (0, .ref x), (1, .int a)]) G0.1 G0.2.1 dX11_leap_12 rfl hl (by decide) rfl (fun ls hl => ?_)
    refine lv_iconst (v := 1) G0.1 G0.2.1 dX11_leap_13 (by decide) ?_
    refine lv_istore_n (lv' := [(3, .int 1), (2, .int 0), (0, .ref x), (1, .int a)]) G0.1 G0.2.1 dX11_leap_14 rfl hl (by decide) rfl (fun ls hl => ?_)
    have lo_15 : ∀ n_15 : Nat, ∀ (v_34 : Int32) (v_35 : Int32) (H_j15 : Heap) (locs : List Loc) (ls : Array Slot), (2147483647 - v_34.toInt).toNat = n_15 → (1 ≤ v_34.toInt ∧ v_34.toInt ≤ 2147483647) → py_W E (va_A (va_pl L f) s.heap.size) s L f H_j15 locs → lv_has ls 6 [(3, .int v_34), (2, .int v_35), (0, .ref x), (1, .int a)] → W p l e (headSpec w_X11_leap ({ frames := 1, cells := 0, slots := 0, locals := 24 })).room s m ([.ref x, .int a] : List Value).toArray below meth c H_j15 locs 0 0 (MQ below (py_Qi E L f s.heap.size (fun _ L1 f1 => L = L1 ∧ f = f1)) ([.ref x, .int a] : List Value).toArray s 0 0 (va_A (va_pl L f) s.heap.size)) (F0 m 15 ls []) := by
      intro n_15
      induction n_15 using Nat.strongRecOn with
      | _ n_15 ih_15 =>
        intro v_34 v_35 H_j15 locs ls hn_15 bv_34 hw hl
        refine lv_iload_n G0.1 G0.2.1 dX11_leap_15 rfl (lv_at hl 0 rfl) ?_
        refine lv_aload_n G0.1 G0.2.1 dX11_leap_16 rfl (lv_at hl 2 rfl) ?_
        refine py_get (C := RX11) (T := TX11) (N := 16) (k := 8) (v := .ref (G.2 x 8)) G0 hw in_X11_leap_X11 rfl hr_24 (by decide) (by decide +kernel) rfl dX11_leap_17 ?_
        obtain ⟨t_36, t_37⟩ := wt_1 hG t_9
        obtain ⟨v_38, hr_40, b_39⟩ := wg_1 hWF t_9
        refine py_get (C := RX1) (T := TX1) (N := 3) (k := 2) (v := .int v_38) G0 hw in_X11_leap_X1 rfl hr_40 (by decide) (by decide +kernel) rfl dX11_leap_20 ?_
        refine lv_icmp_ge (tgt := 81) G0.1 G0.2.1 dX11_leap_23 (by decide) (fun c_41 => ?_) (fun c_41 => ?_)
        · skip
          have tc_41 := ti_le c_41
          refine lv_iload_n G0.1 G0.2.1 dX11_leap_81 rfl (lv_at hl 1 rfl) ?_
          exact py_iret G0 hr rfl hlk hw ⟨rfl, rfl⟩ dX11_leap_82
        · skip
          have tc_41 := ti_nle c_41
          refine lv_aload_n G0.1 G0.2.1 dX11_leap_26 rfl (lv_at hl 2 rfl) ?_
          refine py_get (C := RX11) (T := TX11) (N := 16) (k := 8) (v := .ref (G.2 x 8)) G0 hw in_X11_leap_X11 rfl hr_24 (by decide) (by decide +kernel) rfl dX11_leap_27 ?_
          refine lv_iload_n G0.1 G0.2.1 dX11_leap_30 rfl (lv_at hl 0 rfl) ?_
          refine lv_iconst (v := 1) G0.1 G0.2.1 dX11_leap_31 (by decide) ?_
          refine lv_isub G0.1 G0.2.1 dX11_leap_32 ?_
          refine lv_topi (fun x_42 ex_42 => ?_)
          first | have tx_42 := ti_sub ex_42 (by omega) (by omega) | skip
          refine lv_iload_n G0.1 G0.2.1 dX11_leap_33 rfl (lv_at hl 3 rfl) ?_
          refine py_calli hw (va_runV (As := [.int x_42, .int a]) (rest := []) G0 (c_X1_levelIn l E G L f H_j15.size (G.2 x 8) x_42 a hG hWF t_9 ⟨by omega, by omega⟩ ⟨by omega, by omega⟩) (cwV 2 G0.2.2.2.2 g_X11_leap_X1_levelIn_305 rfl rfl rfl (by decide +kernel) ⟨(Nat.le_of_ble_eq_true rfl), (Nat.le_of_ble_eq_true rfl)⟩) (py_preV hw (C := RX1) (T := TX1) (N := 3) rfl hr_40) rfl rfl hl.1 rfl (lv_room (Nat.le_of_ble_eq_true rfl)) dX11_leap_34 ⟨(Nat.le_of_ble_eq_true rfl), (Nat.le_of_ble_eq_true rfl)⟩) (fun r_47 L_43 f_44 H_45 locs hp_46 hw => ?_)
          obtain ⟨rfl, rfl⟩ := hp_46
          have br_47 := wf_free r_47
          refine lv_istore (lv' := [(4, .int r_47), (3, .int v_34), (2, .int v_35), (0, .ref x), (1, .int a)]) G0.1 G0.2.1 dX11_leap_37 hl (by decide) rfl (fun ls hl => ?_)
          refine lv_aload_n G0.1 G0.2.1 dX11_leap_39 rfl (lv_at hl 3 rfl) ?_
          refine py_get (C := RX11) (T := TX11) (N := 16) (k := 8) (v := .ref (G.2 x 8)) G0 hw in_X11_leap_X11 rfl hr_24 (by decide) (by decide +kernel) rfl dX11_leap_40 ?_
          refine lv_iload_n G0.1 G0.2.1 dX11_leap_43 rfl (lv_at hl 1 rfl) ?_
          refine lv_iload_n G0.1 G0.2.1 dX11_leap_44 rfl (lv_at hl 4 rfl) ?_
          refine py_calli hw (va_runV (As := [.int v_34, .int a]) (rest := []) G0 (c_X1_levelIn l E G L f H_45.size (G.2 x 8) v_34 a hG hWF t_9 ⟨by omega, by omega⟩ ⟨by omega, by omega⟩) (cwV 2 G0.2.2.2.2 g_X11_leap_X1_levelIn_305 rfl rfl rfl (by decide +kernel) ⟨(Nat.le_of_ble_eq_true rfl), (Nat.le_of_ble_eq_true rfl)⟩) (py_preV hw (C := RX1) (T := TX1) (N := 3) rfl hr_40) rfl rfl hl.1 rfl (lv_room (Nat.le_of_ble_eq_true rfl)) dX11_leap_45 ⟨(Nat.le_of_ble_eq_true rfl), (Nat.le_of_ble_eq_true rfl)⟩) (fun r_52 L_48 f_49 H_50 locs hp_51 hw => ?_)
          obtain ⟨rfl, rfl⟩ := hp_51
          have br_52 := wf_free r_52
          refine lv_istore (lv' := [(5, .int r_52), (4, .int r_47), (3, .int v_34), (2, .int v_35), (0, .ref x), (1, .int a)]) G0.1 G0.2.1 dX11_leap_48 hl (by decide) rfl (fun ls hl => ?_)
          refine lv_iload G0.1 G0.2.1 dX11_leap_50 (lv_at hl 1 rfl) ?_
          refine lv_iconst (v := (-1)) G0.1 G0.2.1 dX11_leap_52 (by decide) ?_
          have jn_75 : ∀ (v_53 : Int32) (H_j75 : Heap) (locs : List Loc) (ls : Array Slot), py_W E (va_A (va_pl L f) s.heap.size) s L f H_j75 locs → lv_has ls 6 [(5, .int r_52), (4, .int r_47), (3, .int v_34), (2, .int v_53), (0, .ref x), (1, .int a)] → W p l e (headSpec w_X11_leap ({ frames := 1, cells := 0, slots := 0, locals := 24 })).room s m ([.ref x, .int a] : List Value).toArray below meth c H_j75 locs 0 0 (MQ below (py_Qi E L f s.heap.size (fun _ L1 f1 => L = L1 ∧ f = f1)) ([.ref x, .int a] : List Value).toArray s 0 0 (va_A (va_pl L f) s.heap.size)) (F0 m 75 ls []) := by
            intro v_53 H_j75 locs ls hw hl
            obtain ⟨x_54, ex_54⟩ : ∃ y : Int32, y = v_34 + 1 := ⟨_, rfl⟩
            first | have tx_54 := ti_add ex_54 (by omega) (by omega) | skip
            refine lv_iinc (v := x_54) (lv' := [(3, .int x_54), (5, .int r_52), (4, .int r_47), (2, .int v_53), (0, .ref x), (1, .int a)]) G0.1 G0.2.1 dX11_leap_75 hl (k := 2) rfl (show _ + (1 : Int32) = _ from ex_54.symm) (by decide) rfl (fun ls hl => ?_)
            refine lv_goto (tgt := 15) G0.1 G0.2.1 dX11_leap_78 (by decide) ?_
            exact ih_15 ((2147483647 - x_54.toInt).toNat) (by omega) x_54 v_53 _ _ ls rfl ⟨by omega, by omega⟩ hw (lv_sub hl [0, 3, 4, 5] rfl)
          refine lv_icmp_eq (tgt := 75) G0.1 G0.2.1 dX11_leap_53 (by decide) (fun c_55 => ?_) (fun c_55 => ?_)
          · skip
            have tc_55 := ti_eq c_55
            exact jn_75 v_35 _ _ ls hw (lv_sub hl [0, 1, 2, 3, 4, 5] rfl)
          · skip
            have tc_55 := ti_ne c_55
            refine lv_iload G0.1 G0.2.1 dX11_leap_56 (lv_at hl 0 rfl) ?_
            refine lv_iconst (v := (-1)) G0.1 G0.2.1 dX11_leap_58 (by decide) ?_
            refine lv_icmp_eq (tgt := 75) G0.1 G0.2.1 dX11_leap_59 (by decide) (fun c_56 => ?_) (fun c_56 => ?_)
            · skip
              have tc_56 := ti_eq c_56
              exact jn_75 v_35 _ _ ls hw (lv_sub hl [0, 1, 2, 3, 4, 5] rfl)
            · skip
              have tc_56 := ti_ne c_56
              refine lv_iload_n G0.1 G0.2.1 dX11_leap_62 rfl (lv_at hl 3 rfl) ?_
              refine lv_iload G0.1 G0.2.1 dX11_leap_63 (lv_at hl 0 rfl) ?_
              refine lv_iload G0.1 G0.2.1 dX11_leap_65 (lv_at hl 1 rfl) ?_
              refine lv_isub G0.1 G0.2.1 dX11_leap_67 ?_
              refine lv_topi (fun x_57 ex_57 => ?_)
              first | have tx_57 := ti_sub ex_57 (by omega) (by omega) | skip
              refine va_mabs G0.1 G0.2.1 (by rw [G0.2.2.1, hl.1]) G0.2.2.2.1 (G0.2.2.2.2 (Cond.methodLink RX11 325 Lib.Math.abs.name) (by decide +kernel)) (G0.2.2.2.2 (Cond.static Lib.Math.abs.name) (by decide +kernel)) (G0.2.2.2.2 (Cond.initialized "java/lang/Math") (by decide +kernel)) (G0.2.2.2.2 (Cond.code Lib.Math.abs.name Lib.Math.abs.code 1 (some .int)) (by decide +kernel)) (Nat.le_of_ble_eq_true rfl) (Nat.le_of_ble_eq_true rfl) (Nat.le_of_ble_eq_true rfl) (Nat.le_of_ble_eq_true rfl) dX11_leap_68 ?_
              refine lv_topi (fun x_58 ex_58 => ?_)
              refine va_mmax G0.1 G0.2.1 (by rw [G0.2.2.1, hl.1]) G0.2.2.2.1 (G0.2.2.2.2 (Cond.methodLink RX11 330 Lib.Math.max.name) (by decide +kernel)) (G0.2.2.2.2 (Cond.static Lib.Math.max.name) (by decide +kernel)) (G0.2.2.2.2 (Cond.initialized "java/lang/Math") (by decide +kernel)) (G0.2.2.2.2 (Cond.code Lib.Math.max.name Lib.Math.max.code 2 (some .int)) (by decide +kernel)) (Nat.le_of_ble_eq_true rfl) (Nat.le_of_ble_eq_true rfl) (Nat.le_of_ble_eq_true rfl) (Nat.le_of_ble_eq_true rfl) dX11_leap_71 ?_
              refine lv_topi (fun x_59 ex_59 => ?_)
              have tx_59 := ti_max ex_59
              refine lv_istore_n (lv' := [(2, .int x_59), (5, .int r_52), (4, .int r_47), (3, .int v_34), (0, .ref x), (1, .int a)]) G0.1 G0.2.1 dX11_leap_74 rfl hl (by decide) rfl (fun ls hl => ?_)
              exact jn_75 x_59 _ _ ls hw (lv_sub hl [1, 2, 3, 0, 4, 5] rfl)
    exact lo_15 _ 1 0 _ _ ls rfl ⟨by omega, by omega⟩ hw (lv_sub hl [0, 1, 2, 3] rfl)
  · skip
    have tc_33 := ti_eq c_33
    refine lv_ldc (v := (-1000000)) G0.1 G0.2.1 G0.2.2.2.1 (G0.2.2.2.2 (Cond.constant RX11 166 (-1000000)) (by decide +kernel)) dX11_leap_8 ?_
    exact py_iret G0 hr rfl hlk hw ⟨rfl, rfl⟩ dX11_leap_10

def w_X11_leanest : List Cond := .code yX11_leanest cX11_leanest 6 (some .int) :: ([Cond.fieldLink RX11 60 "HeadYear" "diary" "LHeadYear$Diary;", Cond.fieldLink RX11 304 "HeadYear$Diary" "years" "I", Cond.methodLink RX11 267 yX11_isZeroOrOne, Cond.static yX11_isZeroOrOne, Cond.initialized RX11, Cond.methodLink RX11 333 yX1_headsOfYear, Cond.instanceMethod yX1_headsOfYear, Cond.selects RX1 yX1_headsOfYear yX1_headsOfYear, Cond.initialized RX1] ++ (u_ws RX11 TX11 16 ++ (u_ws RX1 TX1 3 ++ (w_X11_isZeroOrOne ++ (w_X1_headsOfYear ++ ([]))))))
theorem in_X11_leanest_X11 : ∀ w ∈ u_ws RX11 TX11 16, w ∈ w_X11_leanest := fun _ h => List.mem_cons_of_mem _ (List.mem_append_right _ (List.mem_append_left _ h))
theorem in_X11_leanest_X1 : ∀ w ∈ u_ws RX1 TX1 3, w ∈ w_X11_leanest := fun _ h => List.mem_cons_of_mem _ (List.mem_append_right _ (List.mem_append_right _ (List.mem_append_left _ h)))
theorem gg_X11_leanest_X11_isZeroOrOne : GoodIn w_X11_leanest w_X11_isZeroOrOne := goodIn_sub (fun _ h => List.mem_cons_of_mem _ (List.mem_append_right _ (List.mem_append_right _ (List.mem_append_right _ (List.mem_append_left _ h))))) (by decide +kernel)
theorem gg_X11_leanest_X1_headsOfYear : GoodIn w_X11_leanest w_X1_headsOfYear := goodIn_sub (fun _ h => List.mem_cons_of_mem _ (List.mem_append_right _ (List.mem_append_right _ (List.mem_append_right _ (List.mem_append_right _ (List.mem_append_left _ h)))))) (by decide +kernel)
theorem g_X11_leanest_X11_isZeroOrOne_267 : GoodIn w_X11_leanest (va_wsS RX11 267 yX11_isZeroOrOne w_X11_isZeroOrOne) := goodIn_app (goodIn_of _ (by decide +kernel)) gg_X11_leanest_X11_isZeroOrOne
theorem g_X11_leanest_X1_headsOfYear_333 : GoodIn w_X11_leanest (wsV RX11 333 RX1 yX1_headsOfYear w_X1_headsOfYear) := goodIn_app (goodIn_of _ (by decide +kernel)) gg_X11_leanest_X1_headsOfYear
set_option maxHeartbeats 4000000 in
set_option maxRecDepth 100000 in
theorem c_X11_leanest (l : Launch) (E : py_E) (G : wf_G) (L : List Nat) (f : py_F) (sz : Nat) (x : Nat) (a : Int32) (hG : GT G) (hWF : WF E G L f) (Tx : G.1 x = 12) : Met l yX11_leanest w_X11_leanest ({ frames := 2, cells := 0, slots := 0, locals := 45 }) (py_Pc E [.ref x, .int a] L f sz) (py_Qi E L f sz (fun _ L1 f1 => L = L1 ∧ f = f1)) 0 0 (va_A (va_pl L f) sz) := by
  refine Met.ofW (cc := cX11_leanest) (maxL := 6) (ret := (some .int)) (by decide) rfl ?_
  intro p e s m args below meth c s₁ B hml hv
  obtain ⟨rfl, rfl, hw⟩ := py_start hv
  have G0 : CallFix p m c cX11_leanest 6 s _ w_X11_leanest RX11 := ⟨B.exec, B.bytes, hml, findClass_of_methodNamed B.named, atoms_spec (ws := w_X11_leanest) B.pre⟩
  have hr := B.returns
  have hlk := B.notSynchronized
  have kcm1 : (-1 : Int32).toInt = -1 := rfl
  have kc0 : (0 : Int32).toInt = 0 := rfl
  have kc1 : (1 : Int32).toInt = 1 := rfl
  have hl := lv_entry ([.ref x, .int a]) (n := 6) (Nat.le_of_ble_eq_true rfl)
  rw [lg_entry_eq]
  generalize (lg_sl ([.ref x, .int a]) ++ List.replicate (6 - (lg_sl ([.ref x, .int a])).length) Slot.unset).toArray = ls at hl ⊢
  have hl : lv_has ls 6 [(0, .ref x), (1, .int a)] := hl
  have hRP : RP E G f f := RP.refl
  refine lv_aload_n G0.1 G0.2.1 dX11_leanest_0 rfl (lv_at hl 0 rfl) ?_
  obtain ⟨t_1, t_2, t_3, t_4, t_5, t_6, t_7, t_8, t_9, t_10, t_11, t_12, t_13, tx_14, tx_15, tx_16, tx_17⟩ := wt_11 hG Tx
  obtain ⟨v_18, v_19, v_20, hr_24, b_21, b_22, b_23⟩ := wg_11 hWF Tx
  have tq_25 := hy_eq hr_24
  refine py_get (C := RX11) (T := TX11) (N := 16) (k := 8) (v := .ref (G.2 x 8)) G0 hw in_X11_leanest_X11 rfl hr_24 (by decide) (by decide +kernel) rfl dX11_leanest_1 ?_
  obtain ⟨t_26, t_27⟩ := wt_1 hG t_9
  obtain ⟨v_28, hr_30, b_29⟩ := wg_1 hWF t_9
  refine py_get (C := RX1) (T := TX1) (N := 3) (k := 2) (v := .int v_28) G0 hw in_X11_leanest_X1 rfl hr_30 (by decide) (by decide +kernel) rfl dX11_leanest_4 ?_
  refine lv_if_eq (tgt := 17) G0.1 G0.2.1 dX11_leanest_7 (by decide) (fun c_31 => ?_) (fun c_31 => ?_)
  · skip
    have tc_31 := ti_eq c_31
    refine lv_iconst (v := (-1)) G0.1 G0.2.1 dX11_leanest_17 (by decide) ?_
    exact py_iret G0 hr rfl hlk hw ⟨rfl, rfl⟩ dX11_leanest_18
  · skip
    have tc_31 := ti_ne c_31
    refine lv_iload_n G0.1 G0.2.1 dX11_leanest_10 rfl (lv_at hl 1 rfl) ?_
    refine py_calli hw (va_runS (As := [.int a]) (rest := []) G0 (c_X11_isZeroOrOne l E G L f s.heap.size a hG hWF) (va_cwS 1 G0.2.2.2.2 g_X11_leanest_X11_isZeroOrOne_267 rfl rfl rfl (by decide +kernel) ⟨(Nat.le_of_ble_eq_true rfl), (Nat.le_of_ble_eq_true rfl)⟩) (py_preS hw) rfl rfl hl.1 rfl (lv_room (Nat.le_of_ble_eq_true rfl)) dX11_leanest_11 ⟨(Nat.le_of_ble_eq_true rfl), (Nat.le_of_ble_eq_true rfl)⟩) (fun r_36 L_32 f_33 H_34 locs hp_35 hw => ?_)
    obtain ⟨b_38, en_37, rfl, rfl⟩ := hp_35
    refine lv_if_ne (tgt := 19) G0.1 G0.2.1 dX11_leanest_14 (by decide) (fun c_39 => ?_) (fun c_39 => ?_)
    · skip
      have tc_39 := ti_ne c_39
      refine lv_iconst (v := 0) G0.1 G0.2.1 dX11_leanest_19 (by decide) ?_
      refine lv_istore_n (lv' := [(2, .int 0), (0, .ref x), (1, .int a)]) G0.1 G0.2.1 dX11_leanest_20 rfl hl (by decide) rfl (fun ls hl => ?_)
      refine lv_aload_n G0.1 G0.2.1 dX11_leanest_21 rfl (lv_at hl 1 rfl) ?_
      refine py_get (C := RX11) (T := TX11) (N := 16) (k := 8) (v := .ref (G.2 x 8)) G0 hw in_X11_leanest_X11 rfl hr_24 (by decide) (by decide +kernel) rfl dX11_leanest_22 ?_
      refine lv_iconst (v := 0) G0.1 G0.2.1 dX11_leanest_25 (by decide) ?_
      refine py_calli hw (va_runV (As := [.int 0]) (rest := []) G0 (c_X1_headsOfYear l E G L f H_34.size (G.2 x 8) 0 hG hWF t_9 ⟨by omega, by omega⟩) (cwV 1 G0.2.2.2.2 g_X11_leanest_X1_headsOfYear_333 rfl rfl rfl (by decide +kernel) ⟨(Nat.le_of_ble_eq_true rfl), (Nat.le_of_ble_eq_true rfl)⟩) (py_preV hw (C := RX1) (T := TX1) (N := 3) rfl hr_30) rfl rfl hl.1 rfl (lv_room (Nat.le_of_ble_eq_true rfl)) dX11_leanest_26 ⟨(Nat.le_of_ble_eq_true rfl), (Nat.le_of_ble_eq_true rfl)⟩) (fun r_44 L_40 f_41 H_42 locs hp_43 hw => ?_)
      obtain ⟨rfl, rfl⟩ := hp_43
      have br_44 := wf_free r_44
      refine lv_istore_n (lv' := [(3, .int r_44), (2, .int 0), (0, .ref x), (1, .int a)]) G0.1 G0.2.1 dX11_leanest_29 rfl hl (by decide) rfl (fun ls hl => ?_)
      refine lv_iconst (v := 1) G0.1 G0.2.1 dX11_leanest_30 (by decide) ?_
      refine lv_istore (lv' := [(4, .int 1), (3, .int r_44), (2, .int 0), (0, .ref x), (1, .int a)]) G0.1 G0.2.1 dX11_leanest_31 hl (by decide) rfl (fun ls hl => ?_)
      have lo_33 : ∀ n_33 : Nat, ∀ (v_45 : Int32) (v_46 : Int32) (v_47 : Int32) (H_j33 : Heap) (locs : List Loc) (ls : Array Slot), (2147483647 - v_45.toInt).toNat = n_33 → (1 ≤ v_45.toInt ∧ v_45.toInt ≤ 2147483647) → py_W E (va_A (va_pl L f) s.heap.size) s L f H_j33 locs → lv_has ls 6 [(4, .int v_45), (3, .int v_46), (2, .int v_47), (0, .ref x), (1, .int a)] → W p l e (headSpec w_X11_leanest ({ frames := 2, cells := 0, slots := 0, locals := 45 })).room s m ([.ref x, .int a] : List Value).toArray below meth c H_j33 locs 0 0 (MQ below (py_Qi E L f s.heap.size (fun _ L1 f1 => L = L1 ∧ f = f1)) ([.ref x, .int a] : List Value).toArray s 0 0 (va_A (va_pl L f) s.heap.size)) (F0 m 33 ls []) := by
        intro n_33
        induction n_33 using Nat.strongRecOn with
        | _ n_33 ih_33 =>
          intro v_45 v_46 v_47 H_j33 locs ls hn_33 bv_45 hw hl
          refine lv_iload G0.1 G0.2.1 dX11_leanest_33 (lv_at hl 0 rfl) ?_
          refine lv_aload_n G0.1 G0.2.1 dX11_leanest_35 rfl (lv_at hl 3 rfl) ?_
          refine py_get (C := RX11) (T := TX11) (N := 16) (k := 8) (v := .ref (G.2 x 8)) G0 hw in_X11_leanest_X11 rfl hr_24 (by decide) (by decide +kernel) rfl dX11_leanest_36 ?_
          refine py_get (C := RX1) (T := TX1) (N := 3) (k := 2) (v := .int v_28) G0 hw in_X11_leanest_X1 rfl hr_30 (by decide) (by decide +kernel) rfl dX11_leanest_39 ?_
          refine lv_icmp_ge (tgt := 74) G0.1 G0.2.1 dX11_leanest_42 (by decide) (fun c_48 => ?_) (fun c_48 => ?_)
          · skip
            have tc_48 := ti_le c_48
            refine lv_iload_n G0.1 G0.2.1 dX11_leanest_74 rfl (lv_at hl 4 rfl) ?_
            have jn_83 : ∀ (v_49 : Int32) (H_j83 : Heap) (locs : List Loc) (ls : Array Slot), py_W E (va_A (va_pl L f) s.heap.size) s L f H_j83 locs → lv_has ls 6 [(4, .int v_45), (3, .int v_46), (2, .int v_47), (0, .ref x), (1, .int a)] → W p l e (headSpec w_X11_leanest ({ frames := 2, cells := 0, slots := 0, locals := 45 })).room s m ([.ref x, .int a] : List Value).toArray below meth c H_j83 locs 0 0 (MQ below (py_Qi E L f s.heap.size (fun _ L1 f1 => L = L1 ∧ f = f1)) ([.ref x, .int a] : List Value).toArray s 0 0 (va_A (va_pl L f) s.heap.size)) (F0 m 83 ls [.int v_49]) := by
              intro v_49 H_j83 locs ls hw hl
              exact py_iret G0 hr rfl hlk hw ⟨rfl, rfl⟩ dX11_leanest_83
            refine lv_if_ne (tgt := 82) G0.1 G0.2.1 dX11_leanest_75 (by decide) (fun c_50 => ?_) (fun c_50 => ?_)
            · skip
              have tc_50 := ti_ne c_50
              refine lv_iload_n G0.1 G0.2.1 dX11_leanest_82 rfl (lv_at hl 1 rfl) ?_
              exact jn_83 v_46 _ _ ls hw (lv_sub hl [0, 1, 2, 3, 4] rfl)
            · skip
              have tc_50 := ti_eq c_50
              refine lv_iload_n G0.1 G0.2.1 dX11_leanest_78 rfl (lv_at hl 2 rfl) ?_
              refine lv_goto (tgt := 83) G0.1 G0.2.1 dX11_leanest_79 (by decide) ?_
              exact jn_83 v_47 _ _ ls hw (lv_sub hl [0, 1, 2, 3, 4] rfl)
          · skip
            have tc_48 := ti_nle c_48
            refine lv_aload_n G0.1 G0.2.1 dX11_leanest_45 rfl (lv_at hl 3 rfl) ?_
            refine py_get (C := RX11) (T := TX11) (N := 16) (k := 8) (v := .ref (G.2 x 8)) G0 hw in_X11_leanest_X11 rfl hr_24 (by decide) (by decide +kernel) rfl dX11_leanest_46 ?_
            refine lv_iload G0.1 G0.2.1 dX11_leanest_49 (lv_at hl 0 rfl) ?_
            refine py_calli hw (va_runV (As := [.int v_45]) (rest := []) G0 (c_X1_headsOfYear l E G L f H_j33.size (G.2 x 8) v_45 hG hWF t_9 ⟨by omega, by omega⟩) (cwV 1 G0.2.2.2.2 g_X11_leanest_X1_headsOfYear_333 rfl rfl rfl (by decide +kernel) ⟨(Nat.le_of_ble_eq_true rfl), (Nat.le_of_ble_eq_true rfl)⟩) (py_preV hw (C := RX1) (T := TX1) (N := 3) rfl hr_30) rfl rfl hl.1 rfl (lv_room (Nat.le_of_ble_eq_true rfl)) dX11_leanest_51 ⟨(Nat.le_of_ble_eq_true rfl), (Nat.le_of_ble_eq_true rfl)⟩) (fun r_55 L_51 f_52 H_53 locs hp_54 hw => ?_)
            obtain ⟨rfl, rfl⟩ := hp_54
            have br_55 := wf_free r_55
            refine lv_istore (lv' := [(5, .int r_55), (4, .int v_45), (3, .int v_46), (2, .int v_47), (0, .ref x), (1, .int a)]) G0.1 G0.2.1 dX11_leanest_54 hl (by decide) rfl (fun ls hl => ?_)
            refine lv_iload G0.1 G0.2.1 dX11_leanest_56 (lv_at hl 0 rfl) ?_
            refine lv_iload_n G0.1 G0.2.1 dX11_leanest_58 rfl (lv_at hl 2 rfl) ?_
            refine lv_icmp_ge (tgt := 68) G0.1 G0.2.1 dX11_leanest_59 (by decide) (fun c_56 => ?_) (fun c_56 => ?_)
            · skip
              have tc_56 := ti_le c_56
              obtain ⟨x_57, ex_57⟩ : ∃ y : Int32, y = v_45 + 1 := ⟨_, rfl⟩
              first | have tx_57 := ti_add ex_57 (by omega) (by omega) | skip
              refine lv_iinc (v := x_57) (lv' := [(4, .int x_57), (5, .int r_55), (3, .int v_46), (2, .int v_47), (0, .ref x), (1, .int a)]) G0.1 G0.2.1 dX11_leanest_68 hl (k := 1) rfl (show _ + (1 : Int32) = _ from ex_57.symm) (by decide) rfl (fun ls hl => ?_)
              refine lv_goto (tgt := 33) G0.1 G0.2.1 dX11_leanest_71 (by decide) ?_
              exact ih_33 ((2147483647 - x_57.toInt).toNat) (by omega) x_57 v_46 v_47 _ _ ls rfl ⟨by omega, by omega⟩ hw (lv_sub hl [0, 2, 3, 4, 5] rfl)
            · skip
              have tc_56 := ti_nle c_56
              refine lv_iload G0.1 G0.2.1 dX11_leanest_62 (lv_at hl 0 rfl) ?_
              refine lv_istore_n (lv' := [(3, .int r_55), (5, .int r_55), (4, .int v_45), (2, .int v_47), (0, .ref x), (1, .int a)]) G0.1 G0.2.1 dX11_leanest_64 rfl hl (by decide) rfl (fun ls hl => ?_)
              refine lv_iload G0.1 G0.2.1 dX11_leanest_65 (lv_at hl 2 rfl) ?_
              refine lv_istore_n (lv' := [(2, .int v_45), (3, .int r_55), (5, .int r_55), (4, .int v_45), (0, .ref x), (1, .int a)]) G0.1 G0.2.1 dX11_leanest_67 rfl hl (by decide) rfl (fun ls hl => ?_)
              obtain ⟨x_58, ex_58⟩ : ∃ y : Int32, y = v_45 + 1 := ⟨_, rfl⟩
              first | have tx_58 := ti_add ex_58 (by omega) (by omega) | skip
              refine lv_iinc (v := x_58) (lv' := [(4, .int x_58), (2, .int v_45), (3, .int r_55), (5, .int r_55), (0, .ref x), (1, .int a)]) G0.1 G0.2.1 dX11_leanest_68 hl (k := 3) rfl (show _ + (1 : Int32) = _ from ex_58.symm) (by decide) rfl (fun ls hl => ?_)
              refine lv_goto (tgt := 33) G0.1 G0.2.1 dX11_leanest_71 (by decide) ?_
              exact ih_33 ((2147483647 - x_58.toInt).toNat) (by omega) x_58 r_55 v_45 _ _ ls rfl ⟨by omega, by omega⟩ hw (lv_sub hl [0, 2, 1, 4, 5] rfl)
      exact lo_33 _ 1 r_44 0 _ _ ls rfl ⟨by omega, by omega⟩ hw (lv_sub hl [0, 1, 2, 3, 4] rfl)
    · skip
      have tc_39 := ti_eq c_39
      refine lv_iconst (v := (-1)) G0.1 G0.2.1 dX11_leanest_17 (by decide) ?_
      exact py_iret G0 hr rfl hlk hw ⟨rfl, rfl⟩ dX11_leanest_18

def w_X11_count : List Cond := .code yX11_count cX11_count 2 (some .int) :: ([Cond.fieldLink RX11 47 "HeadYear" "folk" "LHeadYear$Folk;", Cond.fieldLink RX11 128 "HeadYear$Folk" "valley" "LHeadYear$Valley;", Cond.fieldLink RX11 317 "HeadYear$Valley" "levels" "I", Cond.fieldLink RX11 319 "HeadYear$Valley" "families" "I", Cond.fieldLink RX11 94 "HeadYear" "lawCount" "I", Cond.fieldLink RX11 10 "HeadYear" "tape" "LHeadYear$Tape;", Cond.fieldLink RX11 109 "HeadYear$Tape" "length" "I", Cond.fieldLink RX11 222 "HeadYear$Folk" "years" "I", Cond.fieldLink RX11 98 "HeadYear" "heldLaw" "I", Cond.fieldLink RX11 67 "HeadYear" "buyings" "LHeadYear$Buyings;", Cond.fieldLink RX11 240 "HeadYear$Buyings" "count" "I", Cond.methodLink RX11 350 yX2_goneFamilies, Cond.instanceMethod yX2_goneFamilies, Cond.selects RX2 yX2_goneFamilies yX2_goneFamilies, Cond.initialized RX2, Cond.constant RX11 166 (-1000000)] ++ (u_ws RX11 TX11 16 ++ (u_ws RX2 TX2 12 ++ (u_ws RX9 TX9 10 ++ (u_ws RX8 TX8 4 ++ (u_ws RX0 TX0 5 ++ (w_X2_goneFamilies ++ ([]))))))))
theorem in_X11_count_X11 : ∀ w ∈ u_ws RX11 TX11 16, w ∈ w_X11_count := fun _ h => List.mem_cons_of_mem _ (List.mem_append_right _ (List.mem_append_left _ h))
theorem in_X11_count_X2 : ∀ w ∈ u_ws RX2 TX2 12, w ∈ w_X11_count := fun _ h => List.mem_cons_of_mem _ (List.mem_append_right _ (List.mem_append_right _ (List.mem_append_left _ h)))
theorem in_X11_count_X9 : ∀ w ∈ u_ws RX9 TX9 10, w ∈ w_X11_count := fun _ h => List.mem_cons_of_mem _ (List.mem_append_right _ (List.mem_append_right _ (List.mem_append_right _ (List.mem_append_left _ h))))
theorem in_X11_count_X8 : ∀ w ∈ u_ws RX8 TX8 4, w ∈ w_X11_count := fun _ h => List.mem_cons_of_mem _ (List.mem_append_right _ (List.mem_append_right _ (List.mem_append_right _ (List.mem_append_right _ (List.mem_append_left _ h)))))
theorem in_X11_count_X0 : ∀ w ∈ u_ws RX0 TX0 5, w ∈ w_X11_count := fun _ h => List.mem_cons_of_mem _ (List.mem_append_right _ (List.mem_append_right _ (List.mem_append_right _ (List.mem_append_right _ (List.mem_append_right _ (List.mem_append_left _ h))))))
theorem gg_X11_count_X2_goneFamilies : GoodIn w_X11_count w_X2_goneFamilies := goodIn_sub (fun _ h => List.mem_cons_of_mem _ (List.mem_append_right _ (List.mem_append_right _ (List.mem_append_right _ (List.mem_append_right _ (List.mem_append_right _ (List.mem_append_right _ (List.mem_append_left _ h)))))))) (by decide +kernel)
theorem g_X11_count_X2_goneFamilies_350 : GoodIn w_X11_count (wsV RX11 350 RX2 yX2_goneFamilies w_X2_goneFamilies) := goodIn_app (goodIn_of _ (by decide +kernel)) gg_X11_count_X2_goneFamilies
theorem sw_X11_count_1 (x : Int32) : x = 0 ∨ x = 1 ∨ x = 2 ∨ x = 3 ∨ x = 4 ∨ x = 5 ∨ x = 6 ∨ x = 7 ∨ (x.toInt < 0 ∨ 7 < x.toInt) := by
  by_cases h0 : x = 0
  · exact Or.inl h0
  by_cases h1 : x = 1
  · exact Or.inr (Or.inl h1)
  by_cases h2 : x = 2
  · exact Or.inr (Or.inr (Or.inl h2))
  by_cases h3 : x = 3
  · exact Or.inr (Or.inr (Or.inr (Or.inl h3)))
  by_cases h4 : x = 4
  · exact Or.inr (Or.inr (Or.inr (Or.inr (Or.inl h4))))
  by_cases h5 : x = 5
  · exact Or.inr (Or.inr (Or.inr (Or.inr (Or.inr (Or.inl h5)))))
  by_cases h6 : x = 6
  · exact Or.inr (Or.inr (Or.inr (Or.inr (Or.inr (Or.inr (Or.inl h6))))))
  by_cases h7 : x = 7
  · exact Or.inr (Or.inr (Or.inr (Or.inr (Or.inr (Or.inr (Or.inr (Or.inl h7)))))))
  have t0 := ti_ne h0
  have k0 : (0 : Int32).toInt = 0 := rfl
  have t1 := ti_ne h1
  have k1 : (1 : Int32).toInt = 1 := rfl
  have t2 := ti_ne h2
  have k2 : (2 : Int32).toInt = 2 := rfl
  have t3 := ti_ne h3
  have k3 : (3 : Int32).toInt = 3 := rfl
  have t4 := ti_ne h4
  have k4 : (4 : Int32).toInt = 4 := rfl
  have t5 := ti_ne h5
  have k5 : (5 : Int32).toInt = 5 := rfl
  have t6 := ti_ne h6
  have k6 : (6 : Int32).toInt = 6 := rfl
  have t7 := ti_ne h7
  have k7 : (7 : Int32).toInt = 7 := rfl
  exact Or.inr (Or.inr (Or.inr (Or.inr (Or.inr (Or.inr (Or.inr (Or.inr ((by omega)))))))))
set_option maxHeartbeats 4000000 in
set_option maxRecDepth 100000 in
theorem c_X11_count (l : Launch) (E : py_E) (G : wf_G) (L : List Nat) (f : py_F) (sz : Nat) (x : Nat) (a : Int32) (hG : GT G) (hWF : WF E G L f) (Tx : G.1 x = 12) : Met l yX11_count w_X11_count ({ frames := 2, cells := 0, slots := 0, locals := 43 }) (py_Pc E [.ref x, .int a] L f sz) (py_Qi E L f sz (fun _ L1 f1 => L = L1 ∧ f = f1)) 0 0 (va_A (va_pl L f) sz) := by
  refine Met.ofW (cc := cX11_count) (maxL := 2) (ret := (some .int)) (by decide) rfl ?_
  intro p e s m args below meth c s₁ B hml hv
  obtain ⟨rfl, rfl, hw⟩ := py_start hv
  have G0 : CallFix p m c cX11_count 2 s _ w_X11_count RX11 := ⟨B.exec, B.bytes, hml, findClass_of_methodNamed B.named, atoms_spec (ws := w_X11_count) B.pre⟩
  have hr := B.returns
  have hlk := B.notSynchronized
  have kcm1000000 : (-1000000 : Int32).toInt = -1000000 := rfl
  have kcm1 : (-1 : Int32).toInt = -1 := rfl
  have kc0 : (0 : Int32).toInt = 0 := rfl
  have kc1 : (1 : Int32).toInt = 1 := rfl
  have kc2 : (2 : Int32).toInt = 2 := rfl
  have kc3 : (3 : Int32).toInt = 3 := rfl
  have kc4 : (4 : Int32).toInt = 4 := rfl
  have kc5 : (5 : Int32).toInt = 5 := rfl
  have kc6 : (6 : Int32).toInt = 6 := rfl
  have kc7 : (7 : Int32).toInt = 7 := rfl
  have hl := lv_entry ([.ref x, .int a]) (n := 2) (Nat.le_of_ble_eq_true rfl)
  rw [lg_entry_eq]
  generalize (lg_sl ([.ref x, .int a]) ++ List.replicate (2 - (lg_sl ([.ref x, .int a])).length) Slot.unset).toArray = ls at hl ⊢
  have hl : lv_has ls 2 [(0, .ref x), (1, .int a)] := hl
  have hRP : RP E G f f := RP.refl
  refine lv_iload_n G0.1 G0.2.1 dX11_count_0 rfl (lv_at hl 1 rfl) ?_
  rcases sw_X11_count_1 a with e_sw | e_sw | e_sw | e_sw | e_sw | e_sw | e_sw | e_sw | e_sw
  · skip
    have te := ti_eq e_sw
    refine lv_tableIn (off := 47) (tgt := 48) G0.1 G0.2.1 dX11_count_1 (by omega) (by omega) (by rw [e_sw]; decide) (by decide) ?_
    refine lv_aload_n G0.1 G0.2.1 dX11_count_48 rfl (lv_at hl 0 rfl) ?_
    obtain ⟨t_1, t_2, t_3, t_4, t_5, t_6, t_7, t_8, t_9, t_10, t_11, t_12, t_13, tx_14, tx_15, tx_16, tx_17⟩ := wt_11 hG Tx
    obtain ⟨v_18, v_19, v_20, hr_24, b_21, b_22, b_23⟩ := wg_11 hWF Tx
    have tq_25 := hy_eq hr_24
    refine py_get (C := RX11) (T := TX11) (N := 16) (k := 5) (v := .ref (G.2 x 5)) G0 hw in_X11_count_X11 rfl hr_24 (by decide) (by decide +kernel) rfl dX11_count_49 ?_
    obtain ⟨t_26, t_27, t_28, t_29, t_30, t_31, t_32, t_33, t_34⟩ := wt_2 hG t_6
    obtain ⟨r_35, y_36, v_37, hr_40, ty_38, b_39⟩ := wg_2 hWF t_6
    refine py_get (C := RX2) (T := TX2) (N := 12) (k := 9) (v := .ref r_35) G0 hw in_X11_count_X2 rfl hr_40 (by decide) (by decide +kernel) rfl dX11_count_52 ?_
    obtain ⟨t_41, t_42, t_43, t_44, t_45, t_46, t_47, t_48⟩ := wt_9 hG ty_38
    obtain ⟨v_49, v_50, hr_53, b_51, b_52⟩ := wg_9 hWF ty_38
    have tq_54 := va_eq hr_53
    refine py_get (C := RX9) (T := TX9) (N := 10) (k := 8) (v := .int v_49) G0 hw in_X11_count_X9 rfl hr_53 (by decide) (by decide +kernel) rfl dX11_count_55 ?_
    exact py_iret G0 hr rfl hlk hw ⟨rfl, rfl⟩ dX11_count_58
  · skip
    have te := ti_eq e_sw
    refine lv_tableIn (off := 58) (tgt := 59) G0.1 G0.2.1 dX11_count_1 (by omega) (by omega) (by rw [e_sw]; decide) (by decide) ?_
    refine lv_aload_n G0.1 G0.2.1 dX11_count_59 rfl (lv_at hl 0 rfl) ?_
    obtain ⟨t_55, t_56, t_57, t_58, t_59, t_60, t_61, t_62, t_63, t_64, t_65, t_66, t_67, tx_68, tx_69, tx_70, tx_71⟩ := wt_11 hG Tx
    obtain ⟨v_72, v_73, v_74, hr_78, b_75, b_76, b_77⟩ := wg_11 hWF Tx
    have tq_79 := hy_eq hr_78
    refine py_get (C := RX11) (T := TX11) (N := 16) (k := 5) (v := .ref (G.2 x 5)) G0 hw in_X11_count_X11 rfl hr_78 (by decide) (by decide +kernel) rfl dX11_count_60 ?_
    obtain ⟨t_80, t_81, t_82, t_83, t_84, t_85, t_86, t_87, t_88⟩ := wt_2 hG t_60
    obtain ⟨r_89, y_90, v_91, hr_94, ty_92, b_93⟩ := wg_2 hWF t_60
    refine py_get (C := RX2) (T := TX2) (N := 12) (k := 9) (v := .ref r_89) G0 hw in_X11_count_X2 rfl hr_94 (by decide) (by decide +kernel) rfl dX11_count_63 ?_
    obtain ⟨t_95, t_96, t_97, t_98, t_99, t_100, t_101, t_102⟩ := wt_9 hG ty_92
    obtain ⟨v_103, v_104, hr_107, b_105, b_106⟩ := wg_9 hWF ty_92
    have tq_108 := va_eq hr_107
    refine py_get (C := RX9) (T := TX9) (N := 10) (k := 9) (v := .int v_104) G0 hw in_X11_count_X9 rfl hr_107 (by decide) (by decide +kernel) rfl dX11_count_66 ?_
    exact py_iret G0 hr rfl hlk hw ⟨rfl, rfl⟩ dX11_count_69
  · skip
    have te := ti_eq e_sw
    refine lv_tableIn (off := 69) (tgt := 70) G0.1 G0.2.1 dX11_count_1 (by omega) (by omega) (by rw [e_sw]; decide) (by decide) ?_
    refine lv_aload_n G0.1 G0.2.1 dX11_count_70 rfl (lv_at hl 0 rfl) ?_
    obtain ⟨t_109, t_110, t_111, t_112, t_113, t_114, t_115, t_116, t_117, t_118, t_119, t_120, t_121, tx_122, tx_123, tx_124, tx_125⟩ := wt_11 hG Tx
    obtain ⟨v_126, v_127, v_128, hr_132, b_129, b_130, b_131⟩ := wg_11 hWF Tx
    have tq_133 := hy_eq hr_132
    refine py_get (C := RX11) (T := TX11) (N := 16) (k := 13) (v := .int v_126) G0 hw in_X11_count_X11 rfl hr_132 (by decide) (by decide +kernel) rfl dX11_count_71 ?_
    exact py_iret G0 hr rfl hlk hw ⟨rfl, rfl⟩ dX11_count_74
  · skip
    have te := ti_eq e_sw
    refine lv_tableIn (off := 74) (tgt := 75) G0.1 G0.2.1 dX11_count_1 (by omega) (by omega) (by rw [e_sw]; decide) (by decide) ?_
    refine lv_aload_n G0.1 G0.2.1 dX11_count_75 rfl (lv_at hl 0 rfl) ?_
    obtain ⟨t_134, t_135, t_136, t_137, t_138, t_139, t_140, t_141, t_142, t_143, t_144, t_145, t_146, tx_147, tx_148, tx_149, tx_150⟩ := wt_11 hG Tx
    obtain ⟨v_151, v_152, v_153, hr_157, b_154, b_155, b_156⟩ := wg_11 hWF Tx
    have tq_158 := hy_eq hr_157
    refine py_get (C := RX11) (T := TX11) (N := 16) (k := 0) (v := .ref (G.2 x 0)) G0 hw in_X11_count_X11 rfl hr_157 (by decide) (by decide +kernel) rfl dX11_count_76 ?_
    have t_159 := wt_8 hG t_134
    obtain ⟨v_160, v_161, v_162, hr_165, b_163, b_164⟩ := wg_8 hWF t_134
    have bv_162 := wf_free v_162
    have tq_166 := tp_eq hr_165
    refine py_get (C := RX8) (T := TX8) (N := 4) (k := 1) (v := .int v_160) G0 hw in_X11_count_X8 rfl hr_165 (by decide) (by decide +kernel) rfl dX11_count_79 ?_
    exact py_iret G0 hr rfl hlk hw ⟨rfl, rfl⟩ dX11_count_82
  · skip
    have te := ti_eq e_sw
    refine lv_tableIn (off := 82) (tgt := 83) G0.1 G0.2.1 dX11_count_1 (by omega) (by omega) (by rw [e_sw]; decide) (by decide) ?_
    refine lv_aload_n G0.1 G0.2.1 dX11_count_83 rfl (lv_at hl 0 rfl) ?_
    obtain ⟨t_167, t_168, t_169, t_170, t_171, t_172, t_173, t_174, t_175, t_176, t_177, t_178, t_179, tx_180, tx_181, tx_182, tx_183⟩ := wt_11 hG Tx
    obtain ⟨v_184, v_185, v_186, hr_190, b_187, b_188, b_189⟩ := wg_11 hWF Tx
    have tq_191 := hy_eq hr_190
    refine py_get (C := RX11) (T := TX11) (N := 16) (k := 5) (v := .ref (G.2 x 5)) G0 hw in_X11_count_X11 rfl hr_190 (by decide) (by decide +kernel) rfl dX11_count_84 ?_
    obtain ⟨t_192, t_193, t_194, t_195, t_196, t_197, t_198, t_199, t_200⟩ := wt_2 hG t_172
    obtain ⟨r_201, y_202, v_203, hr_206, ty_204, b_205⟩ := wg_2 hWF t_172
    refine py_get (C := RX2) (T := TX2) (N := 12) (k := 11) (v := .int v_203) G0 hw in_X11_count_X2 rfl hr_206 (by decide) (by decide +kernel) rfl dX11_count_87 ?_
    exact py_iret G0 hr rfl hlk hw ⟨rfl, rfl⟩ dX11_count_90
  · skip
    have te := ti_eq e_sw
    refine lv_tableIn (off := 90) (tgt := 91) G0.1 G0.2.1 dX11_count_1 (by omega) (by omega) (by rw [e_sw]; decide) (by decide) ?_
    refine lv_aload_n G0.1 G0.2.1 dX11_count_91 rfl (lv_at hl 0 rfl) ?_
    obtain ⟨t_207, t_208, t_209, t_210, t_211, t_212, t_213, t_214, t_215, t_216, t_217, t_218, t_219, tx_220, tx_221, tx_222, tx_223⟩ := wt_11 hG Tx
    obtain ⟨v_224, v_225, v_226, hr_230, b_227, b_228, b_229⟩ := wg_11 hWF Tx
    have tq_231 := hy_eq hr_230
    refine py_get (C := RX11) (T := TX11) (N := 16) (k := 14) (v := .int v_225) G0 hw in_X11_count_X11 rfl hr_230 (by decide) (by decide +kernel) rfl dX11_count_92 ?_
    exact py_iret G0 hr rfl hlk hw ⟨rfl, rfl⟩ dX11_count_95
  · skip
    have te := ti_eq e_sw
    refine lv_tableIn (off := 95) (tgt := 96) G0.1 G0.2.1 dX11_count_1 (by omega) (by omega) (by rw [e_sw]; decide) (by decide) ?_
    refine lv_aload_n G0.1 G0.2.1 dX11_count_96 rfl (lv_at hl 0 rfl) ?_
    obtain ⟨t_232, t_233, t_234, t_235, t_236, t_237, t_238, t_239, t_240, t_241, t_242, t_243, t_244, tx_245, tx_246, tx_247, tx_248⟩ := wt_11 hG Tx
    obtain ⟨v_249, v_250, v_251, hr_255, b_252, b_253, b_254⟩ := wg_11 hWF Tx
    have tq_256 := hy_eq hr_255
    refine py_get (C := RX11) (T := TX11) (N := 16) (k := 9) (v := .ref (G.2 x 9)) G0 hw in_X11_count_X11 rfl hr_255 (by decide) (by decide +kernel) rfl dX11_count_97 ?_
    obtain ⟨t_257, t_258, t_259⟩ := wt_0 hG t_241
    obtain ⟨v_260, v_261, hr_264, b_262, b_263⟩ := wg_0 hWF t_241
    refine py_get (C := RX0) (T := TX0) (N := 5) (k := 3) (v := .int v_260) G0 hw in_X11_count_X0 rfl hr_264 (by decide) (by decide +kernel) rfl dX11_count_100 ?_
    exact py_iret G0 hr rfl hlk hw ⟨rfl, rfl⟩ dX11_count_103
  · skip
    have te := ti_eq e_sw
    refine lv_tableIn (off := 103) (tgt := 104) G0.1 G0.2.1 dX11_count_1 (by omega) (by omega) (by rw [e_sw]; decide) (by decide) ?_
    refine lv_aload_n G0.1 G0.2.1 dX11_count_104 rfl (lv_at hl 0 rfl) ?_
    obtain ⟨t_265, t_266, t_267, t_268, t_269, t_270, t_271, t_272, t_273, t_274, t_275, t_276, t_277, tx_278, tx_279, tx_280, tx_281⟩ := wt_11 hG Tx
    obtain ⟨v_282, v_283, v_284, hr_288, b_285, b_286, b_287⟩ := wg_11 hWF Tx
    have tq_289 := hy_eq hr_288
    refine py_get (C := RX11) (T := TX11) (N := 16) (k := 5) (v := .ref (G.2 x 5)) G0 hw in_X11_count_X11 rfl hr_288 (by decide) (by decide +kernel) rfl dX11_count_105 ?_
    obtain ⟨t_290, t_291, t_292, t_293, t_294, t_295, t_296, t_297, t_298⟩ := wt_2 hG t_270
    obtain ⟨r_299, y_300, v_301, hr_304, ty_302, b_303⟩ := wg_2 hWF t_270
    refine py_calli hw (va_runV (As := []) (rest := []) G0 (c_X2_goneFamilies l E G L f s.heap.size (G.2 x 5) hG hWF t_270) (cwV 0 G0.2.2.2.2 g_X11_count_X2_goneFamilies_350 rfl rfl rfl (by decide +kernel) ⟨(Nat.le_of_ble_eq_true rfl), (Nat.le_of_ble_eq_true rfl)⟩) (py_preV hw (C := RX2) (T := TX2) (N := 12) rfl hr_304) rfl rfl hl.1 rfl (lv_room (Nat.le_of_ble_eq_true rfl)) dX11_count_108 ⟨(Nat.le_of_ble_eq_true rfl), (Nat.le_of_ble_eq_true rfl)⟩) (fun r_309 L_305 f_306 H_307 locs hp_308 hw => ?_)
    obtain ⟨rfl, rfl⟩ := hp_308
    have br_309 := wf_free r_309
    exact py_iret G0 hr rfl hlk hw ⟨rfl, rfl⟩ dX11_count_111
  · skip
    refine lv_tableOut (tgt := 112) G0.1 G0.2.1 dX11_count_1 e_sw (by decide) ?_
    refine lv_ldc (v := (-1000000)) G0.1 G0.2.1 G0.2.2.2.1 (G0.2.2.2.2 (Cond.constant RX11 166 (-1000000)) (by decide +kernel)) dX11_count_112 ?_
    exact py_iret G0 hr rfl hlk hw ⟨rfl, rfl⟩ dX11_count_114
