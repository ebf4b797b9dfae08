theorem dX12_bad_0 : decode cX12_bad 0 = .ok (.aload_n 0, 1) := by decide +kernel
theorem dX12_bad_1 : decode cX12_bad 1 = .ok (.aload_n 0, 1) := by decide +kernel
theorem dX12_bad_2 : decode cX12_bad 2 = .ok (.getfield 134, 3) := by decide +kernel
theorem dX12_bad_5 : decode cX12_bad 5 = .ok (.iconst (-1), 1) := by decide +kernel
theorem dX12_bad_6 : decode cX12_bad 6 = .ok (.if_icmp .ne 10, 3) := by decide +kernel
theorem dX12_bad_9 : decode cX12_bad 9 = .ok (.aload_n 0, 1) := by decide +kernel
theorem dX12_bad_10 : decode cX12_bad 10 = .ok (.getfield 127, 3) := by decide +kernel
theorem dX12_bad_13 : decode cX12_bad 13 = .ok (.goto 7, 3) := by decide +kernel
theorem dX12_bad_16 : decode cX12_bad 16 = .ok (.aload_n 0, 1) := by decide +kernel
theorem dX12_bad_17 : decode cX12_bad 17 = .ok (.getfield 134, 3) := by decide +kernel
theorem dX12_bad_20 : decode cX12_bad 20 = .ok (.putfield 134, 3) := by decide +kernel
theorem dX12_bad_23 : decode cX12_bad 23 = .ok (.return_, 1) := by decide +kernel
theorem dX12_bounded_0 : decode cX12_bounded 0 = .ok (.ldc2_w 207, 3) := by decide +kernel
theorem dX12_bounded_3 : decode cX12_bounded 3 = .ok (.ldc2_w 209, 3) := by decide +kernel
theorem dX12_bounded_6 : decode cX12_bounded 6 = .ok (.lload_n 0, 1) := by decide +kernel
theorem dX12_bounded_7 : decode cX12_bounded 7 = .ok (.invokestatic 211, 3) := by decide +kernel
theorem dX12_bounded_10 : decode cX12_bounded 10 = .ok (.invokestatic 217, 3) := by decide +kernel
theorem dX12_bounded_13 : decode cX12_bounded 13 = .ok (.l2i, 1) := by decide +kernel
theorem dX12_bounded_14 : decode cX12_bounded 14 = .ok (.ireturn, 1) := by decide +kernel
theorem dX12_closes_0 : decode cX12_closes 0 = .ok (.aload_n 0, 1) := by decide +kernel
theorem dX12_closes_1 : decode cX12_closes 1 = .ok (.getfield 134, 3) := by decide +kernel
theorem dX12_closes_4 : decode cX12_closes 4 = .ok (.iconst (-1), 1) := by decide +kernel
theorem dX12_closes_5 : decode cX12_closes 5 = .ok (.if_icmp .ne 15, 3) := by decide +kernel
theorem dX12_closes_8 : decode cX12_closes 8 = .ok (.aload_n 0, 1) := by decide +kernel
theorem dX12_closes_9 : decode cX12_closes 9 = .ok (.invokevirtual 146, 3) := by decide +kernel
theorem dX12_closes_12 : decode cX12_closes 12 = .ok (.iload_n 1, 1) := by decide +kernel
theorem dX12_closes_13 : decode cX12_closes 13 = .ok (.if_icmp .eq 7, 3) := by decide +kernel
theorem dX12_closes_16 : decode cX12_closes 16 = .ok (.aload_n 0, 1) := by decide +kernel
theorem dX12_closes_17 : decode cX12_closes 17 = .ok (.invokevirtual 143, 3) := by decide +kernel
theorem dX12_closes_20 : decode cX12_closes 20 = .ok (.aload_n 0, 1) := by decide +kernel
theorem dX12_closes_21 : decode cX12_closes 21 = .ok (.dup, 1) := by decide +kernel
theorem dX12_closes_22 : decode cX12_closes 22 = .ok (.getfield 127, 3) := by decide +kernel
theorem dX12_closes_25 : decode cX12_closes 25 = .ok (.iconst 1, 1) := by decide +kernel
theorem dX12_closes_26 : decode cX12_closes 26 = .ok (.iadd, 1) := by decide +kernel
theorem dX12_closes_27 : decode cX12_closes 27 = .ok (.putfield 127, 3) := by decide +kernel
theorem dX12_closes_30 : decode cX12_closes 30 = .ok (.aload_n 0, 1) := by decide +kernel
theorem dX12_closes_31 : decode cX12_closes 31 = .ok (.dup, 1) := by decide +kernel
theorem dX12_closes_32 : decode cX12_closes 32 = .ok (.getfield 140, 3) := by decide +kernel
theorem dX12_closes_35 : decode cX12_closes 35 = .ok (.iconst 1, 1) := by decide +kernel
theorem dX12_closes_36 : decode cX12_closes 36 = .ok (.isub, 1) := by decide +kernel
theorem dX12_closes_37 : decode cX12_closes 37 = .ok (.putfield 140, 3) := by decide +kernel
theorem dX12_closes_40 : decode cX12_closes 40 = .ok (.return_, 1) := by decide +kernel
theorem dX12_end_0 : decode cX12_end 0 = .ok (.iload_n 1, 1) := by decide +kernel
theorem dX12_end_1 : decode cX12_end 1 = .ok (.ifCond .lt 11, 3) := by decide +kernel
theorem dX12_end_4 : decode cX12_end 4 = .ok (.iload_n 1, 1) := by decide +kernel
theorem dX12_end_5 : decode cX12_end 5 = .ok (.aload_n 0, 1) := by decide +kernel
theorem dX12_end_6 : decode cX12_end 6 = .ok (.getfield 124, 3) := by decide +kernel
theorem dX12_end_9 : decode cX12_end 9 = .ok (.if_icmp .le 5, 3) := by decide +kernel
theorem dX12_end_12 : decode cX12_end 12 = .ok (.iconst 0, 1) := by decide +kernel
theorem dX12_end_13 : decode cX12_end 13 = .ok (.ireturn, 1) := by decide +kernel
theorem dX12_end_14 : decode cX12_end 14 = .ok (.aload_n 0, 1) := by decide +kernel
theorem dX12_end_15 : decode cX12_end 15 = .ok (.iload_n 1, 1) := by decide +kernel
theorem dX12_end_16 : decode cX12_end 16 = .ok (.putfield 124, 3) := by decide +kernel
theorem dX12_end_19 : decode cX12_end 19 = .ok (.iconst 1, 1) := by decide +kernel
theorem dX12_end_20 : decode cX12_end 20 = .ok (.ireturn, 1) := by decide +kernel
theorem dX12_familyItem_0 : decode cX12_familyItem 0 = .ok (.iload_n 0, 1) := by decide +kernel
theorem dX12_familyItem_1 : decode cX12_familyItem 1 = .ok (.bipush 112, 2) := by decide +kernel
theorem dX12_familyItem_3 : decode cX12_familyItem 3 = .ok (.if_icmp .ne 7, 3) := by decide +kernel
theorem dX12_familyItem_6 : decode cX12_familyItem 6 = .ok (.iconst 0, 1) := by decide +kernel
theorem dX12_familyItem_7 : decode cX12_familyItem 7 = .ok (.goto 34, 3) := by decide +kernel
theorem dX12_familyItem_10 : decode cX12_familyItem 10 = .ok (.iload_n 0, 1) := by decide +kernel
theorem dX12_familyItem_11 : decode cX12_familyItem 11 = .ok (.bipush 97, 2) := by decide +kernel
theorem dX12_familyItem_13 : decode cX12_familyItem 13 = .ok (.if_icmp .ne 7, 3) := by decide +kernel
theorem dX12_familyItem_16 : decode cX12_familyItem 16 = .ok (.iconst 1, 1) := by decide +kernel
theorem dX12_familyItem_17 : decode cX12_familyItem 17 = .ok (.goto 24, 3) := by decide +kernel
theorem dX12_familyItem_20 : decode cX12_familyItem 20 = .ok (.iload_n 0, 1) := by decide +kernel
theorem dX12_familyItem_21 : decode cX12_familyItem 21 = .ok (.bipush 98, 2) := by decide +kernel
theorem dX12_familyItem_23 : decode cX12_familyItem 23 = .ok (.if_icmp .ne 7, 3) := by decide +kernel
theorem dX12_familyItem_26 : decode cX12_familyItem 26 = .ok (.iconst 2, 1) := by decide +kernel
theorem dX12_familyItem_27 : decode cX12_familyItem 27 = .ok (.goto 14, 3) := by decide +kernel
theorem dX12_familyItem_30 : decode cX12_familyItem 30 = .ok (.iload_n 0, 1) := by decide +kernel
theorem dX12_familyItem_31 : decode cX12_familyItem 31 = .ok (.bipush 116, 2) := by decide +kernel
theorem dX12_familyItem_33 : decode cX12_familyItem 33 = .ok (.if_icmp .ne 7, 3) := by decide +kernel
theorem dX12_familyItem_36 : decode cX12_familyItem 36 = .ok (.iconst 3, 1) := by decide +kernel
theorem dX12_familyItem_37 : decode cX12_familyItem 37 = .ok (.goto 4, 3) := by decide +kernel
theorem dX12_familyItem_40 : decode cX12_familyItem 40 = .ok (.iconst (-1), 1) := by decide +kernel
theorem dX12_familyItem_41 : decode cX12_familyItem 41 = .ok (.ireturn, 1) := by decide +kernel
theorem dX12_has_0 : decode cX12_has 0 = .ok (.iload_n 0, 1) := by decide +kernel
theorem dX12_has_1 : decode cX12_has 1 = .ok (.iload_n 1, 1) := by decide +kernel
theorem dX12_has_2 : decode cX12_has 2 = .ok (.ishr, 1) := by decide +kernel
theorem dX12_has_3 : decode cX12_has 3 = .ok (.iconst 1, 1) := by decide +kernel
theorem dX12_has_4 : decode cX12_has 4 = .ok (.iand, 1) := by decide +kernel
theorem dX12_has_5 : decode cX12_has 5 = .ok (.iconst 1, 1) := by decide +kernel
theorem dX12_has_6 : decode cX12_has 6 = .ok (.if_icmp .ne 7, 3) := by decide +kernel
theorem dX12_has_9 : decode cX12_has 9 = .ok (.iconst 1, 1) := by decide +kernel
theorem dX12_has_10 : decode cX12_has 10 = .ok (.goto 4, 3) := by decide +kernel
theorem dX12_has_13 : decode cX12_has 13 = .ok (.iconst 0, 1) := by decide +kernel
theorem dX12_has_14 : decode cX12_has 14 = .ok (.ireturn, 1) := by decide +kernel
theorem dX12_here_0 : decode cX12_here 0 = .ok (.aload_n 0, 1) := by decide +kernel
theorem dX12_here_1 : decode cX12_here 1 = .ok (.getfield 127, 3) := by decide +kernel
theorem dX12_here_4 : decode cX12_here 4 = .ok (.aload_n 0, 1) := by decide +kernel
theorem dX12_here_5 : decode cX12_here 5 = .ok (.getfield 124, 3) := by decide +kernel
theorem dX12_here_8 : decode cX12_here 8 = .ok (.if_icmp .ge 15, 3) := by decide +kernel
theorem dX12_here_11 : decode cX12_here 11 = .ok (.aload_n 0, 1) := by decide +kernel
theorem dX12_here_12 : decode cX12_here 12 = .ok (.getfield 9, 3) := by decide +kernel
theorem dX12_here_15 : decode cX12_here 15 = .ok (.aload_n 0, 1) := by decide +kernel
theorem dX12_here_16 : decode cX12_here 16 = .ok (.getfield 127, 3) := by decide +kernel
theorem dX12_here_19 : decode cX12_here 19 = .ok (.iaload, 1) := by decide +kernel
theorem dX12_here_20 : decode cX12_here 20 = .ok (.goto 4, 3) := by decide +kernel
theorem dX12_here_23 : decode cX12_here 23 = .ok (.iconst (-1), 1) := by decide +kernel
theorem dX12_here_24 : decode cX12_here 24 = .ok (.ireturn, 1) := by decide +kernel
theorem dX12_highest_0 : decode cX12_highest 0 = .ok (.iload_n 0, 1) := by decide +kernel
theorem dX12_highest_1 : decode cX12_highest 1 = .ok (.ifCond .eq 35, 3) := by decide +kernel
theorem dX12_highest_4 : decode cX12_highest 4 = .ok (.iload_n 1, 1) := by decide +kernel
theorem dX12_highest_5 : decode cX12_highest 5 = .ok (.ifCond .ne 7, 3) := by decide +kernel
theorem dX12_highest_8 : decode cX12_highest 8 = .ok (.iconst 4, 1) := by decide +kernel
theorem dX12_highest_9 : decode cX12_highest 9 = .ok (.goto 48, 3) := by decide +kernel
theorem dX12_highest_12 : decode cX12_highest 12 = .ok (.iload_n 1, 1) := by decide +kernel
theorem dX12_highest_13 : decode cX12_highest 13 = .ok (.iconst 1, 1) := by decide +kernel
theorem dX12_highest_14 : decode cX12_highest 14 = .ok (.if_icmp .ne 8, 3) := by decide +kernel
theorem dX12_highest_17 : decode cX12_highest 17 = .ok (.bipush 99, 2) := by decide +kernel
theorem dX12_highest_19 : decode cX12_highest 19 = .ok (.goto 38, 3) := by decide +kernel
theorem dX12_highest_22 : decode cX12_highest 22 = .ok (.iload_n 1, 1) := by decide +kernel
theorem dX12_highest_23 : decode cX12_highest 23 = .ok (.iconst 2, 1) := by decide +kernel
theorem dX12_highest_24 : decode cX12_highest 24 = .ok (.if_icmp .ne 8, 3) := by decide +kernel
theorem dX12_highest_27 : decode cX12_highest 27 = .ok (.bipush 50, 2) := by decide +kernel
theorem dX12_highest_29 : decode cX12_highest 29 = .ok (.goto 28, 3) := by decide +kernel
theorem dX12_highest_32 : decode cX12_highest 32 = .ok (.iconst 1, 1) := by decide +kernel
theorem dX12_highest_33 : decode cX12_highest 33 = .ok (.goto 24, 3) := by decide +kernel
theorem dX12_highest_36 : decode cX12_highest 36 = .ok (.iload_n 1, 1) := by decide +kernel
theorem dX12_highest_37 : decode cX12_highest 37 = .ok (.ifCond .ne 8, 3) := by decide +kernel
theorem dX12_highest_40 : decode cX12_highest 40 = .ok (.bipush 12, 2) := by decide +kernel
theorem dX12_highest_42 : decode cX12_highest 42 = .ok (.goto 15, 3) := by decide +kernel
theorem dX12_highest_45 : decode cX12_highest 45 = .ok (.iload_n 1, 1) := by decide +kernel
theorem dX12_highest_46 : decode cX12_highest 46 = .ok (.iconst 1, 1) := by decide +kernel
theorem dX12_highest_47 : decode cX12_highest 47 = .ok (.if_icmp .ne 8, 3) := by decide +kernel
theorem dX12_highest_50 : decode cX12_highest 50 = .ok (.bipush 7, 2) := by decide +kernel
theorem dX12_highest_52 : decode cX12_highest 52 = .ok (.goto 5, 3) := by decide +kernel
theorem dX12_highest_55 : decode cX12_highest 55 = .ok (.bipush 100, 2) := by decide +kernel
theorem dX12_highest_57 : decode cX12_highest 57 = .ok (.ireturn, 1) := by decide +kernel
theorem dX12_in_0 : decode cX12_in 0 = .ok (.iload_n 0, 1) := by decide +kernel
theorem dX12_in_1 : decode cX12_in 1 = .ok (.iload_n 1, 1) := by decide +kernel
theorem dX12_in_2 : decode cX12_in 2 = .ok (.if_icmp .lt 12, 3) := by decide +kernel
theorem dX12_in_5 : decode cX12_in 5 = .ok (.iload_n 0, 1) := by decide +kernel
theorem dX12_in_6 : decode cX12_in 6 = .ok (.iload_n 2, 1) := by decide +kernel
theorem dX12_in_7 : decode cX12_in 7 = .ok (.if_icmp .gt 7, 3) := by decide +kernel
theorem dX12_in_10 : decode cX12_in 10 = .ok (.iconst 1, 1) := by decide +kernel
theorem dX12_in_11 : decode cX12_in 11 = .ok (.goto 4, 3) := by decide +kernel
theorem dX12_in_14 : decode cX12_in 14 = .ok (.iconst 0, 1) := by decide +kernel
theorem dX12_in_15 : decode cX12_in 15 = .ok (.ireturn, 1) := by decide +kernel
theorem dX12_isDigit_0 : decode cX12_isDigit 0 = .ok (.iload_n 0, 1) := by decide +kernel
theorem dX12_isDigit_1 : decode cX12_isDigit 1 = .ok (.bipush 48, 2) := by decide +kernel
theorem dX12_isDigit_3 : decode cX12_isDigit 3 = .ok (.if_icmp .lt 13, 3) := by decide +kernel
theorem dX12_isDigit_6 : decode cX12_isDigit 6 = .ok (.iload_n 0, 1) := by decide +kernel
theorem dX12_isDigit_7 : decode cX12_isDigit 7 = .ok (.bipush 57, 2) := by decide +kernel
theorem dX12_isDigit_9 : decode cX12_isDigit 9 = .ok (.if_icmp .gt 7, 3) := by decide +kernel
theorem dX12_isDigit_12 : decode cX12_isDigit 12 = .ok (.iconst 1, 1) := by decide +kernel
theorem dX12_isDigit_13 : decode cX12_isDigit 13 = .ok (.goto 4, 3) := by decide +kernel
theorem dX12_isDigit_16 : decode cX12_isDigit 16 = .ok (.iconst 0, 1) := by decide +kernel
theorem dX12_isDigit_17 : decode cX12_isDigit 17 = .ok (.ireturn, 1) := by decide +kernel
theorem dX12_isSign_0 : decode cX12_isSign 0 = .ok (.iload_n 0, 1) := by decide +kernel
theorem dX12_isSign_1 : decode cX12_isSign 1 = .ok (.bipush 61, 2) := by decide +kernel
theorem dX12_isSign_3 : decode cX12_isSign 3 = .ok (.if_icmp .eq 15, 3) := by decide +kernel
theorem dX12_isSign_6 : decode cX12_isSign 6 = .ok (.iload_n 0, 1) := by decide +kernel
theorem dX12_isSign_7 : decode cX12_isSign 7 = .ok (.bipush 60, 2) := by decide +kernel
theorem dX12_isSign_9 : decode cX12_isSign 9 = .ok (.if_icmp .eq 9, 3) := by decide +kernel
theorem dX12_isSign_12 : decode cX12_isSign 12 = .ok (.iload_n 0, 1) := by decide +kernel
theorem dX12_isSign_13 : decode cX12_isSign 13 = .ok (.bipush 62, 2) := by decide +kernel
theorem dX12_isSign_15 : decode cX12_isSign 15 = .ok (.if_icmp .ne 7, 3) := by decide +kernel
theorem dX12_isSign_18 : decode cX12_isSign 18 = .ok (.iconst 1, 1) := by decide +kernel
theorem dX12_isSign_19 : decode cX12_isSign 19 = .ok (.goto 4, 3) := by decide +kernel
theorem dX12_isSign_22 : decode cX12_isSign 22 = .ok (.iconst 0, 1) := by decide +kernel
theorem dX12_isSign_23 : decode cX12_isSign 23 = .ok (.ireturn, 1) := by decide +kernel
theorem dX12_itemNow_0 : decode cX12_itemNow 0 = .ok (.iload_n 1, 1) := by decide +kernel
theorem dX12_itemNow_1 : decode cX12_itemNow 1 = .ok (.ifCond .eq 13, 3) := by decide +kernel
theorem dX12_itemNow_4 : decode cX12_itemNow 4 = .ok (.aload_n 0, 1) := by decide +kernel
theorem dX12_itemNow_5 : decode cX12_itemNow 5 = .ok (.invokevirtual 146, 3) := by decide +kernel
theorem dX12_itemNow_8 : decode cX12_itemNow 8 = .ok (.invokestatic 236, 3) := by decide +kernel
theorem dX12_itemNow_11 : decode cX12_itemNow 11 = .ok (.goto 10, 3) := by decide +kernel
theorem dX12_itemNow_14 : decode cX12_itemNow 14 = .ok (.aload_n 0, 1) := by decide +kernel
theorem dX12_itemNow_15 : decode cX12_itemNow 15 = .ok (.invokevirtual 146, 3) := by decide +kernel
theorem dX12_itemNow_18 : decode cX12_itemNow 18 = .ok (.invokestatic 239, 3) := by decide +kernel
theorem dX12_itemNow_21 : decode cX12_itemNow 21 = .ok (.ireturn, 1) := by decide +kernel
theorem dX12_letterOf_0 : decode cX12_letterOf 0 = .ok (.iload_n 0, 1) := by decide +kernel
theorem dX12_letterOf_1 : decode cX12_letterOf 1 = .ok (.bipush 98, 2) := by decide +kernel
theorem dX12_letterOf_3 : decode cX12_letterOf 3 = .ok (.if_icmp .ne 7, 3) := by decide +kernel
theorem dX12_letterOf_6 : decode cX12_letterOf 6 = .ok (.iconst 0, 1) := by decide +kernel
theorem dX12_letterOf_7 : decode cX12_letterOf 7 = .ok (.goto 54, 3) := by decide +kernel
theorem dX12_letterOf_10 : decode cX12_letterOf 10 = .ok (.iload_n 0, 1) := by decide +kernel
theorem dX12_letterOf_11 : decode cX12_letterOf 11 = .ok (.bipush 100, 2) := by decide +kernel
theorem dX12_letterOf_13 : decode cX12_letterOf 13 = .ok (.if_icmp .ne 7, 3) := by decide +kernel
theorem dX12_letterOf_16 : decode cX12_letterOf 16 = .ok (.iconst 1, 1) := by decide +kernel
theorem dX12_letterOf_17 : decode cX12_letterOf 17 = .ok (.goto 44, 3) := by decide +kernel
theorem dX12_letterOf_20 : decode cX12_letterOf 20 = .ok (.iload_n 0, 1) := by decide +kernel
theorem dX12_letterOf_21 : decode cX12_letterOf 21 = .ok (.bipush 112, 2) := by decide +kernel
theorem dX12_letterOf_23 : decode cX12_letterOf 23 = .ok (.if_icmp .ne 7, 3) := by decide +kernel
theorem dX12_letterOf_26 : decode cX12_letterOf 26 = .ok (.iconst 2, 1) := by decide +kernel
theorem dX12_letterOf_27 : decode cX12_letterOf 27 = .ok (.goto 34, 3) := by decide +kernel
theorem dX12_letterOf_30 : decode cX12_letterOf 30 = .ok (.iload_n 0, 1) := by decide +kernel
theorem dX12_letterOf_31 : decode cX12_letterOf 31 = .ok (.bipush 104, 2) := by decide +kernel
theorem dX12_letterOf_33 : decode cX12_letterOf 33 = .ok (.if_icmp .ne 7, 3) := by decide +kernel
theorem dX12_letterOf_36 : decode cX12_letterOf 36 = .ok (.iconst 3, 1) := by decide +kernel
theorem dX12_letterOf_37 : decode cX12_letterOf 37 = .ok (.goto 24, 3) := by decide +kernel
theorem dX12_letterOf_40 : decode cX12_letterOf 40 = .ok (.iload_n 0, 1) := by decide +kernel
theorem dX12_letterOf_41 : decode cX12_letterOf 41 = .ok (.bipush 111, 2) := by decide +kernel
theorem dX12_letterOf_43 : decode cX12_letterOf 43 = .ok (.if_icmp .ne 7, 3) := by decide +kernel
theorem dX12_letterOf_46 : decode cX12_letterOf 46 = .ok (.iconst 4, 1) := by decide +kernel
theorem dX12_letterOf_47 : decode cX12_letterOf 47 = .ok (.goto 14, 3) := by decide +kernel
theorem dX12_letterOf_50 : decode cX12_letterOf 50 = .ok (.iload_n 0, 1) := by decide +kernel
theorem dX12_letterOf_51 : decode cX12_letterOf 51 = .ok (.bipush 121, 2) := by decide +kernel
theorem dX12_letterOf_53 : decode cX12_letterOf 53 = .ok (.if_icmp .ne 7, 3) := by decide +kernel
theorem dX12_letterOf_56 : decode cX12_letterOf 56 = .ok (.iconst 5, 1) := by decide +kernel
theorem dX12_letterOf_57 : decode cX12_letterOf 57 = .ok (.goto 4, 3) := by decide +kernel
theorem dX12_letterOf_60 : decode cX12_letterOf 60 = .ok (.iconst (-1), 1) := by decide +kernel
theorem dX12_letterOf_61 : decode cX12_letterOf 61 = .ok (.ireturn, 1) := by decide +kernel
theorem dX12_levelItem_0 : decode cX12_levelItem 0 = .ok (.iload_n 0, 1) := by decide +kernel
theorem dX12_levelItem_1 : decode cX12_levelItem 1 = .ok (.bipush 104, 2) := by decide +kernel
theorem dX12_levelItem_3 : decode cX12_levelItem 3 = .ok (.if_icmp .ne 7, 3) := by decide +kernel
theorem dX12_levelItem_6 : decode cX12_levelItem 6 = .ok (.iconst 0, 1) := by decide +kernel
theorem dX12_levelItem_7 : decode cX12_levelItem 7 = .ok (.goto 34, 3) := by decide +kernel
theorem dX12_levelItem_10 : decode cX12_levelItem 10 = .ok (.iload_n 0, 1) := by decide +kernel
theorem dX12_levelItem_11 : decode cX12_levelItem 11 = .ok (.bipush 102, 2) := by decide +kernel
theorem dX12_levelItem_13 : decode cX12_levelItem 13 = .ok (.if_icmp .ne 7, 3) := by decide +kernel
theorem dX12_levelItem_16 : decode cX12_levelItem 16 = .ok (.iconst 1, 1) := by decide +kernel
theorem dX12_levelItem_17 : decode cX12_levelItem 17 = .ok (.goto 24, 3) := by decide +kernel
theorem dX12_levelItem_20 : decode cX12_levelItem 20 = .ok (.iload_n 0, 1) := by decide +kernel
theorem dX12_levelItem_21 : decode cX12_levelItem 21 = .ok (.bipush 100, 2) := by decide +kernel
theorem dX12_levelItem_23 : decode cX12_levelItem 23 = .ok (.if_icmp .ne 7, 3) := by decide +kernel
theorem dX12_levelItem_26 : decode cX12_levelItem 26 = .ok (.iconst 2, 1) := by decide +kernel
theorem dX12_levelItem_27 : decode cX12_levelItem 27 = .ok (.goto 14, 3) := by decide +kernel
theorem dX12_levelItem_30 : decode cX12_levelItem 30 = .ok (.iload_n 0, 1) := by decide +kernel
theorem dX12_levelItem_31 : decode cX12_levelItem 31 = .ok (.bipush 115, 2) := by decide +kernel
theorem dX12_levelItem_33 : decode cX12_levelItem 33 = .ok (.if_icmp .ne 7, 3) := by decide +kernel
theorem dX12_levelItem_36 : decode cX12_levelItem 36 = .ok (.iconst 3, 1) := by decide +kernel
theorem dX12_levelItem_37 : decode cX12_levelItem 37 = .ok (.goto 4, 3) := by decide +kernel
theorem dX12_levelItem_40 : decode cX12_levelItem 40 = .ok (.iconst (-1), 1) := by decide +kernel
theorem dX12_levelItem_41 : decode cX12_levelItem 41 = .ok (.ireturn, 1) := by decide +kernel
theorem dX12_look_0 : decode cX12_look 0 = .ok (.aload_n 0, 1) := by decide +kernel
theorem dX12_look_1 : decode cX12_look 1 = .ok (.invokevirtual 130, 3) := by decide +kernel
theorem dX12_look_4 : decode cX12_look 4 = .ok (.bipush 32, 2) := by decide +kernel
theorem dX12_look_6 : decode cX12_look 6 = .ok (.if_icmp .ne 16, 3) := by decide +kernel
theorem dX12_look_9 : decode cX12_look 9 = .ok (.aload_n 0, 1) := by decide +kernel
theorem dX12_look_10 : decode cX12_look 10 = .ok (.dup, 1) := by decide +kernel
theorem dX12_look_11 : decode cX12_look 11 = .ok (.getfield 127, 3) := by decide +kernel
theorem dX12_look_14 : decode cX12_look 14 = .ok (.iconst 1, 1) := by decide +kernel
theorem dX12_look_15 : decode cX12_look 15 = .ok (.iadd, 1) := by decide +kernel
theorem dX12_look_16 : decode cX12_look 16 = .ok (.putfield 127, 3) := by decide +kernel
theorem dX12_look_19 : decode cX12_look 19 = .ok (.goto (-19), 3) := by decide +kernel
theorem dX12_look_22 : decode cX12_look 22 = .ok (.aload_n 0, 1) := by decide +kernel
theorem dX12_look_23 : decode cX12_look 23 = .ok (.invokevirtual 130, 3) := by decide +kernel
theorem dX12_look_26 : decode cX12_look 26 = .ok (.ireturn, 1) := by decide +kernel
theorem dX12_lowest_0 : decode cX12_lowest 0 = .ok (.iload_n 1, 1) := by decide +kernel
theorem dX12_lowest_1 : decode cX12_lowest 1 = .ok (.ifCond .ne 7, 3) := by decide +kernel
theorem dX12_lowest_4 : decode cX12_lowest 4 = .ok (.iconst 1, 1) := by decide +kernel
theorem dX12_lowest_5 : decode cX12_lowest 5 = .ok (.goto 4, 3) := by decide +kernel
theorem dX12_lowest_8 : decode cX12_lowest 8 = .ok (.iconst 0, 1) := by decide +kernel
theorem dX12_lowest_9 : decode cX12_lowest 9 = .ok (.ireturn, 1) := by decide +kernel
theorem dX12_number_0 : decode cX12_number 0 = .ok (.aload_n 0, 1) := by decide +kernel
theorem dX12_number_1 : decode cX12_number 1 = .ok (.invokevirtual 146, 3) := by decide +kernel
theorem dX12_number_4 : decode cX12_number 4 = .ok (.invokestatic 149, 3) := by decide +kernel
theorem dX12_number_7 : decode cX12_number 7 = .ok (.ifCond .ne 9, 3) := by decide +kernel
theorem dX12_number_10 : decode cX12_number 10 = .ok (.aload_n 0, 1) := by decide +kernel
theorem dX12_number_11 : decode cX12_number 11 = .ok (.invokevirtual 143, 3) := by decide +kernel
theorem dX12_number_14 : decode cX12_number 14 = .ok (.iload_n 1, 1) := by decide +kernel
theorem dX12_number_15 : decode cX12_number 15 = .ok (.ireturn, 1) := by decide +kernel
theorem dX12_number_16 : decode cX12_number 16 = .ok (.iconst 0, 1) := by decide +kernel
theorem dX12_number_17 : decode cX12_number 17 = .ok (.istore_n 3, 1) := by decide +kernel
theorem dX12_number_18 : decode cX12_number 18 = .ok (.iconst 0, 1) := by decide +kernel
theorem dX12_number_19 : decode cX12_number 19 = .ok (.istore 4, 2) := by decide +kernel
theorem dX12_number_21 : decode cX12_number 21 = .ok (.iload 4, 2) := by decide +kernel
theorem dX12_number_23 : decode cX12_number 23 = .ok (.iconst 3, 1) := by decide +kernel
theorem dX12_number_24 : decode cX12_number 24 = .ok (.if_icmp .ge 42, 3) := by decide +kernel
theorem dX12_number_27 : decode cX12_number 27 = .ok (.aload_n 0, 1) := by decide +kernel
theorem dX12_number_28 : decode cX12_number 28 = .ok (.invokevirtual 130, 3) := by decide +kernel
theorem dX12_number_31 : decode cX12_number 31 = .ok (.invokestatic 149, 3) := by decide +kernel
theorem dX12_number_34 : decode cX12_number 34 = .ok (.ifCond .eq 32, 3) := by decide +kernel
theorem dX12_number_37 : decode cX12_number 37 = .ok (.bipush 10, 2) := by decide +kernel
theorem dX12_number_39 : decode cX12_number 39 = .ok (.iload_n 3, 1) := by decide +kernel
theorem dX12_number_40 : decode cX12_number 40 = .ok (.imul, 1) := by decide +kernel
theorem dX12_number_41 : decode cX12_number 41 = .ok (.aload_n 0, 1) := by decide +kernel
theorem dX12_number_42 : decode cX12_number 42 = .ok (.invokevirtual 130, 3) := by decide +kernel
theorem dX12_number_45 : decode cX12_number 45 = .ok (.iadd, 1) := by decide +kernel
theorem dX12_number_46 : decode cX12_number 46 = .ok (.bipush 48, 2) := by decide +kernel
theorem dX12_number_48 : decode cX12_number 48 = .ok (.isub, 1) := by decide +kernel
theorem dX12_number_49 : decode cX12_number 49 = .ok (.istore_n 3, 1) := by decide +kernel
theorem dX12_number_50 : decode cX12_number 50 = .ok (.aload_n 0, 1) := by decide +kernel
theorem dX12_number_51 : decode cX12_number 51 = .ok (.dup, 1) := by decide +kernel
theorem dX12_number_52 : decode cX12_number 52 = .ok (.getfield 127, 3) := by decide +kernel
theorem dX12_number_55 : decode cX12_number 55 = .ok (.iconst 1, 1) := by decide +kernel
theorem dX12_number_56 : decode cX12_number 56 = .ok (.iadd, 1) := by decide +kernel
theorem dX12_number_57 : decode cX12_number 57 = .ok (.putfield 127, 3) := by decide +kernel
theorem dX12_number_60 : decode cX12_number 60 = .ok (.iinc 4 1, 3) := by decide +kernel
theorem dX12_number_63 : decode cX12_number 63 = .ok (.goto (-42), 3) := by decide +kernel
theorem dX12_number_66 : decode cX12_number 66 = .ok (.aload_n 0, 1) := by decide +kernel
theorem dX12_number_67 : decode cX12_number 67 = .ok (.invokevirtual 130, 3) := by decide +kernel
theorem dX12_number_70 : decode cX12_number 70 = .ok (.invokestatic 149, 3) := by decide +kernel
theorem dX12_number_73 : decode cX12_number 73 = .ok (.ifCond .eq 10, 3) := by decide +kernel
theorem dX12_number_76 : decode cX12_number 76 = .ok (.aload_n 0, 1) := by decide +kernel
theorem dX12_number_77 : decode cX12_number 77 = .ok (.invokevirtual 143, 3) := by decide +kernel
theorem dX12_number_80 : decode cX12_number 80 = .ok (.goto 26, 3) := by decide +kernel
theorem dX12_number_83 : decode cX12_number 83 = .ok (.iload_n 3, 1) := by decide +kernel
theorem dX12_number_84 : decode cX12_number 84 = .ok (.iload_n 1, 1) := by decide +kernel
theorem dX12_number_85 : decode cX12_number 85 = .ok (.iload_n 2, 1) := by decide +kernel
theorem dX12_number_86 : decode cX12_number 86 = .ok (.invokestatic 232, 3) := by decide +kernel
theorem dX12_number_89 : decode cX12_number 89 = .ok (.ifCond .ne 17, 3) := by decide +kernel
theorem dX12_number_92 : decode cX12_number 92 = .ok (.aload_n 0, 1) := by decide +kernel
theorem dX12_number_93 : decode cX12_number 93 = .ok (.dup, 1) := by decide +kernel
theorem dX12_number_94 : decode cX12_number 94 = .ok (.getfield 127, 3) := by decide +kernel
theorem dX12_number_97 : decode cX12_number 97 = .ok (.iconst 1, 1) := by decide +kernel
theorem dX12_number_98 : decode cX12_number 98 = .ok (.isub, 1) := by decide +kernel
theorem dX12_number_99 : decode cX12_number 99 = .ok (.putfield 127, 3) := by decide +kernel
theorem dX12_number_102 : decode cX12_number 102 = .ok (.aload_n 0, 1) := by decide +kernel
theorem dX12_number_103 : decode cX12_number 103 = .ok (.invokevirtual 143, 3) := by decide +kernel
theorem dX12_number_106 : decode cX12_number 106 = .ok (.iload_n 3, 1) := by decide +kernel
theorem dX12_number_107 : decode cX12_number 107 = .ok (.ireturn, 1) := by decide +kernel
theorem dX12_opens_0 : decode cX12_opens 0 = .ok (.aload_n 0, 1) := by decide +kernel
theorem dX12_opens_1 : decode cX12_opens 1 = .ok (.getfield 140, 3) := by decide +kernel
theorem dX12_opens_4 : decode cX12_opens 4 = .ok (.bipush 6, 2) := by decide +kernel
theorem dX12_opens_6 : decode cX12_opens 6 = .ok (.if_icmp .ne 7, 3) := by decide +kernel
theorem dX12_opens_9 : decode cX12_opens 9 = .ok (.aload_n 0, 1) := by decide +kernel
theorem dX12_opens_10 : decode cX12_opens 10 = .ok (.invokevirtual 143, 3) := by decide +kernel
theorem dX12_opens_13 : decode cX12_opens 13 = .ok (.aload_n 0, 1) := by decide +kernel
theorem dX12_opens_14 : decode cX12_opens 14 = .ok (.dup, 1) := by decide +kernel
theorem dX12_opens_15 : decode cX12_opens 15 = .ok (.getfield 140, 3) := by decide +kernel
theorem dX12_opens_18 : decode cX12_opens 18 = .ok (.iconst 1, 1) := by decide +kernel
theorem dX12_opens_19 : decode cX12_opens 19 = .ok (.iadd, 1) := by decide +kernel
theorem dX12_opens_20 : decode cX12_opens 20 = .ok (.putfield 140, 3) := by decide +kernel
theorem dX12_opens_23 : decode cX12_opens 23 = .ok (.aload_n 0, 1) := by decide +kernel
theorem dX12_opens_24 : decode cX12_opens 24 = .ok (.dup, 1) := by decide +kernel
theorem dX12_opens_25 : decode cX12_opens 25 = .ok (.getfield 127, 3) := by decide +kernel
theorem dX12_opens_28 : decode cX12_opens 28 = .ok (.iconst 1, 1) := by decide +kernel
theorem dX12_opens_29 : decode cX12_opens 29 = .ok (.iadd, 1) := by decide +kernel
theorem dX12_opens_30 : decode cX12_opens 30 = .ok (.putfield 127, 3) := by decide +kernel
theorem dX12_opens_33 : decode cX12_opens 33 = .ok (.return_, 1) := by decide +kernel
theorem dX12_plainNumber_0 : decode cX12_plainNumber 0 = .ok (.iconst 0, 1) := by decide +kernel
theorem dX12_plainNumber_1 : decode cX12_plainNumber 1 = .ok (.istore_n 1, 1) := by decide +kernel
theorem dX12_plainNumber_2 : decode cX12_plainNumber 2 = .ok (.iconst 0, 1) := by decide +kernel
theorem dX12_plainNumber_3 : decode cX12_plainNumber 3 = .ok (.istore_n 2, 1) := by decide +kernel
theorem dX12_plainNumber_4 : decode cX12_plainNumber 4 = .ok (.iload_n 2, 1) := by decide +kernel
theorem dX12_plainNumber_5 : decode cX12_plainNumber 5 = .ok (.iconst 4, 1) := by decide +kernel
theorem dX12_plainNumber_6 : decode cX12_plainNumber 6 = .ok (.if_icmp .ge 42, 3) := by decide +kernel
theorem dX12_plainNumber_9 : decode cX12_plainNumber 9 = .ok (.aload_n 0, 1) := by decide +kernel
theorem dX12_plainNumber_10 : decode cX12_plainNumber 10 = .ok (.invokevirtual 130, 3) := by decide +kernel
theorem dX12_plainNumber_13 : decode cX12_plainNumber 13 = .ok (.invokestatic 149, 3) := by decide +kernel
theorem dX12_plainNumber_16 : decode cX12_plainNumber 16 = .ok (.ifCond .eq 32, 3) := by decide +kernel
theorem dX12_plainNumber_19 : decode cX12_plainNumber 19 = .ok (.bipush 10, 2) := by decide +kernel
theorem dX12_plainNumber_21 : decode cX12_plainNumber 21 = .ok (.iload_n 1, 1) := by decide +kernel
theorem dX12_plainNumber_22 : decode cX12_plainNumber 22 = .ok (.imul, 1) := by decide +kernel
theorem dX12_plainNumber_23 : decode cX12_plainNumber 23 = .ok (.aload_n 0, 1) := by decide +kernel
theorem dX12_plainNumber_24 : decode cX12_plainNumber 24 = .ok (.invokevirtual 130, 3) := by decide +kernel
theorem dX12_plainNumber_27 : decode cX12_plainNumber 27 = .ok (.iadd, 1) := by decide +kernel
theorem dX12_plainNumber_28 : decode cX12_plainNumber 28 = .ok (.bipush 48, 2) := by decide +kernel
theorem dX12_plainNumber_30 : decode cX12_plainNumber 30 = .ok (.isub, 1) := by decide +kernel
theorem dX12_plainNumber_31 : decode cX12_plainNumber 31 = .ok (.istore_n 1, 1) := by decide +kernel
theorem dX12_plainNumber_32 : decode cX12_plainNumber 32 = .ok (.aload_n 0, 1) := by decide +kernel
theorem dX12_plainNumber_33 : decode cX12_plainNumber 33 = .ok (.dup, 1) := by decide +kernel
theorem dX12_plainNumber_34 : decode cX12_plainNumber 34 = .ok (.getfield 127, 3) := by decide +kernel
theorem dX12_plainNumber_37 : decode cX12_plainNumber 37 = .ok (.iconst 1, 1) := by decide +kernel
theorem dX12_plainNumber_38 : decode cX12_plainNumber 38 = .ok (.iadd, 1) := by decide +kernel
theorem dX12_plainNumber_39 : decode cX12_plainNumber 39 = .ok (.putfield 127, 3) := by decide +kernel
theorem dX12_plainNumber_42 : decode cX12_plainNumber 42 = .ok (.iinc 2 1, 3) := by decide +kernel
theorem dX12_plainNumber_45 : decode cX12_plainNumber 45 = .ok (.goto (-41), 3) := by decide +kernel
theorem dX12_plainNumber_48 : decode cX12_plainNumber 48 = .ok (.aload_n 0, 1) := by decide +kernel
theorem dX12_plainNumber_49 : decode cX12_plainNumber 49 = .ok (.invokevirtual 130, 3) := by decide +kernel
theorem dX12_plainNumber_52 : decode cX12_plainNumber 52 = .ok (.invokestatic 149, 3) := by decide +kernel
theorem dX12_plainNumber_55 : decode cX12_plainNumber 55 = .ok (.ifCond .eq 7, 3) := by decide +kernel
theorem dX12_plainNumber_58 : decode cX12_plainNumber 58 = .ok (.aload_n 0, 1) := by decide +kernel
theorem dX12_plainNumber_59 : decode cX12_plainNumber 59 = .ok (.invokevirtual 143, 3) := by decide +kernel
theorem dX12_plainNumber_62 : decode cX12_plainNumber 62 = .ok (.iload_n 1, 1) := by decide +kernel
theorem dX12_plainNumber_63 : decode cX12_plainNumber 63 = .ok (.ireturn, 1) := by decide +kernel
theorem dX12_state_0 : decode cX12_state 0 = .ok (.bipush 21, 2) := by decide +kernel
theorem dX12_state_2 : decode cX12_state 2 = .ok (.iload_n 0, 1) := by decide +kernel
theorem dX12_state_3 : decode cX12_state 3 = .ok (.imul, 1) := by decide +kernel
theorem dX12_state_4 : decode cX12_state 4 = .ok (.iload_n 1, 1) := by decide +kernel
theorem dX12_state_5 : decode cX12_state 5 = .ok (.iadd, 1) := by decide +kernel
theorem dX12_state_6 : decode cX12_state 6 = .ok (.ireturn, 1) := by decide +kernel
theorem dX12_usual_0 : decode cX12_usual 0 = .ok (.iload_n 0, 1) := by decide +kernel
theorem dX12_usual_1 : decode cX12_usual 1 = .ok (.ifCond .eq 34, 3) := by decide +kernel
theorem dX12_usual_4 : decode cX12_usual 4 = .ok (.iload_n 1, 1) := by decide +kernel
theorem dX12_usual_5 : decode cX12_usual 5 = .ok (.ifCond .ne 7, 3) := by decide +kernel
theorem dX12_usual_8 : decode cX12_usual 8 = .ok (.iconst 2, 1) := by decide +kernel
theorem dX12_usual_9 : decode cX12_usual 9 = .ok (.goto 54, 3) := by decide +kernel
theorem dX12_usual_12 : decode cX12_usual 12 = .ok (.iload_n 1, 1) := by decide +kernel
theorem dX12_usual_13 : decode cX12_usual 13 = .ok (.iconst 1, 1) := by decide +kernel
theorem dX12_usual_14 : decode cX12_usual 14 = .ok (.if_icmp .ne 8, 3) := by decide +kernel
theorem dX12_usual_17 : decode cX12_usual 17 = .ok (.bipush 20, 2) := by decide +kernel
theorem dX12_usual_19 : decode cX12_usual 19 = .ok (.goto 44, 3) := by decide +kernel
theorem dX12_usual_22 : decode cX12_usual 22 = .ok (.iload_n 1, 1) := by decide +kernel
theorem dX12_usual_23 : decode cX12_usual 23 = .ok (.iconst 2, 1) := by decide +kernel
theorem dX12_usual_24 : decode cX12_usual 24 = .ok (.if_icmp .ne 7, 3) := by decide +kernel
theorem dX12_usual_27 : decode cX12_usual 27 = .ok (.iconst 5, 1) := by decide +kernel
theorem dX12_usual_28 : decode cX12_usual 28 = .ok (.goto 35, 3) := by decide +kernel
theorem dX12_usual_31 : decode cX12_usual 31 = .ok (.iconst 0, 1) := by decide +kernel
theorem dX12_usual_32 : decode cX12_usual 32 = .ok (.goto 31, 3) := by decide +kernel
theorem dX12_usual_35 : decode cX12_usual 35 = .ok (.iload_n 1, 1) := by decide +kernel
theorem dX12_usual_36 : decode cX12_usual 36 = .ok (.ifCond .ne 7, 3) := by decide +kernel
theorem dX12_usual_39 : decode cX12_usual 39 = .ok (.iconst 4, 1) := by decide +kernel
theorem dX12_usual_40 : decode cX12_usual 40 = .ok (.goto 23, 3) := by decide +kernel
theorem dX12_usual_43 : decode cX12_usual 43 = .ok (.iload_n 1, 1) := by decide +kernel
theorem dX12_usual_44 : decode cX12_usual 44 = .ok (.iconst 1, 1) := by decide +kernel
theorem dX12_usual_45 : decode cX12_usual 45 = .ok (.if_icmp .ne 7, 3) := by decide +kernel
theorem dX12_usual_48 : decode cX12_usual 48 = .ok (.iconst 0, 1) := by decide +kernel
theorem dX12_usual_49 : decode cX12_usual 49 = .ok (.goto 14, 3) := by decide +kernel
theorem dX12_usual_52 : decode cX12_usual 52 = .ok (.iload_n 1, 1) := by decide +kernel
theorem dX12_usual_53 : decode cX12_usual 53 = .ok (.iconst 2, 1) := by decide +kernel
theorem dX12_usual_54 : decode cX12_usual 54 = .ok (.if_icmp .ne 8, 3) := by decide +kernel
theorem dX12_usual_57 : decode cX12_usual 57 = .ok (.bipush 30, 2) := by decide +kernel
theorem dX12_usual_59 : decode cX12_usual 59 = .ok (.goto 4, 3) := by decide +kernel
theorem dX12_usual_62 : decode cX12_usual 62 = .ok (.iconst 5, 1) := by decide +kernel
theorem dX12_usual_63 : decode cX12_usual 63 = .ok (.ireturn, 1) := by decide +kernel
theorem dX12_worked_0 : decode cX12_worked 0 = .ok (.iload_n 0, 1) := by decide +kernel
theorem dX12_worked_1 : decode cX12_worked 1 = .ok (.tableswitch 143 2 10 #[51, 58, 65, 72, 89, 101, 113, 143, 125], 51) := by decide +kernel
theorem dX12_worked_52 : decode cX12_worked 52 = .ok (.lload_n 1, 1) := by decide +kernel
theorem dX12_worked_53 : decode cX12_worked 53 = .ok (.lload_n 3, 1) := by decide +kernel
theorem dX12_worked_54 : decode cX12_worked 54 = .ok (.ladd, 1) := by decide +kernel
theorem dX12_worked_55 : decode cX12_worked 55 = .ok (.invokestatic 220, 3) := by decide +kernel
theorem dX12_worked_58 : decode cX12_worked 58 = .ok (.ireturn, 1) := by decide +kernel
theorem dX12_worked_59 : decode cX12_worked 59 = .ok (.lload_n 1, 1) := by decide +kernel
theorem dX12_worked_60 : decode cX12_worked 60 = .ok (.lload_n 3, 1) := by decide +kernel
theorem dX12_worked_61 : decode cX12_worked 61 = .ok (.lsub, 1) := by decide +kernel
theorem dX12_worked_62 : decode cX12_worked 62 = .ok (.invokestatic 220, 3) := by decide +kernel
theorem dX12_worked_65 : decode cX12_worked 65 = .ok (.ireturn, 1) := by decide +kernel
theorem dX12_worked_66 : decode cX12_worked 66 = .ok (.lload_n 1, 1) := by decide +kernel
theorem dX12_worked_67 : decode cX12_worked 67 = .ok (.lload_n 3, 1) := by decide +kernel
theorem dX12_worked_68 : decode cX12_worked 68 = .ok (.lmul, 1) := by decide +kernel
theorem dX12_worked_69 : decode cX12_worked 69 = .ok (.invokestatic 220, 3) := by decide +kernel
theorem dX12_worked_72 : decode cX12_worked 72 = .ok (.ireturn, 1) := by decide +kernel
theorem dX12_worked_73 : decode cX12_worked 73 = .ok (.lload_n 3, 1) := by decide +kernel
theorem dX12_worked_74 : decode cX12_worked 74 = .ok (.lconst 0, 1) := by decide +kernel
theorem dX12_worked_75 : decode cX12_worked 75 = .ok (.lcmp, 1) := by decide +kernel
theorem dX12_worked_76 : decode cX12_worked 76 = .ok (.ifCond .ne 7, 3) := by decide +kernel
theorem dX12_worked_79 : decode cX12_worked 79 = .ok (.iconst 0, 1) := by decide +kernel
theorem dX12_worked_80 : decode cX12_worked 80 = .ok (.goto 9, 3) := by decide +kernel
theorem dX12_worked_83 : decode cX12_worked 83 = .ok (.lload_n 1, 1) := by decide +kernel
theorem dX12_worked_84 : decode cX12_worked 84 = .ok (.lload_n 3, 1) := by decide +kernel
theorem dX12_worked_85 : decode cX12_worked 85 = .ok (.ldiv, 1) := by decide +kernel
theorem dX12_worked_86 : decode cX12_worked 86 = .ok (.invokestatic 220, 3) := by decide +kernel
theorem dX12_worked_89 : decode cX12_worked 89 = .ok (.ireturn, 1) := by decide +kernel
theorem dX12_worked_90 : decode cX12_worked 90 = .ok (.lload_n 1, 1) := by decide +kernel
theorem dX12_worked_91 : decode cX12_worked 91 = .ok (.lload_n 3, 1) := by decide +kernel
theorem dX12_worked_92 : decode cX12_worked 92 = .ok (.lcmp, 1) := by decide +kernel
theorem dX12_worked_93 : decode cX12_worked 93 = .ok (.ifCond .ne 7, 3) := by decide +kernel
theorem dX12_worked_96 : decode cX12_worked 96 = .ok (.iconst 1, 1) := by decide +kernel
theorem dX12_worked_97 : decode cX12_worked 97 = .ok (.goto 4, 3) := by decide +kernel
theorem dX12_worked_100 : decode cX12_worked 100 = .ok (.iconst 0, 1) := by decide +kernel
theorem dX12_worked_101 : decode cX12_worked 101 = .ok (.ireturn, 1) := by decide +kernel
theorem dX12_worked_102 : decode cX12_worked 102 = .ok (.lload_n 1, 1) := by decide +kernel
theorem dX12_worked_103 : decode cX12_worked 103 = .ok (.lload_n 3, 1) := by decide +kernel
theorem dX12_worked_104 : decode cX12_worked 104 = .ok (.lcmp, 1) := by decide +kernel
theorem dX12_worked_105 : decode cX12_worked 105 = .ok (.ifCond .ge 7, 3) := by decide +kernel
theorem dX12_worked_108 : decode cX12_worked 108 = .ok (.iconst 1, 1) := by decide +kernel
theorem dX12_worked_109 : decode cX12_worked 109 = .ok (.goto 4, 3) := by decide +kernel
theorem dX12_worked_112 : decode cX12_worked 112 = .ok (.iconst 0, 1) := by decide +kernel
theorem dX12_worked_113 : decode cX12_worked 113 = .ok (.ireturn, 1) := by decide +kernel
theorem dX12_worked_114 : decode cX12_worked 114 = .ok (.lload_n 1, 1) := by decide +kernel
theorem dX12_worked_115 : decode cX12_worked 115 = .ok (.lload_n 3, 1) := by decide +kernel
theorem dX12_worked_116 : decode cX12_worked 116 = .ok (.lcmp, 1) := by decide +kernel
theorem dX12_worked_117 : decode cX12_worked 117 = .ok (.ifCond .le 7, 3) := by decide +kernel
theorem dX12_worked_120 : decode cX12_worked 120 = .ok (.iconst 1, 1) := by decide +kernel
theorem dX12_worked_121 : decode cX12_worked 121 = .ok (.goto 4, 3) := by decide +kernel
theorem dX12_worked_124 : decode cX12_worked 124 = .ok (.iconst 0, 1) := by decide +kernel
theorem dX12_worked_125 : decode cX12_worked 125 = .ok (.ireturn, 1) := by decide +kernel
theorem dX12_worked_126 : decode cX12_worked 126 = .ok (.lload_n 1, 1) := by decide +kernel
theorem dX12_worked_127 : decode cX12_worked 127 = .ok (.lconst 0, 1) := by decide +kernel
theorem dX12_worked_128 : decode cX12_worked 128 = .ok (.lcmp, 1) := by decide +kernel
theorem dX12_worked_129 : decode cX12_worked 129 = .ok (.ifCond .eq 13, 3) := by decide +kernel
theorem dX12_worked_132 : decode cX12_worked 132 = .ok (.lload_n 3, 1) := by decide +kernel
theorem dX12_worked_133 : decode cX12_worked 133 = .ok (.lconst 0, 1) := by decide +kernel
theorem dX12_worked_134 : decode cX12_worked 134 = .ok (.lcmp, 1) := by decide +kernel
theorem dX12_worked_135 : decode cX12_worked 135 = .ok (.ifCond .eq 7, 3) := by decide +kernel
theorem dX12_worked_138 : decode cX12_worked 138 = .ok (.iconst 1, 1) := by decide +kernel
theorem dX12_worked_139 : decode cX12_worked 139 = .ok (.goto 4, 3) := by decide +kernel
theorem dX12_worked_142 : decode cX12_worked 142 = .ok (.iconst 0, 1) := by decide +kernel
theorem dX12_worked_143 : decode cX12_worked 143 = .ok (.ireturn, 1) := by decide +kernel
theorem dX12_worked_144 : decode cX12_worked 144 = .ok (.lload_n 1, 1) := by decide +kernel
theorem dX12_worked_145 : decode cX12_worked 145 = .ok (.lconst 0, 1) := by decide +kernel
theorem dX12_worked_146 : decode cX12_worked 146 = .ok (.lcmp, 1) := by decide +kernel
theorem dX12_worked_147 : decode cX12_worked 147 = .ok (.ifCond .ne 9, 3) := by decide +kernel
theorem dX12_worked_150 : decode cX12_worked 150 = .ok (.lload_n 3, 1) := by decide +kernel
theorem dX12_worked_151 : decode cX12_worked 151 = .ok (.lconst 0, 1) := by decide +kernel
theorem dX12_worked_152 : decode cX12_worked 152 = .ok (.lcmp, 1) := by decide +kernel
theorem dX12_worked_153 : decode cX12_worked 153 = .ok (.ifCond .eq 7, 3) := by decide +kernel
theorem dX12_worked_156 : decode cX12_worked 156 = .ok (.iconst 1, 1) := by decide +kernel
theorem dX12_worked_157 : decode cX12_worked 157 = .ok (.goto 4, 3) := by decide +kernel
theorem dX12_worked_160 : decode cX12_worked 160 = .ok (.iconst 0, 1) := by decide +kernel
theorem dX12_worked_161 : decode cX12_worked 161 = .ok (.ireturn, 1) := by decide +kernel
def w_X12_in : List Cond := .code yX12_in cX12_in 3 (some .boolean) :: ([] ++ ([]))
set_option maxHeartbeats 4000000 in
set_option maxRecDepth 100000 in
theorem c_X12_in (l : Launch) (E : py_E) (G : wf_G) (L : List Nat) (f : py_F) (sz : Nat) (a : Int32) (b : Int32) (q : Int32) (hG : GT G) (hWF : WF E G L f) : Met l yX12_in w_X12_in ({ frames := 0, cells := 0, slots := 0, locals := 0 }) (py_Pc E [.int a, .int b, .int q] L f sz) (py_Qi E L f sz (fun r L1 f1 => (0 ≤ r.toInt ∧ r.toInt ≤ 1) ∧ (r.toInt ≠ 0 → b.toInt ≤ a.toInt ∧ a.toInt ≤ q.toInt) ∧ (r.toInt = 0 → a.toInt < b.toInt ∨ q.toInt < a.toInt) ∧ L = L1 ∧ f = f1)) 0 0 (va_A (va_pl L f) sz) := by
  refine Met.ofW (cc := cX12_in) (maxL := 3) (ret := (some .boolean)) (by decide) rfl ?_
  intro p e s m args below meth c s₁ B hml hv
  obtain ⟨rfl, rfl, hw⟩ := py_start hv
  have G0 : CallFix p m c cX12_in 3 s _ w_X12_in RX12 := ⟨B.exec, B.bytes, hml, findClass_of_methodNamed B.named, atoms_spec (ws := w_X12_in) B.pre⟩
  have hr := B.returns
  have hlk := B.notSynchronized
  have kcm1 : (-1 : Int32).toInt = -1 := rfl
  have kc0 : (0 : Int32).toInt = 0 := rfl
  have kc1 : (1 : Int32).toInt = 1 := rfl
  have hl := lv_entry ([.int a, .int b, .int q]) (n := 3) (Nat.le_of_ble_eq_true rfl)
  rw [lg_entry_eq]
  generalize (lg_sl ([.int a, .int b, .int q]) ++ List.replicate (3 - (lg_sl ([.int a, .int b, .int q])).length) Slot.unset).toArray = ls at hl ⊢
  have hl : lv_has ls 3 [(0, .int a), (1, .int b), (2, .int q)] := hl
  refine lv_iload_n G0.1 G0.2.1 dX12_in_0 rfl (lv_at hl 0 rfl) ?_
  refine lv_iload_n G0.1 G0.2.1 dX12_in_1 rfl (lv_at hl 1 rfl) ?_
  refine lv_icmp_lt (tgt := 14) G0.1 G0.2.1 dX12_in_2 (by decide) (fun c_1 => ?_) (fun c_1 => ?_)
  · skip
    have tc_1 := ti_lt c_1
    refine lv_iconst (v := 0) G0.1 G0.2.1 dX12_in_14 (by decide) ?_
    exact py_iret G0 hr rfl hlk hw ⟨⟨by omega, by omega⟩, (by first | omega | (intro q; omega)), (by first | omega | (intro q; omega)), rfl, rfl⟩ dX12_in_15
  · skip
    have tc_1 := ti_nlt c_1
    refine lv_iload_n G0.1 G0.2.1 dX12_in_5 rfl (lv_at hl 0 rfl) ?_
    refine lv_iload_n G0.1 G0.2.1 dX12_in_6 rfl (lv_at hl 2 rfl) ?_
    refine lv_icmp_gt (tgt := 14) G0.1 G0.2.1 dX12_in_7 (by decide) (fun c_2 => ?_) (fun c_2 => ?_)
    · skip
      have tc_2 := ti_lt c_2
      refine lv_iconst (v := 0) G0.1 G0.2.1 dX12_in_14 (by decide) ?_
      exact py_iret G0 hr rfl hlk hw ⟨⟨by omega, by omega⟩, (by first | omega | (intro q; omega)), (by first | omega | (intro q; omega)), rfl, rfl⟩ dX12_in_15
    · skip
      have tc_2 := ti_nlt c_2
      refine lv_iconst (v := 1) G0.1 G0.2.1 dX12_in_10 (by decide) ?_
      refine lv_goto (tgt := 15) G0.1 G0.2.1 dX12_in_11 (by decide) ?_
      exact py_iret G0 hr rfl hlk hw ⟨⟨by omega, by omega⟩, (by first | omega | (intro q; omega)), (by first | omega | (intro q; omega)), rfl, rfl⟩ dX12_in_15

def w_X12_has : List Cond := .code yX12_has cX12_has 2 (some .boolean) :: ([] ++ ([]))
set_option maxHeartbeats 4000000 in
set_option maxRecDepth 100000 in
theorem c_X12_has (l : Launch) (E : py_E) (G : wf_G) (L : List Nat) (f : py_F) (sz : Nat) (a : Int32) (b : Int32) (hG : GT G) (hWF : WF E G L f) : Met l yX12_has w_X12_has ({ frames := 0, cells := 0, slots := 0, locals := 0 }) (py_Pc E [.int a, .int b] L f sz) (py_Qi E L f sz (fun r L1 f1 => (0 ≤ r.toInt ∧ r.toInt ≤ 1) ∧ (r.toInt ≠ 0 → HB a b) ∧ (r.toInt = 0 → ¬ HB a b) ∧ L = L1 ∧ f = f1)) 0 0 (va_A (va_pl L f) sz) := by
  refine Met.ofW (cc := cX12_has) (maxL := 2) (ret := (some .boolean)) (by decide) rfl ?_
  intro p e s m args below meth c s₁ B hml hv
  obtain ⟨rfl, rfl, hw⟩ := py_start hv
  have G0 : CallFix p m c cX12_has 2 s _ w_X12_has RX12 := ⟨B.exec, B.bytes, hml, findClass_of_methodNamed B.named, atoms_spec (ws := w_X12_has) B.pre⟩
  have hr := B.returns
  have hlk := B.notSynchronized
  have kcm1 : (-1 : Int32).toInt = -1 := rfl
  have kc0 : (0 : Int32).toInt = 0 := rfl
  have kc1 : (1 : Int32).toInt = 1 := rfl
  have hl := lv_entry ([.int a, .int b]) (n := 2) (Nat.le_of_ble_eq_true rfl)
  rw [lg_entry_eq]
  generalize (lg_sl ([.int a, .int b]) ++ List.replicate (2 - (lg_sl ([.int a, .int b])).length) Slot.unset).toArray = ls at hl ⊢
  have hl : lv_has ls 2 [(0, .int a), (1, .int b)] := hl
  refine lv_iload_n G0.1 G0.2.1 dX12_has_0 rfl (lv_at hl 0 rfl) ?_
  refine lv_iload_n G0.1 G0.2.1 dX12_has_1 rfl (lv_at hl 1 rfl) ?_
  refine lv_ishr G0.1 G0.2.1 dX12_has_2 ?_
  refine lv_topi (fun x_1 ex_1 => ?_)
  refine lv_iconst (v := 1) G0.1 G0.2.1 dX12_has_3 (by decide) ?_
  refine lv_iand G0.1 G0.2.1 dX12_has_4 ?_
  refine lv_topi (fun x_2 ex_2 => ?_)
  refine lv_iconst (v := 1) G0.1 G0.2.1 dX12_has_5 (by decide) ?_
  refine lv_icmp_ne (tgt := 13) G0.1 G0.2.1 dX12_has_6 (by decide) (fun c_3 => ?_) (fun c_3 => ?_)
  · skip
    have tc_3 := ti_ne c_3
    refine lv_iconst (v := 0) G0.1 G0.2.1 dX12_has_13 (by decide) ?_
    exact py_iret G0 hr rfl hlk hw ⟨⟨by omega, by omega⟩, (fun q => absurd rfl q), (fun _ => by unfold HB; rw [← ex_1, ← ex_2]; exact c_3), rfl, rfl⟩ dX12_has_14
  · skip
    have tc_3 := ti_eq c_3
    refine lv_iconst (v := 1) G0.1 G0.2.1 dX12_has_9 (by decide) ?_
    refine lv_goto (tgt := 14) G0.1 G0.2.1 dX12_has_10 (by decide) ?_
    exact py_iret G0 hr rfl hlk hw ⟨⟨by omega, by omega⟩, (fun _ => by unfold HB; rw [← ex_1, ← ex_2]; exact c_3), (fun q => absurd q (by decide)), rfl, rfl⟩ dX12_has_14

def w_X12_isDigit : List Cond := .code yX12_isDigit cX12_isDigit 1 (some .boolean) :: ([] ++ ([]))
set_option maxHeartbeats 4000000 in
set_option maxRecDepth 100000 in
theorem c_X12_isDigit (l : Launch) (E : py_E) (G : wf_G) (L : List Nat) (f : py_F) (sz : Nat) (a : Int32) (hG : GT G) (hWF : WF E G L f) : Met l yX12_isDigit w_X12_isDigit ({ frames := 0, cells := 0, slots := 0, locals := 0 }) (py_Pc E [.int a] L f sz) (py_Qi E L f sz (fun r L1 f1 => (0 ≤ r.toInt ∧ r.toInt ≤ 1) ∧ (r.toInt ≠ 0 → 48 ≤ a.toInt ∧ a.toInt ≤ 57) ∧ (r.toInt = 0 → a.toInt < 48 ∨ 57 < a.toInt) ∧ L = L1 ∧ f = f1)) 0 0 (va_A (va_pl L f) sz) := by
  refine Met.ofW (cc := cX12_isDigit) (maxL := 1) (ret := (some .boolean)) (by decide) rfl ?_
  intro p e s m args below meth c s₁ B hml hv
  obtain ⟨rfl, rfl, hw⟩ := py_start hv
  have G0 : CallFix p m c cX12_isDigit 1 s _ w_X12_isDigit RX12 := ⟨B.exec, B.bytes, hml, findClass_of_methodNamed B.named, atoms_spec (ws := w_X12_isDigit) B.pre⟩
  have hr := B.returns
  have hlk := B.notSynchronized
  have kcm1 : (-1 : Int32).toInt = -1 := rfl
  have kc0 : (0 : Int32).toInt = 0 := rfl
  have kc1 : (1 : Int32).toInt = 1 := rfl
  have kc48 : (48 : Int32).toInt = 48 := rfl
  have kc57 : (57 : Int32).toInt = 57 := rfl
  have hl := lv_entry ([.int a]) (n := 1) (Nat.le_of_ble_eq_true rfl)
  rw [lg_entry_eq]
  generalize (lg_sl ([.int a]) ++ List.replicate (1 - (lg_sl ([.int a])).length) Slot.unset).toArray = ls at hl ⊢
  have hl : lv_has ls 1 [(0, .int a)] := hl
  refine lv_iload_n G0.1 G0.2.1 dX12_isDigit_0 rfl (lv_at hl 0 rfl) ?_
  refine lv_bipush (v := 48) G0.1 G0.2.1 dX12_isDigit_1 (by decide) ?_
  refine lv_icmp_lt (tgt := 16) G0.1 G0.2.1 dX12_isDigit_3 (by decide) (fun c_1 => ?_) (fun c_1 => ?_)
  · skip
    have tc_1 := ti_lt c_1
    refine lv_iconst (v := 0) G0.1 G0.2.1 dX12_isDigit_16 (by decide) ?_
    exact py_iret G0 hr rfl hlk hw ⟨⟨by omega, by omega⟩, (by first | omega | (intro q; omega)), (by first | omega | (intro q; omega)), rfl, rfl⟩ dX12_isDigit_17
  · skip
    have tc_1 := ti_nlt c_1
    refine lv_iload_n G0.1 G0.2.1 dX12_isDigit_6 rfl (lv_at hl 0 rfl) ?_
    refine lv_bipush (v := 57) G0.1 G0.2.1 dX12_isDigit_7 (by decide) ?_
    refine lv_icmp_gt (tgt := 16) G0.1 G0.2.1 dX12_isDigit_9 (by decide) (fun c_2 => ?_) (fun c_2 => ?_)
    · skip
      have tc_2 := ti_lt c_2
      refine lv_iconst (v := 0) G0.1 G0.2.1 dX12_isDigit_16 (by decide) ?_
      exact py_iret G0 hr rfl hlk hw ⟨⟨by omega, by omega⟩, (by first | omega | (intro q; omega)), (by first | omega | (intro q; omega)), rfl, rfl⟩ dX12_isDigit_17
    · skip
      have tc_2 := ti_nlt c_2
      refine lv_iconst (v := 1) G0.1 G0.2.1 dX12_isDigit_12 (by decide) ?_
      refine lv_goto (tgt := 17) G0.1 G0.2.1 dX12_isDigit_13 (by decide) ?_
      exact py_iret G0 hr rfl hlk hw ⟨⟨by omega, by omega⟩, (by first | omega | (intro q; omega)), (by first | omega | (intro q; omega)), rfl, rfl⟩ dX12_isDigit_17

def w_X12_letterOf : List Cond := .code yX12_letterOf cX12_letterOf 1 (some .int) :: ([] ++ ([]))
set_option maxHeartbeats 4000000 in
set_option maxRecDepth 100000 in
theorem c_X12_letterOf (l : Launch) (E : py_E) (G : wf_G) (L : List Nat) (f : py_F) (sz : Nat) (a : Int32) (hG : GT G) (hWF : WF E G L f) : Met l yX12_letterOf w_X12_letterOf ({ frames := 0, cells := 0, slots := 0, locals := 0 }) (py_Pc E [.int a] L f sz) (py_Qi E L f sz (fun r L1 f1 => ((-1) ≤ r.toInt ∧ r.toInt ≤ 5) ∧ (r.toInt ≠ -1 → a.toInt ≠ -1 ∧ (a.toInt = 98 ∨ a.toInt = 100 ∨ a.toInt = 112 ∨ a.toInt = 104 ∨ a.toInt = 111 ∨ a.toInt = 121)) ∧ (r.toInt = -1 → a.toInt ≠ 98 ∧ a.toInt ≠ 100 ∧ a.toInt ≠ 112 ∧ a.toInt ≠ 104 ∧ a.toInt ≠ 111 ∧ a.toInt ≠ 121) ∧ L = L1 ∧ f = f1)) 0 0 (va_A (va_pl L f) sz) := by
  refine Met.ofW (cc := cX12_letterOf) (maxL := 1) (ret := (some .int)) (by decide) rfl ?_
  intro p e s m args below meth c s₁ B hml hv
  obtain ⟨rfl, rfl, hw⟩ := py_start hv
  have G0 : CallFix p m c cX12_letterOf 1 s _ w_X12_letterOf RX12 := ⟨B.exec, B.bytes, hml, findClass_of_methodNamed B.named, atoms_spec (ws := w_X12_letterOf) B.pre⟩
  have hr := B.returns
  have hlk := B.notSynchronized
  have kcm1 : (-1 : Int32).toInt = -1 := rfl
  have kc0 : (0 : Int32).toInt = 0 := rfl
  have kc1 : (1 : Int32).toInt = 1 := rfl
  have kc2 : (2 : Int32).toInt = 2 := rfl
  have kc3 : (3 : Int32).toInt = 3 := rfl
  have kc4 : (4 : Int32).toInt = 4 := rfl
  have kc5 : (5 : Int32).toInt = 5 := rfl
  have kc98 : (98 : Int32).toInt = 98 := rfl
  have kc100 : (100 : Int32).toInt = 100 := rfl
  have kc104 : (104 : Int32).toInt = 104 := rfl
  have kc111 : (111 : Int32).toInt = 111 := rfl
  have kc112 : (112 : Int32).toInt = 112 := rfl
  have kc121 : (121 : Int32).toInt = 121 := rfl
  have hl := lv_entry ([.int a]) (n := 1) (Nat.le_of_ble_eq_true rfl)
  rw [lg_entry_eq]
  generalize (lg_sl ([.int a]) ++ List.replicate (1 - (lg_sl ([.int a])).length) Slot.unset).toArray = ls at hl ⊢
  have hl : lv_has ls 1 [(0, .int a)] := hl
  refine lv_iload_n G0.1 G0.2.1 dX12_letterOf_0 rfl (lv_at hl 0 rfl) ?_
  refine lv_bipush (v := 98) G0.1 G0.2.1 dX12_letterOf_1 (by decide) ?_
  refine lv_icmp_ne (tgt := 10) G0.1 G0.2.1 dX12_letterOf_3 (by decide) (fun c_1 => ?_) (fun c_1 => ?_)
  · skip
    have tc_1 := ti_ne c_1
    refine lv_iload_n G0.1 G0.2.1 dX12_letterOf_10 rfl (lv_at hl 0 rfl) ?_
    refine lv_bipush (v := 100) G0.1 G0.2.1 dX12_letterOf_11 (by decide) ?_
    refine lv_icmp_ne (tgt := 20) G0.1 G0.2.1 dX12_letterOf_13 (by decide) (fun c_2 => ?_) (fun c_2 => ?_)
    · skip
      have tc_2 := ti_ne c_2
      refine lv_iload_n G0.1 G0.2.1 dX12_letterOf_20 rfl (lv_at hl 0 rfl) ?_
      refine lv_bipush (v := 112) G0.1 G0.2.1 dX12_letterOf_21 (by decide) ?_
      refine lv_icmp_ne (tgt := 30) G0.1 G0.2.1 dX12_letterOf_23 (by decide) (fun c_3 => ?_) (fun c_3 => ?_)
      · skip
        have tc_3 := ti_ne c_3
        refine lv_iload_n G0.1 G0.2.1 dX12_letterOf_30 rfl (lv_at hl 0 rfl) ?_
        refine lv_bipush (v := 104) G0.1 G0.2.1 dX12_letterOf_31 (by decide) ?_
        refine lv_icmp_ne (tgt := 40) G0.1 G0.2.1 dX12_letterOf_33 (by decide) (fun c_4 => ?_) (fun c_4 => ?_)
        · skip
          have tc_4 := ti_ne c_4
          refine lv_iload_n G0.1 G0.2.1 dX12_letterOf_40 rfl (lv_at hl 0 rfl) ?_
          refine lv_bipush (v := 111) G0.1 G0.2.1 dX12_letterOf_41 (by decide) ?_
          refine lv_icmp_ne (tgt := 50) G0.1 G0.2.1 dX12_letterOf_43 (by decide) (fun c_5 => ?_) (fun c_5 => ?_)
          · skip
            have tc_5 := ti_ne c_5
            refine lv_iload_n G0.1 G0.2.1 dX12_letterOf_50 rfl (lv_at hl 0 rfl) ?_
            refine lv_bipush (v := 121) G0.1 G0.2.1 dX12_letterOf_51 (by decide) ?_
            refine lv_icmp_ne (tgt := 60) G0.1 G0.2.1 dX12_letterOf_53 (by decide) (fun c_6 => ?_) (fun c_6 => ?_)
            · skip
              have tc_6 := ti_ne c_6
              refine lv_iconst (v := (-1)) G0.1 G0.2.1 dX12_letterOf_60 (by decide) ?_
              exact py_iret G0 hr rfl hlk hw ⟨⟨by omega, by omega⟩, (by first | omega | (intro q; omega)), (by first | omega | (intro q; omega)), rfl, rfl⟩ dX12_letterOf_61
            · skip
              have tc_6 := ti_eq c_6
              refine lv_iconst (v := 5) G0.1 G0.2.1 dX12_letterOf_56 (by decide) ?_
              refine lv_goto (tgt := 61) G0.1 G0.2.1 dX12_letterOf_57 (by decide) ?_
              exact py_iret G0 hr rfl hlk hw ⟨⟨by omega, by omega⟩, (by first | omega | (intro q; omega)), (by first | omega | (intro q; omega)), rfl, rfl⟩ dX12_letterOf_61
          · skip
            have tc_5 := ti_eq c_5
            refine lv_iconst (v := 4) G0.1 G0.2.1 dX12_letterOf_46 (by decide) ?_
            refine lv_goto (tgt := 61) G0.1 G0.2.1 dX12_letterOf_47 (by decide) ?_
            exact py_iret G0 hr rfl hlk hw ⟨⟨by omega, by omega⟩, (by first | omega | (intro q; omega)), (by first | omega | (intro q; omega)), rfl, rfl⟩ dX12_letterOf_61
        · skip
          have tc_4 := ti_eq c_4
          refine lv_iconst (v := 3) G0.1 G0.2.1 dX12_letterOf_36 (by decide) ?_
          refine lv_goto (tgt := 61) G0.1 G0.2.1 dX12_letterOf_37 (by decide) ?_
          exact py_iret G0 hr rfl hlk hw ⟨⟨by omega, by omega⟩, (by first | omega | (intro q; omega)), (by first | omega | (intro q; omega)), rfl, rfl⟩ dX12_letterOf_61
      · skip
        have tc_3 := ti_eq c_3
        refine lv_iconst (v := 2) G0.1 G0.2.1 dX12_letterOf_26 (by decide) ?_
        refine lv_goto (tgt := 61) G0.1 G0.2.1 dX12_letterOf_27 (by decide) ?_
        exact py_iret G0 hr rfl hlk hw ⟨⟨by omega, by omega⟩, (by first | omega | (intro q; omega)), (by first | omega | (intro q; omega)), rfl, rfl⟩ dX12_letterOf_61
    · skip
      have tc_2 := ti_eq c_2
      refine lv_iconst (v := 1) G0.1 G0.2.1 dX12_letterOf_16 (by decide) ?_
      refine lv_goto (tgt := 61) G0.1 G0.2.1 dX12_letterOf_17 (by decide) ?_
      exact py_iret G0 hr rfl hlk hw ⟨⟨by omega, by omega⟩, (by first | omega | (intro q; omega)), (by first | omega | (intro q; omega)), rfl, rfl⟩ dX12_letterOf_61
  · skip
    have tc_1 := ti_eq c_1
    refine lv_iconst (v := 0) G0.1 G0.2.1 dX12_letterOf_6 (by decide) ?_
    refine lv_goto (tgt := 61) G0.1 G0.2.1 dX12_letterOf_7 (by decide) ?_
    exact py_iret G0 hr rfl hlk hw ⟨⟨by omega, by omega⟩, (by first | omega | (intro q; omega)), (by first | omega | (intro q; omega)), rfl, rfl⟩ dX12_letterOf_61

def w_X12_isSign : List Cond := .code yX12_isSign cX12_isSign 1 (some .boolean) :: ([] ++ ([]))
set_option maxHeartbeats 4000000 in
set_option maxRecDepth 100000 in
theorem c_X12_isSign (l : Launch) (E : py_E) (G : wf_G) (L : List Nat) (f : py_F) (sz : Nat) (a : Int32) (hG : GT G) (hWF : WF E G L f) : Met l yX12_isSign w_X12_isSign ({ frames := 0, cells := 0, slots := 0, locals := 0 }) (py_Pc E [.int a] L f sz) (py_Qi E L f sz (fun r L1 f1 => (0 ≤ r.toInt ∧ r.toInt ≤ 1) ∧ (r.toInt ≠ 0 → a.toInt ≠ -1 ∧ (a.toInt = 61 ∨ a.toInt = 60 ∨ a.toInt = 62)) ∧ (r.toInt = 0 → a.toInt ≠ 61 ∧ a.toInt ≠ 60 ∧ a.toInt ≠ 62) ∧ L = L1 ∧ f = f1)) 0 0 (va_A (va_pl L f) sz) := by
  refine Met.ofW (cc := cX12_isSign) (maxL := 1) (ret := (some .boolean)) (by decide) rfl ?_
  intro p e s m args below meth c s₁ B hml hv
  obtain ⟨rfl, rfl, hw⟩ := py_start hv
  have G0 : CallFix p m c cX12_isSign 1 s _ w_X12_isSign RX12 := ⟨B.exec, B.bytes, hml, findClass_of_methodNamed B.named, atoms_spec (ws := w_X12_isSign) B.pre⟩
  have hr := B.returns
  have hlk := B.notSynchronized
  have kcm1 : (-1 : Int32).toInt = -1 := rfl
  have kc0 : (0 : Int32).toInt = 0 := rfl
  have kc1 : (1 : Int32).toInt = 1 := rfl
  have kc60 : (60 : Int32).toInt = 60 := rfl
  have kc61 : (61 : Int32).toInt = 61 := rfl
  have kc62 : (62 : Int32).toInt = 62 := rfl
  have hl := lv_entry ([.int a]) (n := 1) (Nat.le_of_ble_eq_true rfl)
  rw [lg_entry_eq]
  generalize (lg_sl ([.int a]) ++ List.replicate (1 - (lg_sl ([.int a])).length) Slot.unset).toArray = ls at hl ⊢
  have hl : lv_has ls 1 [(0, .int a)] := hl
  refine lv_iload_n G0.1 G0.2.1 dX12_isSign_0 rfl (lv_at hl 0 rfl) ?_
  refine lv_bipush (v := 61) G0.1 G0.2.1 dX12_isSign_1 (by decide) ?_
  refine lv_icmp_eq (tgt := 18) G0.1 G0.2.1 dX12_isSign_3 (by decide) (fun c_1 => ?_) (fun c_1 => ?_)
  · skip
    have tc_1 := ti_eq c_1
    refine lv_iconst (v := 1) G0.1 G0.2.1 dX12_isSign_18 (by decide) ?_
    refine lv_goto (tgt := 23) G0.1 G0.2.1 dX12_isSign_19 (by decide) ?_
    exact py_iret G0 hr rfl hlk hw ⟨⟨by omega, by omega⟩, (by first | omega | (intro q; omega)), (by first | omega | (intro q; omega)), rfl, rfl⟩ dX12_isSign_23
  · skip
    have tc_1 := ti_ne c_1
    refine lv_iload_n G0.1 G0.2.1 dX12_isSign_6 rfl (lv_at hl 0 rfl) ?_
    refine lv_bipush (v := 60) G0.1 G0.2.1 dX12_isSign_7 (by decide) ?_
    refine lv_icmp_eq (tgt := 18) G0.1 G0.2.1 dX12_isSign_9 (by decide) (fun c_2 => ?_) (fun c_2 => ?_)
    · skip
      have tc_2 := ti_eq c_2
      refine lv_iconst (v := 1) G0.1 G0.2.1 dX12_isSign_18 (by decide) ?_
      refine lv_goto (tgt := 23) G0.1 G0.2.1 dX12_isSign_19 (by decide) ?_
      exact py_iret G0 hr rfl hlk hw ⟨⟨by omega, by omega⟩, (by first | omega | (intro q; omega)), (by first | omega | (intro q; omega)), rfl, rfl⟩ dX12_isSign_23
    · skip
      have tc_2 := ti_ne c_2
      refine lv_iload_n G0.1 G0.2.1 dX12_isSign_12 rfl (lv_at hl 0 rfl) ?_
      refine lv_bipush (v := 62) G0.1 G0.2.1 dX12_isSign_13 (by decide) ?_
      refine lv_icmp_ne (tgt := 22) G0.1 G0.2.1 dX12_isSign_15 (by decide) (fun c_3 => ?_) (fun c_3 => ?_)
      · skip
        have tc_3 := ti_ne c_3
        refine lv_iconst (v := 0) G0.1 G0.2.1 dX12_isSign_22 (by decide) ?_
        exact py_iret G0 hr rfl hlk hw ⟨⟨by omega, by omega⟩, (by first | omega | (intro q; omega)), (by first | omega | (intro q; omega)), rfl, rfl⟩ dX12_isSign_23
      · skip
        have tc_3 := ti_eq c_3
        refine lv_iconst (v := 1) G0.1 G0.2.1 dX12_isSign_18 (by decide) ?_
        refine lv_goto (tgt := 23) G0.1 G0.2.1 dX12_isSign_19 (by decide) ?_
        exact py_iret G0 hr rfl hlk hw ⟨⟨by omega, by omega⟩, (by first | omega | (intro q; omega)), (by first | omega | (intro q; omega)), rfl, rfl⟩ dX12_isSign_23

def w_X12_levelItem : List Cond := .code yX12_levelItem cX12_levelItem 1 (some .int) :: ([] ++ ([]))
set_option maxHeartbeats 4000000 in
set_option maxRecDepth 100000 in
theorem c_X12_levelItem (l : Launch) (E : py_E) (G : wf_G) (L : List Nat) (f : py_F) (sz : Nat) (a : Int32) (hG : GT G) (hWF : WF E G L f) : Met l yX12_levelItem w_X12_levelItem ({ frames := 0, cells := 0, slots := 0, locals := 0 }) (py_Pc E [.int a] L f sz) (py_Qi E L f sz (fun r L1 f1 => ((-1) ≤ r.toInt ∧ r.toInt ≤ 3) ∧ (r.toInt ≠ -1 → a.toInt ≠ -1) ∧ ((r.toInt = 0 ↔ a.toInt = 104) ∧ (r.toInt = 1 ↔ a.toInt = 102) ∧ (r.toInt = 2 ↔ a.toInt = 100) ∧ (r.toInt = 3 ↔ a.toInt = 115)) ∧ L = L1 ∧ f = f1)) 0 0 (va_A (va_pl L f) sz) := by
  refine Met.ofW (cc := cX12_levelItem) (maxL := 1) (ret := (some .int)) (by decide) rfl ?_
  intro p e s m args below meth c s₁ B hml hv
  obtain ⟨rfl, rfl, hw⟩ := py_start hv
  have G0 : CallFix p m c cX12_levelItem 1 s _ w_X12_levelItem RX12 := ⟨B.exec, B.bytes, hml, findClass_of_methodNamed B.named, atoms_spec (ws := w_X12_levelItem) B.pre⟩
  have hr := B.returns
  have hlk := B.notSynchronized
  have kcm1 : (-1 : Int32).toInt = -1 := rfl
  have kc0 : (0 : Int32).toInt = 0 := rfl
  have kc1 : (1 : Int32).toInt = 1 := rfl
  have kc2 : (2 : Int32).toInt = 2 := rfl
  have kc3 : (3 : Int32).toInt = 3 := rfl
  have kc100 : (100 : Int32).toInt = 100 := rfl
  have kc102 : (102 : Int32).toInt = 102 := rfl
  have kc104 : (104 : Int32).toInt = 104 := rfl
  have kc115 : (115 : Int32).toInt = 115 := rfl
  have hl := lv_entry ([.int a]) (n := 1) (Nat.le_of_ble_eq_true rfl)
  rw [lg_entry_eq]
  generalize (lg_sl ([.int a]) ++ List.replicate (1 - (lg_sl ([.int a])).length) Slot.unset).toArray = ls at hl ⊢
  have hl : lv_has ls 1 [(0, .int a)] := hl
  refine lv_iload_n G0.1 G0.2.1 dX12_levelItem_0 rfl (lv_at hl 0 rfl) ?_
  refine lv_bipush (v := 104) G0.1 G0.2.1 dX12_levelItem_1 (by decide) ?_
  refine lv_icmp_ne (tgt := 10) G0.1 G0.2.1 dX12_levelItem_3 (by decide) (fun c_1 => ?_) (fun c_1 => ?_)
  · skip
    have tc_1 := ti_ne c_1
    refine lv_iload_n G0.1 G0.2.1 dX12_levelItem_10 rfl (lv_at hl 0 rfl) ?_
    refine lv_bipush (v := 102) G0.1 G0.2.1 dX12_levelItem_11 (by decide) ?_
    refine lv_icmp_ne (tgt := 20) G0.1 G0.2.1 dX12_levelItem_13 (by decide) (fun c_2 => ?_) (fun c_2 => ?_)
    · skip
      have tc_2 := ti_ne c_2
      refine lv_iload_n G0.1 G0.2.1 dX12_levelItem_20 rfl (lv_at hl 0 rfl) ?_
      refine lv_bipush (v := 100) G0.1 G0.2.1 dX12_levelItem_21 (by decide) ?_
      refine lv_icmp_ne (tgt := 30) G0.1 G0.2.1 dX12_levelItem_23 (by decide) (fun c_3 => ?_) (fun c_3 => ?_)
      · skip
        have tc_3 := ti_ne c_3
        refine lv_iload_n G0.1 G0.2.1 dX12_levelItem_30 rfl (lv_at hl 0 rfl) ?_
        refine lv_bipush (v := 115) G0.1 G0.2.1 dX12_levelItem_31 (by decide) ?_
        refine lv_icmp_ne (tgt := 40) G0.1 G0.2.1 dX12_levelItem_33 (by decide) (fun c_4 => ?_) (fun c_4 => ?_)
        · skip
          have tc_4 := ti_ne c_4
          refine lv_iconst (v := (-1)) G0.1 G0.2.1 dX12_levelItem_40 (by decide) ?_
          exact py_iret G0 hr rfl hlk hw ⟨⟨by omega, by omega⟩, (by first | omega | (intro q; omega)), (by first | omega | (intro q; omega)), rfl, rfl⟩ dX12_levelItem_41
        · skip
          have tc_4 := ti_eq c_4
          refine lv_iconst (v := 3) G0.1 G0.2.1 dX12_levelItem_36 (by decide) ?_
          refine lv_goto (tgt := 41) G0.1 G0.2.1 dX12_levelItem_37 (by decide) ?_
          exact py_iret G0 hr rfl hlk hw ⟨⟨by omega, by omega⟩, (by first | omega | (intro q; omega)), (by first | omega | (intro q; omega)), rfl, rfl⟩ dX12_levelItem_41
      · skip
        have tc_3 := ti_eq c_3
        refine lv_iconst (v := 2) G0.1 G0.2.1 dX12_levelItem_26 (by decide) ?_
        refine lv_goto (tgt := 41) G0.1 G0.2.1 dX12_levelItem_27 (by decide) ?_
        exact py_iret G0 hr rfl hlk hw ⟨⟨by omega, by omega⟩, (by first | omega | (intro q; omega)), (by first | omega | (intro q; omega)), rfl, rfl⟩ dX12_levelItem_41
    · skip
      have tc_2 := ti_eq c_2
      refine lv_iconst (v := 1) G0.1 G0.2.1 dX12_levelItem_16 (by decide) ?_
      refine lv_goto (tgt := 41) G0.1 G0.2.1 dX12_levelItem_17 (by decide) ?_
      exact py_iret G0 hr rfl hlk hw ⟨⟨by omega, by omega⟩, (by first | omega | (intro q; omega)), (by first | omega | (intro q; omega)), rfl, rfl⟩ dX12_levelItem_41
  · skip
    have tc_1 := ti_eq c_1
    refine lv_iconst (v := 0) G0.1 G0.2.1 dX12_levelItem_6 (by decide) ?_
    refine lv_goto (tgt := 41) G0.1 G0.2.1 dX12_levelItem_7 (by decide) ?_
    exact py_iret G0 hr rfl hlk hw ⟨⟨by omega, by omega⟩, (by first | omega | (intro q; omega)), (by first | omega | (intro q; omega)), rfl, rfl⟩ dX12_levelItem_41

def w_X12_familyItem : List Cond := .code yX12_familyItem cX12_familyItem 1 (some .int) :: ([] ++ ([]))
set_option maxHeartbeats 4000000 in
set_option maxRecDepth 100000 in
theorem c_X12_familyItem (l : Launch) (E : py_E) (G : wf_G) (L : List Nat) (f : py_F) (sz : Nat) (a : Int32) (hG : GT G) (hWF : WF E G L f) : Met l yX12_familyItem w_X12_familyItem ({ frames := 0, cells := 0, slots := 0, locals := 0 }) (py_Pc E [.int a] L f sz) (py_Qi E L f sz (fun r L1 f1 => ((-1) ≤ r.toInt ∧ r.toInt ≤ 3) ∧ (r.toInt ≠ -1 → a.toInt ≠ -1) ∧ ((r.toInt = 0 ↔ a.toInt = 112) ∧ (r.toInt = 1 ↔ a.toInt = 97) ∧ (r.toInt = 2 ↔ a.toInt = 98) ∧ (r.toInt = 3 ↔ a.toInt = 116)) ∧ L = L1 ∧ f = f1)) 0 0 (va_A (va_pl L f) sz) := by
  refine Met.ofW (cc := cX12_familyItem) (maxL := 1) (ret := (some .int)) (by decide) rfl ?_
  intro p e s m args below meth c s₁ B hml hv
  obtain ⟨rfl, rfl, hw⟩ := py_start hv
  have G0 : CallFix p m c cX12_familyItem 1 s _ w_X12_familyItem RX12 := ⟨B.exec, B.bytes, hml, findClass_of_methodNamed B.named, atoms_spec (ws := w_X12_familyItem) B.pre⟩
  have hr := B.returns
  have hlk := B.notSynchronized
  have kcm1 : (-1 : Int32).toInt = -1 := rfl
  have kc0 : (0 : Int32).toInt = 0 := rfl
  have kc1 : (1 : Int32).toInt = 1 := rfl
  have kc2 : (2 : Int32).toInt = 2 := rfl
  have kc3 : (3 : Int32).toInt = 3 := rfl
  have kc97 : (97 : Int32).toInt = 97 := rfl
  have kc98 : (98 : Int32).toInt = 98 := rfl
  have kc112 : (112 : Int32).toInt = 112 := rfl
  have kc116 : (116 : Int32).toInt = 116 := rfl
  have hl := lv_entry ([.int a]) (n := 1) (Nat.le_of_ble_eq_true rfl)
  rw [lg_entry_eq]
  generalize (lg_sl ([.int a]) ++ List.replicate (1 - (lg_sl ([.int a])).length) Slot.unset).toArray = ls at hl ⊢
  have hl : lv_has ls 1 [(0, .int a)] := hl
  refine lv_iload_n G0.1 G0.2.1 dX12_familyItem_0 rfl (lv_at hl 0 rfl) ?_
  refine lv_bipush (v := 112) G0.1 G0.2.1 dX12_familyItem_1 (by decide) ?_
  refine lv_icmp_ne (tgt := 10) G0.1 G0.2.1 dX12_familyItem_3 (by decide) (fun c_1 => ?_) (fun c_1 => ?_)
  · skip
    have tc_1 := ti_ne c_1
    refine lv_iload_n G0.1 G0.2.1 dX12_familyItem_10 rfl (lv_at hl 0 rfl) ?_
    refine lv_bipush (v := 97) G0.1 G0.2.1 dX12_familyItem_11 (by decide) ?_
    refine lv_icmp_ne (tgt := 20) G0.1 G0.2.1 dX12_familyItem_13 (by decide) (fun c_2 => ?_) (fun c_2 => ?_)
    · skip
      have tc_2 := ti_ne c_2
      refine lv_iload_n G0.1 G0.2.1 dX12_familyItem_20 rfl (lv_at hl 0 rfl) ?_
      refine lv_bipush (v := 98) G0.1 G0.2.1 dX12_familyItem_21 (by decide) ?_
      refine lv_icmp_ne (tgt := 30) G0.1 G0.2.1 dX12_familyItem_23 (by decide) (fun c_3 => ?_) (fun c_3 => ?_)
      · skip
        have tc_3 := ti_ne c_3
        refine lv_iload_n G0.1 G0.2.1 dX12_familyItem_30 rfl (lv_at hl 0 rfl) ?_
        refine lv_bipush (v := 116) G0.1 G0.2.1 dX12_familyItem_31 (by decide) ?_
        refine lv_icmp_ne (tgt := 40) G0.1 G0.2.1 dX12_familyItem_33 (by decide) (fun c_4 => ?_) (fun c_4 => ?_)
        · skip
          have tc_4 := ti_ne c_4
          refine lv_iconst (v := (-1)) G0.1 G0.2.1 dX12_familyItem_40 (by decide) ?_
          exact py_iret G0 hr rfl hlk hw ⟨⟨by omega, by omega⟩, (by first | omega | (intro q; omega)), (by first | omega | (intro q; omega)), rfl, rfl⟩ dX12_familyItem_41
        · skip
          have tc_4 := ti_eq c_4
          refine lv_iconst (v := 3) G0.1 G0.2.1 dX12_familyItem_36 (by decide) ?_
          refine lv_goto (tgt := 41) G0.1 G0.2.1 dX12_familyItem_37 (by decide) ?_
          exact py_iret G0 hr rfl hlk hw ⟨⟨by omega, by omega⟩, (by first | omega | (intro q; omega)), (by first | omega | (intro q; omega)), rfl, rfl⟩ dX12_familyItem_41
      · skip
        have tc_3 := ti_eq c_3
        refine lv_iconst (v := 2) G0.1 G0.2.1 dX12_familyItem_26 (by decide) ?_
        refine lv_goto (tgt := 41) G0.1 G0.2.1 dX12_familyItem_27 (by decide) ?_
        exact py_iret G0 hr rfl hlk hw ⟨⟨by omega, by omega⟩, (by first | omega | (intro q; omega)), (by first | omega | (intro q; omega)), rfl, rfl⟩ dX12_familyItem_41
    · skip
      have tc_2 := ti_eq c_2
      refine lv_iconst (v := 1) G0.1 G0.2.1 dX12_familyItem_16 (by decide) ?_
      refine lv_goto (tgt := 41) G0.1 G0.2.1 dX12_familyItem_17 (by decide) ?_
      exact py_iret G0 hr rfl hlk hw ⟨⟨by omega, by omega⟩, (by first | omega | (intro q; omega)), (by first | omega | (intro q; omega)), rfl, rfl⟩ dX12_familyItem_41
  · skip
    have tc_1 := ti_eq c_1
    refine lv_iconst (v := 0) G0.1 G0.2.1 dX12_familyItem_6 (by decide) ?_
    refine lv_goto (tgt := 41) G0.1 G0.2.1 dX12_familyItem_7 (by decide) ?_
    exact py_iret G0 hr rfl hlk hw ⟨⟨by omega, by omega⟩, (by first | omega | (intro q; omega)), (by first | omega | (intro q; omega)), rfl, rfl⟩ dX12_familyItem_41

def w_X12_lowest : List Cond := .code yX12_lowest cX12_lowest 2 (some .int) :: ([] ++ ([]))
set_option maxHeartbeats 4000000 in
set_option maxRecDepth 100000 in
theorem c_X12_lowest (l : Launch) (E : py_E) (G : wf_G) (L : List Nat) (f : py_F) (sz : Nat) (a : Int32) (b : Int32) (hG : GT G) (hWF : WF E G L f) : Met l yX12_lowest w_X12_lowest ({ frames := 0, cells := 0, slots := 0, locals := 0 }) (py_Pc E [.int a, .int b] L f sz) (py_Qi E L f sz (fun r L1 f1 => (0 ≤ r.toInt ∧ r.toInt ≤ 1) ∧ L = L1 ∧ f = f1)) 0 0 (va_A (va_pl L f) sz) := by
  refine Met.ofW (cc := cX12_lowest) (maxL := 2) (ret := (some .int)) (by decide) rfl ?_
  intro p e s m args below meth c s₁ B hml hv
  obtain ⟨rfl, rfl, hw⟩ := py_start hv
  have G0 : CallFix p m c cX12_lowest 2 s _ w_X12_lowest RX12 := ⟨B.exec, B.bytes, hml, findClass_of_methodNamed B.named, atoms_spec (ws := w_X12_lowest) B.pre⟩
  have hr := B.returns
  have hlk := B.notSynchronized
  have kcm1 : (-1 : Int32).toInt = -1 := rfl
  have kc0 : (0 : Int32).toInt = 0 := rfl
  have kc1 : (1 : Int32).toInt = 1 := rfl
  have hl := lv_entry ([.int a, .int b]) (n := 2) (Nat.le_of_ble_eq_true rfl)
  rw [lg_entry_eq]
  generalize (lg_sl ([.int a, .int b]) ++ List.replicate (2 - (lg_sl ([.int a, .int b])).length) Slot.unset).toArray = ls at hl ⊢
  have hl : lv_has ls 2 [(0, .int a), (1, .int b)] := hl
  refine lv_iload_n G0.1 G0.2.1 dX12_lowest_0 rfl (lv_at hl 1 rfl) ?_
  have jn_9 : ∀ (v_1 : Int32) (H_j9 : Heap) (locs : List Loc) (ls : Array Slot), (0 ≤ v_1.toInt ∧ v_1.toInt ≤ 1) → py_W E (va_A (va_pl L f) s.heap.size) s L f H_j9 locs → lv_has ls 2 [(0, .int a), (1, .int b)] → W p l e (headSpec w_X12_lowest ({ frames := 0, cells := 0, slots := 0, locals := 0 })).room s m ([.int a, .int b] : List Value).toArray below meth c H_j9 locs 0 0 (MQ below (py_Qi E L f s.heap.size (fun r L1 f1 => (0 ≤ r.toInt ∧ r.toInt ≤ 1) ∧ L = L1 ∧ f = f1)) ([.int a, .int b] : List Value).toArray s 0 0 (va_A (va_pl L f) s.heap.size)) (F0 m 9 ls [.int v_1]) := by
    intro v_1 H_j9 locs ls bv_1 hw hl
    exact py_iret G0 hr rfl hlk hw ⟨(by first | omega | (intro q; omega)), rfl, rfl⟩ dX12_lowest_9
  refine lv_if_ne (tgt := 8) G0.1 G0.2.1 dX12_lowest_1 (by decide) (fun c_2 => ?_) (fun c_2 => ?_)
  · skip
    have tc_2 := ti_ne c_2
    refine lv_iconst (v := 0) G0.1 G0.2.1 dX12_lowest_8 (by decide) ?_
    exact jn_9 0 _ _ ls ⟨by omega, by omega⟩ hw (lv_sub hl [0, 1] rfl)
  · skip
    have tc_2 := ti_eq c_2
    refine lv_iconst (v := 1) G0.1 G0.2.1 dX12_lowest_4 (by decide) ?_
    refine lv_goto (tgt := 9) G0.1 G0.2.1 dX12_lowest_5 (by decide) ?_
    exact jn_9 1 _ _ ls ⟨by omega, by omega⟩ hw (lv_sub hl [0, 1] rfl)

def w_X12_highest : List Cond := .code yX12_highest cX12_highest 2 (some .int) :: ([] ++ ([]))
set_option maxHeartbeats 4000000 in
set_option maxRecDepth 100000 in
theorem c_X12_highest (l : Launch) (E : py_E) (G : wf_G) (L : List Nat) (f : py_F) (sz : Nat) (a : Int32) (b : Int32) (hG : GT G) (hWF : WF E G L f) : Met l yX12_highest w_X12_highest ({ frames := 0, cells := 0, slots := 0, locals := 0 }) (py_Pc E [.int a, .int b] L f sz) (py_Qi E L f sz (fun r L1 f1 => (a.toInt = 0 → b.toInt = 0 → r.toInt ≤ 12) ∧ (a.toInt = 0 → b.toInt = 1 → r.toInt ≤ 7) ∧ L = L1 ∧ f = f1)) 0 0 (va_A (va_pl L f) sz) := by
  refine Met.ofW (cc := cX12_highest) (maxL := 2) (ret := (some .int)) (by decide) rfl ?_
  intro p e s m args below meth c s₁ B hml hv
  obtain ⟨rfl, rfl, hw⟩ := py_start hv
  have G0 : CallFix p m c cX12_highest 2 s _ w_X12_highest RX12 := ⟨B.exec, B.bytes, hml, findClass_of_methodNamed B.named, atoms_spec (ws := w_X12_highest) B.pre⟩
  have hr := B.returns
  have hlk := B.notSynchronized
  have kcm1 : (-1 : Int32).toInt = -1 := rfl
  have kc0 : (0 : Int32).toInt = 0 := rfl
  have kc1 : (1 : Int32).toInt = 1 := rfl
  have kc2 : (2 : Int32).toInt = 2 := rfl
  have kc4 : (4 : Int32).toInt = 4 := rfl
  have kc7 : (7 : Int32).toInt = 7 := rfl
  have kc12 : (12 : Int32).toInt = 12 := rfl
  have kc50 : (50 : Int32).toInt = 50 := rfl
  have kc99 : (99 : Int32).toInt = 99 := rfl
  have kc100 : (100 : Int32).toInt = 100 := rfl
  have hl := lv_entry ([.int a, .int b]) (n := 2) (Nat.le_of_ble_eq_true rfl)
  rw [lg_entry_eq]
  generalize (lg_sl ([.int a, .int b]) ++ List.replicate (2 - (lg_sl ([.int a, .int b])).length) Slot.unset).toArray = ls at hl ⊢
  have hl : lv_has ls 2 [(0, .int a), (1, .int b)] := hl
  refine lv_iload_n G0.1 G0.2.1 dX12_highest_0 rfl (lv_at hl 0 rfl) ?_
  refine lv_if_eq (tgt := 36) G0.1 G0.2.1 dX12_highest_1 (by decide) (fun c_1 => ?_) (fun c_1 => ?_)
  · skip
    have tc_1 := ti_eq c_1
    refine lv_iload_n G0.1 G0.2.1 dX12_highest_36 rfl (lv_at hl 1 rfl) ?_
    refine lv_if_ne (tgt := 45) G0.1 G0.2.1 dX12_highest_37 (by decide) (fun c_2 => ?_) (fun c_2 => ?_)
    · skip
      have tc_2 := ti_ne c_2
      refine lv_iload_n G0.1 G0.2.1 dX12_highest_45 rfl (lv_at hl 1 rfl) ?_
      refine lv_iconst (v := 1) G0.1 G0.2.1 dX12_highest_46 (by decide) ?_
      refine lv_icmp_ne (tgt := 55) G0.1 G0.2.1 dX12_highest_47 (by decide) (fun c_3 => ?_) (fun c_3 => ?_)
      · skip
        have tc_3 := ti_ne c_3
        refine lv_bipush (v := 100) G0.1 G0.2.1 dX12_highest_55 (by decide) ?_
        exact py_iret G0 hr rfl hlk hw ⟨(by first | omega | (intro q; omega)), (by first | omega | (intro q; omega)), rfl, rfl⟩ dX12_highest_57
      · skip
        have tc_3 := ti_eq c_3
        refine lv_bipush (v := 7) G0.1 G0.2.1 dX12_highest_50 (by decide) ?_
        refine lv_goto (tgt := 57) G0.1 G0.2.1 dX12_highest_52 (by decide) ?_
        exact py_iret G0 hr rfl hlk hw ⟨(by first | omega | (intro q; omega)), (by first | omega | (intro q; omega)), rfl, rfl⟩ dX12_highest_57
    · skip
      have tc_2 := ti_eq c_2
      refine lv_bipush (v := 12) G0.1 G0.2.1 dX12_highest_40 (by decide) ?_
      refine lv_goto (tgt := 57) G0.1 G0.2.1 dX12_highest_42 (by decide) ?_
      exact py_iret G0 hr rfl hlk hw ⟨(by first | omega | (intro q; omega)), (by first | omega | (intro q; omega)), rfl, rfl⟩ dX12_highest_57
  · skip
    have tc_1 := ti_ne c_1
    refine lv_iload_n G0.1 G0.2.1 dX12_highest_4 rfl (lv_at hl 1 rfl) ?_
    refine lv_if_ne (tgt := 12) G0.1 G0.2.1 dX12_highest_5 (by decide) (fun c_4 => ?_) (fun c_4 => ?_)
    · skip
      have tc_4 := ti_ne c_4
      refine lv_iload_n G0.1 G0.2.1 dX12_highest_12 rfl (lv_at hl 1 rfl) ?_
      refine lv_iconst (v := 1) G0.1 G0.2.1 dX12_highest_13 (by decide) ?_
      refine lv_icmp_ne (tgt := 22) G0.1 G0.2.1 dX12_highest_14 (by decide) (fun c_5 => ?_) (fun c_5 => ?_)
      · skip
        have tc_5 := ti_ne c_5
        refine lv_iload_n G0.1 G0.2.1 dX12_highest_22 rfl (lv_at hl 1 rfl) ?_
        refine lv_iconst (v := 2) G0.1 G0.2.1 dX12_highest_23 (by decide) ?_
        refine lv_icmp_ne (tgt := 32) G0.1 G0.2.1 dX12_highest_24 (by decide) (fun c_6 => ?_) (fun c_6 => ?_)
        · skip
          have tc_6 := ti_ne c_6
          refine lv_iconst (v := 1) G0.1 G0.2.1 dX12_highest_32 (by decide) ?_
          refine lv_goto (tgt := 57) G0.1 G0.2.1 dX12_highest_33 (by decide) ?_
          exact py_iret G0 hr rfl hlk hw ⟨(by first | omega | (intro q; omega)), (by first | omega | (intro q; omega)), rfl, rfl⟩ dX12_highest_57
        · skip
          have tc_6 := ti_eq c_6
          refine lv_bipush (v := 50) G0.1 G0.2.1 dX12_highest_27 (by decide) ?_
          refine lv_goto (tgt := 57) G0.1 G0.2.1 dX12_highest_29 (by decide) ?_
          exact py_iret G0 hr rfl hlk hw ⟨(by first | omega | (intro q; omega)), (by first | omega | (intro q; omega)), rfl, rfl⟩ dX12_highest_57
      · skip
        have tc_5 := ti_eq c_5
        refine lv_bipush (v := 99) G0.1 G0.2.1 dX12_highest_17 (by decide) ?_
        refine lv_goto (tgt := 57) G0.1 G0.2.1 dX12_highest_19 (by decide) ?_
        exact py_iret G0 hr rfl hlk hw ⟨(by first | omega | (intro q; omega)), (by first | omega | (intro q; omega)), rfl, rfl⟩ dX12_highest_57
    · skip
      have tc_4 := ti_eq c_4
      refine lv_iconst (v := 4) G0.1 G0.2.1 dX12_highest_8 (by decide) ?_
      refine lv_goto (tgt := 57) G0.1 G0.2.1 dX12_highest_9 (by decide) ?_
      exact py_iret G0 hr rfl hlk hw ⟨(by first | omega | (intro q; omega)), (by first | omega | (intro q; omega)), rfl, rfl⟩ dX12_highest_57

def w_X12_usual : List Cond := .code yX12_usual cX12_usual 2 (some .int) :: ([] ++ ([]))
set_option maxHeartbeats 4000000 in
set_option maxRecDepth 100000 in
theorem c_X12_usual (l : Launch) (E : py_E) (G : wf_G) (L : List Nat) (f : py_F) (sz : Nat) (a : Int32) (b : Int32) (hG : GT G) (hWF : WF E G L f) : Met l yX12_usual w_X12_usual ({ frames := 0, cells := 0, slots := 0, locals := 0 }) (py_Pc E [.int a, .int b] L f sz) (py_Qi E L f sz (fun r L1 f1 => (a.toInt = 0 → b.toInt = 0 → r.toInt = 4) ∧ (a.toInt = 0 → b.toInt = 1 → r.toInt = 0) ∧ L = L1 ∧ f = f1)) 0 0 (va_A (va_pl L f) sz) := by
  refine Met.ofW (cc := cX12_usual) (maxL := 2) (ret := (some .int)) (by decide) rfl ?_
  intro p e s m args below meth c s₁ B hml hv
  obtain ⟨rfl, rfl, hw⟩ := py_start hv
  have G0 : CallFix p m c cX12_usual 2 s _ w_X12_usual RX12 := ⟨B.exec, B.bytes, hml, findClass_of_methodNamed B.named, atoms_spec (ws := w_X12_usual) B.pre⟩
  have hr := B.returns
  have hlk := B.notSynchronized
  have kcm1 : (-1 : Int32).toInt = -1 := rfl
  have kc0 : (0 : Int32).toInt = 0 := rfl
  have kc1 : (1 : Int32).toInt = 1 := rfl
  have kc2 : (2 : Int32).toInt = 2 := rfl
  have kc4 : (4 : Int32).toInt = 4 := rfl
  have kc5 : (5 : Int32).toInt = 5 := rfl
  have kc20 : (20 : Int32).toInt = 20 := rfl
  have kc30 : (30 : Int32).toInt = 30 := rfl
  have hl := lv_entry ([.int a, .int b]) (n := 2) (Nat.le_of_ble_eq_true rfl)
  rw [lg_entry_eq]
  generalize (lg_sl ([.int a, .int b]) ++ List.replicate (2 - (lg_sl ([.int a, .int b])).length) Slot.unset).toArray = ls at hl ⊢
  have hl : lv_has ls 2 [(0, .int a), (1, .int b)] := hl
  refine lv_iload_n G0.1 G0.2.1 dX12_usual_0 rfl (lv_at hl 0 rfl) ?_
  refine lv_if_eq (tgt := 35) G0.1 G0.2.1 dX12_usual_1 (by decide) (fun c_1 => ?_) (fun c_1 => ?_)
  · skip
    have tc_1 := ti_eq c_1
    refine lv_iload_n G0.1 G0.2.1 dX12_usual_35 rfl (lv_at hl 1 rfl) ?_
    refine lv_if_ne (tgt := 43) G0.1 G0.2.1 dX12_usual_36 (by decide) (fun c_2 => ?_) (fun c_2 => ?_)
    · skip
      have tc_2 := ti_ne c_2
      refine lv_iload_n G0.1 G0.2.1 dX12_usual_43 rfl (lv_at hl 1 rfl) ?_
      refine lv_iconst (v := 1) G0.1 G0.2.1 dX12_usual_44 (by decide) ?_
      refine lv_icmp_ne (tgt := 52) G0.1 G0.2.1 dX12_usual_45 (by decide) (fun c_3 => ?_) (fun c_3 => ?_)
      · skip
        have tc_3 := ti_ne c_3
        refine lv_iload_n G0.1 G0.2.1 dX12_usual_52 rfl (lv_at hl 1 rfl) ?_
        refine lv_iconst (v := 2) G0.1 G0.2.1 dX12_usual_53 (by decide) ?_
        refine lv_icmp_ne (tgt := 62) G0.1 G0.2.1 dX12_usual_54 (by decide) (fun c_4 => ?_) (fun c_4 => ?_)
        · skip
          have tc_4 := ti_ne c_4
          refine lv_iconst (v := 5) G0.1 G0.2.1 dX12_usual_62 (by decide) ?_
          exact py_iret G0 hr rfl hlk hw ⟨(by first | omega | (intro q; omega)), (by first | omega | (intro q; omega)), rfl, rfl⟩ dX12_usual_63
        · skip
          have tc_4 := ti_eq c_4
          refine lv_bipush (v := 30) G0.1 G0.2.1 dX12_usual_57 (by decide) ?_
          refine lv_goto (tgt := 63) G0.1 G0.2.1 dX12_usual_59 (by decide) ?_
          exact py_iret G0 hr rfl hlk hw ⟨(by first | omega | (intro q; omega)), (by first | omega | (intro q; omega)), rfl, rfl⟩ dX12_usual_63
      · skip
        have tc_3 := ti_eq c_3
        refine lv_iconst (v := 0) G0.1 G0.2.1 dX12_usual_48 (by decide) ?_
        refine lv_goto (tgt := 63) G0.1 G0.2.1 dX12_usual_49 (by decide) ?_
        exact py_iret G0 hr rfl hlk hw ⟨(by first | omega | (intro q; omega)), (by first | omega | (intro q; omega)), rfl, rfl⟩ dX12_usual_63
    · skip
      have tc_2 := ti_eq c_2
      refine lv_iconst (v := 4) G0.1 G0.2.1 dX12_usual_39 (by decide) ?_
      refine lv_goto (tgt := 63) G0.1 G0.2.1 dX12_usual_40 (by decide) ?_
      exact py_iret G0 hr rfl hlk hw ⟨(by first | omega | (intro q; omega)), (by first | omega | (intro q; omega)), rfl, rfl⟩ dX12_usual_63
  · skip
    have tc_1 := ti_ne c_1
    refine lv_iload_n G0.1 G0.2.1 dX12_usual_4 rfl (lv_at hl 1 rfl) ?_
    refine lv_if_ne (tgt := 12) G0.1 G0.2.1 dX12_usual_5 (by decide) (fun c_5 => ?_) (fun c_5 => ?_)
    · skip
      have tc_5 := ti_ne c_5
      refine lv_iload_n G0.1 G0.2.1 dX12_usual_12 rfl (lv_at hl 1 rfl) ?_
      refine lv_iconst (v := 1) G0.1 G0.2.1 dX12_usual_13 (by decide) ?_
      refine lv_icmp_ne (tgt := 22) G0.1 G0.2.1 dX12_usual_14 (by decide) (fun c_6 => ?_) (fun c_6 => ?_)
      · skip
        have tc_6 := ti_ne c_6
        refine lv_iload_n G0.1 G0.2.1 dX12_usual_22 rfl (lv_at hl 1 rfl) ?_
        refine lv_iconst (v := 2) G0.1 G0.2.1 dX12_usual_23 (by decide) ?_
        refine lv_icmp_ne (tgt := 31) G0.1 G0.2.1 dX12_usual_24 (by decide) (fun c_7 => ?_) (fun c_7 => ?_)
        · skip
          have tc_7 := ti_ne c_7
          refine lv_iconst (v := 0) G0.1 G0.2.1 dX12_usual_31 (by decide) ?_
          refine lv_goto (tgt := 63) G0.1 G0.2.1 dX12_usual_32 (by decide) ?_
          exact py_iret G0 hr rfl hlk hw ⟨(by first | omega | (intro q; omega)), (by first | omega | (intro q; omega)), rfl, rfl⟩ dX12_usual_63
        · skip
          have tc_7 := ti_eq c_7
          refine lv_iconst (v := 5) G0.1 G0.2.1 dX12_usual_27 (by decide) ?_
          refine lv_goto (tgt := 63) G0.1 G0.2.1 dX12_usual_28 (by decide) ?_
          exact py_iret G0 hr rfl hlk hw ⟨(by first | omega | (intro q; omega)), (by first | omega | (intro q; omega)), rfl, rfl⟩ dX12_usual_63
      · skip
        have tc_6 := ti_eq c_6
        refine lv_bipush (v := 20) G0.1 G0.2.1 dX12_usual_17 (by decide) ?_
        refine lv_goto (tgt := 63) G0.1 G0.2.1 dX12_usual_19 (by decide) ?_
        exact py_iret G0 hr rfl hlk hw ⟨(by first | omega | (intro q; omega)), (by first | omega | (intro q; omega)), rfl, rfl⟩ dX12_usual_63
    · skip
      have tc_5 := ti_eq c_5
      refine lv_iconst (v := 2) G0.1 G0.2.1 dX12_usual_8 (by decide) ?_
      refine lv_goto (tgt := 63) G0.1 G0.2.1 dX12_usual_9 (by decide) ?_
      exact py_iret G0 hr rfl hlk hw ⟨(by first | omega | (intro q; omega)), (by first | omega | (intro q; omega)), rfl, rfl⟩ dX12_usual_63

def w_X12_bounded : List Cond := .code yX12_bounded cX12_bounded 2 (some .int) :: ([Cond.constantLong RX12 207 (-1000000), Cond.constantLong RX12 209 (1000000), Cond.methodLink RX12 211 Lib.MathLoose.min_long.x, Cond.static Lib.MathLoose.min_long.x, Cond.initialized "java/lang/Math", Cond.code Lib.MathLoose.min_long.x Lib.MathLoose.min_long.code 4 (some .long), Cond.methodLink RX12 217 Lib.MathLoose.max_long.x, Cond.static Lib.MathLoose.max_long.x, Cond.code Lib.MathLoose.max_long.x Lib.MathLoose.max_long.code 4 (some .long)] ++ ([]))
set_option maxHeartbeats 4000000 in
set_option maxRecDepth 100000 in
theorem c_X12_bounded (l : Launch) (E : py_E) (G : wf_G) (L : List Nat) (f : py_F) (sz : Nat) (v : Int64) (hG : GT G) (hWF : WF E G L f) : Met l yX12_bounded w_X12_bounded ({ frames := 1, cells := 0, slots := 0, locals := 28 }) (py_Pc E [.long v] L f sz) (py_Qi E L f sz (fun _ L1 f1 => L = L1 ∧ f = f1)) 0 0 (va_A (va_pl L f) sz) := by
  refine Met.ofW (cc := cX12_bounded) (maxL := 2) (ret := (some .int)) (by decide) rfl ?_
  intro p e s m args below meth c s₁ B hml hv
  obtain ⟨rfl, rfl, hw⟩ := py_start hv
  have G0 : CallFix p m c cX12_bounded 2 s _ w_X12_bounded RX12 := ⟨B.exec, B.bytes, hml, findClass_of_methodNamed B.named, atoms_spec (ws := w_X12_bounded) B.pre⟩
  have hr := B.returns
  have hlk := B.notSynchronized
  have kcm1 : (-1 : Int32).toInt = -1 := rfl
  have kc0 : (0 : Int32).toInt = 0 := rfl
  have kc1 : (1 : Int32).toInt = 1 := rfl
  have hl := lv_entry ([.long v]) (n := 2) (Nat.le_of_ble_eq_true rfl)
  rw [lg_entry_eq]
  generalize (lg_sl ([.long v]) ++ List.replicate (2 - (lg_sl ([.long v])).length) Slot.unset).toArray = ls at hl ⊢
  have hl : lv_has ls 2 [(0, .long v)] := hl
  refine lv_ldc2 (v := (-1000000)) G0.1 G0.2.1 G0.2.2.2.1 (G0.2.2.2.2 (Cond.constantLong RX12 207 (-1000000)) (by decide +kernel)) dX12_bounded_0 ?_
  refine lv_ldc2 (v := 1000000) G0.1 G0.2.1 G0.2.2.2.1 (G0.2.2.2.2 (Cond.constantLong RX12 209 (1000000)) (by decide +kernel)) dX12_bounded_3 ?_
  refine lv_lload_n G0.1 G0.2.1 dX12_bounded_6 rfl (lv_at hl 0 rfl) ?_
  refine va_mmin_long G0.1 G0.2.1 (by rw [G0.2.2.1, hl.1]) G0.2.2.2.1 (G0.2.2.2.2 (Cond.methodLink RX12 211 Lib.MathLoose.min_long.x) (by decide +kernel)) (G0.2.2.2.2 (Cond.static Lib.MathLoose.min_long.x) (by decide +kernel)) (G0.2.2.2.2 (Cond.initialized "java/lang/Math") (by decide +kernel)) (G0.2.2.2.2 (Cond.code Lib.MathLoose.min_long.x Lib.MathLoose.min_long.code 4 (some .long)) (by decide +kernel)) (Nat.le_of_ble_eq_true rfl) (Nat.le_of_ble_eq_true rfl) (Nat.le_of_ble_eq_true rfl) (Nat.le_of_ble_eq_true rfl) dX12_bounded_7 ?_
  refine lv_topl (fun y_1 ey_1 => ?_)
  refine va_mmax_long G0.1 G0.2.1 (by rw [G0.2.2.1, hl.1]) G0.2.2.2.1 (G0.2.2.2.2 (Cond.methodLink RX12 217 Lib.MathLoose.max_long.x) (by decide +kernel)) (G0.2.2.2.2 (Cond.static Lib.MathLoose.max_long.x) (by decide +kernel)) (G0.2.2.2.2 (Cond.initialized "java/lang/Math") (by decide +kernel)) (G0.2.2.2.2 (Cond.code Lib.MathLoose.max_long.x Lib.MathLoose.max_long.code 4 (some .long)) (by decide +kernel)) (Nat.le_of_ble_eq_true rfl) (Nat.le_of_ble_eq_true rfl) (Nat.le_of_ble_eq_true rfl) (Nat.le_of_ble_eq_true rfl) dX12_bounded_10 ?_
  refine lv_topl (fun y_2 ey_2 => ?_)
  refine lv_l2i G0.1 G0.2.1 dX12_bounded_13 rfl ?_
  refine lv_topi (fun x_3 ex_3 => ?_)
  exact py_iret G0 hr rfl hlk hw ⟨rfl, rfl⟩ dX12_bounded_14

def w_X12_worked : List Cond := .code yX12_worked cX12_worked 5 (some .int) :: ([Cond.methodLink RX12 220 yX12_bounded, Cond.static yX12_bounded, Cond.initialized RX12] ++ (w_X12_bounded ++ ([])))
theorem gg_X12_worked_X12_bounded : GoodIn w_X12_worked w_X12_bounded := goodIn_sub (fun _ h => List.mem_cons_of_mem _ (List.mem_append_right _ (List.mem_append_left _ h))) (by decide +kernel)
theorem g_X12_worked_X12_bounded_220 : GoodIn w_X12_worked (va_wsS RX12 220 yX12_bounded w_X12_bounded) := goodIn_app (goodIn_of _ (by decide +kernel)) gg_X12_worked_X12_bounded
theorem sw_X12_worked_1 (x : Int32) : x = 2 ∨ x = 3 ∨ x = 4 ∨ x = 5 ∨ x = 6 ∨ x = 7 ∨ x = 8 ∨ x = 9 ∨ x = 10 ∨ (x.toInt < 2 ∨ 10 < x.toInt) := by
  by_cases h0 : x = 2
  · exact Or.inl h0
  by_cases h1 : x = 3
  · exact Or.inr (Or.inl h1)
  by_cases h2 : x = 4
  · exact Or.inr (Or.inr (Or.inl h2))
  by_cases h3 : x = 5
  · exact Or.inr (Or.inr (Or.inr (Or.inl h3)))
  by_cases h4 : x = 6
  · exact Or.inr (Or.inr (Or.inr (Or.inr (Or.inl h4))))
  by_cases h5 : x = 7
  · exact Or.inr (Or.inr (Or.inr (Or.inr (Or.inr (Or.inl h5)))))
  by_cases h6 : x = 8
  · exact Or.inr (Or.inr (Or.inr (Or.inr (Or.inr (Or.inr (Or.inl h6))))))
  by_cases h7 : x = 9
  · exact Or.inr (Or.inr (Or.inr (Or.inr (Or.inr (Or.inr (Or.inr (Or.inl h7)))))))
  by_cases h8 : x = 10
  · exact Or.inr (Or.inr (Or.inr (Or.inr (Or.inr (Or.inr (Or.inr (Or.inr (Or.inl h8))))))))
  have t0 := ti_ne h0
  have k0 : (2 : Int32).toInt = 2 := rfl
  have t1 := ti_ne h1
  have k1 : (3 : Int32).toInt = 3 := rfl
  have t2 := ti_ne h2
  have k2 : (4 : Int32).toInt = 4 := rfl
  have t3 := ti_ne h3
  have k3 : (5 : Int32).toInt = 5 := rfl
  have t4 := ti_ne h4
  have k4 : (6 : Int32).toInt = 6 := rfl
  have t5 := ti_ne h5
  have k5 : (7 : Int32).toInt = 7 := rfl
  have t6 := ti_ne h6
  have k6 : (8 : Int32).toInt = 8 := rfl
  have t7 := ti_ne h7
  have k7 : (9 : Int32).toInt = 9 := rfl
  have t8 := ti_ne h8
  have k8 : (10 : Int32).toInt = 10 := rfl
  exact Or.inr (Or.inr (Or.inr (Or.inr (Or.inr (Or.inr (Or.inr (Or.inr (Or.inr ((by omega))))))))))
set_option maxHeartbeats 4000000 in
set_option maxRecDepth 100000 in
theorem c_X12_worked (l : Launch) (E : py_E) (G : wf_G) (L : List Nat) (f : py_F) (sz : Nat) (a : Int32) (b : Int64) (q : Int64) (hG : GT G) (hWF : WF E G L f) : Met l yX12_worked w_X12_worked ({ frames := 2, cells := 0, slots := 0, locals := 49 }) (py_Pc E [.int a, .long b, .long q] L f sz) (py_Qi E L f sz (fun _ L1 f1 => L = L1 ∧ f = f1)) 0 0 (va_A (va_pl L f) sz) := by
  refine Met.ofW (cc := cX12_worked) (maxL := 5) (ret := (some .int)) (by decide) rfl ?_
  intro p e s m args below meth c s₁ B hml hv
  obtain ⟨rfl, rfl, hw⟩ := py_start hv
  have G0 : CallFix p m c cX12_worked 5 s _ w_X12_worked RX12 := ⟨B.exec, B.bytes, hml, findClass_of_methodNamed B.named, atoms_spec (ws := w_X12_worked) B.pre⟩
  have hr := B.returns
  have hlk := B.notSynchronized
  have kcm1 : (-1 : Int32).toInt = -1 := rfl
  have kc0 : (0 : Int32).toInt = 0 := rfl
  have kc1 : (1 : Int32).toInt = 1 := rfl
  have kc2 : (2 : Int32).toInt = 2 := rfl
  have kc3 : (3 : Int32).toInt = 3 := rfl
  have kc4 : (4 : Int32).toInt = 4 := rfl
  have kc5 : (5 : Int32).toInt = 5 := rfl
  have kc6 : (6 : Int32).toInt = 6 := rfl
  have kc7 : (7 : Int32).toInt = 7 := rfl
  have kc8 : (8 : Int32).toInt = 8 := rfl
  have kc9 : (9 : Int32).toInt = 9 := rfl
  have kc10 : (10 : Int32).toInt = 10 := rfl
  have hl := lv_entry ([.int a, .long b, .long q]) (n := 5) (Nat.le_of_ble_eq_true rfl)
  rw [lg_entry_eq]
  generalize (lg_sl ([.int a, .long b, .long q]) ++ List.replicate (5 - (lg_sl ([.int a, .long b, .long q])).length) Slot.unset).toArray = ls at hl ⊢
  have hl : lv_has ls 5 [(0, .int a), (1, .long b), (3, .long q)] := hl
  refine lv_iload_n G0.1 G0.2.1 dX12_worked_0 rfl (lv_at hl 0 rfl) ?_
  rcases sw_X12_worked_1 a with e_sw | e_sw | e_sw | e_sw | e_sw | e_sw | e_sw | e_sw | e_sw | e_sw
  · skip
    have te := ti_eq e_sw
    refine lv_tableIn (off := 51) (tgt := 52) G0.1 G0.2.1 dX12_worked_1 (by omega) (by omega) (by rw [e_sw]; decide) (by decide) ?_
    refine lv_lload_n G0.1 G0.2.1 dX12_worked_52 rfl (lv_at hl 1 rfl) ?_
    refine lv_lload_n G0.1 G0.2.1 dX12_worked_53 rfl (lv_at hl 2 rfl) ?_
    refine lv_ladd G0.1 G0.2.1 dX12_worked_54 ?_
    refine lv_topl (fun y_1 ey_1 => ?_)
    refine py_calli hw (va_runS (As := [.long y_1]) (rest := []) G0 (c_X12_bounded l E G L f s.heap.size y_1 hG hWF) (va_cwS 1 G0.2.2.2.2 g_X12_worked_X12_bounded_220 rfl rfl rfl (by decide +kernel) ⟨(Nat.le_of_ble_eq_true rfl), (Nat.le_of_ble_eq_true rfl)⟩) (py_preS hw) rfl rfl hl.1 rfl (lv_room (Nat.le_of_ble_eq_true rfl)) dX12_worked_55 ⟨(Nat.le_of_ble_eq_true rfl), (Nat.le_of_ble_eq_true rfl)⟩) (fun r_6 L_2 f_3 H_4 locs hp_5 hw => ?_)
    obtain ⟨rfl, rfl⟩ := hp_5
    have br_6 := wf_free r_6
    exact py_iret G0 hr rfl hlk hw ⟨rfl, rfl⟩ dX12_worked_58
  · skip
    have te := ti_eq e_sw
    refine lv_tableIn (off := 58) (tgt := 59) G0.1 G0.2.1 dX12_worked_1 (by omega) (by omega) (by rw [e_sw]; decide) (by decide) ?_
    refine lv_lload_n G0.1 G0.2.1 dX12_worked_59 rfl (lv_at hl 1 rfl) ?_
    refine lv_lload_n G0.1 G0.2.1 dX12_worked_60 rfl (lv_at hl 2 rfl) ?_
    refine lv_lsub G0.1 G0.2.1 dX12_worked_61 ?_
    refine lv_topl (fun y_7 ey_7 => ?_)
    refine py_calli hw (va_runS (As := [.long y_7]) (rest := []) G0 (c_X12_bounded l E G L f s.heap.size y_7 hG hWF) (va_cwS 1 G0.2.2.2.2 g_X12_worked_X12_bounded_220 rfl rfl rfl (by decide +kernel) ⟨(Nat.le_of_ble_eq_true rfl), (Nat.le_of_ble_eq_true rfl)⟩) (py_preS hw) rfl rfl hl.1 rfl (lv_room (Nat.le_of_ble_eq_true rfl)) dX12_worked_62 ⟨(Nat.le_of_ble_eq_true rfl), (Nat.le_of_ble_eq_true rfl)⟩) (fun r_12 L_8 f_9 H_10 locs hp_11 hw => ?_)
    obtain ⟨rfl, rfl⟩ := hp_11
    have br_12 := wf_free r_12
    exact py_iret G0 hr rfl hlk hw ⟨rfl, rfl⟩ dX12_worked_65
  · skip
    have te := ti_eq e_sw
    refine lv_tableIn (off := 65) (tgt := 66) G0.1 G0.2.1 dX12_worked_1 (by omega) (by omega) (by rw [e_sw]; decide) (by decide) ?_
    refine lv_lload_n G0.1 G0.2.1 dX12_worked_66 rfl (lv_at hl 1 rfl) ?_
    refine lv_lload_n G0.1 G0.2.1 dX12_worked_67 rfl (lv_at hl 2 rfl) ?_
    refine lv_lmul G0.1 G0.2.1 dX12_worked_68 ?_
    refine lv_topl (fun y_13 ey_13 => ?_)
    refine py_calli hw (va_runS (As := [.long y_13]) (rest := []) G0 (c_X12_bounded l E G L f s.heap.size y_13 hG hWF) (va_cwS 1 G0.2.2.2.2 g_X12_worked_X12_bounded_220 rfl rfl rfl (by decide +kernel) ⟨(Nat.le_of_ble_eq_true rfl), (Nat.le_of_ble_eq_true rfl)⟩) (py_preS hw) rfl rfl hl.1 rfl (lv_room (Nat.le_of_ble_eq_true rfl)) dX12_worked_69 ⟨(Nat.le_of_ble_eq_true rfl), (Nat.le_of_ble_eq_true rfl)⟩) (fun r_18 L_14 f_15 H_16 locs hp_17 hw => ?_)
    obtain ⟨rfl, rfl⟩ := hp_17
    have br_18 := wf_free r_18
    exact py_iret G0 hr rfl hlk hw ⟨rfl, rfl⟩ dX12_worked_72
  · skip
    have te := ti_eq e_sw
    refine lv_tableIn (off := 72) (tgt := 73) G0.1 G0.2.1 dX12_worked_1 (by omega) (by omega) (by rw [e_sw]; decide) (by decide) ?_
    refine lv_lload_n G0.1 G0.2.1 dX12_worked_73 rfl (lv_at hl 2 rfl) ?_
    refine lv_lconst (v := 0) G0.1 G0.2.1 dX12_worked_74 (by decide) ?_
    refine W.lcmp G0.1 G0.2.1 dX12_worked_75 ?_
    refine lv_topi (fun x_19 ex_19 => ?_)
    have jn_89 : ∀ (v_20 : Int32) (H_j89 : Heap) (locs : List Loc) (ls : Array Slot), py_W E (va_A (va_pl L f) s.heap.size) s L f H_j89 locs → lv_has ls 5 [(0, .int a), (1, .long b), (3, .long q)] → W p l e (headSpec w_X12_worked ({ frames := 2, cells := 0, slots := 0, locals := 49 })).room s m ([.int a, .long b, .long q] : List Value).toArray below meth c H_j89 locs 0 0 (MQ below (py_Qi E L f s.heap.size (fun _ L1 f1 => L = L1 ∧ f = f1)) ([.int a, .long b, .long q] : List Value).toArray s 0 0 (va_A (va_pl L f) s.heap.size)) (F0 m 89 ls [.int v_20]) := by
      intro v_20 H_j89 locs ls hw hl
      exact py_iret G0 hr rfl hlk hw ⟨rfl, rfl⟩ dX12_worked_89
    refine lv_if_ne (tgt := 83) G0.1 G0.2.1 dX12_worked_76 (by decide) (fun c_21 => ?_) (fun c_21 => ?_)
    · skip
      have tc_21 := ti_ne c_21
      refine lv_lload_n G0.1 G0.2.1 dX12_worked_83 rfl (lv_at hl 1 rfl) ?_
      refine lv_lload_n G0.1 G0.2.1 dX12_worked_84 rfl (lv_at hl 2 rfl) ?_
      refine lv_ldiv G0.1 G0.2.1 dX12_worked_85 (cmp_ne ex_19 c_21) ?_
      refine lv_topl (fun y_22 ey_22 => ?_)
      refine py_calli hw (va_runS (As := [.long y_22]) (rest := []) G0 (c_X12_bounded l E G L f s.heap.size y_22 hG hWF) (va_cwS 1 G0.2.2.2.2 g_X12_worked_X12_bounded_220 rfl rfl rfl (by decide +kernel) ⟨(Nat.le_of_ble_eq_true rfl), (Nat.le_of_ble_eq_true rfl)⟩) (py_preS hw) rfl rfl hl.1 rfl (lv_room (Nat.le_of_ble_eq_true rfl)) dX12_worked_86 ⟨(Nat.le_of_ble_eq_true rfl), (Nat.le_of_ble_eq_true rfl)⟩) (fun r_27 L_23 f_24 H_25 locs hp_26 hw => ?_)
      obtain ⟨rfl, rfl⟩ := hp_26
      have br_27 := wf_free r_27
      exact jn_89 r_27 _ _ ls hw (lv_sub hl [0, 1, 2] rfl)
    · skip
      have tc_21 := ti_eq c_21
      refine lv_iconst (v := 0) G0.1 G0.2.1 dX12_worked_79 (by decide) ?_
      refine lv_goto (tgt := 89) G0.1 G0.2.1 dX12_worked_80 (by decide) ?_
      exact jn_89 0 _ _ ls hw (lv_sub hl [0, 1, 2] rfl)
  · skip
    have te := ti_eq e_sw
    refine lv_tableIn (off := 89) (tgt := 90) G0.1 G0.2.1 dX12_worked_1 (by omega) (by omega) (by rw [e_sw]; decide) (by decide) ?_
    refine lv_lload_n G0.1 G0.2.1 dX12_worked_90 rfl (lv_at hl 1 rfl) ?_
    refine lv_lload_n G0.1 G0.2.1 dX12_worked_91 rfl (lv_at hl 2 rfl) ?_
    refine W.lcmp G0.1 G0.2.1 dX12_worked_92 ?_
    refine lv_topi (fun x_28 ex_28 => ?_)
    have jn_101 : ∀ (v_29 : Int32) (H_j101 : Heap) (locs : List Loc) (ls : Array Slot), (0 ≤ v_29.toInt ∧ v_29.toInt ≤ 1) → py_W E (va_A (va_pl L f) s.heap.size) s L f H_j101 locs → lv_has ls 5 [(0, .int a), (1, .long b), (3, .long q)] → W p l e (headSpec w_X12_worked ({ frames := 2, cells := 0, slots := 0, locals := 49 })).room s m ([.int a, .long b, .long q] : List Value).toArray below meth c H_j101 locs 0 0 (MQ below (py_Qi E L f s.heap.size (fun _ L1 f1 => L = L1 ∧ f = f1)) ([.int a, .long b, .long q] : List Value).toArray s 0 0 (va_A (va_pl L f) s.heap.size)) (F0 m 101 ls [.int v_29]) := by
      intro v_29 H_j101 locs ls bv_29 hw hl
      exact py_iret G0 hr rfl hlk hw ⟨rfl, rfl⟩ dX12_worked_101
    refine lv_if_ne (tgt := 100) G0.1 G0.2.1 dX12_worked_93 (by decide) (fun c_30 => ?_) (fun c_30 => ?_)
    · skip
      have tc_30 := ti_ne c_30
      refine lv_iconst (v := 0) G0.1 G0.2.1 dX12_worked_100 (by decide) ?_
      exact jn_101 0 _ _ ls ⟨by omega, by omega⟩ hw (lv_sub hl [0, 1, 2] rfl)
    · skip
      have tc_30 := ti_eq c_30
      refine lv_iconst (v := 1) G0.1 G0.2.1 dX12_worked_96 (by decide) ?_
      refine lv_goto (tgt := 101) G0.1 G0.2.1 dX12_worked_97 (by decide) ?_
      exact jn_101 1 _ _ ls ⟨by omega, by omega⟩ hw (lv_sub hl [0, 1, 2] rfl)
  · skip
    have te := ti_eq e_sw
    refine lv_tableIn (off := 101) (tgt := 102) G0.1 G0.2.1 dX12_worked_1 (by omega) (by omega) (by rw [e_sw]; decide) (by decide) ?_
    refine lv_lload_n G0.1 G0.2.1 dX12_worked_102 rfl (lv_at hl 1 rfl) ?_
    refine lv_lload_n G0.1 G0.2.1 dX12_worked_103 rfl (lv_at hl 2 rfl) ?_
    refine W.lcmp G0.1 G0.2.1 dX12_worked_104 ?_
    refine lv_topi (fun x_31 ex_31 => ?_)
    have jn_113 : ∀ (v_32 : Int32) (H_j113 : Heap) (locs : List Loc) (ls : Array Slot), (0 ≤ v_32.toInt ∧ v_32.toInt ≤ 1) → py_W E (va_A (va_pl L f) s.heap.size) s L f H_j113 locs → lv_has ls 5 [(0, .int a), (1, .long b), (3, .long q)] → W p l e (headSpec w_X12_worked ({ frames := 2, cells := 0, slots := 0, locals := 49 })).room s m ([.int a, .long b, .long q] : List Value).toArray below meth c H_j113 locs 0 0 (MQ below (py_Qi E L f s.heap.size (fun _ L1 f1 => L = L1 ∧ f = f1)) ([.int a, .long b, .long q] : List Value).toArray s 0 0 (va_A (va_pl L f) s.heap.size)) (F0 m 113 ls [.int v_32]) := by
      intro v_32 H_j113 locs ls bv_32 hw hl
      exact py_iret G0 hr rfl hlk hw ⟨rfl, rfl⟩ dX12_worked_113
    refine lv_if_ge (tgt := 112) G0.1 G0.2.1 dX12_worked_105 (by decide) (fun c_33 => ?_) (fun c_33 => ?_)
    · skip
      have tc_33 := ti_le c_33
      refine lv_iconst (v := 0) G0.1 G0.2.1 dX12_worked_112 (by decide) ?_
      exact jn_113 0 _ _ ls ⟨by omega, by omega⟩ hw (lv_sub hl [0, 1, 2] rfl)
    · skip
      have tc_33 := ti_nle c_33
      refine lv_iconst (v := 1) G0.1 G0.2.1 dX12_worked_108 (by decide) ?_
      refine lv_goto (tgt := 113) G0.1 G0.2.1 dX12_worked_109 (by decide) ?_
      exact jn_113 1 _ _ ls ⟨by omega, by omega⟩ hw (lv_sub hl [0, 1, 2] rfl)
  · skip
    have te := ti_eq e_sw
    refine lv_tableIn (off := 113) (tgt := 114) G0.1 G0.2.1 dX12_worked_1 (by omega) (by omega) (by rw [e_sw]; decide) (by decide) ?_
    refine lv_lload_n G0.1 G0.2.1 dX12_worked_114 rfl (lv_at hl 1 rfl) ?_
    refine lv_lload_n G0.1 G0.2.1 dX12_worked_115 rfl (lv_at hl 2 rfl) ?_
    refine W.lcmp G0.1 G0.2.1 dX12_worked_116 ?_
    refine lv_topi (fun x_34 ex_34 => ?_)
    have jn_125 : ∀ (v_35 : Int32) (H_j125 : Heap) (locs : List Loc) (ls : Array Slot), (0 ≤ v_35.toInt ∧ v_35.toInt ≤ 1) → py_W E (va_A (va_pl L f) s.heap.size) s L f H_j125 locs → lv_has ls 5 [(0, .int a), (1, .long b), (3, .long q)] → W p l e (headSpec w_X12_worked ({ frames := 2, cells := 0, slots := 0, locals := 49 })).room s m ([.int a, .long b, .long q] : List Value).toArray below meth c H_j125 locs 0 0 (MQ below (py_Qi E L f s.heap.size (fun _ L1 f1 => L = L1 ∧ f = f1)) ([.int a, .long b, .long q] : List Value).toArray s 0 0 (va_A (va_pl L f) s.heap.size)) (F0 m 125 ls [.int v_35]) := by
      intro v_35 H_j125 locs ls bv_35 hw hl
      exact py_iret G0 hr rfl hlk hw ⟨rfl, rfl⟩ dX12_worked_125
    refine lv_if_le (tgt := 124) G0.1 G0.2.1 dX12_worked_117 (by decide) (fun c_36 => ?_) (fun c_36 => ?_)
    · skip
      have tc_36 := ti_le c_36
      refine lv_iconst (v := 0) G0.1 G0.2.1 dX12_worked_124 (by decide) ?_
      exact jn_125 0 _ _ ls ⟨by omega, by omega⟩ hw (lv_sub hl [0, 1, 2] rfl)
    · skip
      have tc_36 := ti_nle c_36
      refine lv_iconst (v := 1) G0.1 G0.2.1 dX12_worked_120 (by decide) ?_
      refine lv_goto (tgt := 125) G0.1 G0.2.1 dX12_worked_121 (by decide) ?_
      exact jn_125 1 _ _ ls ⟨by omega, by omega⟩ hw (lv_sub hl [0, 1, 2] rfl)
  · skip
    have te := ti_eq e_sw
    refine lv_tableIn (off := 143) (tgt := 144) G0.1 G0.2.1 dX12_worked_1 (by omega) (by omega) (by rw [e_sw]; decide) (by decide) ?_
    refine lv_lload_n G0.1 G0.2.1 dX12_worked_144 rfl (lv_at hl 1 rfl) ?_
    refine lv_lconst (v := 0) G0.1 G0.2.1 dX12_worked_145 (by decide) ?_
    refine W.lcmp G0.1 G0.2.1 dX12_worked_146 ?_
    refine lv_topi (fun x_37 ex_37 => ?_)
    have jn_161 : ∀ (v_38 : Int32) (H_j161 : Heap) (locs : List Loc) (ls : Array Slot), (0 ≤ v_38.toInt ∧ v_38.toInt ≤ 1) → py_W E (va_A (va_pl L f) s.heap.size) s L f H_j161 locs → lv_has ls 5 [(0, .int a), (1, .long b), (3, .long q)] → W p l e (headSpec w_X12_worked ({ frames := 2, cells := 0, slots := 0, locals := 49 })).room s m ([.int a, .long b, .long q] : List Value).toArray below meth c H_j161 locs 0 0 (MQ below (py_Qi E L f s.heap.size (fun _ L1 f1 => L = L1 ∧ f = f1)) ([.int a, .long b, .long q] : List Value).toArray s 0 0 (va_A (va_pl L f) s.heap.size)) (F0 m 161 ls [.int v_38]) := by
      intro v_38 H_j161 locs ls bv_38 hw hl
      exact py_iret G0 hr rfl hlk hw ⟨rfl, rfl⟩ dX12_worked_161
    refine lv_if_ne (tgt := 156) G0.1 G0.2.1 dX12_worked_147 (by decide) (fun c_39 => ?_) (fun c_39 => ?_)
    · skip
      have tc_39 := ti_ne c_39
      refine lv_iconst (v := 1) G0.1 G0.2.1 dX12_worked_156 (by decide) ?_
      refine lv_goto (tgt := 161) G0.1 G0.2.1 dX12_worked_157 (by decide) ?_
      exact jn_161 1 _ _ ls ⟨by omega, by omega⟩ hw (lv_sub hl [0, 1, 2] rfl)
    · skip
      have tc_39 := ti_eq c_39
      refine lv_lload_n G0.1 G0.2.1 dX12_worked_150 rfl (lv_at hl 2 rfl) ?_
      refine lv_lconst (v := 0) G0.1 G0.2.1 dX12_worked_151 (by decide) ?_
      refine W.lcmp G0.1 G0.2.1 dX12_worked_152 ?_
      refine lv_topi (fun x_40 ex_40 => ?_)
      refine lv_if_eq (tgt := 160) G0.1 G0.2.1 dX12_worked_153 (by decide) (fun c_41 => ?_) (fun c_41 => ?_)
      · skip
        have tc_41 := ti_eq c_41
        refine lv_iconst (v := 0) G0.1 G0.2.1 dX12_worked_160 (by decide) ?_
        exact jn_161 0 _ _ ls ⟨by omega, by omega⟩ hw (lv_sub hl [0, 1, 2] rfl)
      · skip
        have tc_41 := ti_ne c_41
        refine lv_iconst (v := 1) G0.1 G0.2.1 dX12_worked_156 (by decide) ?_
        refine lv_goto (tgt := 161) G0.1 G0.2.1 dX12_worked_157 (by decide) ?_
        exact jn_161 1 _ _ ls ⟨by omega, by omega⟩ hw (lv_sub hl [0, 1, 2] rfl)
  · skip
    have te := ti_eq e_sw
    refine lv_tableIn (off := 125) (tgt := 126) G0.1 G0.2.1 dX12_worked_1 (by omega) (by omega) (by rw [e_sw]; decide) (by decide) ?_
    refine lv_lload_n G0.1 G0.2.1 dX12_worked_126 rfl (lv_at hl 1 rfl) ?_
    refine lv_lconst (v := 0) G0.1 G0.2.1 dX12_worked_127 (by decide) ?_
    refine W.lcmp G0.1 G0.2.1 dX12_worked_128 ?_
    refine lv_topi (fun x_42 ex_42 => ?_)
    have jn_143 : ∀ (v_43 : Int32) (H_j143 : Heap) (locs : List Loc) (ls : Array Slot), (0 ≤ v_43.toInt ∧ v_43.toInt ≤ 1) → py_W E (va_A (va_pl L f) s.heap.size) s L f H_j143 locs → lv_has ls 5 [(0, .int a), (1, .long b), (3, .long q)] → W p l e (headSpec w_X12_worked ({ frames := 2, cells := 0, slots := 0, locals := 49 })).room s m ([.int a, .long b, .long q] : List Value).toArray below meth c H_j143 locs 0 0 (MQ below (py_Qi E L f s.heap.size (fun _ L1 f1 => L = L1 ∧ f = f1)) ([.int a, .long b, .long q] : List Value).toArray s 0 0 (va_A (va_pl L f) s.heap.size)) (F0 m 143 ls [.int v_43]) := by
      intro v_43 H_j143 locs ls bv_43 hw hl
      exact py_iret G0 hr rfl hlk hw ⟨rfl, rfl⟩ dX12_worked_143
    refine lv_if_eq (tgt := 142) G0.1 G0.2.1 dX12_worked_129 (by decide) (fun c_44 => ?_) (fun c_44 => ?_)
    · skip
      have tc_44 := ti_eq c_44
      refine lv_iconst (v := 0) G0.1 G0.2.1 dX12_worked_142 (by decide) ?_
      exact jn_143 0 _ _ ls ⟨by omega, by omega⟩ hw (lv_sub hl [0, 1, 2] rfl)
    · skip
      have tc_44 := ti_ne c_44
      refine lv_lload_n G0.1 G0.2.1 dX12_worked_132 rfl (lv_at hl 2 rfl) ?_
      refine lv_lconst (v := 0) G0.1 G0.2.1 dX12_worked_133 (by decide) ?_
      refine W.lcmp G0.1 G0.2.1 dX12_worked_134 ?_
      refine lv_topi (fun x_45 ex_45 => ?_)
      refine lv_if_eq (tgt := 142) G0.1 G0.2.1 dX12_worked_135 (by decide) (fun c_46 => ?_) (fun c_46 => ?_)
      · skip
        have tc_46 := ti_eq c_46
        refine lv_iconst (v := 0) G0.1 G0.2.1 dX12_worked_142 (by decide) ?_
        exact jn_143 0 _ _ ls ⟨by omega, by omega⟩ hw (lv_sub hl [0, 1, 2] rfl)
      · skip
        have tc_46 := ti_ne c_46
        refine lv_iconst (v := 1) G0.1 G0.2.1 dX12_worked_138 (by decide) ?_
        refine lv_goto (tgt := 143) G0.1 G0.2.1 dX12_worked_139 (by decide) ?_
        exact jn_143 1 _ _ ls ⟨by omega, by omega⟩ hw (lv_sub hl [0, 1, 2] rfl)
  · skip
    refine lv_tableOut (tgt := 144) G0.1 G0.2.1 dX12_worked_1 e_sw (by decide) ?_
    refine lv_lload_n G0.1 G0.2.1 dX12_worked_144 rfl (lv_at hl 1 rfl) ?_
    refine lv_lconst (v := 0) G0.1 G0.2.1 dX12_worked_145 (by decide) ?_
    refine W.lcmp G0.1 G0.2.1 dX12_worked_146 ?_
    refine lv_topi (fun x_47 ex_47 => ?_)
    have jn_161 : ∀ (v_48 : Int32) (H_j161 : Heap) (locs : List Loc) (ls : Array Slot), (0 ≤ v_48.toInt ∧ v_48.toInt ≤ 1) → py_W E (va_A (va_pl L f) s.heap.size) s L f H_j161 locs → lv_has ls 5 [(0, .int a), (1, .long b), (3, .long q)] → W p l e (headSpec w_X12_worked ({ frames := 2, cells := 0, slots := 0, locals := 49 })).room s m ([.int a, .long b, .long q] : List Value).toArray below meth c H_j161 locs 0 0 (MQ below (py_Qi E L f s.heap.size (fun _ L1 f1 => L = L1 ∧ f = f1)) ([.int a, .long b, .long q] : List Value).toArray s 0 0 (va_A (va_pl L f) s.heap.size)) (F0 m 161 ls [.int v_48]) := by
      intro v_48 H_j161 locs ls bv_48 hw hl
      exact py_iret G0 hr rfl hlk hw ⟨rfl, rfl⟩ dX12_worked_161
    refine lv_if_ne (tgt := 156) G0.1 G0.2.1 dX12_worked_147 (by decide) (fun c_49 => ?_) (fun c_49 => ?_)
    · skip
      have tc_49 := ti_ne c_49
      refine lv_iconst (v := 1) G0.1 G0.2.1 dX12_worked_156 (by decide) ?_
      refine lv_goto (tgt := 161) G0.1 G0.2.1 dX12_worked_157 (by decide) ?_
      exact jn_161 1 _ _ ls ⟨by omega, by omega⟩ hw (lv_sub hl [0, 1, 2] rfl)
    · skip
      have tc_49 := ti_eq c_49
      refine lv_lload_n G0.1 G0.2.1 dX12_worked_150 rfl (lv_at hl 2 rfl) ?_
      refine lv_lconst (v := 0) G0.1 G0.2.1 dX12_worked_151 (by decide) ?_
      refine W.lcmp G0.1 G0.2.1 dX12_worked_152 ?_
      refine lv_topi (fun x_50 ex_50 => ?_)
      refine lv_if_eq (tgt := 160) G0.1 G0.2.1 dX12_worked_153 (by decide) (fun c_51 => ?_) (fun c_51 => ?_)
      · skip
        have tc_51 := ti_eq c_51
        refine lv_iconst (v := 0) G0.1 G0.2.1 dX12_worked_160 (by decide) ?_
        exact jn_161 0 _ _ ls ⟨by omega, by omega⟩ hw (lv_sub hl [0, 1, 2] rfl)
      · skip
        have tc_51 := ti_ne c_51
        refine lv_iconst (v := 1) G0.1 G0.2.1 dX12_worked_156 (by decide) ?_
        refine lv_goto (tgt := 161) G0.1 G0.2.1 dX12_worked_157 (by decide) ?_
        exact jn_161 1 _ _ ls ⟨by omega, by omega⟩ hw (lv_sub hl [0, 1, 2] rfl)

def w_X12_state : List Cond := .code yX12_state cX12_state 2 (some .int) :: ([] ++ ([]))
set_option maxHeartbeats 4000000 in
set_option maxRecDepth 100000 in
theorem c_X12_state (l : Launch) (E : py_E) (G : wf_G) (L : List Nat) (f : py_F) (sz : Nat) (a : Int32) (b : Int32) (hG : GT G) (hWF : WF E G L f) (Ba : (0 ≤ a.toInt ∧ a.toInt ≤ 7)) (Bb : (0 ≤ b.toInt ∧ b.toInt ≤ 20)) : Met l yX12_state w_X12_state ({ frames := 0, cells := 0, slots := 0, locals := 0 }) (py_Pc E [.int a, .int b] L f sz) (py_Qi E L f sz (fun r L1 f1 => (0 ≤ r.toInt ∧ r.toInt ≤ 167) ∧ (r.toInt = 21 * a.toInt + b.toInt) ∧ L = L1 ∧ f = f1)) 0 0 (va_A (va_pl L f) sz) := by
  refine Met.ofW (cc := cX12_state) (maxL := 2) (ret := (some .int)) (by decide) rfl ?_
  intro p e s m args below meth c s₁ B hml hv
  obtain ⟨rfl, rfl, hw⟩ := py_start hv
  have G0 : CallFix p m c cX12_state 2 s _ w_X12_state RX12 := ⟨B.exec, B.bytes, hml, findClass_of_methodNamed B.named, atoms_spec (ws := w_X12_state) B.pre⟩
  have hr := B.returns
  have hlk := B.notSynchronized
  have kcm1 : (-1 : Int32).toInt = -1 := rfl
  have kc0 : (0 : Int32).toInt = 0 := rfl
  have kc1 : (1 : Int32).toInt = 1 := rfl
  have kc21 : (21 : Int32).toInt = 21 := rfl
  have hl := lv_entry ([.int a, .int b]) (n := 2) (Nat.le_of_ble_eq_true rfl)
  rw [lg_entry_eq]
  generalize (lg_sl ([.int a, .int b]) ++ List.replicate (2 - (lg_sl ([.int a, .int b])).length) Slot.unset).toArray = ls at hl ⊢
  have hl : lv_has ls 2 [(0, .int a), (1, .int b)] := hl
  refine lv_bipush (v := 21) G0.1 G0.2.1 dX12_state_0 (by decide) ?_
  refine lv_iload_n G0.1 G0.2.1 dX12_state_2 rfl (lv_at hl 0 rfl) ?_
  refine lv_imul G0.1 G0.2.1 dX12_state_3 ?_
  refine lv_topi (fun x_1 ex_1 => ?_)
  first | have tx_1 := ti_muld ex_1 kc21 (by omega) (by omega) | skip
  refine lv_iload_n G0.1 G0.2.1 dX12_state_4 rfl (lv_at hl 1 rfl) ?_
  refine lv_iadd G0.1 G0.2.1 dX12_state_5 ?_
  refine lv_topi (fun x_2 ex_2 => ?_)
  first | have tx_2 := ti_add ex_2 (by omega) (by omega) | skip
  exact py_iret G0 hr rfl hlk hw ⟨⟨by omega, by omega⟩, (by first | omega | (intro q; omega)), rfl, rfl⟩ dX12_state_6

def w_X12_here : List Cond := .code yX12_here cX12_here 1 (some .int) :: ([Cond.fieldLink RX12 127 "HeadYearModel" "at" "I", Cond.fieldLink RX12 124 "HeadYearModel" "size" "I", Cond.fieldLink RX12 9 "HeadYearModel" "tape" "[I"] ++ (u_ws RX12 TX12 54 ++ ([])))
theorem in_X12_here_X12 : ∀ w ∈ u_ws RX12 TX12 54, w ∈ w_X12_here := fun _ h => List.mem_cons_of_mem _ (List.mem_append_right _ (List.mem_append_left _ h))
set_option maxHeartbeats 4000000 in
set_option maxRecDepth 100000 in
theorem c_X12_here (l : Launch) (E : py_E) (G : wf_G) (L : List Nat) (f : py_F) (sz : Nat) (u : Nat) (gb : rs_B) (nb : Int) (pb : Int) (hG : GT G) (hWF : WF E G L f) (Tu : G.1 u = 13) (hp0 : 0 ≤ mi f u 3) (hp1 : mi f u 3 = pb) (hp2 : mi f u 2 = nb ∧ 0 ≤ pb) (hq0 : AG f (G.2 u 1) gb nb) : Met l yX12_here w_X12_here ({ frames := 0, cells := 0, slots := 0, locals := 0 }) (py_Pc E [.ref u] L f sz) (py_Qi E L f sz (fun r L1 f1 => (r.toInt ≠ -1 → mi f u 3 < mi f u 2) ∧ (r.toInt = hrv f G u) ∧ ((r.toInt = rs_v gb nb pb ∧ mi f u 3 < mi f u 2) ∨ (r.toInt = -1 ∧ rs_v gb nb pb = 0 ∧ mi f u 2 ≤ mi f u 3)) ∧ L = L1 ∧ f = f1)) 0 0 (va_A (va_pl L f) sz) := by
  refine Met.ofW (cc := cX12_here) (maxL := 1) (ret := (some .int)) (by decide) rfl ?_
  intro p e s m args below meth c s₁ B hml hv
  obtain ⟨rfl, rfl, hw⟩ := py_start hv
  have G0 : CallFix p m c cX12_here 1 s _ w_X12_here RX12 := ⟨B.exec, B.bytes, hml, findClass_of_methodNamed B.named, atoms_spec (ws := w_X12_here) B.pre⟩
  have hr := B.returns
  have hlk := B.notSynchronized
  have kcm1 : (-1 : Int32).toInt = -1 := rfl
  have kc0 : (0 : Int32).toInt = 0 := rfl
  have kc1 : (1 : Int32).toInt = 1 := rfl
  have hl := lv_entry ([.ref u]) (n := 1) (Nat.le_of_ble_eq_true rfl)
  rw [lg_entry_eq]
  generalize (lg_sl ([.ref u]) ++ List.replicate (1 - (lg_sl ([.ref u])).length) Slot.unset).toArray = ls at hl ⊢
  have hl : lv_has ls 1 [(0, .ref u)] := hl
  have hMB := hq0
  refine lv_aload_n G0.1 G0.2.1 dX12_here_0 rfl (lv_at hl 0 rfl) ?_
  obtain ⟨v_1, v_2, v_3, v_4, v_5, v_6, v_7, v_8, v_9, v_10, v_11, v_12, y_13, v_14, v_15, v_16, v_17, v_18, y_19, v_20, y_21, v_22, hr_35, b_23, b_24, b_25, b_26, b_27, b_28, b_29, b_30, b_31, b_32, b_33, b_34⟩ := wg_12 hWF Tu
  have tq_36 := mi_row hr_35 2 rfl
  have tq_37 := mi_row hr_35 3 rfl
  have bv_3 := wf_free v_3
  refine py_get (C := RX12) (T := TX12) (N := 54) (k := 3) (v := .int v_3) G0 hw in_X12_here_X12 rfl hr_35 (by decide) (by decide +kernel) rfl dX12_here_1 ?_
  refine lv_aload_n G0.1 G0.2.1 dX12_here_4 rfl (lv_at hl 0 rfl) ?_
  refine py_get (C := RX12) (T := TX12) (N := 54) (k := 2) (v := .int v_2) G0 hw in_X12_here_X12 rfl hr_35 (by decide) (by decide +kernel) rfl dX12_here_5 ?_
  refine lv_icmp_ge (tgt := 23) G0.1 G0.2.1 dX12_here_8 (by decide) (fun c_38 => ?_) (fun c_38 => ?_)
  · skip
    have tc_38 := ti_le c_38
    refine lv_iconst (v := (-1)) G0.1 G0.2.1 dX12_here_23 (by decide) ?_
    exact py_iret G0 hr rfl hlk hw ⟨(by first | omega | (intro q; omega)), (hrv_out (by omega)), (Or.inr ⟨by omega, rs_v_out (by omega), by omega⟩), rfl, rfl⟩ dX12_here_24
  · skip
    have tc_38 := ti_nle c_38
    refine lv_aload_n G0.1 G0.2.1 dX12_here_11 rfl (lv_at hl 0 rfl) ?_
    refine py_get (C := RX12) (T := TX12) (N := 54) (k := 1) (v := .ref (G.2 u 1)) G0 hw in_X12_here_X12 rfl hr_35 (by decide) (by decide +kernel) rfl dX12_here_12 ?_
    refine lv_aload_n G0.1 G0.2.1 dX12_here_15 rfl (lv_at hl 0 rfl) ?_
    refine py_get (C := RX12) (T := TX12) (N := 54) (k := 3) (v := .int v_3) G0 hw in_X12_here_X12 rfl hr_35 (by decide) (by decide +kernel) rfl dX12_here_16 ?_
    obtain ⟨g_39, ha_40, hi_41⟩ := wf_arr (n := 160) (lo := (-2147483648)) (hi := 2147483647) hWF (wt12_1 hG Tu) (by decide) (fun _ => rfl)
    have rg_42 : vp_in v_3 160 := ti_in (by omega) (by omega)
    refine py_iald G0 hw ha_40 rg_42 dX12_here_19 ?_
    refine lv_topi (fun x_43 ex_43 => ?_)
    have bx_43 := wf_free x_43
    refine lv_goto (tgt := 24) G0.1 G0.2.1 dX12_here_20 (by decide) ?_
    exact py_iret G0 hr rfl hlk hw ⟨(by first | omega | (intro q; omega)), (hrv_in (by omega) (by omega) (arz_ld ha_40 ex_43)), (Or.inl ⟨((rs_vm hMB ha_40 ex_43 (by omega) (by omega) (by omega)) : rs_v gb nb pb = x_43.toInt).symm, by omega⟩), rfl, rfl⟩ dX12_here_24

def w_X12_look : List Cond := .code yX12_look cX12_look 1 (some .int) :: ([Cond.methodLink RX12 130 yX12_here, Cond.instanceMethod yX12_here, Cond.selects RX12 yX12_here yX12_here, Cond.initialized RX12, Cond.fieldLink RX12 127 "HeadYearModel" "at" "I"] ++ (u_ws RX12 TX12 54 ++ (w_X12_here ++ ([]))))
theorem in_X12_look_X12 : ∀ w ∈ u_ws RX12 TX12 54, w ∈ w_X12_look := fun _ h => List.mem_cons_of_mem _ (List.mem_append_right _ (List.mem_append_left _ h))
theorem gg_X12_look_X12_here : GoodIn w_X12_look w_X12_here := goodIn_sub (fun _ h => List.mem_cons_of_mem _ (List.mem_append_right _ (List.mem_append_right _ (List.mem_append_left _ h)))) (by decide +kernel)
theorem g_X12_look_X12_here_130 : GoodIn w_X12_look (wsV RX12 130 RX12 yX12_here w_X12_here) := goodIn_app (goodIn_of _ (by decide +kernel)) gg_X12_look_X12_here
set_option maxHeartbeats 4000000 in
set_option maxRecDepth 100000 in
theorem c_X12_look (l : Launch) (E : py_E) (G : wf_G) (L : List Nat) (f : py_F) (sz : Nat) (u : Nat) (gb : rs_B) (nb : Int) (pb : Int) (hG : GT G) (hWF : WF E G L f) (Tu : G.1 u = 13) (hp0 : 0 ≤ mi f u 3 ∧ mi f u 3 ≤ mi f u 2) (hp1 : mi f u 3 = pb) (hp2 : mi f u 2 = nb ∧ 0 ≤ pb) (hq0 : AG f (G.2 u 1) gb nb) : Met l yX12_look w_X12_look ({ frames := 1, cells := 0, slots := 0, locals := 20 }) (py_Pc E [.ref u] L f sz) (py_Qi E L f sz (fun r L1 f1 => (mi f u 3 ≤ mi f1 u 3 ∧ mi f1 u 3 ≤ mi f u 2) ∧ (r.toInt ≠ -1 → mi f1 u 3 < mi f u 2) ∧ (r.toInt = hrv f1 G u) ∧ (mi f1 u 3 = rs_sk gb nb pb ∧ ((r.toInt = rs_v gb nb (rs_sk gb nb pb) ∧ mi f1 u 3 < mi f1 u 2) ∨ (r.toInt = -1 ∧ rs_v gb nb (rs_sk gb nb pb) = 0 ∧ mi f1 u 2 ≤ mi f1 u 3))) ∧ WF E G L1 f1 ∧ KP G [13] false f f1 ∧ FK [3] f f1 u)) 0 0 (va_A (va_pl L f) sz) := by
  refine Met.ofW (cc := cX12_look) (maxL := 1) (ret := (some .int)) (by decide) rfl ?_
  intro p e s m args below meth c s₁ B hml hv
  obtain ⟨rfl, rfl, hw⟩ := py_start hv
  have G0 : CallFix p m c cX12_look 1 s _ w_X12_look RX12 := ⟨B.exec, B.bytes, hml, findClass_of_methodNamed B.named, atoms_spec (ws := w_X12_look) B.pre⟩
  have hr := B.returns
  have hlk := B.notSynchronized
  have kcm1 : (-1 : Int32).toInt = -1 := rfl
  have kc0 : (0 : Int32).toInt = 0 := rfl
  have kc1 : (1 : Int32).toInt = 1 := rfl
  have kc32 : (32 : Int32).toInt = 32 := rfl
  have hl := lv_entry ([.ref u]) (n := 1) (Nat.le_of_ble_eq_true rfl)
  rw [lg_entry_eq]
  generalize (lg_sl ([.ref u]) ++ List.replicate (1 - (lg_sl ([.ref u])).length) Slot.unset).toArray = ls at hl ⊢
  have hl : lv_has ls 1 [(0, .ref u)] := hl
  have hFK : FK [3] f f u := FK.refl
  have hKP : KP G [13] false f f := KP.refl
  have hMB := hq0
  have lo_0 : ∀ n_0 : Nat, ∀ (L_j0 : List Nat) (f_j0 : py_F) (H_j0 : Heap) (locs : List Loc) (ls : Array Slot), (mi f_j0 u 2 - mi f_j0 u 3).toNat = n_0 → WF E G L_j0 f_j0 → KP G [13] false f f_j0 → AG f_j0 (G.2 u 1) gb nb → FK [3] f f_j0 u → (mi f u 3 ≤ mi f_j0 u 3 ∧ mi f_j0 u 3 ≤ mi f u 2) → (mi f_j0 u 2 = mi f u 2) → (rs_sk gb nb (mi f_j0 u 3) = rs_sk gb nb pb) → py_W E (va_A (va_pl L f) s.heap.size) s L_j0 f_j0 H_j0 locs → lv_has ls 1 [(0, .ref u)] → W p l e (headSpec w_X12_look ({ frames := 1, cells := 0, slots := 0, locals := 20 })).room s m ([.ref u] : List Value).toArray below meth c H_j0 locs 0 0 (MQ below (py_Qi E L f s.heap.size (fun r L1 f1 => (mi f u 3 ≤ mi f1 u 3 ∧ mi f1 u 3 ≤ mi f u 2) ∧ (r.toInt ≠ -1 → mi f1 u 3 < mi f u 2) ∧ (r.toInt = hrv f1 G u) ∧ (mi f1 u 3 = rs_sk gb nb pb ∧ ((r.toInt = rs_v gb nb (rs_sk gb nb pb) ∧ mi f1 u 3 < mi f1 u 2) ∨ (r.toInt = -1 ∧ rs_v gb nb (rs_sk gb nb pb) = 0 ∧ mi f1 u 2 ≤ mi f1 u 3))) ∧ WF E G L1 f1 ∧ KP G [13] false f f1 ∧ FK [3] f f1 u)) ([.ref u] : List Value).toArray s 0 0 (va_A (va_pl L f) s.heap.size)) (F0 m 0 ls []) := by
    intro n_0
    induction n_0 using Nat.strongRecOn with
    | _ n_0 ih_0 =>
      intro L_j0 f_j0 H_j0 locs ls hn_0 hWF hKP hMB hFK iv0 iv1 iv2 hw hl
      refine lv_aload_n G0.1 G0.2.1 dX12_look_0 rfl (lv_at hl 0 rfl) ?_
      obtain ⟨v_1, v_2, v_3, v_4, v_5, v_6, v_7, v_8, v_9, v_10, v_11, v_12, y_13, v_14, v_15, v_16, v_17, v_18, y_19, v_20, y_21, v_22, hr_35, b_23, b_24, b_25, b_26, b_27, b_28, b_29, b_30, b_31, b_32, b_33, b_34⟩ := wg_12 hWF Tu
      have tq_36 := mi_row hr_35 2 rfl
      have tq_37 := mi_row hr_35 3 rfl
      have bv_3 := wf_free v_3
      refine py_calli hw (va_runV (As := []) (rest := []) G0 (c_X12_here l E G L_j0 f_j0 H_j0.size u gb nb (mi f_j0 u 3) hG hWF Tu (show 0 ≤ mi f_j0 u 3 by omega) (show mi f_j0 u 3 = (mi f_j0 u 3) by omega) (show mi f_j0 u 2 = nb ∧ 0 ≤ (mi f_j0 u 3) by omega) hMB) (cwV 0 G0.2.2.2.2 g_X12_look_X12_here_130 rfl rfl rfl (by decide +kernel) ⟨(Nat.le_of_ble_eq_true rfl), (Nat.le_of_ble_eq_true rfl)⟩) (py_preV hw (C := RX12) (T := TX12) (N := 54) rfl hr_35) rfl rfl hl.1 rfl (lv_room (Nat.le_of_ble_eq_true rfl)) dX12_look_1 ⟨(Nat.le_of_ble_eq_true rfl), (Nat.le_of_ble_eq_true rfl)⟩) (fun r_42 L_38 f_39 H_40 locs hp_41 hw => ?_)
      obtain ⟨en_43, en_44, en_45, rfl, rfl⟩ := hp_41
      have br_42 := wf_free r_42
      refine lv_bipush (v := 32) G0.1 G0.2.1 dX12_look_4 (by decide) ?_
      refine lv_icmp_ne (tgt := 22) G0.1 G0.2.1 dX12_look_6 (by decide) (fun c_46 => ?_) (fun c_46 => ?_)
      · skip
        have tc_46 := ti_ne c_46
        have hsk : rs_sk gb nb pb = mi f_j0 u 3 := iv2.symm.trans (rs_sk_stop (by omega))
        refine lv_aload_n G0.1 G0.2.1 dX12_look_22 rfl (lv_at hl 0 rfl) ?_
        refine py_calli hw (va_runV (As := []) (rest := []) G0 (c_X12_here l E G L_j0 f_j0 H_40.size u gb nb (rs_sk gb nb pb) hG hWF Tu (show 0 ≤ mi f_j0 u 3 by omega) (show mi f_j0 u 3 = (rs_sk gb nb pb) by omega) (show mi f_j0 u 2 = nb ∧ 0 ≤ (rs_sk gb nb pb) by omega) hMB) (cwV 0 G0.2.2.2.2 g_X12_look_X12_here_130 rfl rfl rfl (by decide +kernel) ⟨(Nat.le_of_ble_eq_true rfl), (Nat.le_of_ble_eq_true rfl)⟩) (py_preV hw (C := RX12) (T := TX12) (N := 54) rfl hr_35) rfl rfl hl.1 rfl (lv_room (Nat.le_of_ble_eq_true rfl)) dX12_look_23 ⟨(Nat.le_of_ble_eq_true rfl), (Nat.le_of_ble_eq_true rfl)⟩) (fun r_51 L_47 f_48 H_49 locs hp_50 hw => ?_)
        obtain ⟨en_52, en_53, en_54, rfl, rfl⟩ := hp_50
        have br_51 := wf_free r_51
        exact py_iret G0 hr rfl hlk hw ⟨(by first | omega | (intro q; omega)), (by first | omega | (intro q; omega)), en_53, (by first | omega | (intro q; omega)), hWF, hKP, hFK⟩ dX12_look_26
      · skip
        have tc_46 := ti_eq c_46
        replace en_43 := en_43 (by omega)
        refine lv_aload_n G0.1 G0.2.1 dX12_look_9 rfl (lv_at hl 0 rfl) ?_
        refine lv_dup G0.1 G0.2.1 dX12_look_10 rfl ?_
        refine py_get (C := RX12) (T := TX12) (N := 54) (k := 3) (v := .int v_3) G0 hw in_X12_look_X12 rfl hr_35 (by decide) (by decide +kernel) rfl dX12_look_11 ?_
        refine lv_iconst (v := 1) G0.1 G0.2.1 dX12_look_14 (by decide) ?_
        refine lv_iadd G0.1 G0.2.1 dX12_look_15 ?_
        refine lv_topi (fun x_55 ex_55 => ?_)
        first | have tx_55 := ti_add ex_55 (by omega) (by omega) | skip
        refine py_put (C := RX12) (T := TX12) (N := 54) (k := 3) (v := .int x_55) (fs' := [.int v_1, .ref (G.2 u 1), .int v_2, .int x_55, .int v_4, .int v_5, .ref (G.2 u 6), .ref (G.2 u 7), .ref (G.2 u 8), .ref (G.2 u 9), .ref (G.2 u 10), .ref (G.2 u 11), .ref (G.2 u 12), .int v_6, .int v_7, .ref (G.2 u 15), .ref (G.2 u 16), .ref (G.2 u 17), .ref (G.2 u 18), .int v_8, .int v_9, .ref (G.2 u 21), .ref (G.2 u 22), .ref (G.2 u 23), .int v_10, .int v_11, .ref (G.2 u 26), .ref (G.2 u 27), .ref (G.2 u 28), .int v_12, .long y_13, .int v_14, .int v_15, .int v_16, .int v_17, .ref (G.2 u 35), .ref (G.2 u 36), .ref (G.2 u 37), .ref (G.2 u 38), .ref (G.2 u 39), .ref (G.2 u 40), .ref (G.2 u 41), .ref (G.2 u 42), .int v_18, .ref (G.2 u 44), .ref (G.2 u 45), .ref (G.2 u 46), .ref (G.2 u 47), .long y_19, .ref (G.2 u 49), .ref (G.2 u 50), .int v_20, .long y_21, .int v_22]) (ty0 := tyX12) G0 hw tyX12_ok nmX12 in_X12_look_X12 rfl hr_35 (by decide) (by decide +kernel) rfl rfl rfl rfl (Nat.le_of_ble_eq_true rfl) rfl dX12_look_16 (fun f_56 H_57 locs h_58 x_59 hw => ?_)
        have hMB := hMB.kp (kp_f (KP.refl.upd hWF x_59 Tu (Or.inl (by decide)) : KP G [13] false f_j0 f_56) (wt12_1 hG Tu) (by decide) (by decide) (fun _ => by decide))
        have hFK := hFK.put hr_35 h_58 3 (by decide) rfl
        have hKP := hKP.upd hWF x_59 Tu (Or.inl (by decide))
        have hWF := wf_upd hWF h_58 x_59 (by rw [Tu]; exact ⟨v_1, v_2, x_55, v_4, v_5, v_6, v_7, v_8, v_9, v_10, v_11, v_12, y_13, v_14, v_15, v_16, v_17, v_18, y_19, v_20, y_21, v_22, rfl, ⟨by omega, by omega⟩, ⟨by omega, by omega⟩, ⟨by omega, by omega⟩, ⟨by omega, by omega⟩, ⟨by omega, by omega⟩, ⟨by omega, by omega⟩, ⟨by omega, by omega⟩, ⟨by omega, by omega⟩, ⟨by omega, by omega⟩, ⟨by omega, by omega⟩, ⟨by omega, by omega⟩, ⟨by omega, by omega⟩⟩)
        have tq_60 := mi_row h_58 2 rfl
        have tq_61 := mi_row h_58 3 rfl
        have bx_55 := wf_free x_55
        refine lv_goto (tgt := 0) G0.1 G0.2.1 dX12_look_19 (by decide) ?_
        exact ih_0 ((mi f_56 u 2 - mi f_56 u 3).toNat) (by omega) L_j0 f_56 _ _ ls rfl hWF hKP hMB hFK (by first | omega | (intros; omega)) (by first | omega | (intros; omega)) (rs_sk_on iv2 (by omega) (by omega)) hw (lv_sub hl [0] rfl)
  exact lo_0 _ L f _ _ ls rfl hWF hKP hMB hFK (by first | omega | (intros; omega)) (by first | omega | (intros; omega)) (by rw [show mi f u 3 = pb by omega]) hw (lv_sub hl [0] rfl)

def w_X12_bad : List Cond := .code yX12_bad cX12_bad 1 none :: ([Cond.fieldLink RX12 134 "HeadYearModel" "wrong" "I", Cond.fieldLink RX12 127 "HeadYearModel" "at" "I"] ++ (u_ws RX12 TX12 54 ++ ([])))
theorem in_X12_bad_X12 : ∀ w ∈ u_ws RX12 TX12 54, w ∈ w_X12_bad := fun _ h => List.mem_cons_of_mem _ (List.mem_append_right _ (List.mem_append_left _ h))
set_option maxHeartbeats 4000000 in
set_option maxRecDepth 100000 in
theorem c_X12_bad (l : Launch) (E : py_E) (G : wf_G) (L : List Nat) (f : py_F) (sz : Nat) (u : Nat) (hG : GT G) (hWF : WF E G L f) (Tu : G.1 u = 13) (hp0 : 0 ≤ mi f u 3) : Met l yX12_bad w_X12_bad ({ frames := 0, cells := 0, slots := 0, locals := 0 }) (py_Pc E [.ref u] L f sz) (py_Qv E L f sz (fun L1 f1 => (mi f1 u 4 ≠ -1) ∧ (mi f u 4 ≠ -1 → mi f1 u 4 = mi f u 4) ∧ (mi f u 4 = -1 → mi f1 u 4 = mi f u 3) ∧ WF E G L1 f1 ∧ KP G [13] false f f1 ∧ FK [4] f f1 u)) 0 0 (va_A (va_pl L f) sz) := by
  refine Met.ofW (cc := cX12_bad) (maxL := 1) (ret := none) (by decide) rfl ?_
  intro p e s m args below meth c s₁ B hml hv
  obtain ⟨rfl, rfl, hw⟩ := py_start hv
  have G0 : CallFix p m c cX12_bad 1 s _ w_X12_bad RX12 := ⟨B.exec, B.bytes, hml, findClass_of_methodNamed B.named, atoms_spec (ws := w_X12_bad) B.pre⟩
  have hr := B.returns
  have hlk := B.notSynchronized
  have kcm1 : (-1 : Int32).toInt = -1 := rfl
  have kc0 : (0 : Int32).toInt = 0 := rfl
  have kc1 : (1 : Int32).toInt = 1 := rfl
  have hl := lv_entry ([.ref u]) (n := 1) (Nat.le_of_ble_eq_true rfl)
  rw [lg_entry_eq]
  generalize (lg_sl ([.ref u]) ++ List.replicate (1 - (lg_sl ([.ref u])).length) Slot.unset).toArray = ls at hl ⊢
  have hl : lv_has ls 1 [(0, .ref u)] := hl
  have hFK : FK [4] f f u := FK.refl
  have hKP : KP G [13] false f f := KP.refl
  refine lv_aload_n G0.1 G0.2.1 dX12_bad_0 rfl (lv_at hl 0 rfl) ?_
  refine lv_aload_n G0.1 G0.2.1 dX12_bad_1 rfl (lv_at hl 0 rfl) ?_
  obtain ⟨v_1, v_2, v_3, v_4, v_5, v_6, v_7, v_8, v_9, v_10, v_11, v_12, y_13, v_14, v_15, v_16, v_17, v_18, y_19, v_20, y_21, v_22, hr_35, b_23, b_24, b_25, b_26, b_27, b_28, b_29, b_30, b_31, b_32, b_33, b_34⟩ := wg_12 hWF Tu
  have tq_36 := mi_row hr_35 3 rfl
  have bv_3 := wf_free v_3
  have tq_37 := mi_row hr_35 4 rfl
  have bv_4 := wf_free v_4
  refine py_get (C := RX12) (T := TX12) (N := 54) (k := 4) (v := .int v_4) G0 hw in_X12_bad_X12 rfl hr_35 (by decide) (by decide +kernel) rfl dX12_bad_2 ?_
  refine lv_iconst (v := (-1)) G0.1 G0.2.1 dX12_bad_5 (by decide) ?_
  refine lv_icmp_ne (tgt := 16) G0.1 G0.2.1 dX12_bad_6 (by decide) (fun c_38 => ?_) (fun c_38 => ?_)
  · skip
    have tc_38 := ti_ne c_38
    refine lv_aload_n G0.1 G0.2.1 dX12_bad_16 rfl (lv_at hl 0 rfl) ?_
    refine py_get (C := RX12) (T := TX12) (N := 54) (k := 4) (v := .int v_4) G0 hw in_X12_bad_X12 rfl hr_35 (by decide) (by decide +kernel) rfl dX12_bad_17 ?_
    refine py_put (C := RX12) (T := TX12) (N := 54) (k := 4) (v := .int v_4) (fs' := [.int v_1, .ref (G.2 u 1), .int v_2, .int v_3, .int v_4, .int v_5, .ref (G.2 u 6), .ref (G.2 u 7), .ref (G.2 u 8), .ref (G.2 u 9), .ref (G.2 u 10), .ref (G.2 u 11), .ref (G.2 u 12), .int v_6, .int v_7, .ref (G.2 u 15), .ref (G.2 u 16), .ref (G.2 u 17), .ref (G.2 u 18), .int v_8, .int v_9, .ref (G.2 u 21), .ref (G.2 u 22), .ref (G.2 u 23), .int v_10, .int v_11, .ref (G.2 u 26), .ref (G.2 u 27), .ref (G.2 u 28), .int v_12, .long y_13, .int v_14, .int v_15, .int v_16, .int v_17, .ref (G.2 u 35), .ref (G.2 u 36), .ref (G.2 u 37), .ref (G.2 u 38), .ref (G.2 u 39), .ref (G.2 u 40), .ref (G.2 u 41), .ref (G.2 u 42), .int v_18, .ref (G.2 u 44), .ref (G.2 u 45), .ref (G.2 u 46), .ref (G.2 u 47), .long y_19, .ref (G.2 u 49), .ref (G.2 u 50), .int v_20, .long y_21, .int v_22]) (ty0 := tyX12) G0 hw tyX12_ok nmX12 in_X12_bad_X12 rfl hr_35 (by decide) (by decide +kernel) rfl rfl rfl rfl (Nat.le_of_ble_eq_true rfl) rfl dX12_bad_20 (fun f_39 H_40 locs h_41 x_42 hw => ?_)
    have hFK := hFK.put hr_35 h_41 4 (by decide) rfl
    have hKP := hKP.upd hWF x_42 Tu (Or.inl (by decide))
    have hWF := wf_upd hWF h_41 x_42 (by rw [Tu]; exact ⟨v_1, v_2, v_3, v_4, v_5, v_6, v_7, v_8, v_9, v_10, v_11, v_12, y_13, v_14, v_15, v_16, v_17, v_18, y_19, v_20, y_21, v_22, rfl, ⟨by omega, by omega⟩, ⟨by omega, by omega⟩, ⟨by omega, by omega⟩, ⟨by omega, by omega⟩, ⟨by omega, by omega⟩, ⟨by omega, by omega⟩, ⟨by omega, by omega⟩, ⟨by omega, by omega⟩, ⟨by omega, by omega⟩, ⟨by omega, by omega⟩, ⟨by omega, by omega⟩, ⟨by omega, by omega⟩⟩)
    have tq_43 := mi_row h_41 3 rfl
    have bv_3 := wf_free v_3
    have tq_44 := mi_row h_41 4 rfl
    have bv_4 := wf_free v_4
    exact py_vret G0 hr hlk hw ⟨(by first | omega | (intro q; omega)), (by first | omega | (intro q; omega)), (by first | omega | (intro q; omega)), hWF, hKP, hFK⟩ dX12_bad_23
  · skip
    have tc_38 := ti_eq c_38
    refine lv_aload_n G0.1 G0.2.1 dX12_bad_9 rfl (lv_at hl 0 rfl) ?_
    refine py_get (C := RX12) (T := TX12) (N := 54) (k := 3) (v := .int v_3) G0 hw in_X12_bad_X12 rfl hr_35 (by decide) (by decide +kernel) rfl dX12_bad_10 ?_
    refine lv_goto (tgt := 20) G0.1 G0.2.1 dX12_bad_13 (by decide) ?_
    refine py_put (C := RX12) (T := TX12) (N := 54) (k := 4) (v := .int v_3) (fs' := [.int v_1, .ref (G.2 u 1), .int v_2, .int v_3, .int v_3, .int v_5, .ref (G.2 u 6), .ref (G.2 u 7), .ref (G.2 u 8), .ref (G.2 u 9), .ref (G.2 u 10), .ref (G.2 u 11), .ref (G.2 u 12), .int v_6, .int v_7, .ref (G.2 u 15), .ref (G.2 u 16), .ref (G.2 u 17), .ref (G.2 u 18), .int v_8, .int v_9, .ref (G.2 u 21), .ref (G.2 u 22), .ref (G.2 u 23), .int v_10, .int v_11, .ref (G.2 u 26), .ref (G.2 u 27), .ref (G.2 u 28), .int v_12, .long y_13, .int v_14, .int v_15, .int v_16, .int v_17, .ref (G.2 u 35), .ref (G.2 u 36), .ref (G.2 u 37), .ref (G.2 u 38), .ref (G.2 u 39), .ref (G.2 u 40), .ref (G.2 u 41), .ref (G.2 u 42), .int v_18, .ref (G.2 u 44), .ref (G.2 u 45), .ref (G.2 u 46), .ref (G.2 u 47), .long y_19, .ref (G.2 u 49), .ref (G.2 u 50), .int v_20, .long y_21, .int v_22]) (ty0 := tyX12) G0 hw tyX12_ok nmX12 in_X12_bad_X12 rfl hr_35 (by decide) (by decide +kernel) rfl rfl rfl rfl (Nat.le_of_ble_eq_true rfl) rfl dX12_bad_20 (fun f_45 H_46 locs h_47 x_48 hw => ?_)
    have hFK := hFK.put hr_35 h_47 4 (by decide) rfl
    have hKP := hKP.upd hWF x_48 Tu (Or.inl (by decide))
    have hWF := wf_upd hWF h_47 x_48 (by rw [Tu]; exact ⟨v_1, v_2, v_3, v_3, v_5, v_6, v_7, v_8, v_9, v_10, v_11, v_12, y_13, v_14, v_15, v_16, v_17, v_18, y_19, v_20, y_21, v_22, rfl, ⟨by omega, by omega⟩, ⟨by omega, by omega⟩, ⟨by omega, by omega⟩, ⟨by omega, by omega⟩, ⟨by omega, by omega⟩, ⟨by omega, by omega⟩, ⟨by omega, by omega⟩, ⟨by omega, by omega⟩, ⟨by omega, by omega⟩, ⟨by omega, by omega⟩, ⟨by omega, by omega⟩, ⟨by omega, by omega⟩⟩)
    have tq_49 := mi_row h_47 3 rfl
    have bv_3 := wf_free v_3
    have tq_50 := mi_row h_47 4 rfl
    have bv_3 := wf_free v_3
    exact py_vret G0 hr hlk hw ⟨(by first | omega | (intro q; omega)), (by first | omega | (intro q; omega)), (by first | omega | (intro q; omega)), hWF, hKP, hFK⟩ dX12_bad_23

def w_X12_opens : List Cond := .code yX12_opens cX12_opens 1 none :: ([Cond.fieldLink RX12 140 "HeadYearModel" "deep" "I", Cond.fieldLink RX12 127 "HeadYearModel" "at" "I", Cond.methodLink RX12 143 yX12_bad, Cond.instanceMethod yX12_bad, Cond.selects RX12 yX12_bad yX12_bad, Cond.initialized RX12] ++ (u_ws RX12 TX12 54 ++ (w_X12_bad ++ ([]))))
theorem in_X12_opens_X12 : ∀ w ∈ u_ws RX12 TX12 54, w ∈ w_X12_opens := fun _ h => List.mem_cons_of_mem _ (List.mem_append_right _ (List.mem_append_left _ h))
theorem gg_X12_opens_X12_bad : GoodIn w_X12_opens w_X12_bad := goodIn_sub (fun _ h => List.mem_cons_of_mem _ (List.mem_append_right _ (List.mem_append_right _ (List.mem_append_left _ h)))) (by decide +kernel)
theorem g_X12_opens_X12_bad_143 : GoodIn w_X12_opens (wsV RX12 143 RX12 yX12_bad w_X12_bad) := goodIn_app (goodIn_of _ (by decide +kernel)) gg_X12_opens_X12_bad
theorem fk_4 {E : py_E} {G : wf_G} {L L1 : List Nat} {f f1 : py_F} {m : Nat} (hWF : WF E G L1 f1) (Tm : G.1 m = 13) (h : FK [4] f f1 m) {v0 : Int32} {v2 : Int32} {v3 : Int32} {v4 : Int32} {v5 : Int32} {v13 : Int32} {v14 : Int32} {v19 : Int32} {v20 : Int32} {v24 : Int32} {v25 : Int32} {v29 : Int32} {v30 : Int64} {v31 : Int32} {v32 : Int32} {v33 : Int32} {v34 : Int32} {v43 : Int32} {v48 : Int64} {v51 : Int32} {v52 : Int64} {v53 : Int32} (hr : py_at L f m (.inr (12, [.int v0, .ref (G.2 m 1), .int v2, .int v3, .int v4, .int v5, .ref (G.2 m 6), .ref (G.2 m 7), .ref (G.2 m 8), .ref (G.2 m 9), .ref (G.2 m 10), .ref (G.2 m 11), .ref (G.2 m 12), .int v13, .int v14, .ref (G.2 m 15), .ref (G.2 m 16), .ref (G.2 m 17), .ref (G.2 m 18), .int v19, .int v20, .ref (G.2 m 21), .ref (G.2 m 22), .ref (G.2 m 23), .int v24, .int v25, .ref (G.2 m 26), .ref (G.2 m 27), .ref (G.2 m 28), .int v29, .long v30, .int v31, .int v32, .int v33, .int v34, .ref (G.2 m 35), .ref (G.2 m 36), .ref (G.2 m 37), .ref (G.2 m 38), .ref (G.2 m 39), .ref (G.2 m 40), .ref (G.2 m 41), .ref (G.2 m 42), .int v43, .ref (G.2 m 44), .ref (G.2 m 45), .ref (G.2 m 46), .ref (G.2 m 47), .long v48, .ref (G.2 m 49), .ref (G.2 m 50), .int v51, .long v52, .int v53]))) : ∃ (w4 : Int32), py_at L1 f1 m (.inr (12, [.int v0, .ref (G.2 m 1), .int v2, .int v3, .int w4, .int v5, .ref (G.2 m 6), .ref (G.2 m 7), .ref (G.2 m 8), .ref (G.2 m 9), .ref (G.2 m 10), .ref (G.2 m 11), .ref (G.2 m 12), .int v13, .int v14, .ref (G.2 m 15), .ref (G.2 m 16), .ref (G.2 m 17), .ref (G.2 m 18), .int v19, .int v20, .ref (G.2 m 21), .ref (G.2 m 22), .ref (G.2 m 23), .int v24, .int v25, .ref (G.2 m 26), .ref (G.2 m 27), .ref (G.2 m 28), .int v29, .long v30, .int v31, .int v32, .int v33, .int v34, .ref (G.2 m 35), .ref (G.2 m 36), .ref (G.2 m 37), .ref (G.2 m 38), .ref (G.2 m 39), .ref (G.2 m 40), .ref (G.2 m 41), .ref (G.2 m 42), .int v43, .ref (G.2 m 44), .ref (G.2 m 45), .ref (G.2 m 46), .ref (G.2 m 47), .long v48, .ref (G.2 m 49), .ref (G.2 m 50), .int v51, .long v52, .int v53])) := by
  obtain ⟨w0, w2, w3, w4, w5, w13, w14, w19, w20, w24, w25, w29, w30, w31, w32, w33, w34, w43, w48, w51, w52, w53, hr1, b2, b13, b14, b19, b20, b24, b25, b29, b31, b43, b51, b53⟩ := wg_12 hWF Tm
  have e0 : w0 = v0 := Value.int.inj (Option.some.inj (show some (Value.int w0) = some (Value.int v0) from fk_i h hr hr1 0 (by decide) (by decide)))
  subst e0
  have e2 : w2 = v2 := Value.int.inj (Option.some.inj (show some (Value.int w2) = some (Value.int v2) from fk_i h hr hr1 2 (by decide) (by decide)))
  subst e2
  have e3 : w3 = v3 := Value.int.inj (Option.some.inj (show some (Value.int w3) = some (Value.int v3) from fk_i h hr hr1 3 (by decide) (by decide)))
  subst e3
  have e5 : w5 = v5 := Value.int.inj (Option.some.inj (show some (Value.int w5) = some (Value.int v5) from fk_i h hr hr1 5 (by decide) (by decide)))
  subst e5
  have e13 : w13 = v13 := Value.int.inj (Option.some.inj (show some (Value.int w13) = some (Value.int v13) from fk_i h hr hr1 13 (by decide) (by decide)))
  subst e13
  have e14 : w14 = v14 := Value.int.inj (Option.some.inj (show some (Value.int w14) = some (Value.int v14) from fk_i h hr hr1 14 (by decide) (by decide)))
  subst e14
  have e19 : w19 = v19 := Value.int.inj (Option.some.inj (show some (Value.int w19) = some (Value.int v19) from fk_i h hr hr1 19 (by decide) (by decide)))
  subst e19
  have e20 : w20 = v20 := Value.int.inj (Option.some.inj (show some (Value.int w20) = some (Value.int v20) from fk_i h hr hr1 20 (by decide) (by decide)))
  subst e20
  have e24 : w24 = v24 := Value.int.inj (Option.some.inj (show some (Value.int w24) = some (Value.int v24) from fk_i h hr hr1 24 (by decide) (by decide)))
  subst e24
  have e25 : w25 = v25 := Value.int.inj (Option.some.inj (show some (Value.int w25) = some (Value.int v25) from fk_i h hr hr1 25 (by decide) (by decide)))
  subst e25
  have e29 : w29 = v29 := Value.int.inj (Option.some.inj (show some (Value.int w29) = some (Value.int v29) from fk_i h hr hr1 29 (by decide) (by decide)))
  subst e29
  have e30 : w30 = v30 := Value.long.inj (Option.some.inj (show some (Value.long w30) = some (Value.long v30) from fk_i h hr hr1 30 (by decide) (by decide)))
  subst e30
  have e31 : w31 = v31 := Value.int.inj (Option.some.inj (show some (Value.int w31) = some (Value.int v31) from fk_i h hr hr1 31 (by decide) (by decide)))
  subst e31
  have e32 : w32 = v32 := Value.int.inj (Option.some.inj (show some (Value.int w32) = some (Value.int v32) from fk_i h hr hr1 32 (by decide) (by decide)))
  subst e32
  have e33 : w33 = v33 := Value.int.inj (Option.some.inj (show some (Value.int w33) = some (Value.int v33) from fk_i h hr hr1 33 (by decide) (by decide)))
  subst e33
  have e34 : w34 = v34 := Value.int.inj (Option.some.inj (show some (Value.int w34) = some (Value.int v34) from fk_i h hr hr1 34 (by decide) (by decide)))
  subst e34
  have e43 : w43 = v43 := Value.int.inj (Option.some.inj (show some (Value.int w43) = some (Value.int v43) from fk_i h hr hr1 43 (by decide) (by decide)))
  subst e43
  have e48 : w48 = v48 := Value.long.inj (Option.some.inj (show some (Value.long w48) = some (Value.long v48) from fk_i h hr hr1 48 (by decide) (by decide)))
  subst e48
  have e51 : w51 = v51 := Value.int.inj (Option.some.inj (show some (Value.int w51) = some (Value.int v51) from fk_i h hr hr1 51 (by decide) (by decide)))
  subst e51
  have e52 : w52 = v52 := Value.long.inj (Option.some.inj (show some (Value.long w52) = some (Value.long v52) from fk_i h hr hr1 52 (by decide) (by decide)))
  subst e52
  have e53 : w53 = v53 := Value.int.inj (Option.some.inj (show some (Value.int w53) = some (Value.int v53) from fk_i h hr hr1 53 (by decide) (by decide)))
  subst e53
  exact ⟨w4, hr1⟩
set_option maxHeartbeats 4000000 in
set_option maxRecDepth 100000 in
theorem c_X12_opens (l : Launch) (E : py_E) (G : wf_G) (L : List Nat) (f : py_F) (sz : Nat) (u : Nat) (hG : GT G) (hWF : WF E G L f) (Tu : G.1 u = 13) (hp0 : 0 ≤ mi f u 3 ∧ mi f u 3 ≤ 1000 ∧ 0 ≤ mi f u 5 ∧ mi f u 5 ≤ 6) : Met l yX12_opens w_X12_opens ({ frames := 1, cells := 0, slots := 0, locals := 20 }) (py_Pc E [.ref u] L f sz) (py_Qv E L f sz (fun L1 f1 => (mi f1 u 3 = mi f u 3 + 1 ∧ mi f1 u 5 = mi f u 5 + 1) ∧ (mi f u 5 ≠ 6 → mi f1 u 4 = mi f u 4) ∧ (mi f u 5 = 6 → mi f1 u 4 ≠ -1 ∧ (mi f u 4 = -1 → mi f1 u 4 = mi f u 3)) ∧ (mi f u 4 ≠ -1 → mi f1 u 4 ≠ -1) ∧ WF E G L1 f1 ∧ KP G [13] false f f1 ∧ FK [3, 4, 5] f f1 u)) 0 0 (va_A (va_pl L f) sz) := by
  refine Met.ofW (cc := cX12_opens) (maxL := 1) (ret := none) (by decide) rfl ?_
  intro p e s m args below meth c s₁ B hml hv
  obtain ⟨rfl, rfl, hw⟩ := py_start hv
  have G0 : CallFix p m c cX12_opens 1 s _ w_X12_opens RX12 := ⟨B.exec, B.bytes, hml, findClass_of_methodNamed B.named, atoms_spec (ws := w_X12_opens) B.pre⟩
  have hr := B.returns
  have hlk := B.notSynchronized
  have kcm1 : (-1 : Int32).toInt = -1 := rfl
  have kc0 : (0 : Int32).toInt = 0 := rfl
  have kc1 : (1 : Int32).toInt = 1 := rfl
  have kc6 : (6 : Int32).toInt = 6 := rfl
  have hl := lv_entry ([.ref u]) (n := 1) (Nat.le_of_ble_eq_true rfl)
  rw [lg_entry_eq]
  generalize (lg_sl ([.ref u]) ++ List.replicate (1 - (lg_sl ([.ref u])).length) Slot.unset).toArray = ls at hl ⊢
  have hl : lv_has ls 1 [(0, .ref u)] := hl
  have hFK : FK [3, 4, 5] f f u := FK.refl
  have hKP : KP G [13] false f f := KP.refl
  refine lv_aload_n G0.1 G0.2.1 dX12_opens_0 rfl (lv_at hl 0 rfl) ?_
  obtain ⟨v_1, v_2, v_3, v_4, v_5, v_6, v_7, v_8, v_9, v_10, v_11, v_12, y_13, v_14, v_15, v_16, v_17, v_18, y_19, v_20, y_21, v_22, hr_35, b_23, b_24, b_25, b_26, b_27, b_28, b_29, b_30, b_31, b_32, b_33, b_34⟩ := wg_12 hWF Tu
  have tq_36 := mi_row hr_35 3 rfl
  have bv_3 := wf_free v_3
  have tq_37 := mi_row hr_35 4 rfl
  have bv_4 := wf_free v_4
  have tq_38 := mi_row hr_35 5 rfl
  have bv_5 := wf_free v_5
  refine py_get (C := RX12) (T := TX12) (N := 54) (k := 5) (v := .int v_5) G0 hw in_X12_opens_X12 rfl hr_35 (by decide) (by decide +kernel) rfl dX12_opens_1 ?_
  refine lv_bipush (v := 6) G0.1 G0.2.1 dX12_opens_4 (by decide) ?_
  refine lv_icmp_ne (tgt := 13) G0.1 G0.2.1 dX12_opens_6 (by decide) (fun c_39 => ?_) (fun c_39 => ?_)
  · skip
    have tc_39 := ti_ne c_39
    refine lv_aload_n G0.1 G0.2.1 dX12_opens_13 rfl (lv_at hl 0 rfl) ?_
    refine lv_dup G0.1 G0.2.1 dX12_opens_14 rfl ?_
    refine py_get (C := RX12) (T := TX12) (N := 54) (k := 5) (v := .int v_5) G0 hw in_X12_opens_X12 rfl hr_35 (by decide) (by decide +kernel) rfl dX12_opens_15 ?_
    refine lv_iconst (v := 1) G0.1 G0.2.1 dX12_opens_18 (by decide) ?_
    refine lv_iadd G0.1 G0.2.1 dX12_opens_19 ?_
    refine lv_topi (fun x_40 ex_40 => ?_)
    first | have tx_40 := ti_add ex_40 (by omega) (by omega) | skip
    refine py_put (C := RX12) (T := TX12) (N := 54) (k := 5) (v := .int x_40) (fs' := [.int v_1, .ref (G.2 u 1), .int v_2, .int v_3, .int v_4, .int x_40, .ref (G.2 u 6), .ref (G.2 u 7), .ref (G.2 u 8), .ref (G.2 u 9), .ref (G.2 u 10), .ref (G.2 u 11), .ref (G.2 u 12), .int v_6, .int v_7, .ref (G.2 u 15), .ref (G.2 u 16), .ref (G.2 u 17), .ref (G.2 u 18), .int v_8, .int v_9, .ref (G.2 u 21), .ref (G.2 u 22), .ref (G.2 u 23), .int v_10, .int v_11, .ref (G.2 u 26), .ref (G.2 u 27), .ref (G.2 u 28), .int v_12, .long y_13, .int v_14, .int v_15, .int v_16, .int v_17, .ref (G.2 u 35), .ref (G.2 u 36), .ref (G.2 u 37), .ref (G.2 u 38), .ref (G.2 u 39), .ref (G.2 u 40), .ref (G.2 u 41), .ref (G.2 u 42), .int v_18, .ref (G.2 u 44), .ref (G.2 u 45), .ref (G.2 u 46), .ref (G.2 u 47), .long y_19, .ref (G.2 u 49), .ref (G.2 u 50), .int v_20, .long y_21, .int v_22]) (ty0 := tyX12) G0 hw tyX12_ok nmX12 in_X12_opens_X12 rfl hr_35 (by decide) (by decide +kernel) rfl rfl rfl rfl (Nat.le_of_ble_eq_true rfl) rfl dX12_opens_20 (fun f_41 H_42 locs h_43 x_44 hw => ?_)
    have hFK := hFK.put hr_35 h_43 5 (by decide) rfl
    have hKP := hKP.upd hWF x_44 Tu (Or.inl (by decide))
    have hWF := wf_upd hWF h_43 x_44 (by rw [Tu]; exact ⟨v_1, v_2, v_3, v_4, x_40, v_6, v_7, v_8, v_9, v_10, v_11, v_12, y_13, v_14, v_15, v_16, v_17, v_18, y_19, v_20, y_21, v_22, rfl, ⟨by omega, by omega⟩, ⟨by omega, by omega⟩, ⟨by omega, by omega⟩, ⟨by omega, by omega⟩, ⟨by omega, by omega⟩, ⟨by omega, by omega⟩, ⟨by omega, by omega⟩, ⟨by omega, by omega⟩, ⟨by omega, by omega⟩, ⟨by omega, by omega⟩, ⟨by omega, by omega⟩, ⟨by omega, by omega⟩⟩)
    have tq_45 := mi_row h_43 3 rfl
    have bv_3 := wf_free v_3
    have tq_46 := mi_row h_43 4 rfl
    have bv_4 := wf_free v_4
    have tq_47 := mi_row h_43 5 rfl
    have bx_40 := wf_free x_40
    refine lv_aload_n G0.1 G0.2.1 dX12_opens_23 rfl (lv_at hl 0 rfl) ?_
    refine lv_dup G0.1 G0.2.1 dX12_opens_24 rfl ?_
    refine py_get (C := RX12) (T := TX12) (N := 54) (k := 3) (v := .int v_3) G0 hw in_X12_opens_X12 rfl h_43 (by decide) (by decide +kernel) rfl dX12_opens_25 ?_
    refine lv_iconst (v := 1) G0.1 G0.2.1 dX12_opens_28 (by decide) ?_
    refine lv_iadd G0.1 G0.2.1 dX12_opens_29 ?_
    refine lv_topi (fun x_48 ex_48 => ?_)
    first | have tx_48 := ti_add ex_48 (by omega) (by omega) | skip
    refine py_put (C := RX12) (T := TX12) (N := 54) (k := 3) (v := .int x_48) (fs' := [.int v_1, .ref (G.2 u 1), .int v_2, .int x_48, .int v_4, .int x_40, .ref (G.2 u 6), .ref (G.2 u 7), .ref (G.2 u 8), .ref (G.2 u 9), .ref (G.2 u 10), .ref (G.2 u 11), .ref (G.2 u 12), .int v_6, .int v_7, .ref (G.2 u 15), .ref (G.2 u 16), .ref (G.2 u 17), .ref (G.2 u 18), .int v_8, .int v_9, .ref (G.2 u 21), .ref (G.2 u 22), .ref (G.2 u 23), .int v_10, .int v_11, .ref (G.2 u 26), .ref (G.2 u 27), .ref (G.2 u 28), .int v_12, .long y_13, .int v_14, .int v_15, .int v_16, .int v_17, .ref (G.2 u 35), .ref (G.2 u 36), .ref (G.2 u 37), .ref (G.2 u 38), .ref (G.2 u 39), .ref (G.2 u 40), .ref (G.2 u 41), .ref (G.2 u 42), .int v_18, .ref (G.2 u 44), .ref (G.2 u 45), .ref (G.2 u 46), .ref (G.2 u 47), .long y_19, .ref (G.2 u 49), .ref (G.2 u 50), .int v_20, .long y_21, .int v_22]) (ty0 := tyX12) G0 hw tyX12_ok nmX12 in_X12_opens_X12 rfl h_43 (by decide) (by decide +kernel) rfl rfl rfl rfl (Nat.le_of_ble_eq_true rfl) rfl dX12_opens_30 (fun f_49 H_50 locs h_51 x_52 hw => ?_)
    have hFK := hFK.put h_43 h_51 3 (by decide) rfl
    have hKP := hKP.upd hWF x_52 Tu (Or.inl (by decide))
    have hWF := wf_upd hWF h_51 x_52 (by rw [Tu]; exact ⟨v_1, v_2, x_48, v_4, x_40, v_6, v_7, v_8, v_9, v_10, v_11, v_12, y_13, v_14, v_15, v_16, v_17, v_18, y_19, v_20, y_21, v_22, rfl, ⟨by omega, by omega⟩, ⟨by omega, by omega⟩, ⟨by omega, by omega⟩, ⟨by omega, by omega⟩, ⟨by omega, by omega⟩, ⟨by omega, by omega⟩, ⟨by omega, by omega⟩, ⟨by omega, by omega⟩, ⟨by omega, by omega⟩, ⟨by omega, by omega⟩, ⟨by omega, by omega⟩, ⟨by omega, by omega⟩⟩)
    have tq_53 := mi_row h_51 3 rfl
    have bx_48 := wf_free x_48
    have tq_54 := mi_row h_51 4 rfl
    have bv_4 := wf_free v_4
    have tq_55 := mi_row h_51 5 rfl
    have bx_40 := wf_free x_40
    exact py_vret G0 hr hlk hw ⟨(by first | omega | (intro q; omega)), (by first | omega | (intro q; omega)), (by first | omega | (intro q; omega)), (by first | omega | (intro q; omega)), hWF, hKP, hFK⟩ dX12_opens_33
  · skip
    have tc_39 := ti_eq c_39
    refine lv_aload_n G0.1 G0.2.1 dX12_opens_9 rfl (lv_at hl 0 rfl) ?_
    refine py_callv hw (va_runV (As := []) (rest := []) G0 (c_X12_bad l E G L f s.heap.size u hG hWF Tu (show 0 ≤ mi f u 3 by omega)) (cwV 0 G0.2.2.2.2 g_X12_opens_X12_bad_143 rfl rfl rfl (by decide +kernel) ⟨(Nat.le_of_ble_eq_true rfl), (Nat.le_of_ble_eq_true rfl)⟩) (py_preV hw (C := RX12) (T := TX12) (N := 54) rfl hr_35) rfl rfl hl.1 rfl (lv_room (Nat.le_of_ble_eq_true rfl)) dX12_opens_10 ⟨(Nat.le_of_ble_eq_true rfl), (Nat.le_of_ble_eq_true rfl)⟩) (fun L_56 f_57 H_58 locs hp_59 hw => ?_)
    obtain ⟨en_61, en_62, en_63, hWF, kp_64, fk_65⟩ := hp_59
    have hFK := hFK.trans fk_65 (by decide)
    have hKP := hKP.trans kp_64 (by decide) (by decide)
    obtain ⟨v_66, hr_67⟩ := fk_4 hWF Tu fk_65 hr_35
    have tq_68 := mi_row hr_67 3 rfl
    have bv_3 := wf_free v_3
    have tq_69 := mi_row hr_67 4 rfl
    have bv_66 := wf_free v_66
    have tq_70 := mi_row hr_67 5 rfl
    have bv_5 := wf_free v_5
    refine lv_aload_n G0.1 G0.2.1 dX12_opens_13 rfl (lv_at hl 0 rfl) ?_
    refine lv_dup G0.1 G0.2.1 dX12_opens_14 rfl ?_
    refine py_get (C := RX12) (T := TX12) (N := 54) (k := 5) (v := .int v_5) G0 hw in_X12_opens_X12 rfl hr_67 (by decide) (by decide +kernel) rfl dX12_opens_15 ?_
    refine lv_iconst (v := 1) G0.1 G0.2.1 dX12_opens_18 (by decide) ?_
    refine lv_iadd G0.1 G0.2.1 dX12_opens_19 ?_
    refine lv_topi (fun x_71 ex_71 => ?_)
    first | have tx_71 := ti_add ex_71 (by omega) (by omega) | skip
    refine py_put (C := RX12) (T := TX12) (N := 54) (k := 5) (v := .int x_71) (fs' := [.int v_1, .ref (G.2 u 1), .int v_2, .int v_3, .int v_66, .int x_71, .ref (G.2 u 6), .ref (G.2 u 7), .ref (G.2 u 8), .ref (G.2 u 9), .ref (G.2 u 10), .ref (G.2 u 11), .ref (G.2 u 12), .int v_6, .int v_7, .ref (G.2 u 15), .ref (G.2 u 16), .ref (G.2 u 17), .ref (G.2 u 18), .int v_8, .int v_9, .ref (G.2 u 21), .ref (G.2 u 22), .ref (G.2 u 23), .int v_10, .int v_11, .ref (G.2 u 26), .ref (G.2 u 27), .ref (G.2 u 28), .int v_12, .long y_13, .int v_14, .int v_15, .int v_16, .int v_17, .ref (G.2 u 35), .ref (G.2 u 36), .ref (G.2 u 37), .ref (G.2 u 38), .ref (G.2 u 39), .ref (G.2 u 40), .ref (G.2 u 41), .ref (G.2 u 42), .int v_18, .ref (G.2 u 44), .ref (G.2 u 45), .ref (G.2 u 46), .ref (G.2 u 47), .long y_19, .ref (G.2 u 49), .ref (G.2 u 50), .int v_20, .long y_21, .int v_22]) (ty0 := tyX12) G0 hw tyX12_ok nmX12 in_X12_opens_X12 rfl hr_67 (by decide) (by decide +kernel) rfl rfl rfl rfl (Nat.le_of_ble_eq_true rfl) rfl dX12_opens_20 (fun f_72 H_73 locs h_74 x_75 hw => ?_)
    have hFK := hFK.put hr_67 h_74 5 (by decide) rfl
    have hKP := hKP.upd hWF x_75 Tu (Or.inl (by decide))
    have hWF := wf_upd hWF h_74 x_75 (by rw [Tu]; exact ⟨v_1, v_2, v_3, v_66, x_71, v_6, v_7, v_8, v_9, v_10, v_11, v_12, y_13, v_14, v_15, v_16, v_17, v_18, y_19, v_20, y_21, v_22, rfl, ⟨by omega, by omega⟩, ⟨by omega, by omega⟩, ⟨by omega, by omega⟩, ⟨by omega, by omega⟩, ⟨by omega, by omega⟩, ⟨by omega, by omega⟩, ⟨by omega, by omega⟩, ⟨by omega, by omega⟩, ⟨by omega, by omega⟩, ⟨by omega, by omega⟩, ⟨by omega, by omega⟩, ⟨by omega, by omega⟩⟩)
    have tq_76 := mi_row h_74 3 rfl
    have bv_3 := wf_free v_3
    have tq_77 := mi_row h_74 4 rfl
    have bv_66 := wf_free v_66
    have tq_78 := mi_row h_74 5 rfl
    have bx_71 := wf_free x_71
    refine lv_aload_n G0.1 G0.2.1 dX12_opens_23 rfl (lv_at hl 0 rfl) ?_
    refine lv_dup G0.1 G0.2.1 dX12_opens_24 rfl ?_
    refine py_get (C := RX12) (T := TX12) (N := 54) (k := 3) (v := .int v_3) G0 hw in_X12_opens_X12 rfl h_74 (by decide) (by decide +kernel) rfl dX12_opens_25 ?_
    refine lv_iconst (v := 1) G0.1 G0.2.1 dX12_opens_28 (by decide) ?_
    refine lv_iadd G0.1 G0.2.1 dX12_opens_29 ?_
    refine lv_topi (fun x_79 ex_79 => ?_)
    first | have tx_79 := ti_add ex_79 (by omega) (by omega) | skip
    refine py_put (C := RX12) (T := TX12) (N := 54) (k := 3) (v := .int x_79) (fs' := [.int v_1, .ref (G.2 u 1), .int v_2, .int x_79, .int v_66, .int x_71, .ref (G.2 u 6), .ref (G.2 u 7), .ref (G.2 u 8), .ref (G.2 u 9), .ref (G.2 u 10), .ref (G.2 u 11), .ref (G.2 u 12), .int v_6, .int v_7, .ref (G.2 u 15), .ref (G.2 u 16), .ref (G.2 u 17), .ref (G.2 u 18), .int v_8, .int v_9, .ref (G.2 u 21), .ref (G.2 u 22), .ref (G.2 u 23), .int v_10, .int v_11, .ref (G.2 u 26), .ref (G.2 u 27), .ref (G.2 u 28), .int v_12, .long y_13, .int v_14, .int v_15, .int v_16, .int v_17, .ref (G.2 u 35), .ref (G.2 u 36), .ref (G.2 u 37), .ref (G.2 u 38), .ref (G.2 u 39), .ref (G.2 u 40), .ref (G.2 u 41), .ref (G.2 u 42), .int v_18, .ref (G.2 u 44), .ref (G.2 u 45), .ref (G.2 u 46), .ref (G.2 u 47), .long y_19, .ref (G.2 u 49), .ref (G.2 u 50), .int v_20, .long y_21, .int v_22]) (ty0 := tyX12) G0 hw tyX12_ok nmX12 in_X12_opens_X12 rfl h_74 (by decide) (by decide +kernel) rfl rfl rfl rfl (Nat.le_of_ble_eq_true rfl) rfl dX12_opens_30 (fun f_80 H_81 locs h_82 x_83 hw => ?_)
    have hFK := hFK.put h_74 h_82 3 (by decide) rfl
    have hKP := hKP.upd hWF x_83 Tu (Or.inl (by decide))
    have hWF := wf_upd hWF h_82 x_83 (by rw [Tu]; exact ⟨v_1, v_2, x_79, v_66, x_71, v_6, v_7, v_8, v_9, v_10, v_11, v_12, y_13, v_14, v_15, v_16, v_17, v_18, y_19, v_20, y_21, v_22, rfl, ⟨by omega, by omega⟩, ⟨by omega, by omega⟩, ⟨by omega, by omega⟩, ⟨by omega, by omega⟩, ⟨by omega, by omega⟩, ⟨by omega, by omega⟩, ⟨by omega, by omega⟩, ⟨by omega, by omega⟩, ⟨by omega, by omega⟩, ⟨by omega, by omega⟩, ⟨by omega, by omega⟩, ⟨by omega, by omega⟩⟩)
    have tq_84 := mi_row h_82 3 rfl
    have bx_79 := wf_free x_79
    have tq_85 := mi_row h_82 4 rfl
    have bv_66 := wf_free v_66
    have tq_86 := mi_row h_82 5 rfl
    have bx_71 := wf_free x_71
    exact py_vret G0 hr hlk hw ⟨(by first | omega | (intro q; omega)), (by first | omega | (intro q; omega)), (by first | omega | (intro q; omega)), (by first | omega | (intro q; omega)), hWF, hKP, hFK⟩ dX12_opens_33

def w_X12_closes : List Cond := .code yX12_closes cX12_closes 2 none :: ([Cond.fieldLink RX12 134 "HeadYearModel" "wrong" "I", Cond.fieldLink RX12 127 "HeadYearModel" "at" "I", Cond.fieldLink RX12 140 "HeadYearModel" "deep" "I", Cond.methodLink RX12 146 yX12_look, Cond.instanceMethod yX12_look, Cond.selects RX12 yX12_look yX12_look, Cond.initialized RX12, Cond.methodLink RX12 143 yX12_bad, Cond.instanceMethod yX12_bad, Cond.selects RX12 yX12_bad yX12_bad] ++ (u_ws RX12 TX12 54 ++ (w_X12_look ++ (w_X12_bad ++ ([])))))
theorem in_X12_closes_X12 : ∀ w ∈ u_ws RX12 TX12 54, w ∈ w_X12_closes := fun _ h => List.mem_cons_of_mem _ (List.mem_append_right _ (List.mem_append_left _ h))
theorem gg_X12_closes_X12_look : GoodIn w_X12_closes w_X12_look := goodIn_sub (fun _ h => List.mem_cons_of_mem _ (List.mem_append_right _ (List.mem_append_right _ (List.mem_append_left _ h)))) (by decide +kernel)
theorem gg_X12_closes_X12_bad : GoodIn w_X12_closes w_X12_bad := goodIn_sub (fun _ h => List.mem_cons_of_mem _ (List.mem_append_right _ (List.mem_append_right _ (List.mem_append_right _ (List.mem_append_left _ h))))) (by decide +kernel)
theorem g_X12_closes_X12_bad_143 : GoodIn w_X12_closes (wsV RX12 143 RX12 yX12_bad w_X12_bad) := goodIn_app (goodIn_of _ (by decide +kernel)) gg_X12_closes_X12_bad
theorem g_X12_closes_X12_look_146 : GoodIn w_X12_closes (wsV RX12 146 RX12 yX12_look w_X12_look) := goodIn_app (goodIn_of _ (by decide +kernel)) gg_X12_closes_X12_look
theorem fk_3 {E : py_E} {G : wf_G} {L L1 : List Nat} {f f1 : py_F} {m : Nat} (hWF : WF E G L1 f1) (Tm : G.1 m = 13) (h : FK [3] f f1 m) {v0 : Int32} {v2 : Int32} {v3 : Int32} {v4 : Int32} {v5 : Int32} {v13 : Int32} {v14 : Int32} {v19 : Int32} {v20 : Int32} {v24 : Int32} {v25 : Int32} {v29 : Int32} {v30 : Int64} {v31 : Int32} {v32 : Int32} {v33 : Int32} {v34 : Int32} {v43 : Int32} {v48 : Int64} {v51 : Int32} {v52 : Int64} {v53 : Int32} (hr : py_at L f m (.inr (12, [.int v0, .ref (G.2 m 1), .int v2, .int v3, .int v4, .int v5, .ref (G.2 m 6), .ref (G.2 m 7), .ref (G.2 m 8), .ref (G.2 m 9), .ref (G.2 m 10), .ref (G.2 m 11), .ref (G.2 m 12), .int v13, .int v14, .ref (G.2 m 15), .ref (G.2 m 16), .ref (G.2 m 17), .ref (G.2 m 18), .int v19, .int v20, .ref (G.2 m 21), .ref (G.2 m 22), .ref (G.2 m 23), .int v24, .int v25, .ref (G.2 m 26), .ref (G.2 m 27), .ref (G.2 m 28), .int v29, .long v30, .int v31, .int v32, .int v33, .int v34, .ref (G.2 m 35), .ref (G.2 m 36), .ref (G.2 m 37), .ref (G.2 m 38), .ref (G.2 m 39), .ref (G.2 m 40), .ref (G.2 m 41), .ref (G.2 m 42), .int v43, .ref (G.2 m 44), .ref (G.2 m 45), .ref (G.2 m 46), .ref (G.2 m 47), .long v48, .ref (G.2 m 49), .ref (G.2 m 50), .int v51, .long v52, .int v53]))) : ∃ (w3 : Int32), py_at L1 f1 m (.inr (12, [.int v0, .ref (G.2 m 1), .int v2, .int w3, .int v4, .int v5, .ref (G.2 m 6), .ref (G.2 m 7), .ref (G.2 m 8), .ref (G.2 m 9), .ref (G.2 m 10), .ref (G.2 m 11), .ref (G.2 m 12), .int v13, .int v14, .ref (G.2 m 15), .ref (G.2 m 16), .ref (G.2 m 17), .ref (G.2 m 18), .int v19, .int v20, .ref (G.2 m 21), .ref (G.2 m 22), .ref (G.2 m 23), .int v24, .int v25, .ref (G.2 m 26), .ref (G.2 m 27), .ref (G.2 m 28), .int v29, .long v30, .int v31, .int v32, .int v33, .int v34, .ref (G.2 m 35), .ref (G.2 m 36), .ref (G.2 m 37), .ref (G.2 m 38), .ref (G.2 m 39), .ref (G.2 m 40), .ref (G.2 m 41), .ref (G.2 m 42), .int v43, .ref (G.2 m 44), .ref (G.2 m 45), .ref (G.2 m 46), .ref (G.2 m 47), .long v48, .ref (G.2 m 49), .ref (G.2 m 50), .int v51, .long v52, .int v53])) := by
  obtain ⟨w0, w2, w3, w4, w5, w13, w14, w19, w20, w24, w25, w29, w30, w31, w32, w33, w34, w43, w48, w51, w52, w53, hr1, b2, b13, b14, b19, b20, b24, b25, b29, b31, b43, b51, b53⟩ := wg_12 hWF Tm
  have e0 : w0 = v0 := Value.int.inj (Option.some.inj (show some (Value.int w0) = some (Value.int v0) from fk_i h hr hr1 0 (by decide) (by decide)))
  subst e0
  have e2 : w2 = v2 := Value.int.inj (Option.some.inj (show some (Value.int w2) = some (Value.int v2) from fk_i h hr hr1 2 (by decide) (by decide)))
  subst e2
  have e4 : w4 = v4 := Value.int.inj (Option.some.inj (show some (Value.int w4) = some (Value.int v4) from fk_i h hr hr1 4 (by decide) (by decide)))
  subst e4
  have e5 : w5 = v5 := Value.int.inj (Option.some.inj (show some (Value.int w5) = some (Value.int v5) from fk_i h hr hr1 5 (by decide) (by decide)))
  subst e5
  have e13 : w13 = v13 := Value.int.inj (Option.some.inj (show some (Value.int w13) = some (Value.int v13) from fk_i h hr hr1 13 (by decide) (by decide)))
  subst e13
  have e14 : w14 = v14 := Value.int.inj (Option.some.inj (show some (Value.int w14) = some (Value.int v14) from fk_i h hr hr1 14 (by decide) (by decide)))
  subst e14
  have e19 : w19 = v19 := Value.int.inj (Option.some.inj (show some (Value.int w19) = some (Value.int v19) from fk_i h hr hr1 19 (by decide) (by decide)))
  subst e19
  have e20 : w20 = v20 := Value.int.inj (Option.some.inj (show some (Value.int w20) = some (Value.int v20) from fk_i h hr hr1 20 (by decide) (by decide)))
  subst e20
  have e24 : w24 = v24 := Value.int.inj (Option.some.inj (show some (Value.int w24) = some (Value.int v24) from fk_i h hr hr1 24 (by decide) (by decide)))
  subst e24
  have e25 : w25 = v25 := Value.int.inj (Option.some.inj (show some (Value.int w25) = some (Value.int v25) from fk_i h hr hr1 25 (by decide) (by decide)))
  subst e25
  have e29 : w29 = v29 := Value.int.inj (Option.some.inj (show some (Value.int w29) = some (Value.int v29) from fk_i h hr hr1 29 (by decide) (by decide)))
  subst e29
  have e30 : w30 = v30 := Value.long.inj (Option.some.inj (show some (Value.long w30) = some (Value.long v30) from fk_i h hr hr1 30 (by decide) (by decide)))
  subst e30
  have e31 : w31 = v31 := Value.int.inj (Option.some.inj (show some (Value.int w31) = some (Value.int v31) from fk_i h hr hr1 31 (by decide) (by decide)))
  subst e31
  have e32 : w32 = v32 := Value.int.inj (Option.some.inj (show some (Value.int w32) = some (Value.int v32) from fk_i h hr hr1 32 (by decide) (by decide)))
  subst e32
  have e33 : w33 = v33 := Value.int.inj (Option.some.inj (show some (Value.int w33) = some (Value.int v33) from fk_i h hr hr1 33 (by decide) (by decide)))
  subst e33
  have e34 : w34 = v34 := Value.int.inj (Option.some.inj (show some (Value.int w34) = some (Value.int v34) from fk_i h hr hr1 34 (by decide) (by decide)))
  subst e34
  have e43 : w43 = v43 := Value.int.inj (Option.some.inj (show some (Value.int w43) = some (Value.int v43) from fk_i h hr hr1 43 (by decide) (by decide)))
  subst e43
  have e48 : w48 = v48 := Value.long.inj (Option.some.inj (show some (Value.long w48) = some (Value.long v48) from fk_i h hr hr1 48 (by decide) (by decide)))
  subst e48
  have e51 : w51 = v51 := Value.int.inj (Option.some.inj (show some (Value.int w51) = some (Value.int v51) from fk_i h hr hr1 51 (by decide) (by decide)))
  subst e51
  have e52 : w52 = v52 := Value.long.inj (Option.some.inj (show some (Value.long w52) = some (Value.long v52) from fk_i h hr hr1 52 (by decide) (by decide)))
  subst e52
  have e53 : w53 = v53 := Value.int.inj (Option.some.inj (show some (Value.int w53) = some (Value.int v53) from fk_i h hr hr1 53 (by decide) (by decide)))
  subst e53
  exact ⟨w3, hr1⟩
set_option maxHeartbeats 4000000 in
set_option maxRecDepth 100000 in
theorem c_X12_closes (l : Launch) (E : py_E) (G : wf_G) (L : List Nat) (f : py_F) (sz : Nat) (u : Nat) (a : Int32) (gb : rs_B) (nb : Int) (pb : Int) (hG : GT G) (hWF : WF E G L f) (Tu : G.1 u = 13) (hp0 : 0 ≤ mi f u 3 ∧ mi f u 3 ≤ 1000 ∧ a.toInt ≠ -1 ∧ a.toInt ≠ 0) (hp1 : mi f u 4 = -1 → mi f u 3 ≤ mi f u 2 ∧ mi f u 3 = pb) (hp2 : mi f u 2 = nb) (hq0 : AG f (G.2 u 1) gb nb) : Met l yX12_closes w_X12_closes ({ frames := 2, cells := 0, slots := 0, locals := 40 }) (py_Pc E [.ref u, .int a] L f sz) (py_Qv E L f sz (fun L1 f1 => (mi f u 3 + 1 ≤ mi f1 u 3) ∧ (1 ≤ mi f u 5 → mi f1 u 5 = mi f u 5 - 1) ∧ (mi f u 4 ≠ -1 → mi f1 u 4 ≠ -1) ∧ (mi f1 u 4 = -1 → mi f u 4 = -1 ∧ mi f1 u 3 ≤ mi f u 2) ∧ (mi f1 u 3 = mi f u 3 + 1 ∨ mi f1 u 3 ≤ mi f u 2 + 1) ∧ (mi f1 u 4 = -1 → mi f u 4 = -1 ∧ rs_v gb nb (rs_sk gb nb pb) = a.toInt ∧ mi f1 u 3 = rs_sk gb nb pb + 1) ∧ (mi f1 u 4 ≠ -1 → (mi f u 4 = -1 ∧ rs_v gb nb (rs_sk gb nb pb) ≠ a.toInt ∧ mi f1 u 4 = rs_sk gb nb pb) ∨ (mi f u 4 ≠ -1 ∧ mi f1 u 4 = mi f u 4)) ∧ WF E G L1 f1 ∧ KP G [13] false f f1 ∧ FK [3, 4, 5] f f1 u)) 0 0 (va_A (va_pl L f) sz) := by
  refine Met.ofW (cc := cX12_closes) (maxL := 2) (ret := none) (by decide) rfl ?_
  intro p e s m args below meth c s₁ B hml hv
  obtain ⟨rfl, rfl, hw⟩ := py_start hv
  have G0 : CallFix p m c cX12_closes 2 s _ w_X12_closes RX12 := ⟨B.exec, B.bytes, hml, findClass_of_methodNamed B.named, atoms_spec (ws := w_X12_closes) B.pre⟩
  have hr := B.returns
  have hlk := B.notSynchronized
  have kcm1 : (-1 : Int32).toInt = -1 := rfl
  have kc0 : (0 : Int32).toInt = 0 := rfl
  have kc1 : (1 : Int32).toInt = 1 := rfl
  have hl := lv_entry ([.ref u, .int a]) (n := 2) (Nat.le_of_ble_eq_true rfl)
  rw [lg_entry_eq]
  generalize (lg_sl ([.ref u, .int a]) ++ List.replicate (2 - (lg_sl ([.ref u, .int a])).length) Slot.unset).toArray = ls at hl ⊢
  have hl : lv_has ls 2 [(0, .ref u), (1, .int a)] := hl
  have hFK : FK [3, 4, 5] f f u := FK.refl
  have hKP : KP G [13] false f f := KP.refl
  have hMB := hq0
  refine lv_aload_n G0.1 G0.2.1 dX12_closes_0 rfl (lv_at hl 0 rfl) ?_
  obtain ⟨v_1, v_2, v_3, v_4, v_5, v_6, v_7, v_8, v_9, v_10, v_11, v_12, y_13, v_14, v_15, v_16, v_17, v_18, y_19, v_20, y_21, v_22, hr_35, b_23, b_24, b_25, b_26, b_27, b_28, b_29, b_30, b_31, b_32, b_33, b_34⟩ := wg_12 hWF Tu
  have tq_36 := mi_row hr_35 2 rfl
  have tq_37 := mi_row hr_35 3 rfl
  have bv_3 := wf_free v_3
  have tq_38 := mi_row hr_35 4 rfl
  have bv_4 := wf_free v_4
  have tq_39 := mi_row hr_35 5 rfl
  have bv_5 := wf_free v_5
  refine py_get (C := RX12) (T := TX12) (N := 54) (k := 4) (v := .int v_4) G0 hw in_X12_closes_X12 rfl hr_35 (by decide) (by decide +kernel) rfl dX12_closes_1 ?_
  refine lv_iconst (v := (-1)) G0.1 G0.2.1 dX12_closes_4 (by decide) ?_
  refine lv_icmp_ne (tgt := 20) G0.1 G0.2.1 dX12_closes_5 (by decide) (fun c_40 => ?_) (fun c_40 => ?_)
  · skip
    have tc_40 := ti_ne c_40
    refine lv_aload_n G0.1 G0.2.1 dX12_closes_20 rfl (lv_at hl 0 rfl) ?_
    refine lv_dup G0.1 G0.2.1 dX12_closes_21 rfl ?_
    refine py_get (C := RX12) (T := TX12) (N := 54) (k := 3) (v := .int v_3) G0 hw in_X12_closes_X12 rfl hr_35 (by decide) (by decide +kernel) rfl dX12_closes_22 ?_
    refine lv_iconst (v := 1) G0.1 G0.2.1 dX12_closes_25 (by decide) ?_
    refine lv_iadd G0.1 G0.2.1 dX12_closes_26 ?_
    refine lv_topi (fun x_41 ex_41 => ?_)
    first | have tx_41 := ti_add ex_41 (by omega) (by omega) | skip
    refine py_put (C := RX12) (T := TX12) (N := 54) (k := 3) (v := .int x_41) (fs' := [.int v_1, .ref (G.2 u 1), .int v_2, .int x_41, .int v_4, .int v_5, .ref (G.2 u 6), .ref (G.2 u 7), .ref (G.2 u 8), .ref (G.2 u 9), .ref (G.2 u 10), .ref (G.2 u 11), .ref (G.2 u 12), .int v_6, .int v_7, .ref (G.2 u 15), .ref (G.2 u 16), .ref (G.2 u 17), .ref (G.2 u 18), .int v_8, .int v_9, .ref (G.2 u 21), .ref (G.2 u 22), .ref (G.2 u 23), .int v_10, .int v_11, .ref (G.2 u 26), .ref (G.2 u 27), .ref (G.2 u 28), .int v_12, .long y_13, .int v_14, .int v_15, .int v_16, .int v_17, .ref (G.2 u 35), .ref (G.2 u 36), .ref (G.2 u 37), .ref (G.2 u 38), .ref (G.2 u 39), .ref (G.2 u 40), .ref (G.2 u 41), .ref (G.2 u 42), .int v_18, .ref (G.2 u 44), .ref (G.2 u 45), .ref (G.2 u 46), .ref (G.2 u 47), .long y_19, .ref (G.2 u 49), .ref (G.2 u 50), .int v_20, .long y_21, .int v_22]) (ty0 := tyX12) G0 hw tyX12_ok nmX12 in_X12_closes_X12 rfl hr_35 (by decide) (by decide +kernel) rfl rfl rfl rfl (Nat.le_of_ble_eq_true rfl) rfl dX12_closes_27 (fun f_42 H_43 locs h_44 x_45 hw => ?_)
    have hMB := hMB.kp (kp_f (KP.refl.upd hWF x_45 Tu (Or.inl (by decide)) : KP G [13] false f f_42) (wt12_1 hG Tu) (by decide) (by decide) (fun _ => by decide))
    have hFK := hFK.put hr_35 h_44 3 (by decide) rfl
    have hKP := hKP.upd hWF x_45 Tu (Or.inl (by decide))
    have hWF := wf_upd hWF h_44 x_45 (by rw [Tu]; exact ⟨v_1, v_2, x_41, v_4, v_5, v_6, v_7, v_8, v_9, v_10, v_11, v_12, y_13, v_14, v_15, v_16, v_17, v_18, y_19, v_20, y_21, v_22, rfl, ⟨by omega, by omega⟩, ⟨by omega, by omega⟩, ⟨by omega, by omega⟩, ⟨by omega, by omega⟩, ⟨by omega, by omega⟩, ⟨by omega, by omega⟩, ⟨by omega, by omega⟩, ⟨by omega, by omega⟩, ⟨by omega, by omega⟩, ⟨by omega, by omega⟩, ⟨by omega, by omega⟩, ⟨by omega, by omega⟩⟩)
    have tq_46 := mi_row h_44 2 rfl
    have tq_47 := mi_row h_44 3 rfl
    have bx_41 := wf_free x_41
    have tq_48 := mi_row h_44 4 rfl
    have bv_4 := wf_free v_4
    have tq_49 := mi_row h_44 5 rfl
    have bv_5 := wf_free v_5
    refine lv_aload_n G0.1 G0.2.1 dX12_closes_30 rfl (lv_at hl 0 rfl) ?_
    refine lv_dup G0.1 G0.2.1 dX12_closes_31 rfl ?_
    refine py_get (C := RX12) (T := TX12) (N := 54) (k := 5) (v := .int v_5) G0 hw in_X12_closes_X12 rfl h_44 (by decide) (by decide +kernel) rfl dX12_closes_32 ?_
    refine lv_iconst (v := 1) G0.1 G0.2.1 dX12_closes_35 (by decide) ?_
    refine lv_isub G0.1 G0.2.1 dX12_closes_36 ?_
    refine lv_topi (fun x_50 ex_50 => ?_)
    first | have tx_50 := ti_sub ex_50 (by omega) (by omega) | skip
    have tdd : 1 ≤ mi f_42 u 5 → x_50.toInt = mi f_42 u 5 - 1 := fun q => by have tz := ti_sub ex_50 (by omega) (by omega); omega
    refine py_put (C := RX12) (T := TX12) (N := 54) (k := 5) (v := .int x_50) (fs' := [.int v_1, .ref (G.2 u 1), .int v_2, .int x_41, .int v_4, .int x_50, .ref (G.2 u 6), .ref (G.2 u 7), .ref (G.2 u 8), .ref (G.2 u 9), .ref (G.2 u 10), .ref (G.2 u 11), .ref (G.2 u 12), .int v_6, .int v_7, .ref (G.2 u 15), .ref (G.2 u 16), .ref (G.2 u 17), .ref (G.2 u 18), .int v_8, .int v_9, .ref (G.2 u 21), .ref (G.2 u 22), .ref (G.2 u 23), .int v_10, .int v_11, .ref (G.2 u 26), .ref (G.2 u 27), .ref (G.2 u 28), .int v_12, .long y_13, .int v_14, .int v_15, .int v_16, .int v_17, .ref (G.2 u 35), .ref (G.2 u 36), .ref (G.2 u 37), .ref (G.2 u 38), .ref (G.2 u 39), .ref (G.2 u 40), .ref (G.2 u 41), .ref (G.2 u 42), .int v_18, .ref (G.2 u 44), .ref (G.2 u 45), .ref (G.2 u 46), .ref (G.2 u 47), .long y_19, .ref (G.2 u 49), .ref (G.2 u 50), .int v_20, .long y_21, .int v_22]) (ty0 := tyX12) G0 hw tyX12_ok nmX12 in_X12_closes_X12 rfl h_44 (by decide) (by decide +kernel) rfl rfl rfl rfl (Nat.le_of_ble_eq_true rfl) rfl dX12_closes_37 (fun f_51 H_52 locs h_53 x_54 hw => ?_)
    have hMB := hMB.kp (kp_f (KP.refl.upd hWF x_54 Tu (Or.inl (by decide)) : KP G [13] false f_42 f_51) (wt12_1 hG Tu) (by decide) (by decide) (fun _ => by decide))
    have hFK := hFK.put h_44 h_53 5 (by decide) rfl
    have hKP := hKP.upd hWF x_54 Tu (Or.inl (by decide))
    have hWF := wf_upd hWF h_53 x_54 (by rw [Tu]; exact ⟨v_1, v_2, x_41, v_4, x_50, v_6, v_7, v_8, v_9, v_10, v_11, v_12, y_13, v_14, v_15, v_16, v_17, v_18, y_19, v_20, y_21, v_22, rfl, ⟨by omega, by omega⟩, ⟨by omega, by omega⟩, ⟨by omega, by omega⟩, ⟨by omega, by omega⟩, ⟨by omega, by omega⟩, ⟨by omega, by omega⟩, ⟨by omega, by omega⟩, ⟨by omega, by omega⟩, ⟨by omega, by omega⟩, ⟨by omega, by omega⟩, ⟨by omega, by omega⟩, ⟨by omega, by omega⟩⟩)
    have tq_55 := mi_row h_53 2 rfl
    have tq_56 := mi_row h_53 3 rfl
    have bx_41 := wf_free x_41
    have tq_57 := mi_row h_53 4 rfl
    have bv_4 := wf_free v_4
    have tq_58 := mi_row h_53 5 rfl
    have bx_50 := wf_free x_50
    exact py_vret G0 hr hlk hw ⟨(by first | omega | (intro q; omega)), (by first | omega | (intro q; omega)), (by first | omega | (intro q; omega)), (by first | omega | (intro q; omega)), (by first | omega | (intro q; omega)), (by first | omega | (intro q; omega)), (by first | omega | (intro q; omega)), hWF, hKP, hFK⟩ dX12_closes_40
  · skip
    have tc_40 := ti_eq c_40
    refine lv_aload_n G0.1 G0.2.1 dX12_closes_8 rfl (lv_at hl 0 rfl) ?_
    refine py_calli hw (va_runV (As := []) (rest := []) G0 (c_X12_look l E G L f s.heap.size u gb nb pb hG hWF Tu (show 0 ≤ mi f u 3 ∧ mi f u 3 ≤ mi f u 2 by omega) (show mi f u 3 = pb by omega) (show mi f u 2 = nb ∧ 0 ≤ pb by omega) hMB) (cwV 0 G0.2.2.2.2 g_X12_closes_X12_look_146 rfl rfl rfl (by decide +kernel) ⟨(Nat.le_of_ble_eq_true rfl), (Nat.le_of_ble_eq_true rfl)⟩) (py_preV hw (C := RX12) (T := TX12) (N := 54) rfl hr_35) rfl rfl hl.1 rfl (lv_room (Nat.le_of_ble_eq_true rfl)) dX12_closes_9 ⟨(Nat.le_of_ble_eq_true rfl), (Nat.le_of_ble_eq_true rfl)⟩) (fun r_63 L_59 f_60 H_61 locs hp_62 hw => ?_)
    obtain ⟨en_64, en_65, en_66, en_67, hWF, kp_68, fk_69⟩ := hp_62
    have hMB := hMB.kp (kp_f kp_68 (wt12_1 hG Tu) (by decide) (by decide) (fun _ => by decide))
    have hFK := hFK.trans fk_69 (by decide)
    have hKP := hKP.trans kp_68 (by decide) (by decide)
    obtain ⟨v_70, hr_71⟩ := fk_3 hWF Tu fk_69 hr_35
    have tq_72 := mi_row hr_71 2 rfl
    have tq_73 := mi_row hr_71 3 rfl
    have bv_70 := wf_free v_70
    have tq_74 := mi_row hr_71 4 rfl
    have bv_4 := wf_free v_4
    have tq_75 := mi_row hr_71 5 rfl
    have bv_5 := wf_free v_5
    have br_63 := wf_free r_63
    refine lv_iload_n G0.1 G0.2.1 dX12_closes_12 rfl (lv_at hl 1 rfl) ?_
    refine lv_icmp_eq (tgt := 20) G0.1 G0.2.1 dX12_closes_13 (by decide) (fun c_76 => ?_) (fun c_76 => ?_)
    · skip
      have tc_76 := ti_eq c_76
      refine lv_aload_n G0.1 G0.2.1 dX12_closes_20 rfl (lv_at hl 0 rfl) ?_
      refine lv_dup G0.1 G0.2.1 dX12_closes_21 rfl ?_
      refine py_get (C := RX12) (T := TX12) (N := 54) (k := 3) (v := .int v_70) G0 hw in_X12_closes_X12 rfl hr_71 (by decide) (by decide +kernel) rfl dX12_closes_22 ?_
      refine lv_iconst (v := 1) G0.1 G0.2.1 dX12_closes_25 (by decide) ?_
      refine lv_iadd G0.1 G0.2.1 dX12_closes_26 ?_
      refine lv_topi (fun x_77 ex_77 => ?_)
      first | have tx_77 := ti_add ex_77 (by omega) (by omega) | skip
      refine py_put (C := RX12) (T := TX12) (N := 54) (k := 3) (v := .int x_77) (fs' := [.int v_1, .ref (G.2 u 1), .int v_2, .int x_77, .int v_4, .int v_5, .ref (G.2 u 6), .ref (G.2 u 7), .ref (G.2 u 8), .ref (G.2 u 9), .ref (G.2 u 10), .ref (G.2 u 11), .ref (G.2 u 12), .int v_6, .int v_7, .ref (G.2 u 15), .ref (G.2 u 16), .ref (G.2 u 17), .ref (G.2 u 18), .int v_8, .int v_9, .ref (G.2 u 21), .ref (G.2 u 22), .ref (G.2 u 23), .int v_10, .int v_11, .ref (G.2 u 26), .ref (G.2 u 27), .ref (G.2 u 28), .int v_12, .long y_13, .int v_14, .int v_15, .int v_16, .int v_17, .ref (G.2 u 35), .ref (G.2 u 36), .ref (G.2 u 37), .ref (G.2 u 38), .ref (G.2 u 39), .ref (G.2 u 40), .ref (G.2 u 41), .ref (G.2 u 42), .int v_18, .ref (G.2 u 44), .ref (G.2 u 45), .ref (G.2 u 46), .ref (G.2 u 47), .long y_19, .ref (G.2 u 49), .ref (G.2 u 50), .int v_20, .long y_21, .int v_22]) (ty0 := tyX12) G0 hw tyX12_ok nmX12 in_X12_closes_X12 rfl hr_71 (by decide) (by decide +kernel) rfl rfl rfl rfl (Nat.le_of_ble_eq_true rfl) rfl dX12_closes_27 (fun f_78 H_79 locs h_80 x_81 hw => ?_)
      have hMB := hMB.kp (kp_f (KP.refl.upd hWF x_81 Tu (Or.inl (by decide)) : KP G [13] false f_60 f_78) (wt12_1 hG Tu) (by decide) (by decide) (fun _ => by decide))
      have hFK := hFK.put hr_71 h_80 3 (by decide) rfl
      have hKP := hKP.upd hWF x_81 Tu (Or.inl (by decide))
      have hWF := wf_upd hWF h_80 x_81 (by rw [Tu]; exact ⟨v_1, v_2, x_77, v_4, v_5, v_6, v_7, v_8, v_9, v_10, v_11, v_12, y_13, v_14, v_15, v_16, v_17, v_18, y_19, v_20, y_21, v_22, rfl, ⟨by omega, by omega⟩, ⟨by omega, by omega⟩, ⟨by omega, by omega⟩, ⟨by omega, by omega⟩, ⟨by omega, by omega⟩, ⟨by omega, by omega⟩, ⟨by omega, by omega⟩, ⟨by omega, by omega⟩, ⟨by omega, by omega⟩, ⟨by omega, by omega⟩, ⟨by omega, by omega⟩, ⟨by omega, by omega⟩⟩)
      have tq_82 := mi_row h_80 2 rfl
      have tq_83 := mi_row h_80 3 rfl
      have bx_77 := wf_free x_77
      have tq_84 := mi_row h_80 4 rfl
      have bv_4 := wf_free v_4
      have tq_85 := mi_row h_80 5 rfl
      have bv_5 := wf_free v_5
      refine lv_aload_n G0.1 G0.2.1 dX12_closes_30 rfl (lv_at hl 0 rfl) ?_
      refine lv_dup G0.1 G0.2.1 dX12_closes_31 rfl ?_
      refine py_get (C := RX12) (T := TX12) (N := 54) (k := 5) (v := .int v_5) G0 hw in_X12_closes_X12 rfl h_80 (by decide) (by decide +kernel) rfl dX12_closes_32 ?_
      refine lv_iconst (v := 1) G0.1 G0.2.1 dX12_closes_35 (by decide) ?_
      refine lv_isub G0.1 G0.2.1 dX12_closes_36 ?_
      refine lv_topi (fun x_86 ex_86 => ?_)
      first | have tx_86 := ti_sub ex_86 (by omega) (by omega) | skip
      have tdd : 1 ≤ mi f_78 u 5 → x_86.toInt = mi f_78 u 5 - 1 := fun q => by have tz := ti_sub ex_86 (by omega) (by omega); omega
      refine py_put (C := RX12) (T := TX12) (N := 54) (k := 5) (v := .int x_86) (fs' := [.int v_1, .ref (G.2 u 1), .int v_2, .int x_77, .int v_4, .int x_86, .ref (G.2 u 6), .ref (G.2 u 7), .ref (G.2 u 8), .ref (G.2 u 9), .ref (G.2 u 10), .ref (G.2 u 11), .ref (G.2 u 12), .int v_6, .int v_7, .ref (G.2 u 15), .ref (G.2 u 16), .ref (G.2 u 17), .ref (G.2 u 18), .int v_8, .int v_9, .ref (G.2 u 21), .ref (G.2 u 22), .ref (G.2 u 23), .int v_10, .int v_11, .ref (G.2 u 26), .ref (G.2 u 27), .ref (G.2 u 28), .int v_12, .long y_13, .int v_14, .int v_15, .int v_16, .int v_17, .ref (G.2 u 35), .ref (G.2 u 36), .ref (G.2 u 37), .ref (G.2 u 38), .ref (G.2 u 39), .ref (G.2 u 40), .ref (G.2 u 41), .ref (G.2 u 42), .int v_18, .ref (G.2 u 44), .ref (G.2 u 45), .ref (G.2 u 46), .ref (G.2 u 47), .long y_19, .ref (G.2 u 49), .ref (G.2 u 50), .int v_20, .long y_21, .int v_22]) (ty0 := tyX12) G0 hw tyX12_ok nmX12 in_X12_closes_X12 rfl h_80 (by decide) (by decide +kernel) rfl rfl rfl rfl (Nat.le_of_ble_eq_true rfl) rfl dX12_closes_37 (fun f_87 H_88 locs h_89 x_90 hw => ?_)
      have hMB := hMB.kp (kp_f (KP.refl.upd hWF x_90 Tu (Or.inl (by decide)) : KP G [13] false f_78 f_87) (wt12_1 hG Tu) (by decide) (by decide) (fun _ => by decide))
      have hFK := hFK.put h_80 h_89 5 (by decide) rfl
      have hKP := hKP.upd hWF x_90 Tu (Or.inl (by decide))
      have hWF := wf_upd hWF h_89 x_90 (by rw [Tu]; exact ⟨v_1, v_2, x_77, v_4, x_86, v_6, v_7, v_8, v_9, v_10, v_11, v_12, y_13, v_14, v_15, v_16, v_17, v_18, y_19, v_20, y_21, v_22, rfl, ⟨by omega, by omega⟩, ⟨by omega, by omega⟩, ⟨by omega, by omega⟩, ⟨by omega, by omega⟩, ⟨by omega, by omega⟩, ⟨by omega, by omega⟩, ⟨by omega, by omega⟩, ⟨by omega, by omega⟩, ⟨by omega, by omega⟩, ⟨by omega, by omega⟩, ⟨by omega, by omega⟩, ⟨by omega, by omega⟩⟩)
      have tq_91 := mi_row h_89 2 rfl
      have tq_92 := mi_row h_89 3 rfl
      have bx_77 := wf_free x_77
      have tq_93 := mi_row h_89 4 rfl
      have bv_4 := wf_free v_4
      have tq_94 := mi_row h_89 5 rfl
      have bx_86 := wf_free x_86
      exact py_vret G0 hr hlk hw ⟨(by first | omega | (intro q; omega)), (by first | omega | (intro q; omega)), (by first | omega | (intro q; omega)), (by first | omega | (intro q; omega)), (by first | omega | (intro q; omega)), (by first | omega | (intro q; omega)), (by first | omega | (intro q; omega)), hWF, hKP, hFK⟩ dX12_closes_40
    · skip
      have tc_76 := ti_ne c_76
      refine lv_aload_n G0.1 G0.2.1 dX12_closes_16 rfl (lv_at hl 0 rfl) ?_
      refine py_callv hw (va_runV (As := []) (rest := []) G0 (c_X12_bad l E G L_59 f_60 H_61.size u hG hWF Tu (show 0 ≤ mi f_60 u 3 by omega)) (cwV 0 G0.2.2.2.2 g_X12_closes_X12_bad_143 rfl rfl rfl (by decide +kernel) ⟨(Nat.le_of_ble_eq_true rfl), (Nat.le_of_ble_eq_true rfl)⟩) (py_preV hw (C := RX12) (T := TX12) (N := 54) rfl hr_71) rfl rfl hl.1 rfl (lv_room (Nat.le_of_ble_eq_true rfl)) dX12_closes_17 ⟨(Nat.le_of_ble_eq_true rfl), (Nat.le_of_ble_eq_true rfl)⟩) (fun L_95 f_96 H_97 locs hp_98 hw => ?_)
      obtain ⟨en_100, en_101, en_102, hWF, kp_103, fk_104⟩ := hp_98
      have hMB := hMB.kp (kp_f kp_103 (wt12_1 hG Tu) (by decide) (by decide) (fun _ => by decide))
      have hFK := hFK.trans fk_104 (by decide)
      have hKP := hKP.trans kp_103 (by decide) (by decide)
      obtain ⟨v_105, hr_106⟩ := fk_4 hWF Tu fk_104 hr_71
      have tq_107 := mi_row hr_106 2 rfl
      have tq_108 := mi_row hr_106 3 rfl
      have bv_70 := wf_free v_70
      have tq_109 := mi_row hr_106 4 rfl
      have bv_105 := wf_free v_105
      have tq_110 := mi_row hr_106 5 rfl
      have bv_5 := wf_free v_5
      refine lv_aload_n G0.1 G0.2.1 dX12_closes_20 rfl (lv_at hl 0 rfl) ?_
      refine lv_dup G0.1 G0.2.1 dX12_closes_21 rfl ?_
      refine py_get (C := RX12) (T := TX12) (N := 54) (k := 3) (v := .int v_70) G0 hw in_X12_closes_X12 rfl hr_106 (by decide) (by decide +kernel) rfl dX12_closes_22 ?_
      refine lv_iconst (v := 1) G0.1 G0.2.1 dX12_closes_25 (by decide) ?_
      refine lv_iadd G0.1 G0.2.1 dX12_closes_26 ?_
      refine lv_topi (fun x_111 ex_111 => ?_)
      first | have tx_111 := ti_add ex_111 (by omega) (by omega) | skip
      refine py_put (C := RX12) (T := TX12) (N := 54) (k := 3) (v := .int x_111) (fs' := [.int v_1, .ref (G.2 u 1), .int v_2, .int x_111, .int v_105, .int v_5, .ref (G.2 u 6), .ref (G.2 u 7), .ref (G.2 u 8), .ref (G.2 u 9), .ref (G.2 u 10), .ref (G.2 u 11), .ref (G.2 u 12), .int v_6, .int v_7, .ref (G.2 u 15), .ref (G.2 u 16), .ref (G.2 u 17), .ref (G.2 u 18), .int v_8, .int v_9, .ref (G.2 u 21), .ref (G.2 u 22), .ref (G.2 u 23), .int v_10, .int v_11, .ref (G.2 u 26), .ref (G.2 u 27), .ref (G.2 u 28), .int v_12, .long y_13, .int v_14, .int v_15, .int v_16, .int v_17, .ref (G.2 u 35), .ref (G.2 u 36), .ref (G.2 u 37), .ref (G.2 u 38), .ref (G.2 u 39), .ref (G.2 u 40), .ref (G.2 u 41), .ref (G.2 u 42), .int v_18, .ref (G.2 u 44), .ref (G.2 u 45), .ref (G.2 u 46), .ref (G.2 u 47), .long y_19, .ref (G.2 u 49), .ref (G.2 u 50), .int v_20, .long y_21, .int v_22]) (ty0 := tyX12) G0 hw tyX12_ok nmX12 in_X12_closes_X12 rfl hr_106 (by decide) (by decide +kernel) rfl rfl rfl rfl (Nat.le_of_ble_eq_true rfl) rfl dX12_closes_27 (fun f_112 H_113 locs h_114 x_115 hw => ?_)
      have hMB := hMB.kp (kp_f (KP.refl.upd hWF x_115 Tu (Or.inl (by decide)) : KP G [13] false f_96 f_112) (wt12_1 hG Tu) (by decide) (by decide) (fun _ => by decide))
      have hFK := hFK.put hr_106 h_114 3 (by decide) rfl
      have hKP := hKP.upd hWF x_115 Tu (Or.inl (by decide))
      have hWF := wf_upd hWF h_114 x_115 (by rw [Tu]; exact ⟨v_1, v_2, x_111, v_105, v_5, v_6, v_7, v_8, v_9, v_10, v_11, v_12, y_13, v_14, v_15, v_16, v_17, v_18, y_19, v_20, y_21, v_22, rfl, ⟨by omega, by omega⟩, ⟨by omega, by omega⟩, ⟨by omega, by omega⟩, ⟨by omega, by omega⟩, ⟨by omega, by omega⟩, ⟨by omega, by omega⟩, ⟨by omega, by omega⟩, ⟨by omega, by omega⟩, ⟨by omega, by omega⟩, ⟨by omega, by omega⟩, ⟨by omega, by omega⟩, ⟨by omega, by omega⟩⟩)
      have tq_116 := mi_row h_114 2 rfl
      have tq_117 := mi_row h_114 3 rfl
      have bx_111 := wf_free x_111
      have tq_118 := mi_row h_114 4 rfl
      have bv_105 := wf_free v_105
      have tq_119 := mi_row h_114 5 rfl
      have bv_5 := wf_free v_5
      refine lv_aload_n G0.1 G0.2.1 dX12_closes_30 rfl (lv_at hl 0 rfl) ?_
      refine lv_dup G0.1 G0.2.1 dX12_closes_31 rfl ?_
      refine py_get (C := RX12) (T := TX12) (N := 54) (k := 5) (v := .int v_5) G0 hw in_X12_closes_X12 rfl h_114 (by decide) (by decide +kernel) rfl dX12_closes_32 ?_
      refine lv_iconst (v := 1) G0.1 G0.2.1 dX12_closes_35 (by decide) ?_
      refine lv_isub G0.1 G0.2.1 dX12_closes_36 ?_
      refine lv_topi (fun x_120 ex_120 => ?_)
      first | have tx_120 := ti_sub ex_120 (by omega) (by omega) | skip
      have tdd : 1 ≤ mi f_112 u 5 → x_120.toInt = mi f_112 u 5 - 1 := fun q => by have tz := ti_sub ex_120 (by omega) (by omega); omega
      refine py_put (C := RX12) (T := TX12) (N := 54) (k := 5) (v := .int x_120) (fs' := [.int v_1, .ref (G.2 u 1), .int v_2, .int x_111, .int v_105, .int x_120, .ref (G.2 u 6), .ref (G.2 u 7), .ref (G.2 u 8), .ref (G.2 u 9), .ref (G.2 u 10), .ref (G.2 u 11), .ref (G.2 u 12), .int v_6, .int v_7, .ref (G.2 u 15), .ref (G.2 u 16), .ref (G.2 u 17), .ref (G.2 u 18), .int v_8, .int v_9, .ref (G.2 u 21), .ref (G.2 u 22), .ref (G.2 u 23), .int v_10, .int v_11, .ref (G.2 u 26), .ref (G.2 u 27), .ref (G.2 u 28), .int v_12, .long y_13, .int v_14, .int v_15, .int v_16, .int v_17, .ref (G.2 u 35), .ref (G.2 u 36), .ref (G.2 u 37), .ref (G.2 u 38), .ref (G.2 u 39), .ref (G.2 u 40), .ref (G.2 u 41), .ref (G.2 u 42), .int v_18, .ref (G.2 u 44), .ref (G.2 u 45), .ref (G.2 u 46), .ref (G.2 u 47), .long y_19, .ref (G.2 u 49), .ref (G.2 u 50), .int v_20, .long y_21, .int v_22]) (ty0 := tyX12) G0 hw tyX12_ok nmX12 in_X12_closes_X12 rfl h_114 (by decide) (by decide +kernel) rfl rfl rfl rfl (Nat.le_of_ble_eq_true rfl) rfl dX12_closes_37 (fun f_121 H_122 locs h_123 x_124 hw => ?_)
      have hMB := hMB.kp (kp_f (KP.refl.upd hWF x_124 Tu (Or.inl (by decide)) : KP G [13] false f_112 f_121) (wt12_1 hG Tu) (by decide) (by decide) (fun _ => by decide))
      have hFK := hFK.put h_114 h_123 5 (by decide) rfl
      have hKP := hKP.upd hWF x_124 Tu (Or.inl (by decide))
      have hWF := wf_upd hWF h_123 x_124 (by rw [Tu]; exact ⟨v_1, v_2, x_111, v_105, x_120, v_6, v_7, v_8, v_9, v_10, v_11, v_12, y_13, v_14, v_15, v_16, v_17, v_18, y_19, v_20, y_21, v_22, rfl, ⟨by omega, by omega⟩, ⟨by omega, by omega⟩, ⟨by omega, by omega⟩, ⟨by omega, by omega⟩, ⟨by omega, by omega⟩, ⟨by omega, by omega⟩, ⟨by omega, by omega⟩, ⟨by omega, by omega⟩, ⟨by omega, by omega⟩, ⟨by omega, by omega⟩, ⟨by omega, by omega⟩, ⟨by omega, by omega⟩⟩)
      have tq_125 := mi_row h_123 2 rfl
      have tq_126 := mi_row h_123 3 rfl
      have bx_111 := wf_free x_111
      have tq_127 := mi_row h_123 4 rfl
      have bv_105 := wf_free v_105
      have tq_128 := mi_row h_123 5 rfl
      have bx_120 := wf_free x_120
      exact py_vret G0 hr hlk hw ⟨(by first | omega | (intro q; omega)), (by first | omega | (intro q; omega)), (by first | omega | (intro q; omega)), (by first | omega | (intro q; omega)), (by first | omega | (intro q; omega)), (by first | omega | (intro q; omega)), (by first | omega | (intro q; omega)), hWF, hKP, hFK⟩ dX12_closes_40

def w_X12_plainNumber : List Cond := .code yX12_plainNumber cX12_plainNumber 3 (some .int) :: ([Cond.methodLink RX12 130 yX12_here, Cond.instanceMethod yX12_here, Cond.selects RX12 yX12_here yX12_here, Cond.initialized RX12, Cond.methodLink RX12 149 yX12_isDigit, Cond.static yX12_isDigit, Cond.methodLink RX12 143 yX12_bad, Cond.instanceMethod yX12_bad, Cond.selects RX12 yX12_bad yX12_bad, Cond.fieldLink RX12 127 "HeadYearModel" "at" "I"] ++ (u_ws RX12 TX12 54 ++ (w_X12_here ++ (w_X12_isDigit ++ (w_X12_bad ++ ([]))))))
theorem in_X12_plainNumber_X12 : ∀ w ∈ u_ws RX12 TX12 54, w ∈ w_X12_plainNumber := fun _ h => List.mem_cons_of_mem _ (List.mem_append_right _ (List.mem_append_left _ h))
theorem gg_X12_plainNumber_X12_here : GoodIn w_X12_plainNumber w_X12_here := goodIn_sub (fun _ h => List.mem_cons_of_mem _ (List.mem_append_right _ (List.mem_append_right _ (List.mem_append_left _ h)))) (by decide +kernel)
theorem gg_X12_plainNumber_X12_isDigit : GoodIn w_X12_plainNumber w_X12_isDigit := goodIn_sub (fun _ h => List.mem_cons_of_mem _ (List.mem_append_right _ (List.mem_append_right _ (List.mem_append_right _ (List.mem_append_left _ h))))) (by decide +kernel)
theorem gg_X12_plainNumber_X12_bad : GoodIn w_X12_plainNumber w_X12_bad := goodIn_sub (fun _ h => List.mem_cons_of_mem _ (List.mem_append_right _ (List.mem_append_right _ (List.mem_append_right _ (List.mem_append_right _ (List.mem_append_left _ h)))))) (by decide +kernel)
theorem g_X12_plainNumber_X12_bad_143 : GoodIn w_X12_plainNumber (wsV RX12 143 RX12 yX12_bad w_X12_bad) := goodIn_app (goodIn_of _ (by decide +kernel)) gg_X12_plainNumber_X12_bad
theorem g_X12_plainNumber_X12_here_130 : GoodIn w_X12_plainNumber (wsV RX12 130 RX12 yX12_here w_X12_here) := goodIn_app (goodIn_of _ (by decide +kernel)) gg_X12_plainNumber_X12_here
theorem g_X12_plainNumber_X12_isDigit_149 : GoodIn w_X12_plainNumber (va_wsS RX12 149 yX12_isDigit w_X12_isDigit) := goodIn_app (goodIn_of _ (by decide +kernel)) gg_X12_plainNumber_X12_isDigit
set_option maxHeartbeats 4000000 in
set_option maxRecDepth 100000 in
theorem c_X12_plainNumber (l : Launch) (E : py_E) (G : wf_G) (L : List Nat) (f : py_F) (sz : Nat) (u : Nat) (gb : rs_B) (nb : Int) (pb : Int) (hG : GT G) (hWF : WF E G L f) (Tu : G.1 u = 13) (hp0 : 0 ≤ mi f u 3 ∧ mi f u 3 ≤ mi f u 2) (hp1 : mi f u 3 = pb) (hp2 : mi f u 4 = -1) (hp3 : rs_d (rs_v gb nb pb) = 1) (hp4 : mi f u 2 = nb ∧ 0 ≤ pb) (hq0 : AG f (G.2 u 1) gb nb) : Met l yX12_plainNumber w_X12_plainNumber ({ frames := 1, cells := 0, slots := 0, locals := 20 }) (py_Pc E [.ref u] L f sz) (py_Qi E L f sz (fun _ L1 f1 => (mi f u 3 ≤ mi f1 u 3 ∧ mi f1 u 3 ≤ mi f u 2) ∧ (mi f u 4 ≠ -1 → mi f1 u 4 ≠ -1) ∧ (48 ≤ hrv f G u ∧ hrv f G u ≤ 57 → mi f u 3 + 1 ≤ mi f1 u 3) ∧ (mi f u 3 + 1 ≤ mi f1 u 3) ∧ (mi f1 u 4 = -1 → (rs_num gb nb 4 pb).1 ≠ 0 ∧ mi f1 u 3 = (rs_num gb nb 4 pb).2) ∧ (mi f1 u 4 ≠ -1 → (rs_num gb nb 4 pb).1 = 0 ∧ mi f1 u 4 = (rs_num gb nb 4 pb).2) ∧ WF E G L1 f1 ∧ KP G [13] false f f1 ∧ FK [3, 4] f f1 u)) 0 0 (va_A (va_pl L f) sz) := by
  refine Met.ofW (cc := cX12_plainNumber) (maxL := 3) (ret := (some .int)) (by decide) rfl ?_
  intro p e s m args below meth c s₁ B hml hv
  obtain ⟨rfl, rfl, hw⟩ := py_start hv
  have G0 : CallFix p m c cX12_plainNumber 3 s _ w_X12_plainNumber RX12 := ⟨B.exec, B.bytes, hml, findClass_of_methodNamed B.named, atoms_spec (ws := w_X12_plainNumber) B.pre⟩
  have hr := B.returns
  have hlk := B.notSynchronized
  have kcm1 : (-1 : Int32).toInt = -1 := rfl
  have kc0 : (0 : Int32).toInt = 0 := rfl
  have kc1 : (1 : Int32).toInt = 1 := rfl
  have kc4 : (4 : Int32).toInt = 4 := rfl
  have kc10 : (10 : Int32).toInt = 10 := rfl
  have kc48 : (48 : Int32).toInt = 48 := rfl
  have hl := lv_entry ([.ref u]) (n := 3) (Nat.le_of_ble_eq_true rfl)
  rw [lg_entry_eq]
  generalize (lg_sl ([.ref u]) ++ List.replicate (3 - (lg_sl ([.ref u])).length) Slot.unset).toArray = ls at hl ⊢
  have hl : lv_has ls 3 [(0, .ref u)] := hl
  have hFK : FK [3, 4] f f u := FK.refl
  have hKP : KP G [13] false f f := KP.refl
  have hMB := hq0
  refine lv_iconst (v := 0) G0.1 G0.2.1 dX12_plainNumber_0 (by decide) ?_
  refine lv_istore_n (lv' := [(1, .int 0), (0, .ref u)]) G0.1 G0.2.1 dX12_plainNumber_1 rfl hl (by decide) rfl (fun ls hl => ?_)
  refine lv_iconst (v := 0) G0.1 G0.2.1 dX12_plainNumber_2 (by decide) ?_
  refine lv_istore_n (lv' := [(2, .int 0), (1, .int 0), (0, .ref u)]) G0.1 G0.2.1 dX12_plainNumber_3 rfl hl (by decide) rfl (fun ls hl => ?_)
  have lo_4 : ∀ n_4 : Nat, ∀ (v_1 : Int32) (v_2 : Int32) (L_j4 : List Nat) (f_j4 : py_F) (H_j4 : Heap) (locs : List Loc) (ls : Array Slot), (2147483647 - v_1.toInt).toNat = n_4 → (0 ≤ v_1.toInt ∧ v_1.toInt ≤ 2147483647) → WF E G L_j4 f_j4 → KP G [13] false f f_j4 → AG f_j4 (G.2 u 1) gb nb → FK [3, 4] f f_j4 u → (mi f u 3 ≤ mi f_j4 u 3 ∧ mi f_j4 u 3 ≤ mi f u 2) → (mi f_j4 u 2 = mi f u 2 ∧ mi f_j4 u 4 = mi f u 4) → (0 ≤ v_1.toInt ∧ v_1.toInt ≤ 4 ∧ mi f_j4 u 3 = pb + v_1.toInt) → (rs_rb v_1.toInt v_2.toInt) → (rs_nm gb nb 4 pb 0 = rs_nm gb nb (4 - v_1.toInt).toNat (mi f_j4 u 3) v_2.toInt) → (v_1.toInt = 0 ∧ hrv f_j4 G u = hrv f G u ∨ mi f u 3 + 1 ≤ mi f_j4 u 3) → py_W E (va_A (va_pl L f) s.heap.size) s L_j4 f_j4 H_j4 locs → lv_has ls 3 [(2, .int v_1), (1, .int v_2), (0, .ref u)] → W p l e (headSpec w_X12_plainNumber ({ frames := 1, cells := 0, slots := 0, locals := 20 })).room s m ([.ref u] : List Value).toArray below meth c H_j4 locs 0 0 (MQ below (py_Qi E L f s.heap.size (fun _ L1 f1 => (mi f u 3 ≤ mi f1 u 3 ∧ mi f1 u 3 ≤ mi f u 2) ∧ (mi f u 4 ≠ -1 → mi f1 u 4 ≠ -1) ∧ (48 ≤ hrv f G u ∧ hrv f G u ≤ 57 → mi f u 3 + 1 ≤ mi f1 u 3) ∧ (mi f u 3 + 1 ≤ mi f1 u 3) ∧ (mi f1 u 4 = -1 → (rs_num gb nb 4 pb).1 ≠ 0 ∧ mi f1 u 3 = (rs_num gb nb 4 pb).2) ∧ (mi f1 u 4 ≠ -1 → (rs_num gb nb 4 pb).1 = 0 ∧ mi f1 u 4 = (rs_num gb nb 4 pb).2) ∧ WF E G L1 f1 ∧ KP G [13] false f f1 ∧ FK [3, 4] f f1 u)) ([.ref u] : List Value).toArray s 0 0 (va_A (va_pl L f) s.heap.size)) (F0 m 4 ls []) := by
    intro n_4
    induction n_4 using Nat.strongRecOn with
    | _ n_4 ih_4 =>
      intro v_1 v_2 L_j4 f_j4 H_j4 locs ls hn_4 bv_1 hWF hKP hMB hFK iv0 iv1 iv2 iv3 iv4 iv5 hw hl
      have hrb := rs_rb_le iv3
      refine lv_iload_n G0.1 G0.2.1 dX12_plainNumber_4 rfl (lv_at hl 0 rfl) ?_
      refine lv_iconst (v := 4) G0.1 G0.2.1 dX12_plainNumber_5 (by decide) ?_
      refine lv_icmp_ge (tgt := 48) G0.1 G0.2.1 dX12_plainNumber_6 (by decide) (fun c_3 => ?_) (fun c_3 => ?_)
      · skip
        have tc_3 := ti_le c_3
        have hnm : rs_nm gb nb 4 pb 0 = (v_2.toInt, mi f_j4 u 3) := rs_nm_fin iv4 (by first | exact Or.inl (by omega) | exact Or.inr (by have hz := rs_d_eq (rs_v gb nb (mi f_j4 u 3)); omega))
        have hgt := rs_nm_gt hp3 hnm
        have hdz := rs_d_eq (rs_v gb nb (mi f_j4 u 3))
        refine lv_aload_n G0.1 G0.2.1 dX12_plainNumber_48 rfl (lv_at hl 2 rfl) ?_
        obtain ⟨v_4, v_5, v_6, v_7, v_8, v_9, v_10, v_11, v_12, v_13, v_14, v_15, y_16, v_17, v_18, v_19, v_20, v_21, y_22, v_23, y_24, v_25, hr_38, b_26, b_27, b_28, b_29, b_30, b_31, b_32, b_33, b_34, b_35, b_36, b_37⟩ := wg_12 hWF Tu
        have tq_39 := mi_row hr_38 2 rfl
        have tq_40 := mi_row hr_38 3 rfl
        have bv_6 := wf_free v_6
        have tq_41 := mi_row hr_38 4 rfl
        have bv_7 := wf_free v_7
        refine py_calli hw (va_runV (As := []) (rest := []) G0 (c_X12_here l E G L_j4 f_j4 H_j4.size u gb nb (mi f_j4 u 3) hG hWF Tu (show 0 ≤ mi f_j4 u 3 by omega) (show mi f_j4 u 3 = (mi f_j4 u 3) by omega) (show mi f_j4 u 2 = nb ∧ 0 ≤ (mi f_j4 u 3) by omega) hMB) (cwV 0 G0.2.2.2.2 g_X12_plainNumber_X12_here_130 rfl rfl rfl (by decide +kernel) ⟨(Nat.le_of_ble_eq_true rfl), (Nat.le_of_ble_eq_true rfl)⟩) (py_preV hw (C := RX12) (T := TX12) (N := 54) rfl hr_38) rfl rfl hl.1 rfl (lv_room (Nat.le_of_ble_eq_true rfl)) dX12_plainNumber_49 ⟨(Nat.le_of_ble_eq_true rfl), (Nat.le_of_ble_eq_true rfl)⟩) (fun r_46 L_42 f_43 H_44 locs hp_45 hw => ?_)
        obtain ⟨en_47, en_48, en_49, rfl, rfl⟩ := hp_45
        have br_46 := wf_free r_46
        refine py_calli hw (va_runS (As := [.int r_46]) (rest := []) G0 (c_X12_isDigit l E G L_j4 f_j4 H_44.size r_46 hG hWF) (va_cwS 1 G0.2.2.2.2 g_X12_plainNumber_X12_isDigit_149 rfl rfl rfl (by decide +kernel) ⟨(Nat.le_of_ble_eq_true rfl), (Nat.le_of_ble_eq_true rfl)⟩) (py_preS hw) rfl rfl hl.1 rfl (lv_room (Nat.le_of_ble_eq_true rfl)) dX12_plainNumber_52 ⟨(Nat.le_of_ble_eq_true rfl), (Nat.le_of_ble_eq_true rfl)⟩) (fun r_54 L_50 f_51 H_52 locs hp_53 hw => ?_)
        obtain ⟨b_57, en_55, en_56, rfl, rfl⟩ := hp_53
        refine lv_if_eq (tgt := 62) G0.1 G0.2.1 dX12_plainNumber_55 (by decide) (fun c_58 => ?_) (fun c_58 => ?_)
        · skip
          have tc_58 := ti_eq c_58
          clear en_55
          replace en_56 := en_56 (by omega)
          refine lv_iload_n G0.1 G0.2.1 dX12_plainNumber_62 rfl (lv_at hl 1 rfl) ?_
          exact py_iret G0 hr rfl hlk hw ⟨(by first | omega | (intro q; omega)), (by first | omega | (intro q; omega)), (by first | omega | (intro q; omega)), (by first | omega | (intro q; omega)), (by intro hw; first | (exfalso; omega) | (have hE : (rs_num gb nb 4 pb) = (1, mi f_j4 u 3) := rs_num_y hnm (by omega) (by omega); rw [hE]; (try dsimp only); omega) | (have hE : (rs_num gb nb 4 pb) = (0, mi f_j4 u 3) := rs_num_z hnm (by omega); rw [hE]; (try dsimp only); omega)), (by intro hw; first | (exfalso; omega) | (have hE : (rs_num gb nb 4 pb) = (1, mi f_j4 u 3) := rs_num_y hnm (by omega) (by omega); rw [hE]; (try dsimp only); omega) | (have hE : (rs_num gb nb 4 pb) = (0, mi f_j4 u 3) := rs_num_z hnm (by omega); rw [hE]; (try dsimp only); omega)), hWF, hKP, hFK⟩ dX12_plainNumber_63
        · skip
          have tc_58 := ti_ne c_58
          replace en_55 := en_55 (by omega)
          clear en_56
          refine lv_aload_n G0.1 G0.2.1 dX12_plainNumber_58 rfl (lv_at hl 2 rfl) ?_
          refine py_callv hw (va_runV (As := []) (rest := []) G0 (c_X12_bad l E G L_j4 f_j4 H_52.size u hG hWF Tu (show 0 ≤ mi f_j4 u 3 by omega)) (cwV 0 G0.2.2.2.2 g_X12_plainNumber_X12_bad_143 rfl rfl rfl (by decide +kernel) ⟨(Nat.le_of_ble_eq_true rfl), (Nat.le_of_ble_eq_true rfl)⟩) (py_preV hw (C := RX12) (T := TX12) (N := 54) rfl hr_38) rfl rfl hl.1 rfl (lv_room (Nat.le_of_ble_eq_true rfl)) dX12_plainNumber_59 ⟨(Nat.le_of_ble_eq_true rfl), (Nat.le_of_ble_eq_true rfl)⟩) (fun L_59 f_60 H_61 locs hp_62 hw => ?_)
          obtain ⟨en_64, en_65, en_66, hWF, kp_67, fk_68⟩ := hp_62
          have hMB := hMB.kp (kp_f kp_67 (wt12_1 hG Tu) (by decide) (by decide) (fun _ => by decide))
          have hFK := hFK.trans fk_68 (by decide)
          have hKP := hKP.trans kp_67 (by decide) (by decide)
          obtain ⟨v_69, hr_70⟩ := fk_4 hWF Tu fk_68 hr_38
          have tq_71 := mi_row hr_70 2 rfl
          have tq_72 := mi_row hr_70 3 rfl
          have bv_6 := wf_free v_6
          have tq_73 := mi_row hr_70 4 rfl
          have bv_69 := wf_free v_69
          refine lv_iload_n G0.1 G0.2.1 dX12_plainNumber_62 rfl (lv_at hl 1 rfl) ?_
          exact py_iret G0 hr rfl hlk hw ⟨(by first | omega | (intro q; omega)), (by first | omega | (intro q; omega)), (by first | omega | (intro q; omega)), (by first | omega | (intro q; omega)), (by intro hw; first | (exfalso; omega) | (have hE : (rs_num gb nb 4 pb) = (1, mi f_j4 u 3) := rs_num_y hnm (by omega) (by omega); rw [hE]; (try dsimp only); omega) | (have hE : (rs_num gb nb 4 pb) = (0, mi f_j4 u 3) := rs_num_z hnm (by omega); rw [hE]; (try dsimp only); omega)), (by intro hw; first | (exfalso; omega) | (have hE : (rs_num gb nb 4 pb) = (1, mi f_j4 u 3) := rs_num_y hnm (by omega) (by omega); rw [hE]; (try dsimp only); omega) | (have hE : (rs_num gb nb 4 pb) = (0, mi f_j4 u 3) := rs_num_z hnm (by omega); rw [hE]; (try dsimp only); omega)), hWF, hKP, hFK⟩ dX12_plainNumber_63
      · skip
        have tc_3 := ti_nle c_3
        refine lv_aload_n G0.1 G0.2.1 dX12_plainNumber_9 rfl (lv_at hl 2 rfl) ?_
        obtain ⟨v_74, v_75, v_76, v_77, v_78, v_79, v_80, v_81, v_82, v_83, v_84, v_85, y_86, v_87, v_88, v_89, v_90, v_91, y_92, v_93, y_94, v_95, hr_108, b_96, b_97, b_98, b_99, b_100, b_101, b_102, b_103, b_104, b_105, b_106, b_107⟩ := wg_12 hWF Tu
        have tq_109 := mi_row hr_108 2 rfl
        have tq_110 := mi_row hr_108 3 rfl
        have bv_76 := wf_free v_76
        have tq_111 := mi_row hr_108 4 rfl
        have bv_77 := wf_free v_77
        refine py_calli hw (va_runV (As := []) (rest := []) G0 (c_X12_here l E G L_j4 f_j4 H_j4.size u gb nb (mi f_j4 u 3) hG hWF Tu (show 0 ≤ mi f_j4 u 3 by omega) (show mi f_j4 u 3 = (mi f_j4 u 3) by omega) (show mi f_j4 u 2 = nb ∧ 0 ≤ (mi f_j4 u 3) by omega) hMB) (cwV 0 G0.2.2.2.2 g_X12_plainNumber_X12_here_130 rfl rfl rfl (by decide +kernel) ⟨(Nat.le_of_ble_eq_true rfl), (Nat.le_of_ble_eq_true rfl)⟩) (py_preV hw (C := RX12) (T := TX12) (N := 54) rfl hr_108) rfl rfl hl.1 rfl (lv_room (Nat.le_of_ble_eq_true rfl)) dX12_plainNumber_10 ⟨(Nat.le_of_ble_eq_true rfl), (Nat.le_of_ble_eq_true rfl)⟩) (fun r_116 L_112 f_113 H_114 locs hp_115 hw => ?_)
        obtain ⟨en_117, en_118, en_119, rfl, rfl⟩ := hp_115
        have br_116 := wf_free r_116
        refine py_calli hw (va_runS (As := [.int r_116]) (rest := []) G0 (c_X12_isDigit l E G L_j4 f_j4 H_114.size r_116 hG hWF) (va_cwS 1 G0.2.2.2.2 g_X12_plainNumber_X12_isDigit_149 rfl rfl rfl (by decide +kernel) ⟨(Nat.le_of_ble_eq_true rfl), (Nat.le_of_ble_eq_true rfl)⟩) (py_preS hw) rfl rfl hl.1 rfl (lv_room (Nat.le_of_ble_eq_true rfl)) dX12_plainNumber_13 ⟨(Nat.le_of_ble_eq_true rfl), (Nat.le_of_ble_eq_true rfl)⟩) (fun r_124 L_120 f_121 H_122 locs hp_123 hw => ?_)
        obtain ⟨b_127, en_125, en_126, rfl, rfl⟩ := hp_123
        refine lv_if_eq (tgt := 48) G0.1 G0.2.1 dX12_plainNumber_16 (by decide) (fun c_128 => ?_) (fun c_128 => ?_)
        · skip
          have tc_128 := ti_eq c_128
          clear en_125
          replace en_126 := en_126 (by omega)
          have hnm : rs_nm gb nb 4 pb 0 = (v_2.toInt, mi f_j4 u 3) := rs_nm_fin iv4 (by first | exact Or.inl (by omega) | exact Or.inr (by have hz := rs_d_eq (rs_v gb nb (mi f_j4 u 3)); omega))
          have hgt := rs_nm_gt hp3 hnm
          have hdz := rs_d_eq (rs_v gb nb (mi f_j4 u 3))
          refine lv_aload_n G0.1 G0.2.1 dX12_plainNumber_48 rfl (lv_at hl 2 rfl) ?_
          refine py_calli hw (va_runV (As := []) (rest := []) G0 (c_X12_here l E G L_j4 f_j4 H_122.size u gb nb (mi f_j4 u 3) hG hWF Tu (show 0 ≤ mi f_j4 u 3 by omega) (show mi f_j4 u 3 = (mi f_j4 u 3) by omega) (show mi f_j4 u 2 = nb ∧ 0 ≤ (mi f_j4 u 3) by omega) hMB) (cwV 0 G0.2.2.2.2 g_X12_plainNumber_X12_here_130 rfl rfl rfl (by decide +kernel) ⟨(Nat.le_of_ble_eq_true rfl), (Nat.le_of_ble_eq_true rfl)⟩) (py_preV hw (C := RX12) (T := TX12) (N := 54) rfl hr_108) rfl rfl hl.1 rfl (lv_room (Nat.le_of_ble_eq_true rfl)) dX12_plainNumber_49 ⟨(Nat.le_of_ble_eq_true rfl), (Nat.le_of_ble_eq_true rfl)⟩) (fun r_133 L_129 f_130 H_131 locs hp_132 hw => ?_)
          obtain ⟨en_134, en_135, en_136, rfl, rfl⟩ := hp_132
          have br_133 := wf_free r_133
          refine py_calli hw (va_runS (As := [.int r_133]) (rest := []) G0 (c_X12_isDigit l E G L_j4 f_j4 H_131.size r_133 hG hWF) (va_cwS 1 G0.2.2.2.2 g_X12_plainNumber_X12_isDigit_149 rfl rfl rfl (by decide +kernel) ⟨(Nat.le_of_ble_eq_true rfl), (Nat.le_of_ble_eq_true rfl)⟩) (py_preS hw) rfl rfl hl.1 rfl (lv_room (Nat.le_of_ble_eq_true rfl)) dX12_plainNumber_52 ⟨(Nat.le_of_ble_eq_true rfl), (Nat.le_of_ble_eq_true rfl)⟩) (fun r_141 L_137 f_138 H_139 locs hp_140 hw => ?_)
          obtain ⟨b_144, en_142, en_143, rfl, rfl⟩ := hp_140
          refine lv_if_eq (tgt := 62) G0.1 G0.2.1 dX12_plainNumber_55 (by decide) (fun c_145 => ?_) (fun c_145 => ?_)
          · skip
            have tc_145 := ti_eq c_145
            clear en_142
            replace en_143 := en_143 (by omega)
            refine lv_iload_n G0.1 G0.2.1 dX12_plainNumber_62 rfl (lv_at hl 1 rfl) ?_
            exact py_iret G0 hr rfl hlk hw ⟨(by first | omega | (intro q; omega)), (by first | omega | (intro q; omega)), (by first | omega | (intro q; omega)), (by first | omega | (intro q; omega)), (by intro hw; first | (exfalso; omega) | (have hE : (rs_num gb nb 4 pb) = (1, mi f_j4 u 3) := rs_num_y hnm (by omega) (by omega); rw [hE]; (try dsimp only); omega) | (have hE : (rs_num gb nb 4 pb) = (0, mi f_j4 u 3) := rs_num_z hnm (by omega); rw [hE]; (try dsimp only); omega)), (by intro hw; first | (exfalso; omega) | (have hE : (rs_num gb nb 4 pb) = (1, mi f_j4 u 3) := rs_num_y hnm (by omega) (by omega); rw [hE]; (try dsimp only); omega) | (have hE : (rs_num gb nb 4 pb) = (0, mi f_j4 u 3) := rs_num_z hnm (by omega); rw [hE]; (try dsimp only); omega)), hWF, hKP, hFK⟩ dX12_plainNumber_63
          · skip
            have tc_145 := ti_ne c_145
            replace en_142 := en_142 (by omega)
            clear en_143
            refine lv_aload_n G0.1 G0.2.1 dX12_plainNumber_58 rfl (lv_at hl 2 rfl) ?_
            refine py_callv hw (va_runV (As := []) (rest := []) G0 (c_X12_bad l E G L_j4 f_j4 H_139.size u hG hWF Tu (show 0 ≤ mi f_j4 u 3 by omega)) (cwV 0 G0.2.2.2.2 g_X12_plainNumber_X12_bad_143 rfl rfl rfl (by decide +kernel) ⟨(Nat.le_of_ble_eq_true rfl), (Nat.le_of_ble_eq_true rfl)⟩) (py_preV hw (C := RX12) (T := TX12) (N := 54) rfl hr_108) rfl rfl hl.1 rfl (lv_room (Nat.le_of_ble_eq_true rfl)) dX12_plainNumber_59 ⟨(Nat.le_of_ble_eq_true rfl), (Nat.le_of_ble_eq_true rfl)⟩) (fun L_146 f_147 H_148 locs hp_149 hw => ?_)
            obtain ⟨en_151, en_152, en_153, hWF, kp_154, fk_155⟩ := hp_149
            have hMB := hMB.kp (kp_f kp_154 (wt12_1 hG Tu) (by decide) (by decide) (fun _ => by decide))
            have hFK := hFK.trans fk_155 (by decide)
            have hKP := hKP.trans kp_154 (by decide) (by decide)
            obtain ⟨v_156, hr_157⟩ := fk_4 hWF Tu fk_155 hr_108
            have tq_158 := mi_row hr_157 2 rfl
            have tq_159 := mi_row hr_157 3 rfl
            have bv_76 := wf_free v_76
            have tq_160 := mi_row hr_157 4 rfl
            have bv_156 := wf_free v_156
            refine lv_iload_n G0.1 G0.2.1 dX12_plainNumber_62 rfl (lv_at hl 1 rfl) ?_
            exact py_iret G0 hr rfl hlk hw ⟨(by first | omega | (intro q; omega)), (by first | omega | (intro q; omega)), (by first | omega | (intro q; omega)), (by first | omega | (intro q; omega)), (by intro hw; first | (exfalso; omega) | (have hE : (rs_num gb nb 4 pb) = (1, mi f_j4 u 3) := rs_num_y hnm (by omega) (by omega); rw [hE]; (try dsimp only); omega) | (have hE : (rs_num gb nb 4 pb) = (0, mi f_j4 u 3) := rs_num_z hnm (by omega); rw [hE]; (try dsimp only); omega)), (by intro hw; first | (exfalso; omega) | (have hE : (rs_num gb nb 4 pb) = (1, mi f_j4 u 3) := rs_num_y hnm (by omega) (by omega); rw [hE]; (try dsimp only); omega) | (have hE : (rs_num gb nb 4 pb) = (0, mi f_j4 u 3) := rs_num_z hnm (by omega); rw [hE]; (try dsimp only); omega)), hWF, hKP, hFK⟩ dX12_plainNumber_63
        · skip
          have tc_128 := ti_ne c_128
          replace en_125 := en_125 (by omega)
          clear en_126
          refine lv_bipush (v := 10) G0.1 G0.2.1 dX12_plainNumber_19 (by decide) ?_
          refine lv_iload_n G0.1 G0.2.1 dX12_plainNumber_21 rfl (lv_at hl 1 rfl) ?_
          refine lv_imul G0.1 G0.2.1 dX12_plainNumber_22 ?_
          refine lv_topi (fun x_161 ex_161 => ?_)
          first | have tx_161 := ti_muld ex_161 kc10 (by omega) (by omega) | skip
          refine lv_aload_n G0.1 G0.2.1 dX12_plainNumber_23 rfl (lv_at hl 2 rfl) ?_
          refine py_calli hw (va_runV (As := []) (rest := [.int x_161]) G0 (c_X12_here l E G L_j4 f_j4 H_122.size u gb nb (mi f_j4 u 3) hG hWF Tu (show 0 ≤ mi f_j4 u 3 by omega) (show mi f_j4 u 3 = (mi f_j4 u 3) by omega) (show mi f_j4 u 2 = nb ∧ 0 ≤ (mi f_j4 u 3) by omega) hMB) (cwV 0 G0.2.2.2.2 g_X12_plainNumber_X12_here_130 rfl rfl rfl (by decide +kernel) ⟨(Nat.le_of_ble_eq_true rfl), (Nat.le_of_ble_eq_true rfl)⟩) (py_preV hw (C := RX12) (T := TX12) (N := 54) rfl hr_108) rfl rfl hl.1 rfl (lv_room (Nat.le_of_ble_eq_true rfl)) dX12_plainNumber_24 ⟨(Nat.le_of_ble_eq_true rfl), (Nat.le_of_ble_eq_true rfl)⟩) (fun r_166 L_162 f_163 H_164 locs hp_165 hw => ?_)
          obtain ⟨en_167, en_168, en_169, rfl, rfl⟩ := hp_165
          have br_166 := wf_free r_166
          refine lv_iadd G0.1 G0.2.1 dX12_plainNumber_27 ?_
          refine lv_topi (fun x_170 ex_170 => ?_)
          first | have tx_170 := ti_add ex_170 (by omega) (by omega) | skip
          refine lv_bipush (v := 48) G0.1 G0.2.1 dX12_plainNumber_28 (by decide) ?_
          refine lv_isub G0.1 G0.2.1 dX12_plainNumber_30 ?_
          refine lv_topi (fun x_171 ex_171 => ?_)
          first | have tx_171 := ti_sub ex_171 (by omega) (by omega) | skip
          refine lv_istore_n (lv' := [(1, .int x_171), (2, .int v_1), (0, .ref u)]) G0.1 G0.2.1 dX12_plainNumber_31 rfl hl (by decide) rfl (fun ls hl => ?_)
          refine lv_aload_n G0.1 G0.2.1 dX12_plainNumber_32 rfl (lv_at hl 2 rfl) ?_
          refine lv_dup G0.1 G0.2.1 dX12_plainNumber_33 rfl ?_
          refine py_get (C := RX12) (T := TX12) (N := 54) (k := 3) (v := .int v_76) G0 hw in_X12_plainNumber_X12 rfl hr_108 (by decide) (by decide +kernel) rfl dX12_plainNumber_34 ?_
          refine lv_iconst (v := 1) G0.1 G0.2.1 dX12_plainNumber_37 (by decide) ?_
          refine lv_iadd G0.1 G0.2.1 dX12_plainNumber_38 ?_
          refine lv_topi (fun x_172 ex_172 => ?_)
          first | have tx_172 := ti_add ex_172 (by omega) (by omega) | skip
          refine py_put (C := RX12) (T := TX12) (N := 54) (k := 3) (v := .int x_172) (fs' := [.int v_74, .ref (G.2 u 1), .int v_75, .int x_172, .int v_77, .int v_78, .ref (G.2 u 6), .ref (G.2 u 7), .ref (G.2 u 8), .ref (G.2 u 9), .ref (G.2 u 10), .ref (G.2 u 11), .ref (G.2 u 12), .int v_79, .int v_80, .ref (G.2 u 15), .ref (G.2 u 16), .ref (G.2 u 17), .ref (G.2 u 18), .int v_81, .int v_82, .ref (G.2 u 21), .ref (G.2 u 22), .ref (G.2 u 23), .int v_83, .int v_84, .ref (G.2 u 26), .ref (G.2 u 27), .ref (G.2 u 28), .int v_85, .long y_86, .int v_87, .int v_88, .int v_89, .int v_90, .ref (G.2 u 35), .ref (G.2 u 36), .ref (G.2 u 37), .ref (G.2 u 38), .ref (G.2 u 39), .ref (G.2 u 40), .ref (G.2 u 41), .ref (G.2 u 42), .int v_91, .ref (G.2 u 44), .ref (G.2 u 45), .ref (G.2 u 46), .ref (G.2 u 47), .long y_92, .ref (G.2 u 49), .ref (G.2 u 50), .int v_93, .long y_94, .int v_95]) (ty0 := tyX12) G0 hw tyX12_ok nmX12 in_X12_plainNumber_X12 rfl hr_108 (by decide) (by decide +kernel) rfl rfl rfl rfl (Nat.le_of_ble_eq_true rfl) rfl dX12_plainNumber_39 (fun f_173 H_174 locs h_175 x_176 hw => ?_)
          have hMB := hMB.kp (kp_f (KP.refl.upd hWF x_176 Tu (Or.inl (by decide)) : KP G [13] false f_j4 f_173) (wt12_1 hG Tu) (by decide) (by decide) (fun _ => by decide))
          have hFK := hFK.put hr_108 h_175 3 (by decide) rfl
          have hKP := hKP.upd hWF x_176 Tu (Or.inl (by decide))
          have hWF := wf_upd hWF h_175 x_176 (by rw [Tu]; exact ⟨v_74, v_75, x_172, v_77, v_78, v_79, v_80, v_81, v_82, v_83, v_84, v_85, y_86, v_87, v_88, v_89, v_90, v_91, y_92, v_93, y_94, v_95, rfl, ⟨by omega, by omega⟩, ⟨by omega, by omega⟩, ⟨by omega, by omega⟩, ⟨by omega, by omega⟩, ⟨by omega, by omega⟩, ⟨by omega, by omega⟩, ⟨by omega, by omega⟩, ⟨by omega, by omega⟩, ⟨by omega, by omega⟩, ⟨by omega, by omega⟩, ⟨by omega, by omega⟩, ⟨by omega, by omega⟩⟩)
          have tq_177 := mi_row h_175 2 rfl
          have tq_178 := mi_row h_175 3 rfl
          have bx_172 := wf_free x_172
          have tq_179 := mi_row h_175 4 rfl
          have bv_77 := wf_free v_77
          obtain ⟨x_180, ex_180⟩ : ∃ y : Int32, y = v_1 + 1 := ⟨_, rfl⟩
          first | have tx_180 := ti_add ex_180 (by omega) (by omega) | skip
          refine lv_iinc (v := x_180) (lv' := [(2, .int x_180), (1, .int x_171), (0, .ref u)]) G0.1 G0.2.1 dX12_plainNumber_42 hl (k := 1) rfl (show _ + (1 : Int32) = _ from ex_180.symm) (by decide) rfl (fun ls hl => ?_)
          refine lv_goto (tgt := 4) G0.1 G0.2.1 dX12_plainNumber_45 (by decide) ?_
          exact ih_4 ((2147483647 - x_180.toInt).toNat) (by omega) x_180 x_171 L_j4 f_173 _ _ ls rfl ⟨by omega, by omega⟩ hWF hKP hMB hFK (by first | omega | (intros; omega)) (by first | omega | (intros; omega)) (by first | omega | (intros; omega)) (rs_rb_on iv3 (c := rs_v gb nb (mi f_j4 u 3)) (by omega) (by omega) (by omega) (by omega) (by omega)) (rs_nm_st iv4 (by have hz := rs_d_eq (rs_v gb nb (mi f_j4 u 3)); omega) (by omega) (by omega) (by omega)) (by first | omega | (intros; omega)) hw (lv_sub hl [0, 1, 2] rfl)
  exact lo_4 _ 0 0 L f _ _ ls rfl ⟨by omega, by omega⟩ hWF hKP hMB hFK (by first | omega | (intros; omega)) (by first | omega | (intros; omega)) (by first | omega | (intros; omega)) (rs_rb_0 (by omega) (by omega)) (by rw [show ((4 : Int) - (0 : Int32).toInt).toNat = 4 from rfl, show mi f u 3 = pb by omega, show (0 : Int32).toInt = 0 from rfl]) (by first | omega | (intros; omega)) hw (lv_sub hl [0, 1, 2] rfl)

def w_X12_number : List Cond := .code yX12_number cX12_number 5 (some .int) :: ([Cond.methodLink RX12 146 yX12_look, Cond.instanceMethod yX12_look, Cond.selects RX12 yX12_look yX12_look, Cond.initialized RX12, Cond.methodLink RX12 149 yX12_isDigit, Cond.static yX12_isDigit, Cond.methodLink RX12 130 yX12_here, Cond.instanceMethod yX12_here, Cond.selects RX12 yX12_here yX12_here, Cond.methodLink RX12 232 yX12_in, Cond.static yX12_in, Cond.fieldLink RX12 127 "HeadYearModel" "at" "I", Cond.methodLink RX12 143 yX12_bad, Cond.instanceMethod yX12_bad, Cond.selects RX12 yX12_bad yX12_bad] ++ (u_ws RX12 TX12 54 ++ (w_X12_look ++ (w_X12_isDigit ++ (w_X12_here ++ (w_X12_in ++ (w_X12_bad ++ ([]))))))))
theorem in_X12_number_X12 : ∀ w ∈ u_ws RX12 TX12 54, w ∈ w_X12_number := fun _ h => List.mem_cons_of_mem _ (List.mem_append_right _ (List.mem_append_left _ h))
theorem gg_X12_number_X12_look : GoodIn w_X12_number w_X12_look := goodIn_sub (fun _ h => List.mem_cons_of_mem _ (List.mem_append_right _ (List.mem_append_right _ (List.mem_append_left _ h)))) (by decide +kernel)
theorem gg_X12_number_X12_isDigit : GoodIn w_X12_number w_X12_isDigit := goodIn_sub (fun _ h => List.mem_cons_of_mem _ (List.mem_append_right _ (List.mem_append_right _ (List.mem_append_right _ (List.mem_append_left _ h))))) (by decide +kernel)
theorem gg_X12_number_X12_here : GoodIn w_X12_number w_X12_here := goodIn_sub (fun _ h => List.mem_cons_of_mem _ (List.mem_append_right _ (List.mem_append_right _ (List.mem_append_right _ (List.mem_append_right _ (List.mem_append_left _ h)))))) (by decide +kernel)
theorem gg_X12_number_X12_in : GoodIn w_X12_number w_X12_in := goodIn_sub (fun _ h => List.mem_cons_of_mem _ (List.mem_append_right _ (List.mem_append_right _ (List.mem_append_right _ (List.mem_append_right _ (List.mem_append_right _ (List.mem_append_left _ h))))))) (by decide +kernel)
theorem gg_X12_number_X12_bad : GoodIn w_X12_number w_X12_bad := goodIn_sub (fun _ h => List.mem_cons_of_mem _ (List.mem_append_right _ (List.mem_append_right _ (List.mem_append_right _ (List.mem_append_right _ (List.mem_append_right _ (List.mem_append_right _ (List.mem_append_left _ h)))))))) (by decide +kernel)
theorem g_X12_number_X12_bad_143 : GoodIn w_X12_number (wsV RX12 143 RX12 yX12_bad w_X12_bad) := goodIn_app (goodIn_of _ (by decide +kernel)) gg_X12_number_X12_bad
theorem g_X12_number_X12_here_130 : GoodIn w_X12_number (wsV RX12 130 RX12 yX12_here w_X12_here) := goodIn_app (goodIn_of _ (by decide +kernel)) gg_X12_number_X12_here
theorem g_X12_number_X12_in_232 : GoodIn w_X12_number (va_wsS RX12 232 yX12_in w_X12_in) := goodIn_app (goodIn_of _ (by decide +kernel)) gg_X12_number_X12_in
theorem g_X12_number_X12_isDigit_149 : GoodIn w_X12_number (va_wsS RX12 149 yX12_isDigit w_X12_isDigit) := goodIn_app (goodIn_of _ (by decide +kernel)) gg_X12_number_X12_isDigit
theorem g_X12_number_X12_look_146 : GoodIn w_X12_number (wsV RX12 146 RX12 yX12_look w_X12_look) := goodIn_app (goodIn_of _ (by decide +kernel)) gg_X12_number_X12_look
set_option maxHeartbeats 4000000 in
set_option maxRecDepth 100000 in
theorem c_X12_number (l : Launch) (E : py_E) (G : wf_G) (L : List Nat) (f : py_F) (sz : Nat) (u : Nat) (a : Int32) (b : Int32) (gb : rs_B) (nb : Int) (pb : Int) (hG : GT G) (hWF : WF E G L f) (Tu : G.1 u = 13) (hp0 : 0 ≤ mi f u 3 ∧ mi f u 3 ≤ mi f u 2) (hp1 : mi f u 3 = pb) (hp2 : mi f u 4 = -1) (hp3 : mi f u 2 = nb ∧ 0 ≤ pb) (hq0 : AG f (G.2 u 1) gb nb) : Met l yX12_number w_X12_number ({ frames := 2, cells := 0, slots := 0, locals := 40 }) (py_Pc E [.ref u, .int a, .int b] L f sz) (py_Qi E L f sz (fun r L1 f1 => (mi f u 3 ≤ mi f1 u 3 ∧ mi f1 u 3 ≤ mi f u 2) ∧ (mi f u 4 ≠ -1 → mi f1 u 4 ≠ -1) ∧ (mi f1 u 4 = -1 → a.toInt ≤ r.toInt ∧ r.toInt ≤ b.toInt ∧ mi f u 3 + 1 ≤ mi f1 u 3) ∧ (mi f1 u 4 = -1 → r.toInt = (rs_nm gb nb 3 (rs_sk gb nb pb) 0).1) ∧ (mi f1 u 4 = -1 → (rv_num gb nb 3 a.toInt b.toInt (rs_sk gb nb pb)).1 ≠ 0 ∧ mi f1 u 3 = (rv_num gb nb 3 a.toInt b.toInt (rs_sk gb nb pb)).2) ∧ (mi f1 u 4 ≠ -1 → (rv_num gb nb 3 a.toInt b.toInt (rs_sk gb nb pb)).1 = 0 ∧ mi f1 u 4 = (rv_num gb nb 3 a.toInt b.toInt (rs_sk gb nb pb)).2) ∧ WF E G L1 f1 ∧ KP G [13] false f f1 ∧ FK [3, 4] f f1 u)) 0 0 (va_A (va_pl L f) sz) := by
  refine Met.ofW (cc := cX12_number) (maxL := 5) (ret := (some .int)) (by decide) rfl ?_
  intro p e s m args below meth c s₁ B hml hv
  obtain ⟨rfl, rfl, hw⟩ := py_start hv
  have G0 : CallFix p m c cX12_number 5 s _ w_X12_number RX12 := ⟨B.exec, B.bytes, hml, findClass_of_methodNamed B.named, atoms_spec (ws := w_X12_number) B.pre⟩
  have hr := B.returns
  have hlk := B.notSynchronized
  have kcm1 : (-1 : Int32).toInt = -1 := rfl
  have kc0 : (0 : Int32).toInt = 0 := rfl
  have kc1 : (1 : Int32).toInt = 1 := rfl
  have kc3 : (3 : Int32).toInt = 3 := rfl
  have kc10 : (10 : Int32).toInt = 10 := rfl
  have kc48 : (48 : Int32).toInt = 48 := rfl
  have hl := lv_entry ([.ref u, .int a, .int b]) (n := 5) (Nat.le_of_ble_eq_true rfl)
  rw [lg_entry_eq]
  generalize (lg_sl ([.ref u, .int a, .int b]) ++ List.replicate (5 - (lg_sl ([.ref u, .int a, .int b])).length) Slot.unset).toArray = ls at hl ⊢
  have hl : lv_has ls 5 [(0, .ref u), (1, .int a), (2, .int b)] := hl
  have hFK : FK [3, 4] f f u := FK.refl
  have hKP : KP G [13] false f f := KP.refl
  have hMB := hq0
  refine lv_aload_n G0.1 G0.2.1 dX12_number_0 rfl (lv_at hl 0 rfl) ?_
  obtain ⟨v_1, v_2, v_3, v_4, v_5, v_6, v_7, v_8, v_9, v_10, v_11, v_12, y_13, v_14, v_15, v_16, v_17, v_18, y_19, v_20, y_21, v_22, hr_35, b_23, b_24, b_25, b_26, b_27, b_28, b_29, b_30, b_31, b_32, b_33, b_34⟩ := wg_12 hWF Tu
  have tq_36 := mi_row hr_35 2 rfl
  have tq_37 := mi_row hr_35 3 rfl
  have bv_3 := wf_free v_3
  have tq_38 := mi_row hr_35 4 rfl
  have bv_4 := wf_free v_4
  refine py_calli hw (va_runV (As := []) (rest := []) G0 (c_X12_look l E G L f s.heap.size u gb nb pb hG hWF Tu (show 0 ≤ mi f u 3 ∧ mi f u 3 ≤ mi f u 2 by omega) (show mi f u 3 = pb by omega) (show mi f u 2 = nb ∧ 0 ≤ pb by omega) hMB) (cwV 0 G0.2.2.2.2 g_X12_number_X12_look_146 rfl rfl rfl (by decide +kernel) ⟨(Nat.le_of_ble_eq_true rfl), (Nat.le_of_ble_eq_true rfl)⟩) (py_preV hw (C := RX12) (T := TX12) (N := 54) rfl hr_35) rfl rfl hl.1 rfl (lv_room (Nat.le_of_ble_eq_true rfl)) dX12_number_1 ⟨(Nat.le_of_ble_eq_true rfl), (Nat.le_of_ble_eq_true rfl)⟩) (fun r_43 L_39 f_40 H_41 locs hp_42 hw => ?_)
  obtain ⟨en_44, en_45, en_46, en_47, hWF, kp_48, fk_49⟩ := hp_42
  have hMB := hMB.kp (kp_f kp_48 (wt12_1 hG Tu) (by decide) (by decide) (fun _ => by decide))
  have hFK := hFK.trans fk_49 (by decide)
  have hKP := hKP.trans kp_48 (by decide) (by decide)
  obtain ⟨v_50, hr_51⟩ := fk_3 hWF Tu fk_49 hr_35
  have tq_52 := mi_row hr_51 2 rfl
  have tq_53 := mi_row hr_51 3 rfl
  have bv_50 := wf_free v_50
  have tq_54 := mi_row hr_51 4 rfl
  have bv_4 := wf_free v_4
  have br_43 := wf_free r_43
  refine py_calli hw (va_runS (As := [.int r_43]) (rest := []) G0 (c_X12_isDigit l E G L_39 f_40 H_41.size r_43 hG hWF) (va_cwS 1 G0.2.2.2.2 g_X12_number_X12_isDigit_149 rfl rfl rfl (by decide +kernel) ⟨(Nat.le_of_ble_eq_true rfl), (Nat.le_of_ble_eq_true rfl)⟩) (py_preS hw) rfl rfl hl.1 rfl (lv_room (Nat.le_of_ble_eq_true rfl)) dX12_number_4 ⟨(Nat.le_of_ble_eq_true rfl), (Nat.le_of_ble_eq_true rfl)⟩) (fun r_59 L_55 f_56 H_57 locs hp_58 hw => ?_)
  obtain ⟨b_62, en_60, en_61, rfl, rfl⟩ := hp_58
  refine lv_if_ne (tgt := 16) G0.1 G0.2.1 dX12_number_7 (by decide) (fun c_63 => ?_) (fun c_63 => ?_)
  · skip
    have tc_63 := ti_ne c_63
    replace en_60 := en_60 (by omega)
    clear en_61
    have hd1 : rs_d (rs_v gb nb (rs_sk gb nb pb)) = 1 := by have hz := rs_d_eq (rs_v gb nb (rs_sk gb nb pb)); omega
    refine lv_iconst (v := 0) G0.1 G0.2.1 dX12_number_16 (by decide) ?_
    refine lv_istore_n (lv' := [(3, .int 0), (0, .ref u), (1, .int a), (2, .int b)]) G0.1 G0.2.1 dX12_number_17 rfl hl (by decide) rfl (fun ls hl => ?_)
    refine lv_iconst (v := 0) G0.1 G0.2.1 dX12_number_18 (by decide) ?_
    refine lv_istore (lv' := [(4, .int 0), (3, .int 0), (0, .ref u), (1, .int a), (2, .int b)]) G0.1 G0.2.1 dX12_number_19 hl (by decide) rfl (fun ls hl => ?_)
    have lo_21 : ∀ n_21 : Nat, ∀ (v_64 : Int32) (v_65 : Int32) (L_j21 : List Nat) (f_j21 : py_F) (H_j21 : Heap) (locs : List Loc) (ls : Array Slot), (2147483647 - v_64.toInt).toNat = n_21 → (0 ≤ v_64.toInt ∧ v_64.toInt ≤ 2147483647) → WF E G L_j21 f_j21 → KP G [13] false f f_j21 → AG f_j21 (G.2 u 1) gb nb → FK [3, 4] f f_j21 u → (mi f u 3 ≤ mi f_j21 u 3 ∧ mi f_j21 u 3 ≤ mi f u 2) → (mi f_j21 u 2 = mi f u 2 ∧ mi f_j21 u 4 = mi f u 4) → (0 ≤ v_64.toInt ∧ v_64.toInt ≤ 3 ∧ mi f_j21 u 3 = rs_sk gb nb pb + v_64.toInt) → (rs_rb v_64.toInt v_65.toInt) → (rs_nm gb nb 3 (rs_sk gb nb pb) 0 = rs_nm gb nb (3 - v_64.toInt).toNat (mi f_j21 u 3) v_65.toInt) → (v_64.toInt = 0 ∧ 48 ≤ hrv f_j21 G u ∧ hrv f_j21 G u ≤ 57 ∨ mi f u 3 + 1 ≤ mi f_j21 u 3) → py_W E (va_A (va_pl L f) s.heap.size) s L_j21 f_j21 H_j21 locs → lv_has ls 5 [(4, .int v_64), (3, .int v_65), (0, .ref u), (1, .int a), (2, .int b)] → W p l e (headSpec w_X12_number ({ frames := 2, cells := 0, slots := 0, locals := 40 })).room s m ([.ref u, .int a, .int b] : List Value).toArray below meth c H_j21 locs 0 0 (MQ below (py_Qi E L f s.heap.size (fun r L1 f1 => (mi f u 3 ≤ mi f1 u 3 ∧ mi f1 u 3 ≤ mi f u 2) ∧ (mi f u 4 ≠ -1 → mi f1 u 4 ≠ -1) ∧ (mi f1 u 4 = -1 → a.toInt ≤ r.toInt ∧ r.toInt ≤ b.toInt ∧ mi f u 3 + 1 ≤ mi f1 u 3) ∧ (mi f1 u 4 = -1 → r.toInt = (rs_nm gb nb 3 (rs_sk gb nb pb) 0).1) ∧ (mi f1 u 4 = -1 → (rv_num gb nb 3 a.toInt b.toInt (rs_sk gb nb pb)).1 ≠ 0 ∧ mi f1 u 3 = (rv_num gb nb 3 a.toInt b.toInt (rs_sk gb nb pb)).2) ∧ (mi f1 u 4 ≠ -1 → (rv_num gb nb 3 a.toInt b.toInt (rs_sk gb nb pb)).1 = 0 ∧ mi f1 u 4 = (rv_num gb nb 3 a.toInt b.toInt (rs_sk gb nb pb)).2) ∧ WF E G L1 f1 ∧ KP G [13] false f f1 ∧ FK [3, 4] f f1 u)) ([.ref u, .int a, .int b] : List Value).toArray s 0 0 (va_A (va_pl L f) s.heap.size)) (F0 m 21 ls []) := by
      intro n_21
      induction n_21 using Nat.strongRecOn with
      | _ n_21 ih_21 =>
        intro v_64 v_65 L_j21 f_j21 H_j21 locs ls hn_21 bv_64 hWF hKP hMB hFK iv0 iv1 iv2 iv3 iv4 iv5 hw hl
        have hrb := rs_rb_le iv3
        refine lv_iload G0.1 G0.2.1 dX12_number_21 (lv_at hl 0 rfl) ?_
        refine lv_iconst (v := 3) G0.1 G0.2.1 dX12_number_23 (by decide) ?_
        refine lv_icmp_ge (tgt := 66) G0.1 G0.2.1 dX12_number_24 (by decide) (fun c_66 => ?_) (fun c_66 => ?_)
        · skip
          have tc_66 := ti_le c_66
          have hnm : rs_nm gb nb 3 (rs_sk gb nb pb) 0 = (v_65.toInt, mi f_j21 u 3) := rs_nm_fin iv4 (by first | exact Or.inl (by omega) | exact Or.inr (by have hz := rs_d_eq (rs_v gb nb (mi f_j21 u 3)); omega))
          have hgt := rs_nm_gt hd1 hnm
          have hdz := rs_d_eq (rs_v gb nb (mi f_j21 u 3))
          refine lv_aload_n G0.1 G0.2.1 dX12_number_66 rfl (lv_at hl 2 rfl) ?_
          obtain ⟨v_67, v_68, v_69, v_70, v_71, v_72, v_73, v_74, v_75, v_76, v_77, v_78, y_79, v_80, v_81, v_82, v_83, v_84, y_85, v_86, y_87, v_88, hr_101, b_89, b_90, b_91, b_92, b_93, b_94, b_95, b_96, b_97, b_98, b_99, b_100⟩ := wg_12 hWF Tu
          have tq_102 := mi_row hr_101 2 rfl
          have tq_103 := mi_row hr_101 3 rfl
          have bv_69 := wf_free v_69
          have tq_104 := mi_row hr_101 4 rfl
          have bv_70 := wf_free v_70
          refine py_calli hw (va_runV (As := []) (rest := []) G0 (c_X12_here l E G L_j21 f_j21 H_j21.size u gb nb (mi f_j21 u 3) hG hWF Tu (show 0 ≤ mi f_j21 u 3 by omega) (show mi f_j21 u 3 = (mi f_j21 u 3) by omega) (show mi f_j21 u 2 = nb ∧ 0 ≤ (mi f_j21 u 3) by omega) hMB) (cwV 0 G0.2.2.2.2 g_X12_number_X12_here_130 rfl rfl rfl (by decide +kernel) ⟨(Nat.le_of_ble_eq_true rfl), (Nat.le_of_ble_eq_true rfl)⟩) (py_preV hw (C := RX12) (T := TX12) (N := 54) rfl hr_101) rfl rfl hl.1 rfl (lv_room (Nat.le_of_ble_eq_true rfl)) dX12_number_67 ⟨(Nat.le_of_ble_eq_true rfl), (Nat.le_of_ble_eq_true rfl)⟩) (fun r_109 L_105 f_106 H_107 locs hp_108 hw => ?_)
          obtain ⟨en_110, en_111, en_112, rfl, rfl⟩ := hp_108
          have br_109 := wf_free r_109
          refine py_calli hw (va_runS (As := [.int r_109]) (rest := []) G0 (c_X12_isDigit l E G L_j21 f_j21 H_107.size r_109 hG hWF) (va_cwS 1 G0.2.2.2.2 g_X12_number_X12_isDigit_149 rfl rfl rfl (by decide +kernel) ⟨(Nat.le_of_ble_eq_true rfl), (Nat.le_of_ble_eq_true rfl)⟩) (py_preS hw) rfl rfl hl.1 rfl (lv_room (Nat.le_of_ble_eq_true rfl)) dX12_number_70 ⟨(Nat.le_of_ble_eq_true rfl), (Nat.le_of_ble_eq_true rfl)⟩) (fun r_117 L_113 f_114 H_115 locs hp_116 hw => ?_)
          obtain ⟨b_120, en_118, en_119, rfl, rfl⟩ := hp_116
          refine lv_if_eq (tgt := 83) G0.1 G0.2.1 dX12_number_73 (by decide) (fun c_121 => ?_) (fun c_121 => ?_)
          · skip
            have tc_121 := ti_eq c_121
            clear en_118
            replace en_119 := en_119 (by omega)
            refine lv_iload_n G0.1 G0.2.1 dX12_number_83 rfl (lv_at hl 1 rfl) ?_
            refine lv_iload_n G0.1 G0.2.1 dX12_number_84 rfl (lv_at hl 3 rfl) ?_
            refine lv_iload_n G0.1 G0.2.1 dX12_number_85 rfl (lv_at hl 4 rfl) ?_
            refine py_calli hw (va_runS (As := [.int v_65, .int a, .int b]) (rest := []) G0 (c_X12_in l E G L_j21 f_j21 H_115.size v_65 a b hG hWF) (va_cwS 3 G0.2.2.2.2 g_X12_number_X12_in_232 rfl rfl rfl (by decide +kernel) ⟨(Nat.le_of_ble_eq_true rfl), (Nat.le_of_ble_eq_true rfl)⟩) (py_preS hw) rfl rfl hl.1 rfl (lv_room (Nat.le_of_ble_eq_true rfl)) dX12_number_86 ⟨(Nat.le_of_ble_eq_true rfl), (Nat.le_of_ble_eq_true rfl)⟩) (fun r_126 L_122 f_123 H_124 locs hp_125 hw => ?_)
            obtain ⟨b_129, en_127, en_128, rfl, rfl⟩ := hp_125
            refine lv_if_ne (tgt := 106) G0.1 G0.2.1 dX12_number_89 (by decide) (fun c_130 => ?_) (fun c_130 => ?_)
            · skip
              have tc_130 := ti_ne c_130
              replace en_127 := en_127 (by omega)
              clear en_128
              refine lv_iload_n G0.1 G0.2.1 dX12_number_106 rfl (lv_at hl 1 rfl) ?_
              exact py_iret G0 hr rfl hlk hw ⟨(by first | omega | (intro q; omega)), (by first | omega | (intro q; omega)), (by first | omega | (intro q; omega)), (fun hw => by first | (exfalso; omega) | rw [hnm]), (by intro hw; first | (exfalso; omega) | (have hE : (rv_num gb nb 3 a.toInt b.toInt (rs_sk gb nb pb)) = (1, mi f_j21 u 3) := rv_num_ib hnm (by omega) (by omega) (by omega); rw [hE]; (try dsimp only); omega) | (have hE : (rv_num gb nb 3 a.toInt b.toInt (rs_sk gb nb pb)) = (0, mi f_j21 u 3) := rv_num_b hnm (by omega); rw [hE]; (try dsimp only); omega) | (have hE : (rv_num gb nb 3 a.toInt b.toInt (rs_sk gb nb pb)) = (0, mi f_j21 u 3 - 1) := rv_num_ob hnm (by omega) (by omega) (by omega); rw [hE]; (try dsimp only); omega)), (by intro hw; first | (exfalso; omega) | (have hE : (rv_num gb nb 3 a.toInt b.toInt (rs_sk gb nb pb)) = (1, mi f_j21 u 3) := rv_num_ib hnm (by omega) (by omega) (by omega); rw [hE]; (try dsimp only); omega) | (have hE : (rv_num gb nb 3 a.toInt b.toInt (rs_sk gb nb pb)) = (0, mi f_j21 u 3) := rv_num_b hnm (by omega); rw [hE]; (try dsimp only); omega) | (have hE : (rv_num gb nb 3 a.toInt b.toInt (rs_sk gb nb pb)) = (0, mi f_j21 u 3 - 1) := rv_num_ob hnm (by omega) (by omega) (by omega); rw [hE]; (try dsimp only); omega)), hWF, hKP, hFK⟩ dX12_number_107
            · skip
              have tc_130 := ti_eq c_130
              clear en_127
              replace en_128 := en_128 (by omega)
              refine lv_aload_n G0.1 G0.2.1 dX12_number_92 rfl (lv_at hl 2 rfl) ?_
              refine lv_dup G0.1 G0.2.1 dX12_number_93 rfl ?_
              refine py_get (C := RX12) (T := TX12) (N := 54) (k := 3) (v := .int v_69) G0 hw in_X12_number_X12 rfl hr_101 (by decide) (by decide +kernel) rfl dX12_number_94 ?_
              refine lv_iconst (v := 1) G0.1 G0.2.1 dX12_number_97 (by decide) ?_
              refine lv_isub G0.1 G0.2.1 dX12_number_98 ?_
              refine lv_topi (fun x_131 ex_131 => ?_)
              first | have tx_131 := ti_sub ex_131 (by omega) (by omega) | skip
              refine py_put (C := RX12) (T := TX12) (N := 54) (k := 3) (v := .int x_131) (fs' := [.int v_67, .ref (G.2 u 1), .int v_68, .int x_131, .int v_70, .int v_71, .ref (G.2 u 6), .ref (G.2 u 7), .ref (G.2 u 8), .ref (G.2 u 9), .ref (G.2 u 10), .ref (G.2 u 11), .ref (G.2 u 12), .int v_72, .int v_73, .ref (G.2 u 15), .ref (G.2 u 16), .ref (G.2 u 17), .ref (G.2 u 18), .int v_74, .int v_75, .ref (G.2 u 21), .ref (G.2 u 22), .ref (G.2 u 23), .int v_76, .int v_77, .ref (G.2 u 26), .ref (G.2 u 27), .ref (G.2 u 28), .int v_78, .long y_79, .int v_80, .int v_81, .int v_82, .int v_83, .ref (G.2 u 35), .ref (G.2 u 36), .ref (G.2 u 37), .ref (G.2 u 38), .ref (G.2 u 39), .ref (G.2 u 40), .ref (G.2 u 41), .ref (G.2 u 42), .int v_84, .ref (G.2 u 44), .ref (G.2 u 45), .ref (G.2 u 46), .ref (G.2 u 47), .long y_85, .ref (G.2 u 49), .ref (G.2 u 50), .int v_86, .long y_87, .int v_88]) (ty0 := tyX12) G0 hw tyX12_ok nmX12 in_X12_number_X12 rfl hr_101 (by decide) (by decide +kernel) rfl rfl rfl rfl (Nat.le_of_ble_eq_true rfl) rfl dX12_number_99 (fun f_132 H_133 locs h_134 x_135 hw => ?_)
              have hMB := hMB.kp (kp_f (KP.refl.upd hWF x_135 Tu (Or.inl (by decide)) : KP G [13] false f_j21 f_132) (wt12_1 hG Tu) (by decide) (by decide) (fun _ => by decide))
              have hFK := hFK.put hr_101 h_134 3 (by decide) rfl
              have hKP := hKP.upd hWF x_135 Tu (Or.inl (by decide))
              have hWF := wf_upd hWF h_134 x_135 (by rw [Tu]; exact ⟨v_67, v_68, x_131, v_70, v_71, v_72, v_73, v_74, v_75, v_76, v_77, v_78, y_79, v_80, v_81, v_82, v_83, v_84, y_85, v_86, y_87, v_88, rfl, ⟨by omega, by omega⟩, ⟨by omega, by omega⟩, ⟨by omega, by omega⟩, ⟨by omega, by omega⟩, ⟨by omega, by omega⟩, ⟨by omega, by omega⟩, ⟨by omega, by omega⟩, ⟨by omega, by omega⟩, ⟨by omega, by omega⟩, ⟨by omega, by omega⟩, ⟨by omega, by omega⟩, ⟨by omega, by omega⟩⟩)
              have tq_136 := mi_row h_134 2 rfl
              have tq_137 := mi_row h_134 3 rfl
              have bx_131 := wf_free x_131
              have tq_138 := mi_row h_134 4 rfl
              have bv_70 := wf_free v_70
              refine lv_aload_n G0.1 G0.2.1 dX12_number_102 rfl (lv_at hl 2 rfl) ?_
              refine py_callv hw (va_runV (As := []) (rest := []) G0 (c_X12_bad l E G L_j21 f_132 H_133.size u hG hWF Tu (show 0 ≤ mi f_132 u 3 by omega)) (cwV 0 G0.2.2.2.2 g_X12_number_X12_bad_143 rfl rfl rfl (by decide +kernel) ⟨(Nat.le_of_ble_eq_true rfl), (Nat.le_of_ble_eq_true rfl)⟩) (py_preV hw (C := RX12) (T := TX12) (N := 54) rfl h_134) rfl rfl hl.1 rfl (lv_room (Nat.le_of_ble_eq_true rfl)) dX12_number_103 ⟨(Nat.le_of_ble_eq_true rfl), (Nat.le_of_ble_eq_true rfl)⟩) (fun L_139 f_140 H_141 locs hp_142 hw => ?_)
              obtain ⟨en_144, en_145, en_146, hWF, kp_147, fk_148⟩ := hp_142
              have hMB := hMB.kp (kp_f kp_147 (wt12_1 hG Tu) (by decide) (by decide) (fun _ => by decide))
              have hFK := hFK.trans fk_148 (by decide)
              have hKP := hKP.trans kp_147 (by decide) (by decide)
              obtain ⟨v_149, hr_150⟩ := fk_4 hWF Tu fk_148 h_134
              have tq_151 := mi_row hr_150 2 rfl
              have tq_152 := mi_row hr_150 3 rfl
              have bx_131 := wf_free x_131
              have tq_153 := mi_row hr_150 4 rfl
              have bv_149 := wf_free v_149
              refine lv_iload_n G0.1 G0.2.1 dX12_number_106 rfl (lv_at hl 1 rfl) ?_
              exact py_iret G0 hr rfl hlk hw ⟨(by first | omega | (intro q; omega)), (by first | omega | (intro q; omega)), (by first | omega | (intro q; omega)), (fun hw => by first | (exfalso; omega) | rw [hnm]), (by intro hw; first | (exfalso; omega) | (have hE : (rv_num gb nb 3 a.toInt b.toInt (rs_sk gb nb pb)) = (1, mi f_j21 u 3) := rv_num_ib hnm (by omega) (by omega) (by omega); rw [hE]; (try dsimp only); omega) | (have hE : (rv_num gb nb 3 a.toInt b.toInt (rs_sk gb nb pb)) = (0, mi f_j21 u 3) := rv_num_b hnm (by omega); rw [hE]; (try dsimp only); omega) | (have hE : (rv_num gb nb 3 a.toInt b.toInt (rs_sk gb nb pb)) = (0, mi f_j21 u 3 - 1) := rv_num_ob hnm (by omega) (by omega) (by omega); rw [hE]; (try dsimp only); omega)), (by intro hw; first | (exfalso; omega) | (have hE : (rv_num gb nb 3 a.toInt b.toInt (rs_sk gb nb pb)) = (1, mi f_j21 u 3) := rv_num_ib hnm (by omega) (by omega) (by omega); rw [hE]; (try dsimp only); omega) | (have hE : (rv_num gb nb 3 a.toInt b.toInt (rs_sk gb nb pb)) = (0, mi f_j21 u 3) := rv_num_b hnm (by omega); rw [hE]; (try dsimp only); omega) | (have hE : (rv_num gb nb 3 a.toInt b.toInt (rs_sk gb nb pb)) = (0, mi f_j21 u 3 - 1) := rv_num_ob hnm (by omega) (by omega) (by omega); rw [hE]; (try dsimp only); omega)), hWF, hKP, hFK⟩ dX12_number_107
          · skip
            have tc_121 := ti_ne c_121
            replace en_118 := en_118 (by omega)
            clear en_119
            refine lv_aload_n G0.1 G0.2.1 dX12_number_76 rfl (lv_at hl 2 rfl) ?_
            refine py_callv hw (va_runV (As := []) (rest := []) G0 (c_X12_bad l E G L_j21 f_j21 H_115.size u hG hWF Tu (show 0 ≤ mi f_j21 u 3 by omega)) (cwV 0 G0.2.2.2.2 g_X12_number_X12_bad_143 rfl rfl rfl (by decide +kernel) ⟨(Nat.le_of_ble_eq_true rfl), (Nat.le_of_ble_eq_true rfl)⟩) (py_preV hw (C := RX12) (T := TX12) (N := 54) rfl hr_101) rfl rfl hl.1 rfl (lv_room (Nat.le_of_ble_eq_true rfl)) dX12_number_77 ⟨(Nat.le_of_ble_eq_true rfl), (Nat.le_of_ble_eq_true rfl)⟩) (fun L_154 f_155 H_156 locs hp_157 hw => ?_)
            obtain ⟨en_159, en_160, en_161, hWF, kp_162, fk_163⟩ := hp_157
            have hMB := hMB.kp (kp_f kp_162 (wt12_1 hG Tu) (by decide) (by decide) (fun _ => by decide))
            have hFK := hFK.trans fk_163 (by decide)
            have hKP := hKP.trans kp_162 (by decide) (by decide)
            obtain ⟨v_164, hr_165⟩ := fk_4 hWF Tu fk_163 hr_101
            have tq_166 := mi_row hr_165 2 rfl
            have tq_167 := mi_row hr_165 3 rfl
            have bv_69 := wf_free v_69
            have tq_168 := mi_row hr_165 4 rfl
            have bv_164 := wf_free v_164
            refine lv_goto (tgt := 106) G0.1 G0.2.1 dX12_number_80 (by decide) ?_
            refine lv_iload_n G0.1 G0.2.1 dX12_number_106 rfl (lv_at hl 1 rfl) ?_
            exact py_iret G0 hr rfl hlk hw ⟨(by first | omega | (intro q; omega)), (by first | omega | (intro q; omega)), (by first | omega | (intro q; omega)), (fun hw => by first | (exfalso; omega) | rw [hnm]), (by intro hw; first | (exfalso; omega) | (have hE : (rv_num gb nb 3 a.toInt b.toInt (rs_sk gb nb pb)) = (1, mi f_j21 u 3) := rv_num_ib hnm (by omega) (by omega) (by omega); rw [hE]; (try dsimp only); omega) | (have hE : (rv_num gb nb 3 a.toInt b.toInt (rs_sk gb nb pb)) = (0, mi f_j21 u 3) := rv_num_b hnm (by omega); rw [hE]; (try dsimp only); omega) | (have hE : (rv_num gb nb 3 a.toInt b.toInt (rs_sk gb nb pb)) = (0, mi f_j21 u 3 - 1) := rv_num_ob hnm (by omega) (by omega) (by omega); rw [hE]; (try dsimp only); omega)), (by intro hw; first | (exfalso; omega) | (have hE : (rv_num gb nb 3 a.toInt b.toInt (rs_sk gb nb pb)) = (1, mi f_j21 u 3) := rv_num_ib hnm (by omega) (by omega) (by omega); rw [hE]; (try dsimp only); omega) | (have hE : (rv_num gb nb 3 a.toInt b.toInt (rs_sk gb nb pb)) = (0, mi f_j21 u 3) := rv_num_b hnm (by omega); rw [hE]; (try dsimp only); omega) | (have hE : (rv_num gb nb 3 a.toInt b.toInt (rs_sk gb nb pb)) = (0, mi f_j21 u 3 - 1) := rv_num_ob hnm (by omega) (by omega) (by omega); rw [hE]; (try dsimp only); omega)), hWF, hKP, hFK⟩ dX12_number_107
        · skip
          have tc_66 := ti_nle c_66
          refine lv_aload_n G0.1 G0.2.1 dX12_number_27 rfl (lv_at hl 2 rfl) ?_
          obtain ⟨v_169, v_170, v_171, v_172, v_173, v_174, v_175, v_176, v_177, v_178, v_179, v_180, y_181, v_182, v_183, v_184, v_185, v_186, y_187, v_188, y_189, v_190, hr_203, b_191, b_192, b_193, b_194, b_195, b_196, b_197, b_198, b_199, b_200, b_201, b_202⟩ := wg_12 hWF Tu
          have tq_204 := mi_row hr_203 2 rfl
          have tq_205 := mi_row hr_203 3 rfl
          have bv_171 := wf_free v_171
          have tq_206 := mi_row hr_203 4 rfl
          have bv_172 := wf_free v_172
          refine py_calli hw (va_runV (As := []) (rest := []) G0 (c_X12_here l E G L_j21 f_j21 H_j21.size u gb nb (mi f_j21 u 3) hG hWF Tu (show 0 ≤ mi f_j21 u 3 by omega) (show mi f_j21 u 3 = (mi f_j21 u 3) by omega) (show mi f_j21 u 2 = nb ∧ 0 ≤ (mi f_j21 u 3) by omega) hMB) (cwV 0 G0.2.2.2.2 g_X12_number_X12_here_130 rfl rfl rfl (by decide +kernel) ⟨(Nat.le_of_ble_eq_true rfl), (Nat.le_of_ble_eq_true rfl)⟩) (py_preV hw (C := RX12) (T := TX12) (N := 54) rfl hr_203) rfl rfl hl.1 rfl (lv_room (Nat.le_of_ble_eq_true rfl)) dX12_number_28 ⟨(Nat.le_of_ble_eq_true rfl), (Nat.le_of_ble_eq_true rfl)⟩) (fun r_211 L_207 f_208 H_209 locs hp_210 hw => ?_)
          obtain ⟨en_212, en_213, en_214, rfl, rfl⟩ := hp_210
          have br_211 := wf_free r_211
          refine py_calli hw (va_runS (As := [.int r_211]) (rest := []) G0 (c_X12_isDigit l E G L_j21 f_j21 H_209.size r_211 hG hWF) (va_cwS 1 G0.2.2.2.2 g_X12_number_X12_isDigit_149 rfl rfl rfl (by decide +kernel) ⟨(Nat.le_of_ble_eq_true rfl), (Nat.le_of_ble_eq_true rfl)⟩) (py_preS hw) rfl rfl hl.1 rfl (lv_room (Nat.le_of_ble_eq_true rfl)) dX12_number_31 ⟨(Nat.le_of_ble_eq_true rfl), (Nat.le_of_ble_eq_true rfl)⟩) (fun r_219 L_215 f_216 H_217 locs hp_218 hw => ?_)
          obtain ⟨b_222, en_220, en_221, rfl, rfl⟩ := hp_218
          refine lv_if_eq (tgt := 66) G0.1 G0.2.1 dX12_number_34 (by decide) (fun c_223 => ?_) (fun c_223 => ?_)
          · skip
            have tc_223 := ti_eq c_223
            clear en_220
            replace en_221 := en_221 (by omega)
            have hnm : rs_nm gb nb 3 (rs_sk gb nb pb) 0 = (v_65.toInt, mi f_j21 u 3) := rs_nm_fin iv4 (by first | exact Or.inl (by omega) | exact Or.inr (by have hz := rs_d_eq (rs_v gb nb (mi f_j21 u 3)); omega))
            have hgt := rs_nm_gt hd1 hnm
            have hdz := rs_d_eq (rs_v gb nb (mi f_j21 u 3))
            refine lv_aload_n G0.1 G0.2.1 dX12_number_66 rfl (lv_at hl 2 rfl) ?_
            refine py_calli hw (va_runV (As := []) (rest := []) G0 (c_X12_here l E G L_j21 f_j21 H_217.size u gb nb (mi f_j21 u 3) hG hWF Tu (show 0 ≤ mi f_j21 u 3 by omega) (show mi f_j21 u 3 = (mi f_j21 u 3) by omega) (show mi f_j21 u 2 = nb ∧ 0 ≤ (mi f_j21 u 3) by omega) hMB) (cwV 0 G0.2.2.2.2 g_X12_number_X12_here_130 rfl rfl rfl (by decide +kernel) ⟨(Nat.le_of_ble_eq_true rfl), (Nat.le_of_ble_eq_true rfl)⟩) (py_preV hw (C := RX12) (T := TX12) (N := 54) rfl hr_203) rfl rfl hl.1 rfl (lv_room (Nat.le_of_ble_eq_true rfl)) dX12_number_67 ⟨(Nat.le_of_ble_eq_true rfl), (Nat.le_of_ble_eq_true rfl)⟩) (fun r_228 L_224 f_225 H_226 locs hp_227 hw => ?_)
            obtain ⟨en_229, en_230, en_231, rfl, rfl⟩ := hp_227
            have br_228 := wf_free r_228
            refine py_calli hw (va_runS (As := [.int r_228]) (rest := []) G0 (c_X12_isDigit l E G L_j21 f_j21 H_226.size r_228 hG hWF) (va_cwS 1 G0.2.2.2.2 g_X12_number_X12_isDigit_149 rfl rfl rfl (by decide +kernel) ⟨(Nat.le_of_ble_eq_true rfl), (Nat.le_of_ble_eq_true rfl)⟩) (py_preS hw) rfl rfl hl.1 rfl (lv_room (Nat.le_of_ble_eq_true rfl)) dX12_number_70 ⟨(Nat.le_of_ble_eq_true rfl), (Nat.le_of_ble_eq_true rfl)⟩) (fun r_236 L_232 f_233 H_234 locs hp_235 hw => ?_)
            obtain ⟨b_239, en_237, en_238, rfl, rfl⟩ := hp_235
            refine lv_if_eq (tgt := 83) G0.1 G0.2.1 dX12_number_73 (by decide) (fun c_240 => ?_) (fun c_240 => ?_)
            · skip
              have tc_240 := ti_eq c_240
              clear en_237
              replace en_238 := en_238 (by omega)
              refine lv_iload_n G0.1 G0.2.1 dX12_number_83 rfl (lv_at hl 1 rfl) ?_
              refine lv_iload_n G0.1 G0.2.1 dX12_number_84 rfl (lv_at hl 3 rfl) ?_
              refine lv_iload_n G0.1 G0.2.1 dX12_number_85 rfl (lv_at hl 4 rfl) ?_
              refine py_calli hw (va_runS (As := [.int v_65, .int a, .int b]) (rest := []) G0 (c_X12_in l E G L_j21 f_j21 H_234.size v_65 a b hG hWF) (va_cwS 3 G0.2.2.2.2 g_X12_number_X12_in_232 rfl rfl rfl (by decide +kernel) ⟨(Nat.le_of_ble_eq_true rfl), (Nat.le_of_ble_eq_true rfl)⟩) (py_preS hw) rfl rfl hl.1 rfl (lv_room (Nat.le_of_ble_eq_true rfl)) dX12_number_86 ⟨(Nat.le_of_ble_eq_true rfl), (Nat.le_of_ble_eq_true rfl)⟩) (fun r_245 L_241 f_242 H_243 locs hp_244 hw => ?_)
              obtain ⟨b_248, en_246, en_247, rfl, rfl⟩ := hp_244
              refine lv_if_ne (tgt := 106) G0.1 G0.2.1 dX12_number_89 (by decide) (fun c_249 => ?_) (fun c_249 => ?_)
              · skip
                have tc_249 := ti_ne c_249
                replace en_246 := en_246 (by omega)
                clear en_247
                refine lv_iload_n G0.1 G0.2.1 dX12_number_106 rfl (lv_at hl 1 rfl) ?_
                exact py_iret G0 hr rfl hlk hw ⟨(by first | omega | (intro q; omega)), (by first | omega | (intro q; omega)), (by first | omega | (intro q; omega)), (fun hw => by first | (exfalso; omega) | rw [hnm]), (by intro hw; first | (exfalso; omega) | (have hE : (rv_num gb nb 3 a.toInt b.toInt (rs_sk gb nb pb)) = (1, mi f_j21 u 3) := rv_num_ib hnm (by omega) (by omega) (by omega); rw [hE]; (try dsimp only); omega) | (have hE : (rv_num gb nb 3 a.toInt b.toInt (rs_sk gb nb pb)) = (0, mi f_j21 u 3) := rv_num_b hnm (by omega); rw [hE]; (try dsimp only); omega) | (have hE : (rv_num gb nb 3 a.toInt b.toInt (rs_sk gb nb pb)) = (0, mi f_j21 u 3 - 1) := rv_num_ob hnm (by omega) (by omega) (by omega); rw [hE]; (try dsimp only); omega)), (by intro hw; first | (exfalso; omega) | (have hE : (rv_num gb nb 3 a.toInt b.toInt (rs_sk gb nb pb)) = (1, mi f_j21 u 3) := rv_num_ib hnm (by omega) (by omega) (by omega); rw [hE]; (try dsimp only); omega) | (have hE : (rv_num gb nb 3 a.toInt b.toInt (rs_sk gb nb pb)) = (0, mi f_j21 u 3) := rv_num_b hnm (by omega); rw [hE]; (try dsimp only); omega) | (have hE : (rv_num gb nb 3 a.toInt b.toInt (rs_sk gb nb pb)) = (0, mi f_j21 u 3 - 1) := rv_num_ob hnm (by omega) (by omega) (by omega); rw [hE]; (try dsimp only); omega)), hWF, hKP, hFK⟩ dX12_number_107
              · skip
                have tc_249 := ti_eq c_249
                clear en_246
                replace en_247 := en_247 (by omega)
                refine lv_aload_n G0.1 G0.2.1 dX12_number_92 rfl (lv_at hl 2 rfl) ?_
                refine lv_dup G0.1 G0.2.1 dX12_number_93 rfl ?_
                refine py_get (C := RX12) (T := TX12) (N := 54) (k := 3) (v := .int v_171) G0 hw in_X12_number_X12 rfl hr_203 (by decide) (by decide +kernel) rfl dX12_number_94 ?_
                refine lv_iconst (v := 1) G0.1 G0.2.1 dX12_number_97 (by decide) ?_
                refine lv_isub G0.1 G0.2.1 dX12_number_98 ?_
                refine lv_topi (fun x_250 ex_250 => ?_)
                first | have tx_250 := ti_sub ex_250 (by omega) (by omega) | skip
                refine py_put (C := RX12) (T := TX12) (N := 54) (k := 3) (v := .int x_250) (fs' := [.int v_169, .ref (G.2 u 1), .int v_170, .int x_250, .int v_172, .int v_173, .ref (G.2 u 6), .ref (G.2 u 7), .ref (G.2 u 8), .ref (G.2 u 9), .ref (G.2 u 10), .ref (G.2 u 11), .ref (G.2 u 12), .int v_174, .int v_175, .ref (G.2 u 15), .ref (G.2 u 16), .ref (G.2 u 17), .ref (G.2 u 18), .int v_176, .int v_177, .ref (G.2 u 21), .ref (G.2 u 22), .ref (G.2 u 23), .int v_178, .int v_179, .ref (G.2 u 26), .ref (G.2 u 27), .ref (G.2 u 28), .int v_180, .long y_181, .int v_182, .int v_183, .int v_184, .int v_185, .ref (G.2 u 35), .ref (G.2 u 36), .ref (G.2 u 37), .ref (G.2 u 38), .ref (G.2 u 39), .ref (G.2 u 40), .ref (G.2 u 41), .ref (G.2 u 42), .int v_186, .ref (G.2 u 44), .ref (G.2 u 45), .ref (G.2 u 46), .ref (G.2 u 47), .long y_187, .ref (G.2 u 49), .ref (G.2 u 50), .int v_188, .long y_189, .int v_190]) (ty0 := tyX12) G0 hw tyX12_ok nmX12 in_X12_number_X12 rfl hr_203 (by decide) (by decide +kernel) rfl rfl rfl rfl (Nat.le_of_ble_eq_true rfl) rfl dX12_number_99 (fun f_251 H_252 locs h_253 x_254 hw => ?_)
                have hMB := hMB.kp (kp_f (KP.refl.upd hWF x_254 Tu (Or.inl (by decide)) : KP G [13] false f_j21 f_251) (wt12_1 hG Tu) (by decide) (by decide) (fun _ => by decide))
                have hFK := hFK.put hr_203 h_253 3 (by decide) rfl
                have hKP := hKP.upd hWF x_254 Tu (Or.inl (by decide))
                have hWF := wf_upd hWF h_253 x_254 (by rw [Tu]; exact ⟨v_169, v_170, x_250, v_172, v_173, v_174, v_175, v_176, v_177, v_178, v_179, v_180, y_181, v_182, v_183, v_184, v_185, v_186, y_187, v_188, y_189, v_190, rfl, ⟨by omega, by omega⟩, ⟨by omega, by omega⟩, ⟨by omega, by omega⟩, ⟨by omega, by omega⟩, ⟨by omega, by omega⟩, ⟨by omega, by omega⟩, ⟨by omega, by omega⟩, ⟨by omega, by omega⟩, ⟨by omega, by omega⟩, ⟨by omega, by omega⟩, ⟨by omega, by omega⟩, ⟨by omega, by omega⟩⟩)
                have tq_255 := mi_row h_253 2 rfl
                have tq_256 := mi_row h_253 3 rfl
                have bx_250 := wf_free x_250
                have tq_257 := mi_row h_253 4 rfl
                have bv_172 := wf_free v_172
                refine lv_aload_n G0.1 G0.2.1 dX12_number_102 rfl (lv_at hl 2 rfl) ?_
                refine py_callv hw (va_runV (As := []) (rest := []) G0 (c_X12_bad l E G L_j21 f_251 H_252.size u hG hWF Tu (show 0 ≤ mi f_251 u 3 by omega)) (cwV 0 G0.2.2.2.2 g_X12_number_X12_bad_143 rfl rfl rfl (by decide +kernel) ⟨(Nat.le_of_ble_eq_true rfl), (Nat.le_of_ble_eq_true rfl)⟩) (py_preV hw (C := RX12) (T := TX12) (N := 54) rfl h_253) rfl rfl hl.1 rfl (lv_room (Nat.le_of_ble_eq_true rfl)) dX12_number_103 ⟨(Nat.le_of_ble_eq_true rfl), (Nat.le_of_ble_eq_true rfl)⟩) (fun L_258 f_259 H_260 locs hp_261 hw => ?_)
                obtain ⟨en_263, en_264, en_265, hWF, kp_266, fk_267⟩ := hp_261
                have hMB := hMB.kp (kp_f kp_266 (wt12_1 hG Tu) (by decide) (by decide) (fun _ => by decide))
                have hFK := hFK.trans fk_267 (by decide)
                have hKP := hKP.trans kp_266 (by decide) (by decide)
                obtain ⟨v_268, hr_269⟩ := fk_4 hWF Tu fk_267 h_253
                have tq_270 := mi_row hr_269 2 rfl
                have tq_271 := mi_row hr_269 3 rfl
                have bx_250 := wf_free x_250
                have tq_272 := mi_row hr_269 4 rfl
                have bv_268 := wf_free v_268
                refine lv_iload_n G0.1 G0.2.1 dX12_number_106 rfl (lv_at hl 1 rfl) ?_
                exact py_iret G0 hr rfl hlk hw ⟨(by first | omega | (intro q; omega)), (by first | omega | (intro q; omega)), (by first | omega | (intro q; omega)), (fun hw => by first | (exfalso; omega) | rw [hnm]), (by intro hw; first | (exfalso; omega) | (have hE : (rv_num gb nb 3 a.toInt b.toInt (rs_sk gb nb pb)) = (1, mi f_j21 u 3) := rv_num_ib hnm (by omega) (by omega) (by omega); rw [hE]; (try dsimp only); omega) | (have hE : (rv_num gb nb 3 a.toInt b.toInt (rs_sk gb nb pb)) = (0, mi f_j21 u 3) := rv_num_b hnm (by omega); rw [hE]; (try dsimp only); omega) | (have hE : (rv_num gb nb 3 a.toInt b.toInt (rs_sk gb nb pb)) = (0, mi f_j21 u 3 - 1) := rv_num_ob hnm (by omega) (by omega) (by omega); rw [hE]; (try dsimp only); omega)), (by intro hw; first | (exfalso; omega) | (have hE : (rv_num gb nb 3 a.toInt b.toInt (rs_sk gb nb pb)) = (1, mi f_j21 u 3) := rv_num_ib hnm (by omega) (by omega) (by omega); rw [hE]; (try dsimp only); omega) | (have hE : (rv_num gb nb 3 a.toInt b.toInt (rs_sk gb nb pb)) = (0, mi f_j21 u 3) := rv_num_b hnm (by omega); rw [hE]; (try dsimp only); omega) | (have hE : (rv_num gb nb 3 a.toInt b.toInt (rs_sk gb nb pb)) = (0, mi f_j21 u 3 - 1) := rv_num_ob hnm (by omega) (by omega) (by omega); rw [hE]; (try dsimp only); omega)), hWF, hKP, hFK⟩ dX12_number_107
            · skip
              have tc_240 := ti_ne c_240
              replace en_237 := en_237 (by omega)
              clear en_238
              refine lv_aload_n G0.1 G0.2.1 dX12_number_76 rfl (lv_at hl 2 rfl) ?_
              refine py_callv hw (va_runV (As := []) (rest := []) G0 (c_X12_bad l E G L_j21 f_j21 H_234.size u hG hWF Tu (show 0 ≤ mi f_j21 u 3 by omega)) (cwV 0 G0.2.2.2.2 g_X12_number_X12_bad_143 rfl rfl rfl (by decide +kernel) ⟨(Nat.le_of_ble_eq_true rfl), (Nat.le_of_ble_eq_true rfl)⟩) (py_preV hw (C := RX12) (T := TX12) (N := 54) rfl hr_203) rfl rfl hl.1 rfl (lv_room (Nat.le_of_ble_eq_true rfl)) dX12_number_77 ⟨(Nat.le_of_ble_eq_true rfl), (Nat.le_of_ble_eq_true rfl)⟩) (fun L_273 f_274 H_275 locs hp_276 hw => ?_)
              obtain ⟨en_278, en_279, en_280, hWF, kp_281, fk_282⟩ := hp_276
              have hMB := hMB.kp (kp_f kp_281 (wt12_1 hG Tu) (by decide) (by decide) (fun _ => by decide))
              have hFK := hFK.trans fk_282 (by decide)
              have hKP := hKP.trans kp_281 (by decide) (by decide)
              obtain ⟨v_283, hr_284⟩ := fk_4 hWF Tu fk_282 hr_203
              have tq_285 := mi_row hr_284 2 rfl
              have tq_286 := mi_row hr_284 3 rfl
              have bv_171 := wf_free v_171
              have tq_287 := mi_row hr_284 4 rfl
              have bv_283 := wf_free v_283
              refine lv_goto (tgt := 106) G0.1 G0.2.1 dX12_number_80 (by decide) ?_
              refine lv_iload_n G0.1 G0.2.1 dX12_number_106 rfl (lv_at hl 1 rfl) ?_
              exact py_iret G0 hr rfl hlk hw ⟨(by first | omega | (intro q; omega)), (by first | omega | (intro q; omega)), (by first | omega | (intro q; omega)), (fun hw => by first | (exfalso; omega) | rw [hnm]), (by intro hw; first | (exfalso; omega) | (have hE : (rv_num gb nb 3 a.toInt b.toInt (rs_sk gb nb pb)) = (1, mi f_j21 u 3) := rv_num_ib hnm (by omega) (by omega) (by omega); rw [hE]; (try dsimp only); omega) | (have hE : (rv_num gb nb 3 a.toInt b.toInt (rs_sk gb nb pb)) = (0, mi f_j21 u 3) := rv_num_b hnm (by omega); rw [hE]; (try dsimp only); omega) | (have hE : (rv_num gb nb 3 a.toInt b.toInt (rs_sk gb nb pb)) = (0, mi f_j21 u 3 - 1) := rv_num_ob hnm (by omega) (by omega) (by omega); rw [hE]; (try dsimp only); omega)), (by intro hw; first | (exfalso; omega) | (have hE : (rv_num gb nb 3 a.toInt b.toInt (rs_sk gb nb pb)) = (1, mi f_j21 u 3) := rv_num_ib hnm (by omega) (by omega) (by omega); rw [hE]; (try dsimp only); omega) | (have hE : (rv_num gb nb 3 a.toInt b.toInt (rs_sk gb nb pb)) = (0, mi f_j21 u 3) := rv_num_b hnm (by omega); rw [hE]; (try dsimp only); omega) | (have hE : (rv_num gb nb 3 a.toInt b.toInt (rs_sk gb nb pb)) = (0, mi f_j21 u 3 - 1) := rv_num_ob hnm (by omega) (by omega) (by omega); rw [hE]; (try dsimp only); omega)), hWF, hKP, hFK⟩ dX12_number_107
          · skip
            have tc_223 := ti_ne c_223
            replace en_220 := en_220 (by omega)
            clear en_221
            refine lv_bipush (v := 10) G0.1 G0.2.1 dX12_number_37 (by decide) ?_
            refine lv_iload_n G0.1 G0.2.1 dX12_number_39 rfl (lv_at hl 1 rfl) ?_
            refine lv_imul G0.1 G0.2.1 dX12_number_40 ?_
            refine lv_topi (fun x_288 ex_288 => ?_)
            first | have tx_288 := ti_muld ex_288 kc10 (by omega) (by omega) | skip
            refine lv_aload_n G0.1 G0.2.1 dX12_number_41 rfl (lv_at hl 2 rfl) ?_
            refine py_calli hw (va_runV (As := []) (rest := [.int x_288]) G0 (c_X12_here l E G L_j21 f_j21 H_217.size u gb nb (mi f_j21 u 3) hG hWF Tu (show 0 ≤ mi f_j21 u 3 by omega) (show mi f_j21 u 3 = (mi f_j21 u 3) by omega) (show mi f_j21 u 2 = nb ∧ 0 ≤ (mi f_j21 u 3) by omega) hMB) (cwV 0 G0.2.2.2.2 g_X12_number_X12_here_130 rfl rfl rfl (by decide +kernel) ⟨(Nat.le_of_ble_eq_true rfl), (Nat.le_of_ble_eq_true rfl)⟩) (py_preV hw (C := RX12) (T := TX12) (N := 54) rfl hr_203) rfl rfl hl.1 rfl (lv_room (Nat.le_of_ble_eq_true rfl)) dX12_number_42 ⟨(Nat.le_of_ble_eq_true rfl), (Nat.le_of_ble_eq_true rfl)⟩) (fun r_293 L_289 f_290 H_291 locs hp_292 hw => ?_)
            obtain ⟨en_294, en_295, en_296, rfl, rfl⟩ := hp_292
            have br_293 := wf_free r_293
            refine lv_iadd G0.1 G0.2.1 dX12_number_45 ?_
            refine lv_topi (fun x_297 ex_297 => ?_)
            first | have tx_297 := ti_add ex_297 (by omega) (by omega) | skip
            refine lv_bipush (v := 48) G0.1 G0.2.1 dX12_number_46 (by decide) ?_
            refine lv_isub G0.1 G0.2.1 dX12_number_48 ?_
            refine lv_topi (fun x_298 ex_298 => ?_)
            first | have tx_298 := ti_sub ex_298 (by omega) (by omega) | skip
            refine lv_istore_n (lv' := [(3, .int x_298), (4, .int v_64), (0, .ref u), (1, .int a), (2, .int b)]) G0.1 G0.2.1 dX12_number_49 rfl hl (by decide) rfl (fun ls hl => ?_)
            refine lv_aload_n G0.1 G0.2.1 dX12_number_50 rfl (lv_at hl 2 rfl) ?_
            refine lv_dup G0.1 G0.2.1 dX12_number_51 rfl ?_
            refine py_get (C := RX12) (T := TX12) (N := 54) (k := 3) (v := .int v_171) G0 hw in_X12_number_X12 rfl hr_203 (by decide) (by decide +kernel) rfl dX12_number_52 ?_
            refine lv_iconst (v := 1) G0.1 G0.2.1 dX12_number_55 (by decide) ?_
            refine lv_iadd G0.1 G0.2.1 dX12_number_56 ?_
            refine lv_topi (fun x_299 ex_299 => ?_)
            first | have tx_299 := ti_add ex_299 (by omega) (by omega) | skip
            refine py_put (C := RX12) (T := TX12) (N := 54) (k := 3) (v := .int x_299) (fs' := [.int v_169, .ref (G.2 u 1), .int v_170, .int x_299, .int v_172, .int v_173, .ref (G.2 u 6), .ref (G.2 u 7), .ref (G.2 u 8), .ref (G.2 u 9), .ref (G.2 u 10), .ref (G.2 u 11), .ref (G.2 u 12), .int v_174, .int v_175, .ref (G.2 u 15), .ref (G.2 u 16), .ref (G.2 u 17), .ref (G.2 u 18), .int v_176, .int v_177, .ref (G.2 u 21), .ref (G.2 u 22), .ref (G.2 u 23), .int v_178, .int v_179, .ref (G.2 u 26), .ref (G.2 u 27), .ref (G.2 u 28), .int v_180, .long y_181, .int v_182, .int v_183, .int v_184, .int v_185, .ref (G.2 u 35), .ref (G.2 u 36), .ref (G.2 u 37), .ref (G.2 u 38), .ref (G.2 u 39), .ref (G.2 u 40), .ref (G.2 u 41), .ref (G.2 u 42), .int v_186, .ref (G.2 u 44), .ref (G.2 u 45), .ref (G.2 u 46), .ref (G.2 u 47), .long y_187, .ref (G.2 u 49), .ref (G.2 u 50), .int v_188, .long y_189, .int v_190]) (ty0 := tyX12) G0 hw tyX12_ok nmX12 in_X12_number_X12 rfl hr_203 (by decide) (by decide +kernel) rfl rfl rfl rfl (Nat.le_of_ble_eq_true rfl) rfl dX12_number_57 (fun f_300 H_301 locs h_302 x_303 hw => ?_)
            have hMB := hMB.kp (kp_f (KP.refl.upd hWF x_303 Tu (Or.inl (by decide)) : KP G [13] false f_j21 f_300) (wt12_1 hG Tu) (by decide) (by decide) (fun _ => by decide))
            have hFK := hFK.put hr_203 h_302 3 (by decide) rfl
            have hKP := hKP.upd hWF x_303 Tu (Or.inl (by decide))
            have hWF := wf_upd hWF h_302 x_303 (by rw [Tu]; exact ⟨v_169, v_170, x_299, v_172, v_173, v_174, v_175, v_176, v_177, v_178, v_179, v_180, y_181, v_182, v_183, v_184, v_185, v_186, y_187, v_188, y_189, v_190, rfl, ⟨by omega, by omega⟩, ⟨by omega, by omega⟩, ⟨by omega, by omega⟩, ⟨by omega, by omega⟩, ⟨by omega, by omega⟩, ⟨by omega, by omega⟩, ⟨by omega, by omega⟩, ⟨by omega, by omega⟩, ⟨by omega, by omega⟩, ⟨by omega, by omega⟩, ⟨by omega, by omega⟩, ⟨by omega, by omega⟩⟩)
            have tq_304 := mi_row h_302 2 rfl
            have tq_305 := mi_row h_302 3 rfl
            have bx_299 := wf_free x_299
            have tq_306 := mi_row h_302 4 rfl
            have bv_172 := wf_free v_172
            obtain ⟨x_307, ex_307⟩ : ∃ y : Int32, y = v_64 + 1 := ⟨_, rfl⟩
            first | have tx_307 := ti_add ex_307 (by omega) (by omega) | skip
            refine lv_iinc (v := x_307) (lv' := [(4, .int x_307), (3, .int x_298), (0, .ref u), (1, .int a), (2, .int b)]) G0.1 G0.2.1 dX12_number_60 hl (k := 1) rfl (show _ + (1 : Int32) = _ from ex_307.symm) (by decide) rfl (fun ls hl => ?_)
            refine lv_goto (tgt := 21) G0.1 G0.2.1 dX12_number_63 (by decide) ?_
            exact ih_21 ((2147483647 - x_307.toInt).toNat) (by omega) x_307 x_298 L_j21 f_300 _ _ ls rfl ⟨by omega, by omega⟩ hWF hKP hMB hFK (by first | omega | (intros; omega)) (by first | omega | (intros; omega)) (by first | omega | (intros; omega)) (rs_rb_on iv3 (c := rs_v gb nb (mi f_j21 u 3)) (by omega) (by omega) (by omega) (by omega) (by omega)) (rs_nm_st iv4 (by have hz := rs_d_eq (rs_v gb nb (mi f_j21 u 3)); omega) (by omega) (by omega) (by omega)) (by first | omega | (intros; omega)) hw (lv_sub hl [0, 1, 2, 3, 4] rfl)
    exact lo_21 _ 0 0 L_39 f_40 _ _ ls rfl ⟨by omega, by omega⟩ hWF hKP hMB hFK (by first | omega | (intros; omega)) (by first | omega | (intros; omega)) (by first | omega | (intros; omega)) (rs_rb_0 (by omega) (by omega)) (by rw [show ((3 : Int) - (0 : Int32).toInt).toNat = 3 from rfl, show mi f_40 u 3 = rs_sk gb nb pb by omega, show (0 : Int32).toInt = 0 from rfl]) (by first | omega | (intros; omega)) hw (lv_sub hl [0, 1, 2, 3, 4] rfl)
  · skip
    have tc_63 := ti_eq c_63
    clear en_60
    replace en_61 := en_61 (by omega)
    refine lv_aload_n G0.1 G0.2.1 dX12_number_10 rfl (lv_at hl 0 rfl) ?_
    refine py_callv hw (va_runV (As := []) (rest := []) G0 (c_X12_bad l E G L_39 f_40 H_57.size u hG hWF Tu (show 0 ≤ mi f_40 u 3 by omega)) (cwV 0 G0.2.2.2.2 g_X12_number_X12_bad_143 rfl rfl rfl (by decide +kernel) ⟨(Nat.le_of_ble_eq_true rfl), (Nat.le_of_ble_eq_true rfl)⟩) (py_preV hw (C := RX12) (T := TX12) (N := 54) rfl hr_51) rfl rfl hl.1 rfl (lv_room (Nat.le_of_ble_eq_true rfl)) dX12_number_11 ⟨(Nat.le_of_ble_eq_true rfl), (Nat.le_of_ble_eq_true rfl)⟩) (fun L_308 f_309 H_310 locs hp_311 hw => ?_)
    obtain ⟨en_313, en_314, en_315, hWF, kp_316, fk_317⟩ := hp_311
    have hMB := hMB.kp (kp_f kp_316 (wt12_1 hG Tu) (by decide) (by decide) (fun _ => by decide))
    have hFK := hFK.trans fk_317 (by decide)
    have hKP := hKP.trans kp_316 (by decide) (by decide)
    obtain ⟨v_318, hr_319⟩ := fk_4 hWF Tu fk_317 hr_51
    have tq_320 := mi_row hr_319 2 rfl
    have tq_321 := mi_row hr_319 3 rfl
    have bv_50 := wf_free v_50
    have tq_322 := mi_row hr_319 4 rfl
    have bv_318 := wf_free v_318
    refine lv_iload_n G0.1 G0.2.1 dX12_number_14 rfl (lv_at hl 1 rfl) ?_
    exact py_iret G0 hr rfl hlk hw ⟨(by first | omega | (intro q; omega)), (by first | omega | (intro q; omega)), (by first | omega | (intro q; omega)), (fun hw => by first | (exfalso; omega) | rw [hnm]), (by intro hw; first | (exfalso; omega) | (have hE : (rv_num gb nb 3 a.toInt b.toInt (rs_sk gb nb pb)) = (0, rs_sk gb nb pb) := rv_num_d (by have hz := rs_d_eq (rs_v gb nb (rs_sk gb nb pb)); omega); rw [hE]; (try dsimp only); omega)), (by intro hw; first | (exfalso; omega) | (have hE : (rv_num gb nb 3 a.toInt b.toInt (rs_sk gb nb pb)) = (0, rs_sk gb nb pb) := rv_num_d (by have hz := rs_d_eq (rs_v gb nb (rs_sk gb nb pb)); omega); rw [hE]; (try dsimp only); omega)), hWF, hKP, hFK⟩ dX12_number_15

def w_X12_itemNow : List Cond := .code yX12_itemNow cX12_itemNow 2 (some .int) :: ([Cond.methodLink RX12 146 yX12_look, Cond.instanceMethod yX12_look, Cond.selects RX12 yX12_look yX12_look, Cond.initialized RX12, Cond.methodLink RX12 239 yX12_familyItem, Cond.static yX12_familyItem, Cond.methodLink RX12 236 yX12_levelItem, Cond.static yX12_levelItem] ++ (w_X12_look ++ (w_X12_familyItem ++ (w_X12_levelItem ++ ([])))))
theorem gg_X12_itemNow_X12_look : GoodIn w_X12_itemNow w_X12_look := goodIn_sub (fun _ h => List.mem_cons_of_mem _ (List.mem_append_right _ (List.mem_append_left _ h))) (by decide +kernel)
theorem gg_X12_itemNow_X12_familyItem : GoodIn w_X12_itemNow w_X12_familyItem := goodIn_sub (fun _ h => List.mem_cons_of_mem _ (List.mem_append_right _ (List.mem_append_right _ (List.mem_append_left _ h)))) (by decide +kernel)
theorem gg_X12_itemNow_X12_levelItem : GoodIn w_X12_itemNow w_X12_levelItem := goodIn_sub (fun _ h => List.mem_cons_of_mem _ (List.mem_append_right _ (List.mem_append_right _ (List.mem_append_right _ (List.mem_append_left _ h))))) (by decide +kernel)
theorem g_X12_itemNow_X12_familyItem_239 : GoodIn w_X12_itemNow (va_wsS RX12 239 yX12_familyItem w_X12_familyItem) := goodIn_app (goodIn_of _ (by decide +kernel)) gg_X12_itemNow_X12_familyItem
theorem g_X12_itemNow_X12_levelItem_236 : GoodIn w_X12_itemNow (va_wsS RX12 236 yX12_levelItem w_X12_levelItem) := goodIn_app (goodIn_of _ (by decide +kernel)) gg_X12_itemNow_X12_levelItem
theorem g_X12_itemNow_X12_look_146 : GoodIn w_X12_itemNow (wsV RX12 146 RX12 yX12_look w_X12_look) := goodIn_app (goodIn_of _ (by decide +kernel)) gg_X12_itemNow_X12_look
set_option maxHeartbeats 4000000 in
set_option maxRecDepth 100000 in
theorem c_X12_itemNow (l : Launch) (E : py_E) (G : wf_G) (L : List Nat) (f : py_F) (sz : Nat) (u : Nat) (a : Int32) (gb : rs_B) (nb : Int) (pb : Int) (hG : GT G) (hWF : WF E G L f) (Tu : G.1 u = 13) (Ba : (0 ≤ a.toInt ∧ a.toInt ≤ 1)) (hp0 : 0 ≤ mi f u 3 ∧ mi f u 3 ≤ mi f u 2) (hp1 : mi f u 3 = pb) (hp2 : mi f u 2 = nb ∧ 0 ≤ pb) (hq0 : AG f (G.2 u 1) gb nb) : Met l yX12_itemNow w_X12_itemNow ({ frames := 2, cells := 0, slots := 0, locals := 40 }) (py_Pc E [.ref u, .int a] L f sz) (py_Qi E L f sz (fun r L1 f1 => ((-1) ≤ r.toInt ∧ r.toInt ≤ 3) ∧ (mi f u 3 ≤ mi f1 u 3 ∧ mi f1 u 3 ≤ mi f u 2) ∧ (r.toInt ≠ -1 → mi f1 u 3 < mi f u 2) ∧ (mi f1 u 3 = rs_sk gb nb pb) ∧ (r.toInt = rv_ix a.toInt (rs_v gb nb (rs_sk gb nb pb))) ∧ WF E G L1 f1 ∧ KP G [13] false f f1 ∧ FK [3] f f1 u)) 0 0 (va_A (va_pl L f) sz) := by
  refine Met.ofW (cc := cX12_itemNow) (maxL := 2) (ret := (some .int)) (by decide) rfl ?_
  intro p e s m args below meth c s₁ B hml hv
  obtain ⟨rfl, rfl, hw⟩ := py_start hv
  have G0 : CallFix p m c cX12_itemNow 2 s _ w_X12_itemNow RX12 := ⟨B.exec, B.bytes, hml, findClass_of_methodNamed B.named, atoms_spec (ws := w_X12_itemNow) B.pre⟩
  have hr := B.returns
  have hlk := B.notSynchronized
  have kcm1 : (-1 : Int32).toInt = -1 := rfl
  have kc0 : (0 : Int32).toInt = 0 := rfl
  have kc1 : (1 : Int32).toInt = 1 := rfl
  have hl := lv_entry ([.ref u, .int a]) (n := 2) (Nat.le_of_ble_eq_true rfl)
  rw [lg_entry_eq]
  generalize (lg_sl ([.ref u, .int a]) ++ List.replicate (2 - (lg_sl ([.ref u, .int a])).length) Slot.unset).toArray = ls at hl ⊢
  have hl : lv_has ls 2 [(0, .ref u), (1, .int a)] := hl
  have hFK : FK [3] f f u := FK.refl
  have hKP : KP G [13] false f f := KP.refl
  have hMB := hq0
  refine lv_iload_n G0.1 G0.2.1 dX12_itemNow_0 rfl (lv_at hl 1 rfl) ?_
  refine lv_if_eq (tgt := 14) G0.1 G0.2.1 dX12_itemNow_1 (by decide) (fun c_1 => ?_) (fun c_1 => ?_)
  · skip
    have tc_1 := ti_eq c_1
    refine lv_aload_n G0.1 G0.2.1 dX12_itemNow_14 rfl (lv_at hl 0 rfl) ?_
    obtain ⟨v_2, v_3, v_4, v_5, v_6, v_7, v_8, v_9, v_10, v_11, v_12, v_13, y_14, v_15, v_16, v_17, v_18, v_19, y_20, v_21, y_22, v_23, hr_36, b_24, b_25, b_26, b_27, b_28, b_29, b_30, b_31, b_32, b_33, b_34, b_35⟩ := wg_12 hWF Tu
    have tq_37 := mi_row hr_36 2 rfl
    have tq_38 := mi_row hr_36 3 rfl
    have bv_4 := wf_free v_4
    refine py_calli hw (va_runV (As := []) (rest := []) G0 (c_X12_look l E G L f s.heap.size u gb nb pb hG hWF Tu (show 0 ≤ mi f u 3 ∧ mi f u 3 ≤ mi f u 2 by omega) (show mi f u 3 = pb by omega) (show mi f u 2 = nb ∧ 0 ≤ pb by omega) hMB) (cwV 0 G0.2.2.2.2 g_X12_itemNow_X12_look_146 rfl rfl rfl (by decide +kernel) ⟨(Nat.le_of_ble_eq_true rfl), (Nat.le_of_ble_eq_true rfl)⟩) (py_preV hw (C := RX12) (T := TX12) (N := 54) rfl hr_36) rfl rfl hl.1 rfl (lv_room (Nat.le_of_ble_eq_true rfl)) dX12_itemNow_15 ⟨(Nat.le_of_ble_eq_true rfl), (Nat.le_of_ble_eq_true rfl)⟩) (fun r_43 L_39 f_40 H_41 locs hp_42 hw => ?_)
    obtain ⟨en_44, en_45, en_46, en_47, hWF, kp_48, fk_49⟩ := hp_42
    have hMB := hMB.kp (kp_f kp_48 (wt12_1 hG Tu) (by decide) (by decide) (fun _ => by decide))
    have hFK := hFK.trans fk_49 (by decide)
    have hKP := hKP.trans kp_48 (by decide) (by decide)
    obtain ⟨v_50, hr_51⟩ := fk_3 hWF Tu fk_49 hr_36
    have tq_52 := mi_row hr_51 2 rfl
    have tq_53 := mi_row hr_51 3 rfl
    have bv_50 := wf_free v_50
    have br_43 := wf_free r_43
    refine py_calli hw (va_runS (As := [.int r_43]) (rest := []) G0 (c_X12_familyItem l E G L_39 f_40 H_41.size r_43 hG hWF) (va_cwS 1 G0.2.2.2.2 g_X12_itemNow_X12_familyItem_239 rfl rfl rfl (by decide +kernel) ⟨(Nat.le_of_ble_eq_true rfl), (Nat.le_of_ble_eq_true rfl)⟩) (py_preS hw) rfl rfl hl.1 rfl (lv_room (Nat.le_of_ble_eq_true rfl)) dX12_itemNow_18 ⟨(Nat.le_of_ble_eq_true rfl), (Nat.le_of_ble_eq_true rfl)⟩) (fun r_58 L_54 f_55 H_56 locs hp_57 hw => ?_)
    obtain ⟨b_61, en_59, en_60, rfl, rfl⟩ := hp_57
    exact py_iret G0 hr rfl hlk hw ⟨⟨by omega, by omega⟩, (by first | omega | (intro q; omega)), (by first | omega | (intro q; omega)), (by first | omega | (intro q; omega)), (by rw [show a.toInt = 0 by omega]; have hz := rv_ix_eq 0 (rs_v gb nb (rs_sk gb nb pb)) (by omega); omega), hWF, hKP, hFK⟩ dX12_itemNow_21
  · skip
    have tc_1 := ti_ne c_1
    refine lv_aload_n G0.1 G0.2.1 dX12_itemNow_4 rfl (lv_at hl 0 rfl) ?_
    obtain ⟨v_62, v_63, v_64, v_65, v_66, v_67, v_68, v_69, v_70, v_71, v_72, v_73, y_74, v_75, v_76, v_77, v_78, v_79, y_80, v_81, y_82, v_83, hr_96, b_84, b_85, b_86, b_87, b_88, b_89, b_90, b_91, b_92, b_93, b_94, b_95⟩ := wg_12 hWF Tu
    have tq_97 := mi_row hr_96 2 rfl
    have tq_98 := mi_row hr_96 3 rfl
    have bv_64 := wf_free v_64
    refine py_calli hw (va_runV (As := []) (rest := []) G0 (c_X12_look l E G L f s.heap.size u gb nb pb hG hWF Tu (show 0 ≤ mi f u 3 ∧ mi f u 3 ≤ mi f u 2 by omega) (show mi f u 3 = pb by omega) (show mi f u 2 = nb ∧ 0 ≤ pb by omega) hMB) (cwV 0 G0.2.2.2.2 g_X12_itemNow_X12_look_146 rfl rfl rfl (by decide +kernel) ⟨(Nat.le_of_ble_eq_true rfl), (Nat.le_of_ble_eq_true rfl)⟩) (py_preV hw (C := RX12) (T := TX12) (N := 54) rfl hr_96) rfl rfl hl.1 rfl (lv_room (Nat.le_of_ble_eq_true rfl)) dX12_itemNow_5 ⟨(Nat.le_of_ble_eq_true rfl), (Nat.le_of_ble_eq_true rfl)⟩) (fun r_103 L_99 f_100 H_101 locs hp_102 hw => ?_)
    obtain ⟨en_104, en_105, en_106, en_107, hWF, kp_108, fk_109⟩ := hp_102
    have hMB := hMB.kp (kp_f kp_108 (wt12_1 hG Tu) (by decide) (by decide) (fun _ => by decide))
    have hFK := hFK.trans fk_109 (by decide)
    have hKP := hKP.trans kp_108 (by decide) (by decide)
    obtain ⟨v_110, hr_111⟩ := fk_3 hWF Tu fk_109 hr_96
    have tq_112 := mi_row hr_111 2 rfl
    have tq_113 := mi_row hr_111 3 rfl
    have bv_110 := wf_free v_110
    have br_103 := wf_free r_103
    refine py_calli hw (va_runS (As := [.int r_103]) (rest := []) G0 (c_X12_levelItem l E G L_99 f_100 H_101.size r_103 hG hWF) (va_cwS 1 G0.2.2.2.2 g_X12_itemNow_X12_levelItem_236 rfl rfl rfl (by decide +kernel) ⟨(Nat.le_of_ble_eq_true rfl), (Nat.le_of_ble_eq_true rfl)⟩) (py_preS hw) rfl rfl hl.1 rfl (lv_room (Nat.le_of_ble_eq_true rfl)) dX12_itemNow_8 ⟨(Nat.le_of_ble_eq_true rfl), (Nat.le_of_ble_eq_true rfl)⟩) (fun r_118 L_114 f_115 H_116 locs hp_117 hw => ?_)
    obtain ⟨b_121, en_119, en_120, rfl, rfl⟩ := hp_117
    refine lv_goto (tgt := 21) G0.1 G0.2.1 dX12_itemNow_11 (by decide) ?_
    exact py_iret G0 hr rfl hlk hw ⟨⟨by omega, by omega⟩, (by first | omega | (intro q; omega)), (by first | omega | (intro q; omega)), (by first | omega | (intro q; omega)), (by rw [show a.toInt = 1 by omega]; have hz := rv_ix_eq 1 (rs_v gb nb (rs_sk gb nb pb)) (by omega); omega), hWF, hKP, hFK⟩ dX12_itemNow_21

def w_X12_end : List Cond := .code yX12_end cX12_end 2 (some .boolean) :: ([Cond.fieldLink RX12 124 "HeadYearModel" "size" "I"] ++ (u_ws RX12 TX12 54 ++ ([])))
theorem in_X12_end_X12 : ∀ w ∈ u_ws RX12 TX12 54, w ∈ w_X12_end := fun _ h => List.mem_cons_of_mem _ (List.mem_append_right _ (List.mem_append_left _ h))
set_option maxHeartbeats 4000000 in
set_option maxRecDepth 100000 in
theorem c_X12_end (l : Launch) (E : py_E) (G : wf_G) (L : List Nat) (f : py_F) (sz : Nat) (u : Nat) (a : Int32) (hG : GT G) (hWF : WF E G L f) (Tu : G.1 u = 13) : Met l yX12_end w_X12_end ({ frames := 0, cells := 0, slots := 0, locals := 0 }) (py_Pc E [.ref u, .int a] L f sz) (py_Qi E L f sz (fun r L1 f1 => (0 ≤ r.toInt ∧ r.toInt ≤ 1) ∧ WF E G L1 f1 ∧ KP G [13] false f f1 ∧ FK [2] f f1 u)) 0 0 (va_A (va_pl L f) sz) := by
  refine Met.ofW (cc := cX12_end) (maxL := 2) (ret := (some .boolean)) (by decide) rfl ?_
  intro p e s m args below meth c s₁ B hml hv
  obtain ⟨rfl, rfl, hw⟩ := py_start hv
  have G0 : CallFix p m c cX12_end 2 s _ w_X12_end RX12 := ⟨B.exec, B.bytes, hml, findClass_of_methodNamed B.named, atoms_spec (ws := w_X12_end) B.pre⟩
  have hr := B.returns
  have hlk := B.notSynchronized
  have kcm1 : (-1 : Int32).toInt = -1 := rfl
  have kc0 : (0 : Int32).toInt = 0 := rfl
  have kc1 : (1 : Int32).toInt = 1 := rfl
  have hl := lv_entry ([.ref u, .int a]) (n := 2) (Nat.le_of_ble_eq_true rfl)
  rw [lg_entry_eq]
  generalize (lg_sl ([.ref u, .int a]) ++ List.replicate (2 - (lg_sl ([.ref u, .int a])).length) Slot.unset).toArray = ls at hl ⊢
  have hl : lv_has ls 2 [(0, .ref u), (1, .int a)] := hl
  have hFK : FK [2] f f u := FK.refl
  have hKP : KP G [13] false f f := KP.refl
  refine lv_iload_n G0.1 G0.2.1 dX12_end_0 rfl (lv_at hl 1 rfl) ?_
  refine lv_if_lt (tgt := 12) G0.1 G0.2.1 dX12_end_1 (by decide) (fun c_1 => ?_) (fun c_1 => ?_)
  · skip
    have tc_1 := ti_lt c_1
    refine lv_iconst (v := 0) G0.1 G0.2.1 dX12_end_12 (by decide) ?_
    exact py_iret G0 hr rfl hlk hw ⟨⟨by omega, by omega⟩, hWF, hKP, hFK⟩ dX12_end_13
  · skip
    have tc_1 := ti_nlt c_1
    refine lv_iload_n G0.1 G0.2.1 dX12_end_4 rfl (lv_at hl 1 rfl) ?_
    refine lv_aload_n G0.1 G0.2.1 dX12_end_5 rfl (lv_at hl 0 rfl) ?_
    obtain ⟨v_2, v_3, v_4, v_5, v_6, v_7, v_8, v_9, v_10, v_11, v_12, v_13, y_14, v_15, v_16, v_17, v_18, v_19, y_20, v_21, y_22, v_23, hr_36, b_24, b_25, b_26, b_27, b_28, b_29, b_30, b_31, b_32, b_33, b_34, b_35⟩ := wg_12 hWF Tu
    refine py_get (C := RX12) (T := TX12) (N := 54) (k := 2) (v := .int v_3) G0 hw in_X12_end_X12 rfl hr_36 (by decide) (by decide +kernel) rfl dX12_end_6 ?_
    refine lv_icmp_le (tgt := 14) G0.1 G0.2.1 dX12_end_9 (by decide) (fun c_37 => ?_) (fun c_37 => ?_)
    · skip
      have tc_37 := ti_le c_37
      refine lv_aload_n G0.1 G0.2.1 dX12_end_14 rfl (lv_at hl 0 rfl) ?_
      refine lv_iload_n G0.1 G0.2.1 dX12_end_15 rfl (lv_at hl 1 rfl) ?_
      refine py_put (C := RX12) (T := TX12) (N := 54) (k := 2) (v := .int a) (fs' := [.int v_2, .ref (G.2 u 1), .int a, .int v_4, .int v_5, .int v_6, .ref (G.2 u 6), .ref (G.2 u 7), .ref (G.2 u 8), .ref (G.2 u 9), .ref (G.2 u 10), .ref (G.2 u 11), .ref (G.2 u 12), .int v_7, .int v_8, .ref (G.2 u 15), .ref (G.2 u 16), .ref (G.2 u 17), .ref (G.2 u 18), .int v_9, .int v_10, .ref (G.2 u 21), .ref (G.2 u 22), .ref (G.2 u 23), .int v_11, .int v_12, .ref (G.2 u 26), .ref (G.2 u 27), .ref (G.2 u 28), .int v_13, .long y_14, .int v_15, .int v_16, .int v_17, .int v_18, .ref (G.2 u 35), .ref (G.2 u 36), .ref (G.2 u 37), .ref (G.2 u 38), .ref (G.2 u 39), .ref (G.2 u 40), .ref (G.2 u 41), .ref (G.2 u 42), .int v_19, .ref (G.2 u 44), .ref (G.2 u 45), .ref (G.2 u 46), .ref (G.2 u 47), .long y_20, .ref (G.2 u 49), .ref (G.2 u 50), .int v_21, .long y_22, .int v_23]) (ty0 := tyX12) G0 hw tyX12_ok nmX12 in_X12_end_X12 rfl hr_36 (by decide) (by decide +kernel) rfl rfl rfl rfl (Nat.le_of_ble_eq_true rfl) rfl dX12_end_16 (fun f_38 H_39 locs h_40 x_41 hw => ?_)
      have hFK := hFK.put hr_36 h_40 2 (by decide) rfl
      have hKP := hKP.upd hWF x_41 Tu (Or.inl (by decide))
      have hWF := wf_upd hWF h_40 x_41 (by rw [Tu]; exact ⟨v_2, a, v_4, v_5, v_6, v_7, v_8, v_9, v_10, v_11, v_12, v_13, y_14, v_15, v_16, v_17, v_18, v_19, y_20, v_21, y_22, v_23, rfl, ⟨by omega, by omega⟩, ⟨by omega, by omega⟩, ⟨by omega, by omega⟩, ⟨by omega, by omega⟩, ⟨by omega, by omega⟩, ⟨by omega, by omega⟩, ⟨by omega, by omega⟩, ⟨by omega, by omega⟩, ⟨by omega, by omega⟩, ⟨by omega, by omega⟩, ⟨by omega, by omega⟩, ⟨by omega, by omega⟩⟩)
      refine lv_iconst (v := 1) G0.1 G0.2.1 dX12_end_19 (by decide) ?_
      exact py_iret G0 hr rfl hlk hw ⟨⟨by omega, by omega⟩, hWF, hKP, hFK⟩ dX12_end_20
    · skip
      have tc_37 := ti_nle c_37
      refine lv_iconst (v := 0) G0.1 G0.2.1 dX12_end_12 (by decide) ?_
      exact py_iret G0 hr rfl hlk hw ⟨⟨by omega, by omega⟩, hWF, hKP, hFK⟩ dX12_end_13
