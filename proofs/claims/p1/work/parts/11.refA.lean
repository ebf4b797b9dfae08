abbrev cX12_gones : ByteArray := prog_14_method_112_code
def yX12_gones : MethodName := ⟨RX12, "gones", "()I"⟩
theorem dX12_advice_0 : decode cX12_advice 0 = .ok (.aload_n 0, 1) := by decide +kernel
theorem dX12_advice_1 : decode cX12_advice 1 = .ok (.iload_n 2, 1) := by decide +kernel
theorem dX12_advice_2 : decode cX12_advice 2 = .ok (.iload_n 3, 1) := by decide +kernel
theorem dX12_advice_3 : decode cX12_advice 3 = .ok (.invokevirtual 441, 3) := by decide +kernel
theorem dX12_advice_6 : decode cX12_advice 6 = .ok (.ifCond .eq 29, 3) := by decide +kernel
theorem dX12_advice_35 : decode cX12_advice 35 = .ok (.ldc_w 350, 3) := by decide +kernel
theorem dX12_advice_38 : decode cX12_advice 38 = .ok (.ireturn, 1) := by decide +kernel
theorem dX12_back_0 : decode cX12_back 0 = .ok (.aload_n 0, 1) := by decide +kernel
theorem dX12_back_1 : decode cX12_back 1 = .ok (.getfield 315, 3) := by decide +kernel
theorem dX12_back_4 : decode cX12_back 4 = .ok (.ifCond .ne 5, 3) := by decide +kernel
theorem dX12_back_7 : decode cX12_back 7 = .ok (.iconst (-1), 1) := by decide +kernel
theorem dX12_back_8 : decode cX12_back 8 = .ok (.ireturn, 1) := by decide +kernel
theorem dX12_buy_0 : decode cX12_buy 0 = .ok (.aload_n 0, 1) := by decide +kernel
theorem dX12_buy_1 : decode cX12_buy 1 = .ok (.iload_n 1, 1) := by decide +kernel
theorem dX12_buy_2 : decode cX12_buy 2 = .ok (.invokevirtual 347, 3) := by decide +kernel
theorem dX12_buy_5 : decode cX12_buy 5 = .ok (.ifCond .eq 52, 3) := by decide +kernel
theorem dX12_buy_57 : decode cX12_buy 57 = .ok (.iconst (-1), 1) := by decide +kernel
theorem dX12_buy_58 : decode cX12_buy 58 = .ok (.ireturn, 1) := by decide +kernel
theorem dX12_climb_0 : decode cX12_climb 0 = .ok (.aload_n 0, 1) := by decide +kernel
theorem dX12_climb_1 : decode cX12_climb 1 = .ok (.iload_n 1, 1) := by decide +kernel
theorem dX12_climb_2 : decode cX12_climb 2 = .ok (.invokevirtual 347, 3) := by decide +kernel
theorem dX12_climb_5 : decode cX12_climb 5 = .ok (.ifCond .eq 12, 3) := by decide +kernel
theorem dX12_climb_17 : decode cX12_climb 17 = .ok (.ldc_w 350, 3) := by decide +kernel
theorem dX12_climb_20 : decode cX12_climb 20 = .ok (.ireturn, 1) := by decide +kernel
theorem dX12_count_0 : decode cX12_count 0 = .ok (.iload_n 1, 1) := by decide +kernel
theorem dX12_count_1 : decode cX12_count 1 = .ok (.tableswitch 87 0 7 #[47, 52, 57, 62, 67, 72, 77, 82], 47) := by decide +kernel
theorem dX12_count_48 : decode cX12_count 48 = .ok (.aload_n 0, 1) := by decide +kernel
theorem dX12_count_49 : decode cX12_count 49 = .ok (.getfield 302, 3) := by decide +kernel
theorem dX12_count_52 : decode cX12_count 52 = .ok (.ireturn, 1) := by decide +kernel
theorem dX12_count_53 : decode cX12_count 53 = .ok (.aload_n 0, 1) := by decide +kernel
theorem dX12_count_54 : decode cX12_count 54 = .ok (.getfield 290, 3) := by decide +kernel
theorem dX12_count_57 : decode cX12_count 57 = .ok (.ireturn, 1) := by decide +kernel
theorem dX12_count_58 : decode cX12_count 58 = .ok (.aload_n 0, 1) := by decide +kernel
theorem dX12_count_59 : decode cX12_count 59 = .ok (.getfield 322, 3) := by decide +kernel
theorem dX12_count_62 : decode cX12_count 62 = .ok (.ireturn, 1) := by decide +kernel
theorem dX12_count_63 : decode cX12_count 63 = .ok (.aload_n 0, 1) := by decide +kernel
theorem dX12_count_64 : decode cX12_count 64 = .ok (.getfield 124, 3) := by decide +kernel
theorem dX12_count_67 : decode cX12_count 67 = .ok (.ireturn, 1) := by decide +kernel
theorem dX12_count_68 : decode cX12_count 68 = .ok (.aload_n 0, 1) := by decide +kernel
theorem dX12_count_69 : decode cX12_count 69 = .ok (.getfield 309, 3) := by decide +kernel
theorem dX12_count_72 : decode cX12_count 72 = .ok (.ireturn, 1) := by decide +kernel
theorem dX12_count_73 : decode cX12_count 73 = .ok (.aload_n 0, 1) := by decide +kernel
theorem dX12_count_74 : decode cX12_count 74 = .ok (.getfield 64, 3) := by decide +kernel
theorem dX12_count_77 : decode cX12_count 77 = .ok (.ireturn, 1) := by decide +kernel
theorem dX12_count_78 : decode cX12_count 78 = .ok (.aload_n 0, 1) := by decide +kernel
theorem dX12_count_79 : decode cX12_count 79 = .ok (.getfield 312, 3) := by decide +kernel
theorem dX12_count_82 : decode cX12_count 82 = .ok (.ireturn, 1) := by decide +kernel
theorem dX12_count_83 : decode cX12_count 83 = .ok (.aload_n 0, 1) := by decide +kernel
theorem dX12_count_84 : decode cX12_count 84 = .ok (.invokevirtual 463, 3) := by decide +kernel
theorem dX12_count_87 : decode cX12_count 87 = .ok (.ireturn, 1) := by decide +kernel
theorem dX12_count_88 : decode cX12_count 88 = .ok (.ldc_w 350, 3) := by decide +kernel
theorem dX12_count_91 : decode cX12_count 91 = .ok (.ireturn, 1) := by decide +kernel
theorem dX12_diary_0 : decode cX12_diary 0 = .ok (.aload_n 0, 1) := by decide +kernel
theorem dX12_diary_1 : decode cX12_diary 1 = .ok (.iload_n 1, 1) := by decide +kernel
theorem dX12_diary_2 : decode cX12_diary 2 = .ok (.invokevirtual 347, 3) := by decide +kernel
theorem dX12_diary_5 : decode cX12_diary 5 = .ok (.ifCond .eq 26, 3) := by decide +kernel
theorem dX12_diary_31 : decode cX12_diary 31 = .ok (.ldc_w 350, 3) := by decide +kernel
theorem dX12_diary_34 : decode cX12_diary 34 = .ok (.ireturn, 1) := by decide +kernel
theorem dX12_end_0 : decode cX12_end 0 = .ok (.iload_n 1, 1) := by decide +kernel
theorem dX12_end_1 : decode cX12_end 1 = .ok (.ifCond .lt 11, 3) := by decide +kernel
theorem dX12_end_4 : decode cX12_end 4 = .ok (.iload_n 1, 1) := by decide +kernel
theorem dX12_end_5 : decode cX12_end 5 = .ok (.aload_n 0, 1) := by decide +kernel
theorem dX12_end_6 : decode cX12_end 6 = .ok (.getfield 124, 3) := by decide +kernel
theorem dX12_end_9 : decode cX12_end 9 = .ok (.if_icmp .le 5, 3) := by decide +kernel
theorem dX12_end_12 : decode cX12_end 12 = .ok (.iconst 0, 1) := by decide +kernel
theorem dX12_end_13 : decode cX12_end 13 = .ok (.ireturn, 1) := by decide +kernel
theorem dX12_end_14 : decode cX12_end 14 = .ok (.aload_n 0, 1) := by decide +kernel
theorem dX12_end_15 : decode cX12_end 15 = .ok (.iload_n 1, 1) := by decide +kernel
theorem dX12_end_16 : decode cX12_end 16 = .ok (.putfield 124, 3) := by decide +kernel
theorem dX12_end_19 : decode cX12_end 19 = .ok (.iconst 1, 1) := by decide +kernel
theorem dX12_end_20 : decode cX12_end 20 = .ok (.ireturn, 1) := by decide +kernel
theorem dX12_family_0 : decode cX12_family 0 = .ok (.aload_n 0, 1) := by decide +kernel
theorem dX12_family_1 : decode cX12_family 1 = .ok (.iload_n 1, 1) := by decide +kernel
theorem dX12_family_2 : decode cX12_family 2 = .ok (.invokevirtual 347, 3) := by decide +kernel
theorem dX12_family_5 : decode cX12_family 5 = .ok (.ifCond .ne 7, 3) := by decide +kernel
theorem dX12_family_8 : decode cX12_family 8 = .ok (.ldc_w 350, 3) := by decide +kernel
theorem dX12_family_11 : decode cX12_family 11 = .ok (.ireturn, 1) := by decide +kernel
theorem dX12_full_0 : decode cX12_full 0 = .ok (.aload_n 0, 1) := by decide +kernel
theorem dX12_full_1 : decode cX12_full 1 = .ok (.getfield 290, 3) := by decide +kernel
theorem dX12_full_4 : decode cX12_full 4 = .ok (.ifCond .ne 5, 3) := by decide +kernel
theorem dX12_full_7 : decode cX12_full 7 = .ok (.iconst (-1), 1) := by decide +kernel
theorem dX12_full_8 : decode cX12_full 8 = .ok (.ireturn, 1) := by decide +kernel
theorem dX12_gones_0 : decode cX12_gones 0 = .ok (.iconst 0, 1) := by decide +kernel
theorem dX12_gones_1 : decode cX12_gones 1 = .ok (.istore_n 1, 1) := by decide +kernel
theorem dX12_gones_2 : decode cX12_gones 2 = .ok (.iconst 0, 1) := by decide +kernel
theorem dX12_gones_3 : decode cX12_gones 3 = .ok (.istore_n 2, 1) := by decide +kernel
theorem dX12_gones_4 : decode cX12_gones 4 = .ok (.iload_n 2, 1) := by decide +kernel
theorem dX12_gones_5 : decode cX12_gones 5 = .ok (.aload_n 0, 1) := by decide +kernel
theorem dX12_gones_6 : decode cX12_gones 6 = .ok (.getfield 290, 3) := by decide +kernel
theorem dX12_gones_9 : decode cX12_gones 9 = .ok (.if_icmp .ge 25, 3) := by decide +kernel
theorem dX12_gones_34 : decode cX12_gones 34 = .ok (.iload_n 1, 1) := by decide +kernel
theorem dX12_gones_35 : decode cX12_gones 35 = .ok (.ireturn, 1) := by decide +kernel
theorem dX12_hungry_0 : decode cX12_hungry 0 = .ok (.aload_n 0, 1) := by decide +kernel
theorem dX12_hungry_1 : decode cX12_hungry 1 = .ok (.getfield 290, 3) := by decide +kernel
theorem dX12_hungry_4 : decode cX12_hungry 4 = .ok (.ifCond .eq 12, 3) := by decide +kernel
theorem dX12_hungry_16 : decode cX12_hungry 16 = .ok (.iconst (-1), 1) := by decide +kernel
theorem dX12_hungry_17 : decode cX12_hungry 17 = .ok (.ireturn, 1) := by decide +kernel
theorem dX12_hush_0 : decode cX12_hush 0 = .ok (.aload_n 0, 1) := by decide +kernel
theorem dX12_hush_1 : decode cX12_hush 1 = .ok (.iload_n 1, 1) := by decide +kernel
theorem dX12_hush_2 : decode cX12_hush 2 = .ok (.invokevirtual 347, 3) := by decide +kernel
theorem dX12_hush_5 : decode cX12_hush 5 = .ok (.ifCond .eq 31, 3) := by decide +kernel
theorem dX12_hush_36 : decode cX12_hush 36 = .ok (.iconst 0, 1) := by decide +kernel
theorem dX12_hush_37 : decode cX12_hush 37 = .ok (.ireturn, 1) := by decide +kernel
theorem dX12_hut_0 : decode cX12_hut 0 = .ok (.aload_n 0, 1) := by decide +kernel
theorem dX12_hut_1 : decode cX12_hut 1 = .ok (.iload_n 1, 1) := by decide +kernel
theorem dX12_hut_2 : decode cX12_hut 2 = .ok (.invokevirtual 330, 3) := by decide +kernel
theorem dX12_hut_5 : decode cX12_hut 5 = .ok (.ifCond .eq 28, 3) := by decide +kernel
theorem dX12_hut_33 : decode cX12_hut 33 = .ok (.iconst (-1), 1) := by decide +kernel
theorem dX12_hut_34 : decode cX12_hut 34 = .ok (.ireturn, 1) := by decide +kernel
theorem dX12_image_0 : decode cX12_image 0 = .ok (.aload_n 0, 1) := by decide +kernel
theorem dX12_image_1 : decode cX12_image 1 = .ok (.getfield 290, 3) := by decide +kernel
theorem dX12_image_4 : decode cX12_image 4 = .ok (.ifCond .ne 5, 3) := by decide +kernel
theorem dX12_image_7 : decode cX12_image 7 = .ok (.iconst (-1), 1) := by decide +kernel
theorem dX12_image_8 : decode cX12_image 8 = .ok (.ireturn, 1) := by decide +kernel
theorem dX12_in_0 : decode cX12_in 0 = .ok (.iload_n 0, 1) := by decide +kernel
theorem dX12_in_1 : decode cX12_in 1 = .ok (.iload_n 1, 1) := by decide +kernel
theorem dX12_in_2 : decode cX12_in 2 = .ok (.if_icmp .lt 12, 3) := by decide +kernel
theorem dX12_in_5 : decode cX12_in 5 = .ok (.iload_n 0, 1) := by decide +kernel
theorem dX12_in_6 : decode cX12_in 6 = .ok (.iload_n 2, 1) := by decide +kernel
theorem dX12_in_7 : decode cX12_in 7 = .ok (.if_icmp .gt 7, 3) := by decide +kernel
theorem dX12_in_10 : decode cX12_in 10 = .ok (.iconst 1, 1) := by decide +kernel
theorem dX12_in_11 : decode cX12_in 11 = .ok (.goto 4, 3) := by decide +kernel
theorem dX12_in_14 : decode cX12_in 14 = .ok (.iconst 0, 1) := by decide +kernel
theorem dX12_in_15 : decode cX12_in 15 = .ok (.ireturn, 1) := by decide +kernel
theorem dX12_isFamily_0 : decode cX12_isFamily 0 = .ok (.iload_n 1, 1) := by decide +kernel
theorem dX12_isFamily_1 : decode cX12_isFamily 1 = .ok (.iconst 0, 1) := by decide +kernel
theorem dX12_isFamily_2 : decode cX12_isFamily 2 = .ok (.aload_n 0, 1) := by decide +kernel
theorem dX12_isFamily_3 : decode cX12_isFamily 3 = .ok (.getfield 290, 3) := by decide +kernel
theorem dX12_isFamily_6 : decode cX12_isFamily 6 = .ok (.iconst 1, 1) := by decide +kernel
theorem dX12_isFamily_7 : decode cX12_isFamily 7 = .ok (.isub, 1) := by decide +kernel
theorem dX12_isFamily_8 : decode cX12_isFamily 8 = .ok (.invokestatic 232, 3) := by decide +kernel
theorem dX12_isFamily_11 : decode cX12_isFamily 11 = .ok (.ireturn, 1) := by decide +kernel
theorem dX12_isLevel_0 : decode cX12_isLevel 0 = .ok (.iload_n 1, 1) := by decide +kernel
theorem dX12_isLevel_1 : decode cX12_isLevel 1 = .ok (.iconst 0, 1) := by decide +kernel
theorem dX12_isLevel_2 : decode cX12_isLevel 2 = .ok (.aload_n 0, 1) := by decide +kernel
theorem dX12_isLevel_3 : decode cX12_isLevel 3 = .ok (.getfield 302, 3) := by decide +kernel
theorem dX12_isLevel_6 : decode cX12_isLevel 6 = .ok (.iconst 1, 1) := by decide +kernel
theorem dX12_isLevel_7 : decode cX12_isLevel 7 = .ok (.isub, 1) := by decide +kernel
theorem dX12_isLevel_8 : decode cX12_isLevel 8 = .ok (.invokestatic 232, 3) := by decide +kernel
theorem dX12_isLevel_11 : decode cX12_isLevel 11 = .ok (.ireturn, 1) := by decide +kernel
theorem dX12_isTrial_0 : decode cX12_isTrial 0 = .ok (.aload_n 0, 1) := by decide +kernel
theorem dX12_isTrial_1 : decode cX12_isTrial 1 = .ok (.getfield 290, 3) := by decide +kernel
theorem dX12_isTrial_4 : decode cX12_isTrial 4 = .ok (.ifCond .le 27, 3) := by decide +kernel
theorem dX12_isTrial_31 : decode cX12_isTrial 31 = .ok (.iconst 0, 1) := by decide +kernel
theorem dX12_isTrial_32 : decode cX12_isTrial 32 = .ok (.ireturn, 1) := by decide +kernel
theorem dX12_law_0 : decode cX12_law 0 = .ok (.iload_n 1, 1) := by decide +kernel
theorem dX12_law_1 : decode cX12_law 1 = .ok (.iconst (-1), 1) := by decide +kernel
theorem dX12_law_2 : decode cX12_law 2 = .ok (.aload_n 0, 1) := by decide +kernel
theorem dX12_law_3 : decode cX12_law 3 = .ok (.getfield 322, 3) := by decide +kernel
theorem dX12_law_6 : decode cX12_law 6 = .ok (.iconst 1, 1) := by decide +kernel
theorem dX12_law_7 : decode cX12_law 7 = .ok (.isub, 1) := by decide +kernel
theorem dX12_law_8 : decode cX12_law 8 = .ok (.invokestatic 232, 3) := by decide +kernel
theorem dX12_law_11 : decode cX12_law 11 = .ok (.ifCond .ne 5, 3) := by decide +kernel
theorem dX12_law_14 : decode cX12_law 14 = .ok (.iconst 0, 1) := by decide +kernel
theorem dX12_law_15 : decode cX12_law 15 = .ok (.ireturn, 1) := by decide +kernel
theorem dX12_law_16 : decode cX12_law 16 = .ok (.aload_n 0, 1) := by decide +kernel
theorem dX12_law_17 : decode cX12_law 17 = .ok (.iload_n 1, 1) := by decide +kernel
theorem dX12_law_18 : decode cX12_law 18 = .ok (.putfield 64, 3) := by decide +kernel
theorem dX12_law_21 : decode cX12_law 21 = .ok (.iconst 1, 1) := by decide +kernel
theorem dX12_law_22 : decode cX12_law 22 = .ok (.ireturn, 1) := by decide +kernel
theorem dX12_leanest_0 : decode cX12_leanest 0 = .ok (.aload_n 0, 1) := by decide +kernel
theorem dX12_leanest_1 : decode cX12_leanest 1 = .ok (.getfield 309, 3) := by decide +kernel
theorem dX12_leanest_4 : decode cX12_leanest 4 = .ok (.ifCond .eq 12, 3) := by decide +kernel
theorem dX12_leanest_16 : decode cX12_leanest 16 = .ok (.iconst (-1), 1) := by decide +kernel
theorem dX12_leanest_17 : decode cX12_leanest 17 = .ok (.ireturn, 1) := by decide +kernel
theorem dX12_leap_0 : decode cX12_leap 0 = .ok (.aload_n 0, 1) := by decide +kernel
theorem dX12_leap_1 : decode cX12_leap 1 = .ok (.iload_n 1, 1) := by decide +kernel
theorem dX12_leap_2 : decode cX12_leap 2 = .ok (.invokevirtual 347, 3) := by decide +kernel
theorem dX12_leap_5 : decode cX12_leap 5 = .ok (.ifCond .ne 7, 3) := by decide +kernel
theorem dX12_leap_8 : decode cX12_leap 8 = .ok (.ldc_w 350, 3) := by decide +kernel
theorem dX12_leap_11 : decode cX12_leap 11 = .ok (.ireturn, 1) := by decide +kernel
theorem dX12_mean_0 : decode cX12_mean 0 = .ok (.aload_n 0, 1) := by decide +kernel
theorem dX12_mean_1 : decode cX12_mean 1 = .ok (.iload_n 1, 1) := by decide +kernel
theorem dX12_mean_2 : decode cX12_mean 2 = .ok (.iload_n 2, 1) := by decide +kernel
theorem dX12_mean_3 : decode cX12_mean 3 = .ok (.iconst (-1), 1) := by decide +kernel
theorem dX12_mean_4 : decode cX12_mean 4 = .ok (.invokevirtual 451, 3) := by decide +kernel
theorem dX12_mean_7 : decode cX12_mean 7 = .ok (.ldc_w 350, 3) := by decide +kernel
theorem dX12_mean_10 : decode cX12_mean 10 = .ok (.if_icmp .ne 7, 3) := by decide +kernel
theorem dX12_mean_13 : decode cX12_mean 13 = .ok (.ldc2_w 207, 3) := by decide +kernel
theorem dX12_mean_16 : decode cX12_mean 16 = .ok (.lreturn, 1) := by decide +kernel
theorem dX12_met_0 : decode cX12_met 0 = .ok (.aload_n 0, 1) := by decide +kernel
theorem dX12_met_1 : decode cX12_met 1 = .ok (.iload_n 1, 1) := by decide +kernel
theorem dX12_met_2 : decode cX12_met 2 = .ok (.invokevirtual 347, 3) := by decide +kernel
theorem dX12_met_5 : decode cX12_met 5 = .ok (.ifCond .eq 25, 3) := by decide +kernel
theorem dX12_met_30 : decode cX12_met 30 = .ok (.ldc_w 350, 3) := by decide +kernel
theorem dX12_met_33 : decode cX12_met 33 = .ok (.ireturn, 1) := by decide +kernel
theorem dX12_most_0 : decode cX12_most 0 = .ok (.aload_n 0, 1) := by decide +kernel
theorem dX12_most_1 : decode cX12_most 1 = .ok (.getfield 290, 3) := by decide +kernel
theorem dX12_most_4 : decode cX12_most 4 = .ok (.ifCond .eq 12, 3) := by decide +kernel
theorem dX12_most_16 : decode cX12_most 16 = .ok (.iconst (-1), 1) := by decide +kernel
theorem dX12_most_17 : decode cX12_most 17 = .ok (.ireturn, 1) := by decide +kernel
theorem dX12_needs_0 : decode cX12_needs 0 = .ok (.aload_n 0, 1) := by decide +kernel
theorem dX12_needs_1 : decode cX12_needs 1 = .ok (.iload_n 1, 1) := by decide +kernel
theorem dX12_needs_2 : decode cX12_needs 2 = .ok (.invokevirtual 347, 3) := by decide +kernel
theorem dX12_needs_5 : decode cX12_needs 5 = .ok (.ifCond .eq 11, 3) := by decide +kernel
theorem dX12_needs_16 : decode cX12_needs 16 = .ok (.iconst (-1), 1) := by decide +kernel
theorem dX12_needs_17 : decode cX12_needs 17 = .ok (.ireturn, 1) := by decide +kernel
theorem dX12_odds_0 : decode cX12_odds 0 = .ok (.aload_n 0, 1) := by decide +kernel
theorem dX12_odds_1 : decode cX12_odds 1 = .ok (.iload_n 1, 1) := by decide +kernel
theorem dX12_odds_2 : decode cX12_odds 2 = .ok (.invokevirtual 347, 3) := by decide +kernel
theorem dX12_odds_5 : decode cX12_odds 5 = .ok (.ifCond .eq 34, 3) := by decide +kernel
theorem dX12_odds_39 : decode cX12_odds 39 = .ok (.ldc_w 350, 3) := by decide +kernel
theorem dX12_odds_42 : decode cX12_odds 42 = .ok (.ireturn, 1) := by decide +kernel
theorem dX12_rank_0 : decode cX12_rank 0 = .ok (.iconst 0, 1) := by decide +kernel
theorem dX12_rank_1 : decode cX12_rank 1 = .ok (.istore_n 2, 1) := by decide +kernel
theorem dX12_rank_2 : decode cX12_rank 2 = .ok (.iload_n 2, 1) := by decide +kernel
theorem dX12_rank_3 : decode cX12_rank 3 = .ok (.aload_n 0, 1) := by decide +kernel
theorem dX12_rank_4 : decode cX12_rank 4 = .ok (.getfield 290, 3) := by decide +kernel
theorem dX12_rank_7 : decode cX12_rank 7 = .ok (.if_icmp .ge 82, 3) := by decide +kernel
theorem dX12_rank_89 : decode cX12_rank 89 = .ok (.iconst (-1), 1) := by decide +kernel
theorem dX12_rank_90 : decode cX12_rank 90 = .ok (.ireturn, 1) := by decide +kernel
theorem dX12_reform_0 : decode cX12_reform 0 = .ok (.aload_n 0, 1) := by decide +kernel
theorem dX12_reform_1 : decode cX12_reform 1 = .ok (.iload_n 1, 1) := by decide +kernel
theorem dX12_reform_2 : decode cX12_reform 2 = .ok (.iload_n 2, 1) := by decide +kernel
theorem dX12_reform_3 : decode cX12_reform 3 = .ok (.invokevirtual 441, 3) := by decide +kernel
theorem dX12_reform_6 : decode cX12_reform 6 = .ok (.ifCond .ne 7, 3) := by decide +kernel
theorem dX12_reform_9 : decode cX12_reform 9 = .ok (.ldc_w 350, 3) := by decide +kernel
theorem dX12_reform_12 : decode cX12_reform 12 = .ok (.ireturn, 1) := by decide +kernel
theorem dX12_seed_0 : decode cX12_seed 0 = .ok (.aload_n 0, 1) := by decide +kernel
theorem dX12_seed_1 : decode cX12_seed 1 = .ok (.lload_n 1, 1) := by decide +kernel
theorem dX12_seed_2 : decode cX12_seed 2 = .ok (.putfield 357, 3) := by decide +kernel
theorem dX12_seed_5 : decode cX12_seed 5 = .ok (.iconst 1, 1) := by decide +kernel
theorem dX12_seed_6 : decode cX12_seed 6 = .ok (.ireturn, 1) := by decide +kernel
theorem dX12_set_0 : decode cX12_set 0 = .ok (.iload_n 1, 1) := by decide +kernel
theorem dX12_set_1 : decode cX12_set 1 = .ok (.iconst 0, 1) := by decide +kernel
theorem dX12_set_2 : decode cX12_set 2 = .ok (.iconst 2, 1) := by decide +kernel
theorem dX12_set_3 : decode cX12_set 3 = .ok (.invokestatic 232, 3) := by decide +kernel
theorem dX12_set_6 : decode cX12_set 6 = .ok (.ifCond .eq 31, 3) := by decide +kernel
theorem dX12_set_9 : decode cX12_set 9 = .ok (.iload_n 2, 1) := by decide +kernel
theorem dX12_set_10 : decode cX12_set 10 = .ok (.iconst 0, 1) := by decide +kernel
theorem dX12_set_11 : decode cX12_set 11 = .ok (.iload_n 1, 1) := by decide +kernel
theorem dX12_set_12 : decode cX12_set 12 = .ok (.ifCond .ne 8, 3) := by decide +kernel
theorem dX12_set_15 : decode cX12_set 15 = .ok (.bipush 100, 2) := by decide +kernel
theorem dX12_set_17 : decode cX12_set 17 = .ok (.goto 14, 3) := by decide +kernel
theorem dX12_set_20 : decode cX12_set 20 = .ok (.iload_n 1, 1) := by decide +kernel
theorem dX12_set_21 : decode cX12_set 21 = .ok (.iconst 1, 1) := by decide +kernel
theorem dX12_set_22 : decode cX12_set 22 = .ok (.if_icmp .ne 7, 3) := by decide +kernel
theorem dX12_set_25 : decode cX12_set 25 = .ok (.iconst 1, 1) := by decide +kernel
theorem dX12_set_26 : decode cX12_set 26 = .ok (.goto 5, 3) := by decide +kernel
theorem dX12_set_29 : decode cX12_set 29 = .ok (.bipush 99, 2) := by decide +kernel
theorem dX12_set_31 : decode cX12_set 31 = .ok (.invokestatic 232, 3) := by decide +kernel
theorem dX12_set_34 : decode cX12_set 34 = .ok (.ifCond .ne 5, 3) := by decide +kernel
theorem dX12_set_37 : decode cX12_set 37 = .ok (.iconst 0, 1) := by decide +kernel
theorem dX12_set_38 : decode cX12_set 38 = .ok (.ireturn, 1) := by decide +kernel
theorem dX12_set_39 : decode cX12_set 39 = .ok (.aload_n 0, 1) := by decide +kernel
theorem dX12_set_40 : decode cX12_set 40 = .ok (.iload_n 1, 1) := by decide +kernel
theorem dX12_set_41 : decode cX12_set 41 = .ok (.ifCond .ne 7, 3) := by decide +kernel
theorem dX12_set_44 : decode cX12_set 44 = .ok (.iload_n 2, 1) := by decide +kernel
theorem dX12_set_45 : decode cX12_set 45 = .ok (.goto 7, 3) := by decide +kernel
theorem dX12_set_48 : decode cX12_set 48 = .ok (.aload_n 0, 1) := by decide +kernel
theorem dX12_set_49 : decode cX12_set 49 = .ok (.getfield 68, 3) := by decide +kernel
theorem dX12_set_52 : decode cX12_set 52 = .ok (.putfield 68, 3) := by decide +kernel
theorem dX12_set_55 : decode cX12_set 55 = .ok (.aload_n 0, 1) := by decide +kernel
theorem dX12_set_56 : decode cX12_set 56 = .ok (.iload_n 1, 1) := by decide +kernel
theorem dX12_set_57 : decode cX12_set 57 = .ok (.iconst 1, 1) := by decide +kernel
theorem dX12_set_58 : decode cX12_set 58 = .ok (.if_icmp .ne 7, 3) := by decide +kernel
theorem dX12_set_61 : decode cX12_set 61 = .ok (.iload_n 2, 1) := by decide +kernel
theorem dX12_set_62 : decode cX12_set 62 = .ok (.goto 7, 3) := by decide +kernel
theorem dX12_set_65 : decode cX12_set 65 = .ok (.aload_n 0, 1) := by decide +kernel
theorem dX12_set_66 : decode cX12_set 66 = .ok (.getfield 354, 3) := by decide +kernel
theorem dX12_set_69 : decode cX12_set 69 = .ok (.putfield 354, 3) := by decide +kernel
theorem dX12_set_72 : decode cX12_set 72 = .ok (.aload_n 0, 1) := by decide +kernel
theorem dX12_set_73 : decode cX12_set 73 = .ok (.iload_n 1, 1) := by decide +kernel
theorem dX12_set_74 : decode cX12_set 74 = .ok (.iconst 2, 1) := by decide +kernel
theorem dX12_set_75 : decode cX12_set 75 = .ok (.if_icmp .ne 7, 3) := by decide +kernel
theorem dX12_set_78 : decode cX12_set 78 = .ok (.iload_n 2, 1) := by decide +kernel
theorem dX12_set_79 : decode cX12_set 79 = .ok (.goto 7, 3) := by decide +kernel
theorem dX12_set_82 : decode cX12_set 82 = .ok (.aload_n 0, 1) := by decide +kernel
theorem dX12_set_83 : decode cX12_set 83 = .ok (.getfield 71, 3) := by decide +kernel
theorem dX12_set_86 : decode cX12_set 86 = .ok (.putfield 71, 3) := by decide +kernel
theorem dX12_set_89 : decode cX12_set 89 = .ok (.iconst 1, 1) := by decide +kernel
theorem dX12_set_90 : decode cX12_set 90 = .ok (.ireturn, 1) := by decide +kernel
theorem dX12_spring_0 : decode cX12_spring 0 = .ok (.aload_n 0, 1) := by decide +kernel
theorem dX12_spring_1 : decode cX12_spring 1 = .ok (.getfield 290, 3) := by decide +kernel
theorem dX12_spring_4 : decode cX12_spring 4 = .ok (.ifCond .ne 5, 3) := by decide +kernel
theorem dX12_spring_7 : decode cX12_spring 7 = .ok (.iconst (-1), 1) := by decide +kernel
theorem dX12_spring_8 : decode cX12_spring 8 = .ok (.ireturn, 1) := by decide +kernel
theorem dX12_tried_0 : decode cX12_tried 0 = .ok (.aload_n 0, 1) := by decide +kernel
theorem dX12_tried_1 : decode cX12_tried 1 = .ok (.iload_n 2, 1) := by decide +kernel
theorem dX12_tried_2 : decode cX12_tried 2 = .ok (.iload_n 3, 1) := by decide +kernel
theorem dX12_tried_3 : decode cX12_tried 3 = .ok (.invokevirtual 441, 3) := by decide +kernel
theorem dX12_tried_6 : decode cX12_tried 6 = .ok (.ifCond .eq 39, 3) := by decide +kernel
theorem dX12_tried_45 : decode cX12_tried 45 = .ok (.ldc_w 350, 3) := by decide +kernel
theorem dX12_tried_48 : decode cX12_tried 48 = .ok (.ireturn, 1) := by decide +kernel
theorem dX12_undo_0 : decode cX12_undo 0 = .ok (.aload_n 0, 1) := by decide +kernel
theorem dX12_undo_1 : decode cX12_undo 1 = .ok (.getfield 312, 3) := by decide +kernel
theorem dX12_undo_4 : decode cX12_undo 4 = .ok (.ifCond .ne 5, 3) := by decide +kernel
theorem dX12_undo_7 : decode cX12_undo 7 = .ok (.iconst (-1), 1) := by decide +kernel
theorem dX12_undo_8 : decode cX12_undo 8 = .ok (.ireturn, 1) := by decide +kernel
theorem dX12_waiting_0 : decode cX12_waiting 0 = .ok (.aload_n 0, 1) := by decide +kernel
theorem dX12_waiting_1 : decode cX12_waiting 1 = .ok (.getfield 290, 3) := by decide +kernel
theorem dX12_waiting_4 : decode cX12_waiting 4 = .ok (.ifCond .ne 7, 3) := by decide +kernel
theorem dX12_waiting_7 : decode cX12_waiting 7 = .ok (.iconst (-1), 1) := by decide +kernel
theorem dX12_waiting_8 : decode cX12_waiting 8 = .ok (.goto 7, 3) := by decide +kernel
theorem dX12_waiting_15 : decode cX12_waiting 15 = .ok (.ireturn, 1) := by decide +kernel
theorem dX12_winters_0 : decode cX12_winters 0 = .ok (.aload_n 0, 1) := by decide +kernel
theorem dX12_winters_1 : decode cX12_winters 1 = .ok (.getfield 290, 3) := by decide +kernel
theorem dX12_winters_4 : decode cX12_winters 4 = .ok (.ifCond .eq 24, 3) := by decide +kernel
theorem dX12_winters_28 : decode cX12_winters 28 = .ok (.iconst (-1), 1) := by decide +kernel
theorem dX12_winters_29 : decode cX12_winters 29 = .ok (.ireturn, 1) := by decide +kernel
def w_X12_in : List Cond := .code yX12_in cX12_in 3 (some .boolean) :: ([] ++ ([]))
set_option maxHeartbeats 4000000 in
set_option maxRecDepth 100000 in
theorem c_X12_in (l : Launch) (E : py_E) (L : List Nat) (f : py_F) (sz : Nat) (v lo hi : Int32) : Met l yX12_in w_X12_in ({ frames := 0, cells := 0, slots := 0, locals := 0 }) (py_Pc E [.int v, .int lo, .int hi] L f sz) (py_Qi E L f sz (fun r L1 f1 => L = L1 ∧ f = f1 ∧ ((r = 1 ∧ lo ≤ v ∧ v ≤ hi) ∨ (r = 0 ∧ ¬ (lo ≤ v ∧ v ≤ hi))))) 0 0 (va_A (va_pl L f) sz) := by
  refine Met.ofW (cc := cX12_in) (maxL := 3) (ret := (some .boolean)) (by decide) rfl ?_
  intro p e s m args below meth c s₁ B hml hv
  obtain ⟨rfl, rfl, hw⟩ := py_start hv
  have G : CallFix p m c cX12_in 3 s _ w_X12_in RX12 := ⟨B.exec, B.bytes, hml, findClass_of_methodNamed B.named, atoms_spec (ws := w_X12_in) B.pre⟩
  have hr := B.returns
  have hlk := B.notSynchronized
  have hl := lv_entry ([.int v, .int lo, .int hi]) (n := 3) (Nat.le_of_ble_eq_true rfl)
  rw [lg_entry_eq]
  generalize (lg_sl ([.int v, .int lo, .int hi]) ++ List.replicate (3 - (lg_sl ([.int v, .int lo, .int hi])).length) Slot.unset).toArray = ls at hl ⊢
  have hl : lv_has ls 3 [(0, .int v), (1, .int lo), (2, .int hi)] := hl
  refine lv_iload_n G.1 G.2.1 dX12_in_0 rfl (lv_at hl 0 rfl) ?_
  refine lv_iload_n G.1 G.2.1 dX12_in_1 rfl (lv_at hl 1 rfl) ?_
  refine lv_icmp_lt (tgt := 14) G.1 G.2.1 dX12_in_2 (by decide) (fun c_1 => ?_) (fun c_1 => ?_)
  · skip
    refine lv_iconst (v := 0) G.1 G.2.1 dX12_in_14 (by decide) ?_
    exact py_iret G hr rfl hlk hw ⟨rfl, rfl, Or.inr ⟨rfl, fun h => absurd h.1 (Int32.not_le.mpr c_1)⟩⟩ dX12_in_15
  · skip
    refine lv_iload_n G.1 G.2.1 dX12_in_5 rfl (lv_at hl 0 rfl) ?_
    refine lv_iload_n G.1 G.2.1 dX12_in_6 rfl (lv_at hl 2 rfl) ?_
    refine lv_icmp_gt (tgt := 14) G.1 G.2.1 dX12_in_7 (by decide) (fun c_2 => ?_) (fun c_2 => ?_)
    · skip
      refine lv_iconst (v := 0) G.1 G.2.1 dX12_in_14 (by decide) ?_
      exact py_iret G hr rfl hlk hw ⟨rfl, rfl, Or.inr ⟨rfl, fun h => absurd h.2 (Int32.not_le.mpr c_2)⟩⟩ dX12_in_15
    · skip
      refine lv_iconst (v := 1) G.1 G.2.1 dX12_in_10 (by decide) ?_
      refine lv_goto (tgt := 15) G.1 G.2.1 dX12_in_11 (by decide) ?_
      exact py_iret G hr rfl hlk hw ⟨rfl, rfl, Or.inl ⟨rfl, Int32.not_lt.mp c_1, Int32.not_lt.mp c_2⟩⟩ dX12_in_15

def w_X12_isFamily : List Cond := .code yX12_isFamily cX12_isFamily 2 (some .boolean) :: ([Cond.fieldLink RX12 290 "HeadYearModel" "families" "I", Cond.methodLink RX12 232 yX12_in, Cond.static yX12_in, Cond.initialized RX12] ++ (u_ws RX12 TX12 54 ++ (w_X12_in ++ ([]))))
theorem in_X12_isFamily_X12 : ∀ w ∈ u_ws RX12 TX12 54, w ∈ w_X12_isFamily := fun _ h => List.mem_cons_of_mem _ (List.mem_append_right _ (List.mem_append_left _ h))
theorem gg_X12_isFamily_X12_in : GoodIn w_X12_isFamily w_X12_in := goodIn_sub (fun _ h => List.mem_cons_of_mem _ (List.mem_append_right _ (List.mem_append_right _ (List.mem_append_left _ h)))) (by decide +kernel)
theorem g_X12_isFamily_X12_in_232 : GoodIn w_X12_isFamily (va_wsS RX12 232 yX12_in w_X12_in) := goodIn_app (goodIn_of _ (by decide +kernel)) gg_X12_isFamily_X12_in
set_option maxHeartbeats 4000000 in
set_option maxRecDepth 100000 in
theorem c_X12_isFamily (l : Launch) (E : py_E) (L : List Nat) (f : py_F) (sz : Nat) (h : Nat) (a : Int32) (hM : fr_M E L f h) : Met l yX12_isFamily w_X12_isFamily ({ frames := 1, cells := 0, slots := 0, locals := 22 }) (py_Pc E [.ref h, .int a] L f sz) (py_Qi E L f sz (fun r L1 f1 => r = 0 ∧ L = L1 ∧ f = f1)) 0 0 (va_A (va_pl L f) sz) := by
  refine Met.ofW (cc := cX12_isFamily) (maxL := 2) (ret := (some .boolean)) (by decide) rfl ?_
  intro p e s m args below meth c s₁ B hml hv
  obtain ⟨rfl, rfl, hw⟩ := py_start hv
  have G : CallFix p m c cX12_isFamily 2 s _ w_X12_isFamily RX12 := ⟨B.exec, B.bytes, hml, findClass_of_methodNamed B.named, atoms_spec (ws := w_X12_isFamily) B.pre⟩
  have hr := B.returns
  have hlk := B.notSynchronized
  have hl := lv_entry ([.ref h, .int a]) (n := 2) (Nat.le_of_ble_eq_true rfl)
  rw [lg_entry_eq]
  generalize (lg_sl ([.ref h, .int a]) ++ List.replicate (2 - (lg_sl ([.ref h, .int a])).length) Slot.unset).toArray = ls at hl ⊢
  have hl : lv_has ls 2 [(0, .ref h), (1, .int a)] := hl
  obtain ⟨tp, cd, cl, g1, g2, g3, xs, v32, v33, v34, hh, hxs, hp1, hp2, hp8, hp9, hp13, hp24, hp25, hp29, hp31, hp43, hp53, ⟨hp32, hp33, hp34⟩, htp, hcd, hcl⟩ := id hM
  refine lv_iload_n G.1 G.2.1 dX12_isFamily_0 rfl (lv_at hl 1 rfl) ?_
  refine lv_iconst (v := 0) G.1 G.2.1 dX12_isFamily_1 (by decide) ?_
  refine lv_aload_n G.1 G.2.1 dX12_isFamily_2 rfl (lv_at hl 0 rfl) ?_
  refine py_get (C := RX12) (T := TX12) (N := 54) (k := 25) (v := .int 0) G hw in_X12_isFamily_X12 rfl hh (by decide) (by decide +kernel) hp25 dX12_isFamily_3 ?_
  refine lv_iconst (v := 1) G.1 G.2.1 dX12_isFamily_6 (by decide) ?_
  refine lv_isub G.1 G.2.1 dX12_isFamily_7 ?_
  rw [show 0 - 1 = ((-1) : Int32) by decide]
  refine py_calli hw (va_runS (As := [.int a, .int 0, .int (-1)]) (rest := []) G (c_X12_in l E L f s.heap.size a 0 (-1)) (va_cwS 3 G.2.2.2.2 g_X12_isFamily_X12_in_232 rfl rfl rfl (by decide +kernel) ⟨(Nat.le_of_ble_eq_true rfl), (Nat.le_of_ble_eq_true rfl)⟩) (py_preS hw) rfl rfl hl.1 rfl (lv_room (Nat.le_of_ble_eq_true rfl)) dX12_isFamily_8 ⟨(Nat.le_of_ble_eq_true rfl), (Nat.le_of_ble_eq_true rfl)⟩) (fun r_5 L_1 f_2 H_3 locs hp_4 hw => ?_)
  obtain ⟨rfl, rfl, hi_6⟩ := hp_4
  rcases hi_6 with ⟨rfl, hi_6⟩ | ⟨rfl, hi_6⟩
  · skip
    exact absurd (Int32.le_trans hi_6.1 hi_6.2) (by decide)
  · skip
    exact py_iret G hr rfl hlk hw ⟨rfl, rfl, rfl⟩ dX12_isFamily_11

def w_X12_isLevel : List Cond := .code yX12_isLevel cX12_isLevel 2 (some .boolean) :: ([Cond.fieldLink RX12 302 "HeadYearModel" "levels" "I", Cond.methodLink RX12 232 yX12_in, Cond.static yX12_in, Cond.initialized RX12] ++ (u_ws RX12 TX12 54 ++ (w_X12_in ++ ([]))))
theorem in_X12_isLevel_X12 : ∀ w ∈ u_ws RX12 TX12 54, w ∈ w_X12_isLevel := fun _ h => List.mem_cons_of_mem _ (List.mem_append_right _ (List.mem_append_left _ h))
theorem gg_X12_isLevel_X12_in : GoodIn w_X12_isLevel w_X12_in := goodIn_sub (fun _ h => List.mem_cons_of_mem _ (List.mem_append_right _ (List.mem_append_right _ (List.mem_append_left _ h)))) (by decide +kernel)
theorem g_X12_isLevel_X12_in_232 : GoodIn w_X12_isLevel (va_wsS RX12 232 yX12_in w_X12_in) := goodIn_app (goodIn_of _ (by decide +kernel)) gg_X12_isLevel_X12_in
set_option maxHeartbeats 4000000 in
set_option maxRecDepth 100000 in
theorem c_X12_isLevel (l : Launch) (E : py_E) (L : List Nat) (f : py_F) (sz : Nat) (h : Nat) (a : Int32) (hM : fr_M E L f h) : Met l yX12_isLevel w_X12_isLevel ({ frames := 1, cells := 0, slots := 0, locals := 22 }) (py_Pc E [.ref h, .int a] L f sz) (py_Qi E L f sz (fun r L1 f1 => r = 0 ∧ L = L1 ∧ f = f1)) 0 0 (va_A (va_pl L f) sz) := by
  refine Met.ofW (cc := cX12_isLevel) (maxL := 2) (ret := (some .boolean)) (by decide) rfl ?_
  intro p e s m args below meth c s₁ B hml hv
  obtain ⟨rfl, rfl, hw⟩ := py_start hv
  have G : CallFix p m c cX12_isLevel 2 s _ w_X12_isLevel RX12 := ⟨B.exec, B.bytes, hml, findClass_of_methodNamed B.named, atoms_spec (ws := w_X12_isLevel) B.pre⟩
  have hr := B.returns
  have hlk := B.notSynchronized
  have hl := lv_entry ([.ref h, .int a]) (n := 2) (Nat.le_of_ble_eq_true rfl)
  rw [lg_entry_eq]
  generalize (lg_sl ([.ref h, .int a]) ++ List.replicate (2 - (lg_sl ([.ref h, .int a])).length) Slot.unset).toArray = ls at hl ⊢
  have hl : lv_has ls 2 [(0, .ref h), (1, .int a)] := hl
  obtain ⟨tp, cd, cl, g1, g2, g3, xs, v32, v33, v34, hh, hxs, hp1, hp2, hp8, hp9, hp13, hp24, hp25, hp29, hp31, hp43, hp53, ⟨hp32, hp33, hp34⟩, htp, hcd, hcl⟩ := id hM
  refine lv_iload_n G.1 G.2.1 dX12_isLevel_0 rfl (lv_at hl 1 rfl) ?_
  refine lv_iconst (v := 0) G.1 G.2.1 dX12_isLevel_1 (by decide) ?_
  refine lv_aload_n G.1 G.2.1 dX12_isLevel_2 rfl (lv_at hl 0 rfl) ?_
  refine py_get (C := RX12) (T := TX12) (N := 54) (k := 24) (v := .int 0) G hw in_X12_isLevel_X12 rfl hh (by decide) (by decide +kernel) hp24 dX12_isLevel_3 ?_
  refine lv_iconst (v := 1) G.1 G.2.1 dX12_isLevel_6 (by decide) ?_
  refine lv_isub G.1 G.2.1 dX12_isLevel_7 ?_
  rw [show 0 - 1 = ((-1) : Int32) by decide]
  refine py_calli hw (va_runS (As := [.int a, .int 0, .int (-1)]) (rest := []) G (c_X12_in l E L f s.heap.size a 0 (-1)) (va_cwS 3 G.2.2.2.2 g_X12_isLevel_X12_in_232 rfl rfl rfl (by decide +kernel) ⟨(Nat.le_of_ble_eq_true rfl), (Nat.le_of_ble_eq_true rfl)⟩) (py_preS hw) rfl rfl hl.1 rfl (lv_room (Nat.le_of_ble_eq_true rfl)) dX12_isLevel_8 ⟨(Nat.le_of_ble_eq_true rfl), (Nat.le_of_ble_eq_true rfl)⟩) (fun r_5 L_1 f_2 H_3 locs hp_4 hw => ?_)
  obtain ⟨rfl, rfl, hi_6⟩ := hp_4
  rcases hi_6 with ⟨rfl, hi_6⟩ | ⟨rfl, hi_6⟩
  · skip
    exact absurd (Int32.le_trans hi_6.1 hi_6.2) (by decide)
  · skip
    exact py_iret G hr rfl hlk hw ⟨rfl, rfl, rfl⟩ dX12_isLevel_11

def w_X12_isTrial : List Cond := .code yX12_isTrial cX12_isTrial 3 (some .boolean) :: ([Cond.fieldLink RX12 290 "HeadYearModel" "families" "I"] ++ (u_ws RX12 TX12 54 ++ ([])))
theorem in_X12_isTrial_X12 : ∀ w ∈ u_ws RX12 TX12 54, w ∈ w_X12_isTrial := fun _ h => List.mem_cons_of_mem _ (List.mem_append_right _ (List.mem_append_left _ h))
set_option maxHeartbeats 4000000 in
set_option maxRecDepth 100000 in
theorem c_X12_isTrial (l : Launch) (E : py_E) (L : List Nat) (f : py_F) (sz : Nat) (h : Nat) (a : Int32) (b : Int32) (hM : fr_M E L f h) : Met l yX12_isTrial w_X12_isTrial ({ frames := 0, cells := 0, slots := 0, locals := 0 }) (py_Pc E [.ref h, .int a, .int b] L f sz) (py_Qi E L f sz (fun r L1 f1 => r = 0 ∧ L = L1 ∧ f = f1)) 0 0 (va_A (va_pl L f) sz) := by
  refine Met.ofW (cc := cX12_isTrial) (maxL := 3) (ret := (some .boolean)) (by decide) rfl ?_
  intro p e s m args below meth c s₁ B hml hv
  obtain ⟨rfl, rfl, hw⟩ := py_start hv
  have G : CallFix p m c cX12_isTrial 3 s _ w_X12_isTrial RX12 := ⟨B.exec, B.bytes, hml, findClass_of_methodNamed B.named, atoms_spec (ws := w_X12_isTrial) B.pre⟩
  have hr := B.returns
  have hlk := B.notSynchronized
  have hl := lv_entry ([.ref h, .int a, .int b]) (n := 3) (Nat.le_of_ble_eq_true rfl)
  rw [lg_entry_eq]
  generalize (lg_sl ([.ref h, .int a, .int b]) ++ List.replicate (3 - (lg_sl ([.ref h, .int a, .int b])).length) Slot.unset).toArray = ls at hl ⊢
  have hl : lv_has ls 3 [(0, .ref h), (1, .int a), (2, .int b)] := hl
  obtain ⟨tp, cd, cl, g1, g2, g3, xs, v32, v33, v34, hh, hxs, hp1, hp2, hp8, hp9, hp13, hp24, hp25, hp29, hp31, hp43, hp53, ⟨hp32, hp33, hp34⟩, htp, hcd, hcl⟩ := id hM
  refine lv_aload_n G.1 G.2.1 dX12_isTrial_0 rfl (lv_at hl 0 rfl) ?_
  refine py_get (C := RX12) (T := TX12) (N := 54) (k := 25) (v := .int 0) G hw in_X12_isTrial_X12 rfl hh (by decide) (by decide +kernel) hp25 dX12_isTrial_1 ?_
  refine lv_if_le (tgt := 31) G.1 G.2.1 dX12_isTrial_4 (by decide) (fun c_1 => ?_) (fun c_1 => ?_)
  · skip
    refine lv_iconst (v := 0) G.1 G.2.1 dX12_isTrial_31 (by decide) ?_
    exact py_iret G hr rfl hlk hw ⟨rfl, rfl, rfl⟩ dX12_isTrial_32
  · skip
    exact absurd c_1 (by decide)

def w_X12_gones : List Cond := .code yX12_gones cX12_gones 3 (some .int) :: ([Cond.fieldLink RX12 290 "HeadYearModel" "families" "I"] ++ (u_ws RX12 TX12 54 ++ ([])))
theorem in_X12_gones_X12 : ∀ w ∈ u_ws RX12 TX12 54, w ∈ w_X12_gones := fun _ h => List.mem_cons_of_mem _ (List.mem_append_right _ (List.mem_append_left _ h))
set_option maxHeartbeats 4000000 in
set_option maxRecDepth 100000 in
theorem c_X12_gones (l : Launch) (E : py_E) (L : List Nat) (f : py_F) (sz : Nat) (h : Nat) (hM : fr_M E L f h) : Met l yX12_gones w_X12_gones ({ frames := 0, cells := 0, slots := 0, locals := 0 }) (py_Pc E [.ref h] L f sz) (py_Qi E L f sz (fun r L1 f1 => r = 0 ∧ L = L1 ∧ f = f1)) 0 0 (va_A (va_pl L f) sz) := by
  refine Met.ofW (cc := cX12_gones) (maxL := 3) (ret := (some .int)) (by decide) rfl ?_
  intro p e s m args below meth c s₁ B hml hv
  obtain ⟨rfl, rfl, hw⟩ := py_start hv
  have G : CallFix p m c cX12_gones 3 s _ w_X12_gones RX12 := ⟨B.exec, B.bytes, hml, findClass_of_methodNamed B.named, atoms_spec (ws := w_X12_gones) B.pre⟩
  have hr := B.returns
  have hlk := B.notSynchronized
  have hl := lv_entry ([.ref h]) (n := 3) (Nat.le_of_ble_eq_true rfl)
  rw [lg_entry_eq]
  generalize (lg_sl ([.ref h]) ++ List.replicate (3 - (lg_sl ([.ref h])).length) Slot.unset).toArray = ls at hl ⊢
  have hl : lv_has ls 3 [(0, .ref h)] := hl
  obtain ⟨tp, cd, cl, g1, g2, g3, xs, v32, v33, v34, hh, hxs, hp1, hp2, hp8, hp9, hp13, hp24, hp25, hp29, hp31, hp43, hp53, ⟨hp32, hp33, hp34⟩, htp, hcd, hcl⟩ := id hM
  refine lv_iconst (v := 0) G.1 G.2.1 dX12_gones_0 (by decide) ?_
  refine lv_istore_n (lv' := [(1, .int 0), (0, .ref h)]) G.1 G.2.1 dX12_gones_1 rfl hl (by decide) rfl (fun ls hl => ?_)
  refine lv_iconst (v := 0) G.1 G.2.1 dX12_gones_2 (by decide) ?_
  refine lv_istore_n (lv' := [(2, .int 0), (1, .int 0), (0, .ref h)]) G.1 G.2.1 dX12_gones_3 rfl hl (by decide) rfl (fun ls hl => ?_)
  refine lv_iload_n G.1 G.2.1 dX12_gones_4 rfl (lv_at hl 0 rfl) ?_
  refine lv_aload_n G.1 G.2.1 dX12_gones_5 rfl (lv_at hl 2 rfl) ?_
  refine py_get (C := RX12) (T := TX12) (N := 54) (k := 25) (v := .int 0) G hw in_X12_gones_X12 rfl hh (by decide) (by decide +kernel) hp25 dX12_gones_6 ?_
  refine lv_icmp_ge (tgt := 34) G.1 G.2.1 dX12_gones_9 (by decide) (fun c_1 => ?_) (fun c_1 => ?_)
  · skip
    refine lv_iload_n G.1 G.2.1 dX12_gones_34 rfl (lv_at hl 1 rfl) ?_
    exact py_iret G hr rfl hlk hw ⟨rfl, rfl, rfl⟩ dX12_gones_35
  · skip
    exact absurd c_1 (by decide)

def w_X12_odds : List Cond := .code yX12_odds cX12_odds 7 (some .int) :: ([Cond.methodLink RX12 347 yX12_isFamily, Cond.instanceMethod yX12_isFamily, Cond.selects RX12 yX12_isFamily yX12_isFamily, Cond.initialized RX12, Cond.constant RX12 350 (-1000000)] ++ (w_X12_isFamily ++ ([])))
theorem gg_X12_odds_X12_isFamily : GoodIn w_X12_odds w_X12_isFamily := goodIn_sub (fun _ h => List.mem_cons_of_mem _ (List.mem_append_right _ (List.mem_append_left _ h))) (by decide +kernel)
theorem g_X12_odds_X12_isFamily_347 : GoodIn w_X12_odds (wsV RX12 347 RX12 yX12_isFamily w_X12_isFamily) := goodIn_app (goodIn_of _ (by decide +kernel)) gg_X12_odds_X12_isFamily
set_option maxHeartbeats 4000000 in
set_option maxRecDepth 100000 in
theorem c_X12_odds (l : Launch) (E : py_E) (L : List Nat) (f : py_F) (sz : Nat) (h : Nat) (a : Int32) (b : Int32) (q : Int32) (hM : fr_M E L f h) : Met l yX12_odds w_X12_odds ({ frames := 2, cells := 0, slots := 0, locals := 43 }) (py_Pc E [.ref h, .int a, .int b, .int q] L f sz) (py_Qi E L f sz (fun r L1 f1 => r = (-1000000) ∧ L = L1 ∧ f = f1)) 0 0 (va_A (va_pl L f) sz) := by
  refine Met.ofW (cc := cX12_odds) (maxL := 7) (ret := (some .int)) (by decide) rfl ?_
  intro p e s m args below meth c s₁ B hml hv
  obtain ⟨rfl, rfl, hw⟩ := py_start hv
  have G : CallFix p m c cX12_odds 7 s _ w_X12_odds RX12 := ⟨B.exec, B.bytes, hml, findClass_of_methodNamed B.named, atoms_spec (ws := w_X12_odds) B.pre⟩
  have hr := B.returns
  have hlk := B.notSynchronized
  have hl := lv_entry ([.ref h, .int a, .int b, .int q]) (n := 7) (Nat.le_of_ble_eq_true rfl)
  rw [lg_entry_eq]
  generalize (lg_sl ([.ref h, .int a, .int b, .int q]) ++ List.replicate (7 - (lg_sl ([.ref h, .int a, .int b, .int q])).length) Slot.unset).toArray = ls at hl ⊢
  have hl : lv_has ls 7 [(0, .ref h), (1, .int a), (2, .int b), (3, .int q)] := hl
  obtain ⟨tp, cd, cl, g1, g2, g3, xs, v32, v33, v34, hh, hxs, hp1, hp2, hp8, hp9, hp13, hp24, hp25, hp29, hp31, hp43, hp53, ⟨hp32, hp33, hp34⟩, htp, hcd, hcl⟩ := id hM
  refine lv_aload_n G.1 G.2.1 dX12_odds_0 rfl (lv_at hl 0 rfl) ?_
  refine lv_iload_n G.1 G.2.1 dX12_odds_1 rfl (lv_at hl 1 rfl) ?_
  refine py_calli hw (va_runV (As := [.int a]) (rest := []) G (c_X12_isFamily l E L f s.heap.size h a hM) (cwV 1 G.2.2.2.2 g_X12_odds_X12_isFamily_347 rfl rfl rfl (by decide +kernel) ⟨(Nat.le_of_ble_eq_true rfl), (Nat.le_of_ble_eq_true rfl)⟩) (py_preV hw (C := RX12) (T := TX12) (N := 54) rfl hh) rfl rfl hl.1 rfl (lv_room (Nat.le_of_ble_eq_true rfl)) dX12_odds_2 ⟨(Nat.le_of_ble_eq_true rfl), (Nat.le_of_ble_eq_true rfl)⟩) (fun r_5 L_1 f_2 H_3 locs hp_4 hw => ?_)
  obtain ⟨rfl, rfl, rfl⟩ := hp_4
  refine lv_if_eq (tgt := 39) G.1 G.2.1 dX12_odds_5 (by decide) (fun c_6 => ?_) (fun c_6 => ?_)
  · skip
    refine lv_ldcw (v := (-1000000)) G.1 G.2.1 G.2.2.2.1 (G.2.2.2.2 (Cond.constant RX12 350 (-1000000)) (by decide +kernel)) dX12_odds_39 ?_
    exact py_iret G hr rfl hlk hw ⟨rfl, rfl, rfl⟩ dX12_odds_42
  · skip
    exact absurd c_6 (by decide)

def w_X12_family : List Cond := .code yX12_family cX12_family 3 (some .int) :: ([Cond.methodLink RX12 347 yX12_isFamily, Cond.instanceMethod yX12_isFamily, Cond.selects RX12 yX12_isFamily yX12_isFamily, Cond.initialized RX12, Cond.constant RX12 350 (-1000000)] ++ (w_X12_isFamily ++ ([])))
theorem gg_X12_family_X12_isFamily : GoodIn w_X12_family w_X12_isFamily := goodIn_sub (fun _ h => List.mem_cons_of_mem _ (List.mem_append_right _ (List.mem_append_left _ h))) (by decide +kernel)
theorem g_X12_family_X12_isFamily_347 : GoodIn w_X12_family (wsV RX12 347 RX12 yX12_isFamily w_X12_isFamily) := goodIn_app (goodIn_of _ (by decide +kernel)) gg_X12_family_X12_isFamily
set_option maxHeartbeats 4000000 in
set_option maxRecDepth 100000 in
theorem c_X12_family (l : Launch) (E : py_E) (L : List Nat) (f : py_F) (sz : Nat) (h : Nat) (a : Int32) (b : Int32) (hM : fr_M E L f h) : Met l yX12_family w_X12_family ({ frames := 2, cells := 0, slots := 0, locals := 43 }) (py_Pc E [.ref h, .int a, .int b] L f sz) (py_Qi E L f sz (fun r _ _ => r = -1000000)) 0 0 (va_A (va_pl L f) sz) := by
  refine Met.ofW (cc := cX12_family) (maxL := 3) (ret := (some .int)) (by decide) rfl ?_
  intro p e s m args below meth c s₁ B hml hv
  obtain ⟨rfl, rfl, hw⟩ := py_start hv
  have G : CallFix p m c cX12_family 3 s _ w_X12_family RX12 := ⟨B.exec, B.bytes, hml, findClass_of_methodNamed B.named, atoms_spec (ws := w_X12_family) B.pre⟩
  have hr := B.returns
  have hlk := B.notSynchronized
  have hl := lv_entry ([.ref h, .int a, .int b]) (n := 3) (Nat.le_of_ble_eq_true rfl)
  rw [lg_entry_eq]
  generalize (lg_sl ([.ref h, .int a, .int b]) ++ List.replicate (3 - (lg_sl ([.ref h, .int a, .int b])).length) Slot.unset).toArray = ls at hl ⊢
  have hl : lv_has ls 3 [(0, .ref h), (1, .int a), (2, .int b)] := hl
  obtain ⟨tp, cd, cl, g1, g2, g3, xs, v32, v33, v34, hh, hxs, hp1, hp2, hp8, hp9, hp13, hp24, hp25, hp29, hp31, hp43, hp53, ⟨hp32, hp33, hp34⟩, htp, hcd, hcl⟩ := id hM
  refine lv_aload_n G.1 G.2.1 dX12_family_0 rfl (lv_at hl 0 rfl) ?_
  refine lv_iload_n G.1 G.2.1 dX12_family_1 rfl (lv_at hl 1 rfl) ?_
  refine py_calli hw (va_runV (As := [.int a]) (rest := []) G (c_X12_isFamily l E L f s.heap.size h a hM) (cwV 1 G.2.2.2.2 g_X12_family_X12_isFamily_347 rfl rfl rfl (by decide +kernel) ⟨(Nat.le_of_ble_eq_true rfl), (Nat.le_of_ble_eq_true rfl)⟩) (py_preV hw (C := RX12) (T := TX12) (N := 54) rfl hh) rfl rfl hl.1 rfl (lv_room (Nat.le_of_ble_eq_true rfl)) dX12_family_2 ⟨(Nat.le_of_ble_eq_true rfl), (Nat.le_of_ble_eq_true rfl)⟩) (fun r_5 L_1 f_2 H_3 locs hp_4 hw => ?_)
  obtain ⟨rfl, rfl, rfl⟩ := hp_4
  refine lv_if_ne (tgt := 12) G.1 G.2.1 dX12_family_5 (by decide) (fun c_6 => ?_) (fun c_6 => ?_)
  · skip
    exact absurd c_6 (by decide)
  · skip
    refine lv_ldcw (v := (-1000000)) G.1 G.2.1 G.2.2.2.1 (G.2.2.2.2 (Cond.constant RX12 350 (-1000000)) (by decide +kernel)) dX12_family_8 ?_
    exact py_iret G hr rfl hlk hw rfl dX12_family_11

def w_X12_hut : List Cond := .code yX12_hut cX12_hut 3 (some .int) :: ([Cond.methodLink RX12 330 yX12_isLevel, Cond.instanceMethod yX12_isLevel, Cond.selects RX12 yX12_isLevel yX12_isLevel, Cond.initialized RX12] ++ (w_X12_isLevel ++ ([])))
theorem gg_X12_hut_X12_isLevel : GoodIn w_X12_hut w_X12_isLevel := goodIn_sub (fun _ h => List.mem_cons_of_mem _ (List.mem_append_right _ (List.mem_append_left _ h))) (by decide +kernel)
theorem g_X12_hut_X12_isLevel_330 : GoodIn w_X12_hut (wsV RX12 330 RX12 yX12_isLevel w_X12_isLevel) := goodIn_app (goodIn_of _ (by decide +kernel)) gg_X12_hut_X12_isLevel
set_option maxHeartbeats 4000000 in
set_option maxRecDepth 100000 in
theorem c_X12_hut (l : Launch) (E : py_E) (L : List Nat) (f : py_F) (sz : Nat) (h : Nat) (a : Int32) (b : Int32) (hM : fr_M E L f h) : Met l yX12_hut w_X12_hut ({ frames := 2, cells := 0, slots := 0, locals := 43 }) (py_Pc E [.ref h, .int a, .int b] L f sz) (py_Qi E L f sz (fun r _ _ => r = -1)) 0 0 (va_A (va_pl L f) sz) := by
  refine Met.ofW (cc := cX12_hut) (maxL := 3) (ret := (some .int)) (by decide) rfl ?_
  intro p e s m args below meth c s₁ B hml hv
  obtain ⟨rfl, rfl, hw⟩ := py_start hv
  have G : CallFix p m c cX12_hut 3 s _ w_X12_hut RX12 := ⟨B.exec, B.bytes, hml, findClass_of_methodNamed B.named, atoms_spec (ws := w_X12_hut) B.pre⟩
  have hr := B.returns
  have hlk := B.notSynchronized
  have hl := lv_entry ([.ref h, .int a, .int b]) (n := 3) (Nat.le_of_ble_eq_true rfl)
  rw [lg_entry_eq]
  generalize (lg_sl ([.ref h, .int a, .int b]) ++ List.replicate (3 - (lg_sl ([.ref h, .int a, .int b])).length) Slot.unset).toArray = ls at hl ⊢
  have hl : lv_has ls 3 [(0, .ref h), (1, .int a), (2, .int b)] := hl
  obtain ⟨tp, cd, cl, g1, g2, g3, xs, v32, v33, v34, hh, hxs, hp1, hp2, hp8, hp9, hp13, hp24, hp25, hp29, hp31, hp43, hp53, ⟨hp32, hp33, hp34⟩, htp, hcd, hcl⟩ := id hM
  refine lv_aload_n G.1 G.2.1 dX12_hut_0 rfl (lv_at hl 0 rfl) ?_
  refine lv_iload_n G.1 G.2.1 dX12_hut_1 rfl (lv_at hl 1 rfl) ?_
  refine py_calli hw (va_runV (As := [.int a]) (rest := []) G (c_X12_isLevel l E L f s.heap.size h a hM) (cwV 1 G.2.2.2.2 g_X12_hut_X12_isLevel_330 rfl rfl rfl (by decide +kernel) ⟨(Nat.le_of_ble_eq_true rfl), (Nat.le_of_ble_eq_true rfl)⟩) (py_preV hw (C := RX12) (T := TX12) (N := 54) rfl hh) rfl rfl hl.1 rfl (lv_room (Nat.le_of_ble_eq_true rfl)) dX12_hut_2 ⟨(Nat.le_of_ble_eq_true rfl), (Nat.le_of_ble_eq_true rfl)⟩) (fun r_5 L_1 f_2 H_3 locs hp_4 hw => ?_)
  obtain ⟨rfl, rfl, rfl⟩ := hp_4
  refine lv_if_eq (tgt := 33) G.1 G.2.1 dX12_hut_5 (by decide) (fun c_6 => ?_) (fun c_6 => ?_)
  · skip
    refine lv_iconst (v := (-1)) G.1 G.2.1 dX12_hut_33 (by decide) ?_
    exact py_iret G hr rfl hlk hw rfl dX12_hut_34
  · skip
    exact absurd c_6 (by decide)

def w_X12_winters : List Cond := .code yX12_winters cX12_winters 4 (some .int) :: ([Cond.fieldLink RX12 290 "HeadYearModel" "families" "I"] ++ (u_ws RX12 TX12 54 ++ ([])))
theorem in_X12_winters_X12 : ∀ w ∈ u_ws RX12 TX12 54, w ∈ w_X12_winters := fun _ h => List.mem_cons_of_mem _ (List.mem_append_right _ (List.mem_append_left _ h))
set_option maxHeartbeats 4000000 in
set_option maxRecDepth 100000 in
theorem c_X12_winters (l : Launch) (E : py_E) (L : List Nat) (f : py_F) (sz : Nat) (h : Nat) (a : Int32) (hM : fr_M E L f h) : Met l yX12_winters w_X12_winters ({ frames := 0, cells := 0, slots := 0, locals := 0 }) (py_Pc E [.ref h, .int a] L f sz) (py_Qi E L f sz (fun r _ _ => r = -1)) 0 0 (va_A (va_pl L f) sz) := by
  refine Met.ofW (cc := cX12_winters) (maxL := 4) (ret := (some .int)) (by decide) rfl ?_
  intro p e s m args below meth c s₁ B hml hv
  obtain ⟨rfl, rfl, hw⟩ := py_start hv
  have G : CallFix p m c cX12_winters 4 s _ w_X12_winters RX12 := ⟨B.exec, B.bytes, hml, findClass_of_methodNamed B.named, atoms_spec (ws := w_X12_winters) B.pre⟩
  have hr := B.returns
  have hlk := B.notSynchronized
  have hl := lv_entry ([.ref h, .int a]) (n := 4) (Nat.le_of_ble_eq_true rfl)
  rw [lg_entry_eq]
  generalize (lg_sl ([.ref h, .int a]) ++ List.replicate (4 - (lg_sl ([.ref h, .int a])).length) Slot.unset).toArray = ls at hl ⊢
  have hl : lv_has ls 4 [(0, .ref h), (1, .int a)] := hl
  obtain ⟨tp, cd, cl, g1, g2, g3, xs, v32, v33, v34, hh, hxs, hp1, hp2, hp8, hp9, hp13, hp24, hp25, hp29, hp31, hp43, hp53, ⟨hp32, hp33, hp34⟩, htp, hcd, hcl⟩ := id hM
  refine lv_aload_n G.1 G.2.1 dX12_winters_0 rfl (lv_at hl 0 rfl) ?_
  refine py_get (C := RX12) (T := TX12) (N := 54) (k := 25) (v := .int 0) G hw in_X12_winters_X12 rfl hh (by decide) (by decide +kernel) hp25 dX12_winters_1 ?_
  refine lv_if_eq (tgt := 28) G.1 G.2.1 dX12_winters_4 (by decide) (fun c_1 => ?_) (fun c_1 => ?_)
  · skip
    refine lv_iconst (v := (-1)) G.1 G.2.1 dX12_winters_28 (by decide) ?_
    exact py_iret G hr rfl hlk hw rfl dX12_winters_29
  · skip
    exact absurd c_1 (by decide)

def w_X12_spring : List Cond := .code yX12_spring cX12_spring 1 (some .int) :: ([Cond.fieldLink RX12 290 "HeadYearModel" "families" "I"] ++ (u_ws RX12 TX12 54 ++ ([])))
theorem in_X12_spring_X12 : ∀ w ∈ u_ws RX12 TX12 54, w ∈ w_X12_spring := fun _ h => List.mem_cons_of_mem _ (List.mem_append_right _ (List.mem_append_left _ h))
set_option maxHeartbeats 4000000 in
set_option maxRecDepth 100000 in
theorem c_X12_spring (l : Launch) (E : py_E) (L : List Nat) (f : py_F) (sz : Nat) (h : Nat) (hM : fr_M E L f h) : Met l yX12_spring w_X12_spring ({ frames := 0, cells := 0, slots := 0, locals := 0 }) (py_Pc E [.ref h] L f sz) (py_Qi E L f sz (fun r _ _ => r = -1)) 0 0 (va_A (va_pl L f) sz) := by
  refine Met.ofW (cc := cX12_spring) (maxL := 1) (ret := (some .int)) (by decide) rfl ?_
  intro p e s m args below meth c s₁ B hml hv
  obtain ⟨rfl, rfl, hw⟩ := py_start hv
  have G : CallFix p m c cX12_spring 1 s _ w_X12_spring RX12 := ⟨B.exec, B.bytes, hml, findClass_of_methodNamed B.named, atoms_spec (ws := w_X12_spring) B.pre⟩
  have hr := B.returns
  have hlk := B.notSynchronized
  have hl := lv_entry ([.ref h]) (n := 1) (Nat.le_of_ble_eq_true rfl)
  rw [lg_entry_eq]
  generalize (lg_sl ([.ref h]) ++ List.replicate (1 - (lg_sl ([.ref h])).length) Slot.unset).toArray = ls at hl ⊢
  have hl : lv_has ls 1 [(0, .ref h)] := hl
  obtain ⟨tp, cd, cl, g1, g2, g3, xs, v32, v33, v34, hh, hxs, hp1, hp2, hp8, hp9, hp13, hp24, hp25, hp29, hp31, hp43, hp53, ⟨hp32, hp33, hp34⟩, htp, hcd, hcl⟩ := id hM
  refine lv_aload_n G.1 G.2.1 dX12_spring_0 rfl (lv_at hl 0 rfl) ?_
  refine py_get (C := RX12) (T := TX12) (N := 54) (k := 25) (v := .int 0) G hw in_X12_spring_X12 rfl hh (by decide) (by decide +kernel) hp25 dX12_spring_1 ?_
  refine lv_if_ne (tgt := 9) G.1 G.2.1 dX12_spring_4 (by decide) (fun c_1 => ?_) (fun c_1 => ?_)
  · skip
    exact absurd c_1 (by decide)
  · skip
    refine lv_iconst (v := (-1)) G.1 G.2.1 dX12_spring_7 (by decide) ?_
    exact py_iret G hr rfl hlk hw rfl dX12_spring_8

def w_X12_buy : List Cond := .code yX12_buy cX12_buy 4 (some .int) :: ([Cond.methodLink RX12 347 yX12_isFamily, Cond.instanceMethod yX12_isFamily, Cond.selects RX12 yX12_isFamily yX12_isFamily, Cond.initialized RX12] ++ (w_X12_isFamily ++ ([])))
theorem gg_X12_buy_X12_isFamily : GoodIn w_X12_buy w_X12_isFamily := goodIn_sub (fun _ h => List.mem_cons_of_mem _ (List.mem_append_right _ (List.mem_append_left _ h))) (by decide +kernel)
theorem g_X12_buy_X12_isFamily_347 : GoodIn w_X12_buy (wsV RX12 347 RX12 yX12_isFamily w_X12_isFamily) := goodIn_app (goodIn_of _ (by decide +kernel)) gg_X12_buy_X12_isFamily
set_option maxHeartbeats 4000000 in
set_option maxRecDepth 100000 in
theorem c_X12_buy (l : Launch) (E : py_E) (L : List Nat) (f : py_F) (sz : Nat) (h : Nat) (a : Int32) (b : Int32) (hM : fr_M E L f h) : Met l yX12_buy w_X12_buy ({ frames := 2, cells := 0, slots := 0, locals := 43 }) (py_Pc E [.ref h, .int a, .int b] L f sz) (py_Qi E L f sz (fun r _ _ => r = -1)) 0 0 (va_A (va_pl L f) sz) := by
  refine Met.ofW (cc := cX12_buy) (maxL := 4) (ret := (some .int)) (by decide) rfl ?_
  intro p e s m args below meth c s₁ B hml hv
  obtain ⟨rfl, rfl, hw⟩ := py_start hv
  have G : CallFix p m c cX12_buy 4 s _ w_X12_buy RX12 := ⟨B.exec, B.bytes, hml, findClass_of_methodNamed B.named, atoms_spec (ws := w_X12_buy) B.pre⟩
  have hr := B.returns
  have hlk := B.notSynchronized
  have hl := lv_entry ([.ref h, .int a, .int b]) (n := 4) (Nat.le_of_ble_eq_true rfl)
  rw [lg_entry_eq]
  generalize (lg_sl ([.ref h, .int a, .int b]) ++ List.replicate (4 - (lg_sl ([.ref h, .int a, .int b])).length) Slot.unset).toArray = ls at hl ⊢
  have hl : lv_has ls 4 [(0, .ref h), (1, .int a), (2, .int b)] := hl
  obtain ⟨tp, cd, cl, g1, g2, g3, xs, v32, v33, v34, hh, hxs, hp1, hp2, hp8, hp9, hp13, hp24, hp25, hp29, hp31, hp43, hp53, ⟨hp32, hp33, hp34⟩, htp, hcd, hcl⟩ := id hM
  refine lv_aload_n G.1 G.2.1 dX12_buy_0 rfl (lv_at hl 0 rfl) ?_
  refine lv_iload_n G.1 G.2.1 dX12_buy_1 rfl (lv_at hl 1 rfl) ?_
  refine py_calli hw (va_runV (As := [.int a]) (rest := []) G (c_X12_isFamily l E L f s.heap.size h a hM) (cwV 1 G.2.2.2.2 g_X12_buy_X12_isFamily_347 rfl rfl rfl (by decide +kernel) ⟨(Nat.le_of_ble_eq_true rfl), (Nat.le_of_ble_eq_true rfl)⟩) (py_preV hw (C := RX12) (T := TX12) (N := 54) rfl hh) rfl rfl hl.1 rfl (lv_room (Nat.le_of_ble_eq_true rfl)) dX12_buy_2 ⟨(Nat.le_of_ble_eq_true rfl), (Nat.le_of_ble_eq_true rfl)⟩) (fun r_5 L_1 f_2 H_3 locs hp_4 hw => ?_)
  obtain ⟨rfl, rfl, rfl⟩ := hp_4
  refine lv_if_eq (tgt := 57) G.1 G.2.1 dX12_buy_5 (by decide) (fun c_6 => ?_) (fun c_6 => ?_)
  · skip
    refine lv_iconst (v := (-1)) G.1 G.2.1 dX12_buy_57 (by decide) ?_
    exact py_iret G hr rfl hlk hw rfl dX12_buy_58
  · skip
    exact absurd c_6 (by decide)

def w_X12_undo : List Cond := .code yX12_undo cX12_undo 2 (some .int) :: ([Cond.fieldLink RX12 312 "HeadYearModel" "buys" "I"] ++ (u_ws RX12 TX12 54 ++ ([])))
theorem in_X12_undo_X12 : ∀ w ∈ u_ws RX12 TX12 54, w ∈ w_X12_undo := fun _ h => List.mem_cons_of_mem _ (List.mem_append_right _ (List.mem_append_left _ h))
set_option maxHeartbeats 4000000 in
set_option maxRecDepth 100000 in
theorem c_X12_undo (l : Launch) (E : py_E) (L : List Nat) (f : py_F) (sz : Nat) (h : Nat) (hM : fr_M E L f h) : Met l yX12_undo w_X12_undo ({ frames := 0, cells := 0, slots := 0, locals := 0 }) (py_Pc E [.ref h] L f sz) (py_Qi E L f sz (fun r _ _ => r = -1)) 0 0 (va_A (va_pl L f) sz) := by
  refine Met.ofW (cc := cX12_undo) (maxL := 2) (ret := (some .int)) (by decide) rfl ?_
  intro p e s m args below meth c s₁ B hml hv
  obtain ⟨rfl, rfl, hw⟩ := py_start hv
  have G : CallFix p m c cX12_undo 2 s _ w_X12_undo RX12 := ⟨B.exec, B.bytes, hml, findClass_of_methodNamed B.named, atoms_spec (ws := w_X12_undo) B.pre⟩
  have hr := B.returns
  have hlk := B.notSynchronized
  have hl := lv_entry ([.ref h]) (n := 2) (Nat.le_of_ble_eq_true rfl)
  rw [lg_entry_eq]
  generalize (lg_sl ([.ref h]) ++ List.replicate (2 - (lg_sl ([.ref h])).length) Slot.unset).toArray = ls at hl ⊢
  have hl : lv_has ls 2 [(0, .ref h)] := hl
  obtain ⟨tp, cd, cl, g1, g2, g3, xs, v32, v33, v34, hh, hxs, hp1, hp2, hp8, hp9, hp13, hp24, hp25, hp29, hp31, hp43, hp53, ⟨hp32, hp33, hp34⟩, htp, hcd, hcl⟩ := id hM
  refine lv_aload_n G.1 G.2.1 dX12_undo_0 rfl (lv_at hl 0 rfl) ?_
  refine py_get (C := RX12) (T := TX12) (N := 54) (k := 43) (v := .int 0) G hw in_X12_undo_X12 rfl hh (by decide) (by decide +kernel) hp43 dX12_undo_1 ?_
  refine lv_if_ne (tgt := 9) G.1 G.2.1 dX12_undo_4 (by decide) (fun c_1 => ?_) (fun c_1 => ?_)
  · skip
    exact absurd c_1 (by decide)
  · skip
    refine lv_iconst (v := (-1)) G.1 G.2.1 dX12_undo_7 (by decide) ?_
    exact py_iret G hr rfl hlk hw rfl dX12_undo_8

def w_X12_hush : List Cond := .code yX12_hush cX12_hush 3 (some .boolean) :: ([Cond.methodLink RX12 347 yX12_isFamily, Cond.instanceMethod yX12_isFamily, Cond.selects RX12 yX12_isFamily yX12_isFamily, Cond.initialized RX12] ++ (w_X12_isFamily ++ ([])))
theorem gg_X12_hush_X12_isFamily : GoodIn w_X12_hush w_X12_isFamily := goodIn_sub (fun _ h => List.mem_cons_of_mem _ (List.mem_append_right _ (List.mem_append_left _ h))) (by decide +kernel)
theorem g_X12_hush_X12_isFamily_347 : GoodIn w_X12_hush (wsV RX12 347 RX12 yX12_isFamily w_X12_isFamily) := goodIn_app (goodIn_of _ (by decide +kernel)) gg_X12_hush_X12_isFamily
set_option maxHeartbeats 4000000 in
set_option maxRecDepth 100000 in
theorem c_X12_hush (l : Launch) (E : py_E) (L : List Nat) (f : py_F) (sz : Nat) (h : Nat) (a : Int32) (b : Int32) (hM : fr_M E L f h) : Met l yX12_hush w_X12_hush ({ frames := 2, cells := 0, slots := 0, locals := 43 }) (py_Pc E [.ref h, .int a, .int b] L f sz) (py_Qi E L f sz (fun r _ _ => r = 0)) 0 0 (va_A (va_pl L f) sz) := by
  refine Met.ofW (cc := cX12_hush) (maxL := 3) (ret := (some .boolean)) (by decide) rfl ?_
  intro p e s m args below meth c s₁ B hml hv
  obtain ⟨rfl, rfl, hw⟩ := py_start hv
  have G : CallFix p m c cX12_hush 3 s _ w_X12_hush RX12 := ⟨B.exec, B.bytes, hml, findClass_of_methodNamed B.named, atoms_spec (ws := w_X12_hush) B.pre⟩
  have hr := B.returns
  have hlk := B.notSynchronized
  have hl := lv_entry ([.ref h, .int a, .int b]) (n := 3) (Nat.le_of_ble_eq_true rfl)
  rw [lg_entry_eq]
  generalize (lg_sl ([.ref h, .int a, .int b]) ++ List.replicate (3 - (lg_sl ([.ref h, .int a, .int b])).length) Slot.unset).toArray = ls at hl ⊢
  have hl : lv_has ls 3 [(0, .ref h), (1, .int a), (2, .int b)] := hl
  obtain ⟨tp, cd, cl, g1, g2, g3, xs, v32, v33, v34, hh, hxs, hp1, hp2, hp8, hp9, hp13, hp24, hp25, hp29, hp31, hp43, hp53, ⟨hp32, hp33, hp34⟩, htp, hcd, hcl⟩ := id hM
  refine lv_aload_n G.1 G.2.1 dX12_hush_0 rfl (lv_at hl 0 rfl) ?_
  refine lv_iload_n G.1 G.2.1 dX12_hush_1 rfl (lv_at hl 1 rfl) ?_
  refine py_calli hw (va_runV (As := [.int a]) (rest := []) G (c_X12_isFamily l E L f s.heap.size h a hM) (cwV 1 G.2.2.2.2 g_X12_hush_X12_isFamily_347 rfl rfl rfl (by decide +kernel) ⟨(Nat.le_of_ble_eq_true rfl), (Nat.le_of_ble_eq_true rfl)⟩) (py_preV hw (C := RX12) (T := TX12) (N := 54) rfl hh) rfl rfl hl.1 rfl (lv_room (Nat.le_of_ble_eq_true rfl)) dX12_hush_2 ⟨(Nat.le_of_ble_eq_true rfl), (Nat.le_of_ble_eq_true rfl)⟩) (fun r_5 L_1 f_2 H_3 locs hp_4 hw => ?_)
  obtain ⟨rfl, rfl, rfl⟩ := hp_4
  refine lv_if_eq (tgt := 36) G.1 G.2.1 dX12_hush_5 (by decide) (fun c_6 => ?_) (fun c_6 => ?_)
  · skip
    refine lv_iconst (v := 0) G.1 G.2.1 dX12_hush_36 (by decide) ?_
    exact py_iret G hr rfl hlk hw rfl dX12_hush_37
  · skip
    exact absurd c_6 (by decide)

def w_X12_waiting : List Cond := .code yX12_waiting cX12_waiting 1 (some .int) :: ([Cond.fieldLink RX12 290 "HeadYearModel" "families" "I"] ++ (u_ws RX12 TX12 54 ++ ([])))
theorem in_X12_waiting_X12 : ∀ w ∈ u_ws RX12 TX12 54, w ∈ w_X12_waiting := fun _ h => List.mem_cons_of_mem _ (List.mem_append_right _ (List.mem_append_left _ h))
set_option maxHeartbeats 4000000 in
set_option maxRecDepth 100000 in
theorem c_X12_waiting (l : Launch) (E : py_E) (L : List Nat) (f : py_F) (sz : Nat) (h : Nat) (hM : fr_M E L f h) : Met l yX12_waiting w_X12_waiting ({ frames := 0, cells := 0, slots := 0, locals := 0 }) (py_Pc E [.ref h] L f sz) (py_Qi E L f sz (fun r _ _ => r = -1)) 0 0 (va_A (va_pl L f) sz) := by
  refine Met.ofW (cc := cX12_waiting) (maxL := 1) (ret := (some .int)) (by decide) rfl ?_
  intro p e s m args below meth c s₁ B hml hv
  obtain ⟨rfl, rfl, hw⟩ := py_start hv
  have G : CallFix p m c cX12_waiting 1 s _ w_X12_waiting RX12 := ⟨B.exec, B.bytes, hml, findClass_of_methodNamed B.named, atoms_spec (ws := w_X12_waiting) B.pre⟩
  have hr := B.returns
  have hlk := B.notSynchronized
  have hl := lv_entry ([.ref h]) (n := 1) (Nat.le_of_ble_eq_true rfl)
  rw [lg_entry_eq]
  generalize (lg_sl ([.ref h]) ++ List.replicate (1 - (lg_sl ([.ref h])).length) Slot.unset).toArray = ls at hl ⊢
  have hl : lv_has ls 1 [(0, .ref h)] := hl
  obtain ⟨tp, cd, cl, g1, g2, g3, xs, v32, v33, v34, hh, hxs, hp1, hp2, hp8, hp9, hp13, hp24, hp25, hp29, hp31, hp43, hp53, ⟨hp32, hp33, hp34⟩, htp, hcd, hcl⟩ := id hM
  refine lv_aload_n G.1 G.2.1 dX12_waiting_0 rfl (lv_at hl 0 rfl) ?_
  refine py_get (C := RX12) (T := TX12) (N := 54) (k := 25) (v := .int 0) G hw in_X12_waiting_X12 rfl hh (by decide) (by decide +kernel) hp25 dX12_waiting_1 ?_
  refine lv_if_ne (tgt := 11) G.1 G.2.1 dX12_waiting_4 (by decide) (fun c_1 => ?_) (fun c_1 => ?_)
  · skip
    exact absurd c_1 (by decide)
  · skip
    refine lv_iconst (v := (-1)) G.1 G.2.1 dX12_waiting_7 (by decide) ?_
    refine lv_goto (tgt := 15) G.1 G.2.1 dX12_waiting_8 (by decide) ?_
    exact py_iret G hr rfl hlk hw rfl dX12_waiting_15

def w_X12_most : List Cond := .code yX12_most cX12_most 5 (some .int) :: ([Cond.fieldLink RX12 290 "HeadYearModel" "families" "I"] ++ (u_ws RX12 TX12 54 ++ ([])))
theorem in_X12_most_X12 : ∀ w ∈ u_ws RX12 TX12 54, w ∈ w_X12_most := fun _ h => List.mem_cons_of_mem _ (List.mem_append_right _ (List.mem_append_left _ h))
set_option maxHeartbeats 4000000 in
set_option maxRecDepth 100000 in
theorem c_X12_most (l : Launch) (E : py_E) (L : List Nat) (f : py_F) (sz : Nat) (h : Nat) (a : Int32) (hM : fr_M E L f h) : Met l yX12_most w_X12_most ({ frames := 0, cells := 0, slots := 0, locals := 0 }) (py_Pc E [.ref h, .int a] L f sz) (py_Qi E L f sz (fun r _ _ => r = -1)) 0 0 (va_A (va_pl L f) sz) := by
  refine Met.ofW (cc := cX12_most) (maxL := 5) (ret := (some .int)) (by decide) rfl ?_
  intro p e s m args below meth c s₁ B hml hv
  obtain ⟨rfl, rfl, hw⟩ := py_start hv
  have G : CallFix p m c cX12_most 5 s _ w_X12_most RX12 := ⟨B.exec, B.bytes, hml, findClass_of_methodNamed B.named, atoms_spec (ws := w_X12_most) B.pre⟩
  have hr := B.returns
  have hlk := B.notSynchronized
  have hl := lv_entry ([.ref h, .int a]) (n := 5) (Nat.le_of_ble_eq_true rfl)
  rw [lg_entry_eq]
  generalize (lg_sl ([.ref h, .int a]) ++ List.replicate (5 - (lg_sl ([.ref h, .int a])).length) Slot.unset).toArray = ls at hl ⊢
  have hl : lv_has ls 5 [(0, .ref h), (1, .int a)] := hl
  obtain ⟨tp, cd, cl, g1, g2, g3, xs, v32, v33, v34, hh, hxs, hp1, hp2, hp8, hp9, hp13, hp24, hp25, hp29, hp31, hp43, hp53, ⟨hp32, hp33, hp34⟩, htp, hcd, hcl⟩ := id hM
  refine lv_aload_n G.1 G.2.1 dX12_most_0 rfl (lv_at hl 0 rfl) ?_
  refine py_get (C := RX12) (T := TX12) (N := 54) (k := 25) (v := .int 0) G hw in_X12_most_X12 rfl hh (by decide) (by decide +kernel) hp25 dX12_most_1 ?_
  refine lv_if_eq (tgt := 16) G.1 G.2.1 dX12_most_4 (by decide) (fun c_1 => ?_) (fun c_1 => ?_)
  · skip
    refine lv_iconst (v := (-1)) G.1 G.2.1 dX12_most_16 (by decide) ?_
    exact py_iret G hr rfl hlk hw rfl dX12_most_17
  · skip
    exact absurd c_1 (by decide)

def w_X12_needs : List Cond := .code yX12_needs cX12_needs 4 (some .int) :: ([Cond.methodLink RX12 347 yX12_isFamily, Cond.instanceMethod yX12_isFamily, Cond.selects RX12 yX12_isFamily yX12_isFamily, Cond.initialized RX12] ++ (w_X12_isFamily ++ ([])))
theorem gg_X12_needs_X12_isFamily : GoodIn w_X12_needs w_X12_isFamily := goodIn_sub (fun _ h => List.mem_cons_of_mem _ (List.mem_append_right _ (List.mem_append_left _ h))) (by decide +kernel)
theorem g_X12_needs_X12_isFamily_347 : GoodIn w_X12_needs (wsV RX12 347 RX12 yX12_isFamily w_X12_isFamily) := goodIn_app (goodIn_of _ (by decide +kernel)) gg_X12_needs_X12_isFamily
set_option maxHeartbeats 4000000 in
set_option maxRecDepth 100000 in
theorem c_X12_needs (l : Launch) (E : py_E) (L : List Nat) (f : py_F) (sz : Nat) (h : Nat) (a : Int32) (hM : fr_M E L f h) : Met l yX12_needs w_X12_needs ({ frames := 2, cells := 0, slots := 0, locals := 43 }) (py_Pc E [.ref h, .int a] L f sz) (py_Qi E L f sz (fun r _ _ => r = -1)) 0 0 (va_A (va_pl L f) sz) := by
  refine Met.ofW (cc := cX12_needs) (maxL := 4) (ret := (some .int)) (by decide) rfl ?_
  intro p e s m args below meth c s₁ B hml hv
  obtain ⟨rfl, rfl, hw⟩ := py_start hv
  have G : CallFix p m c cX12_needs 4 s _ w_X12_needs RX12 := ⟨B.exec, B.bytes, hml, findClass_of_methodNamed B.named, atoms_spec (ws := w_X12_needs) B.pre⟩
  have hr := B.returns
  have hlk := B.notSynchronized
  have hl := lv_entry ([.ref h, .int a]) (n := 4) (Nat.le_of_ble_eq_true rfl)
  rw [lg_entry_eq]
  generalize (lg_sl ([.ref h, .int a]) ++ List.replicate (4 - (lg_sl ([.ref h, .int a])).length) Slot.unset).toArray = ls at hl ⊢
  have hl : lv_has ls 4 [(0, .ref h), (1, .int a)] := hl
  obtain ⟨tp, cd, cl, g1, g2, g3, xs, v32, v33, v34, hh, hxs, hp1, hp2, hp8, hp9, hp13, hp24, hp25, hp29, hp31, hp43, hp53, ⟨hp32, hp33, hp34⟩, htp, hcd, hcl⟩ := id hM
  refine lv_aload_n G.1 G.2.1 dX12_needs_0 rfl (lv_at hl 0 rfl) ?_
  refine lv_iload_n G.1 G.2.1 dX12_needs_1 rfl (lv_at hl 1 rfl) ?_
  refine py_calli hw (va_runV (As := [.int a]) (rest := []) G (c_X12_isFamily l E L f s.heap.size h a hM) (cwV 1 G.2.2.2.2 g_X12_needs_X12_isFamily_347 rfl rfl rfl (by decide +kernel) ⟨(Nat.le_of_ble_eq_true rfl), (Nat.le_of_ble_eq_true rfl)⟩) (py_preV hw (C := RX12) (T := TX12) (N := 54) rfl hh) rfl rfl hl.1 rfl (lv_room (Nat.le_of_ble_eq_true rfl)) dX12_needs_2 ⟨(Nat.le_of_ble_eq_true rfl), (Nat.le_of_ble_eq_true rfl)⟩) (fun r_5 L_1 f_2 H_3 locs hp_4 hw => ?_)
  obtain ⟨rfl, rfl, rfl⟩ := hp_4
  refine lv_if_eq (tgt := 16) G.1 G.2.1 dX12_needs_5 (by decide) (fun c_6 => ?_) (fun c_6 => ?_)
  · skip
    refine lv_iconst (v := (-1)) G.1 G.2.1 dX12_needs_16 (by decide) ?_
    exact py_iret G hr rfl hlk hw rfl dX12_needs_17
  · skip
    exact absurd c_6 (by decide)

def w_X12_tried : List Cond := .code yX12_tried cX12_tried 5 (some .int) :: ([Cond.methodLink RX12 441 yX12_isTrial, Cond.instanceMethod yX12_isTrial, Cond.selects RX12 yX12_isTrial yX12_isTrial, Cond.initialized RX12, Cond.constant RX12 350 (-1000000)] ++ (w_X12_isTrial ++ ([])))
theorem gg_X12_tried_X12_isTrial : GoodIn w_X12_tried w_X12_isTrial := goodIn_sub (fun _ h => List.mem_cons_of_mem _ (List.mem_append_right _ (List.mem_append_left _ h))) (by decide +kernel)
theorem g_X12_tried_X12_isTrial_441 : GoodIn w_X12_tried (wsV RX12 441 RX12 yX12_isTrial w_X12_isTrial) := goodIn_app (goodIn_of _ (by decide +kernel)) gg_X12_tried_X12_isTrial
set_option maxHeartbeats 4000000 in
set_option maxRecDepth 100000 in
theorem c_X12_tried (l : Launch) (E : py_E) (L : List Nat) (f : py_F) (sz : Nat) (h : Nat) (a : Int32) (b : Int32) (q : Int32) (d : Int32) (hM : fr_M E L f h) : Met l yX12_tried w_X12_tried ({ frames := 1, cells := 0, slots := 0, locals := 22 }) (py_Pc E [.ref h, .int a, .int b, .int q, .int d] L f sz) (py_Qi E L f sz (fun r _ _ => r = -1000000)) 0 0 (va_A (va_pl L f) sz) := by
  refine Met.ofW (cc := cX12_tried) (maxL := 5) (ret := (some .int)) (by decide) rfl ?_
  intro p e s m args below meth c s₁ B hml hv
  obtain ⟨rfl, rfl, hw⟩ := py_start hv
  have G : CallFix p m c cX12_tried 5 s _ w_X12_tried RX12 := ⟨B.exec, B.bytes, hml, findClass_of_methodNamed B.named, atoms_spec (ws := w_X12_tried) B.pre⟩
  have hr := B.returns
  have hlk := B.notSynchronized
  have hl := lv_entry ([.ref h, .int a, .int b, .int q, .int d]) (n := 5) (Nat.le_of_ble_eq_true rfl)
  rw [lg_entry_eq]
  generalize (lg_sl ([.ref h, .int a, .int b, .int q, .int d]) ++ List.replicate (5 - (lg_sl ([.ref h, .int a, .int b, .int q, .int d])).length) Slot.unset).toArray = ls at hl ⊢
  have hl : lv_has ls 5 [(0, .ref h), (1, .int a), (2, .int b), (3, .int q), (4, .int d)] := hl
  obtain ⟨tp, cd, cl, g1, g2, g3, xs, v32, v33, v34, hh, hxs, hp1, hp2, hp8, hp9, hp13, hp24, hp25, hp29, hp31, hp43, hp53, ⟨hp32, hp33, hp34⟩, htp, hcd, hcl⟩ := id hM
  refine lv_aload_n G.1 G.2.1 dX12_tried_0 rfl (lv_at hl 0 rfl) ?_
  refine lv_iload_n G.1 G.2.1 dX12_tried_1 rfl (lv_at hl 2 rfl) ?_
  refine lv_iload_n G.1 G.2.1 dX12_tried_2 rfl (lv_at hl 3 rfl) ?_
  refine py_calli hw (va_runV (As := [.int b, .int q]) (rest := []) G (c_X12_isTrial l E L f s.heap.size h b q hM) (cwV 2 G.2.2.2.2 g_X12_tried_X12_isTrial_441 rfl rfl rfl (by decide +kernel) ⟨(Nat.le_of_ble_eq_true rfl), (Nat.le_of_ble_eq_true rfl)⟩) (py_preV hw (C := RX12) (T := TX12) (N := 54) rfl hh) rfl rfl hl.1 rfl (lv_room (Nat.le_of_ble_eq_true rfl)) dX12_tried_3 ⟨(Nat.le_of_ble_eq_true rfl), (Nat.le_of_ble_eq_true rfl)⟩) (fun r_5 L_1 f_2 H_3 locs hp_4 hw => ?_)
  obtain ⟨rfl, rfl, rfl⟩ := hp_4
  refine lv_if_eq (tgt := 45) G.1 G.2.1 dX12_tried_6 (by decide) (fun c_6 => ?_) (fun c_6 => ?_)
  · skip
    refine lv_ldcw (v := (-1000000)) G.1 G.2.1 G.2.2.2.1 (G.2.2.2.2 (Cond.constant RX12 350 (-1000000)) (by decide +kernel)) dX12_tried_45 ?_
    exact py_iret G hr rfl hlk hw rfl dX12_tried_48
  · skip
    exact absurd c_6 (by decide)

def w_X12_reform : List Cond := .code yX12_reform cX12_reform 7 (some .int) :: ([Cond.methodLink RX12 441 yX12_isTrial, Cond.instanceMethod yX12_isTrial, Cond.selects RX12 yX12_isTrial yX12_isTrial, Cond.initialized RX12, Cond.constant RX12 350 (-1000000)] ++ (w_X12_isTrial ++ ([])))
theorem gg_X12_reform_X12_isTrial : GoodIn w_X12_reform w_X12_isTrial := goodIn_sub (fun _ h => List.mem_cons_of_mem _ (List.mem_append_right _ (List.mem_append_left _ h))) (by decide +kernel)
theorem g_X12_reform_X12_isTrial_441 : GoodIn w_X12_reform (wsV RX12 441 RX12 yX12_isTrial w_X12_isTrial) := goodIn_app (goodIn_of _ (by decide +kernel)) gg_X12_reform_X12_isTrial
set_option maxHeartbeats 4000000 in
set_option maxRecDepth 100000 in
theorem c_X12_reform (l : Launch) (E : py_E) (L : List Nat) (f : py_F) (sz : Nat) (h : Nat) (a : Int32) (b : Int32) (hM : fr_M E L f h) : Met l yX12_reform w_X12_reform ({ frames := 1, cells := 0, slots := 0, locals := 22 }) (py_Pc E [.ref h, .int a, .int b] L f sz) (py_Qi E L f sz (fun r _ _ => r = -1000000)) 0 0 (va_A (va_pl L f) sz) := by
  refine Met.ofW (cc := cX12_reform) (maxL := 7) (ret := (some .int)) (by decide) rfl ?_
  intro p e s m args below meth c s₁ B hml hv
  obtain ⟨rfl, rfl, hw⟩ := py_start hv
  have G : CallFix p m c cX12_reform 7 s _ w_X12_reform RX12 := ⟨B.exec, B.bytes, hml, findClass_of_methodNamed B.named, atoms_spec (ws := w_X12_reform) B.pre⟩
  have hr := B.returns
  have hlk := B.notSynchronized
  have hl := lv_entry ([.ref h, .int a, .int b]) (n := 7) (Nat.le_of_ble_eq_true rfl)
  rw [lg_entry_eq]
  generalize (lg_sl ([.ref h, .int a, .int b]) ++ List.replicate (7 - (lg_sl ([.ref h, .int a, .int b])).length) Slot.unset).toArray = ls at hl ⊢
  have hl : lv_has ls 7 [(0, .ref h), (1, .int a), (2, .int b)] := hl
  obtain ⟨tp, cd, cl, g1, g2, g3, xs, v32, v33, v34, hh, hxs, hp1, hp2, hp8, hp9, hp13, hp24, hp25, hp29, hp31, hp43, hp53, ⟨hp32, hp33, hp34⟩, htp, hcd, hcl⟩ := id hM
  refine lv_aload_n G.1 G.2.1 dX12_reform_0 rfl (lv_at hl 0 rfl) ?_
  refine lv_iload_n G.1 G.2.1 dX12_reform_1 rfl (lv_at hl 1 rfl) ?_
  refine lv_iload_n G.1 G.2.1 dX12_reform_2 rfl (lv_at hl 2 rfl) ?_
  refine py_calli hw (va_runV (As := [.int a, .int b]) (rest := []) G (c_X12_isTrial l E L f s.heap.size h a b hM) (cwV 2 G.2.2.2.2 g_X12_reform_X12_isTrial_441 rfl rfl rfl (by decide +kernel) ⟨(Nat.le_of_ble_eq_true rfl), (Nat.le_of_ble_eq_true rfl)⟩) (py_preV hw (C := RX12) (T := TX12) (N := 54) rfl hh) rfl rfl hl.1 rfl (lv_room (Nat.le_of_ble_eq_true rfl)) dX12_reform_3 ⟨(Nat.le_of_ble_eq_true rfl), (Nat.le_of_ble_eq_true rfl)⟩) (fun r_5 L_1 f_2 H_3 locs hp_4 hw => ?_)
  obtain ⟨rfl, rfl, rfl⟩ := hp_4
  refine lv_if_ne (tgt := 13) G.1 G.2.1 dX12_reform_6 (by decide) (fun c_6 => ?_) (fun c_6 => ?_)
  · skip
    exact absurd c_6 (by decide)
  · skip
    refine lv_ldcw (v := (-1000000)) G.1 G.2.1 G.2.2.2.1 (G.2.2.2.2 (Cond.constant RX12 350 (-1000000)) (by decide +kernel)) dX12_reform_9 ?_
    exact py_iret G hr rfl hlk hw rfl dX12_reform_12

def w_X12_diary : List Cond := .code yX12_diary cX12_diary 4 (some .int) :: ([Cond.methodLink RX12 347 yX12_isFamily, Cond.instanceMethod yX12_isFamily, Cond.selects RX12 yX12_isFamily yX12_isFamily, Cond.initialized RX12, Cond.constant RX12 350 (-1000000)] ++ (w_X12_isFamily ++ ([])))
theorem gg_X12_diary_X12_isFamily : GoodIn w_X12_diary w_X12_isFamily := goodIn_sub (fun _ h => List.mem_cons_of_mem _ (List.mem_append_right _ (List.mem_append_left _ h))) (by decide +kernel)
theorem g_X12_diary_X12_isFamily_347 : GoodIn w_X12_diary (wsV RX12 347 RX12 yX12_isFamily w_X12_isFamily) := goodIn_app (goodIn_of _ (by decide +kernel)) gg_X12_diary_X12_isFamily
set_option maxHeartbeats 4000000 in
set_option maxRecDepth 100000 in
theorem c_X12_diary (l : Launch) (E : py_E) (L : List Nat) (f : py_F) (sz : Nat) (h : Nat) (a : Int32) (b : Int32) (q : Int32) (hM : fr_M E L f h) : Met l yX12_diary w_X12_diary ({ frames := 2, cells := 0, slots := 0, locals := 43 }) (py_Pc E [.ref h, .int a, .int b, .int q] L f sz) (py_Qi E L f sz (fun r _ _ => r = -1000000)) 0 0 (va_A (va_pl L f) sz) := by
  refine Met.ofW (cc := cX12_diary) (maxL := 4) (ret := (some .int)) (by decide) rfl ?_
  intro p e s m args below meth c s₁ B hml hv
  obtain ⟨rfl, rfl, hw⟩ := py_start hv
  have G : CallFix p m c cX12_diary 4 s _ w_X12_diary RX12 := ⟨B.exec, B.bytes, hml, findClass_of_methodNamed B.named, atoms_spec (ws := w_X12_diary) B.pre⟩
  have hr := B.returns
  have hlk := B.notSynchronized
  have hl := lv_entry ([.ref h, .int a, .int b, .int q]) (n := 4) (Nat.le_of_ble_eq_true rfl)
  rw [lg_entry_eq]
  generalize (lg_sl ([.ref h, .int a, .int b, .int q]) ++ List.replicate (4 - (lg_sl ([.ref h, .int a, .int b, .int q])).length) Slot.unset).toArray = ls at hl ⊢
  have hl : lv_has ls 4 [(0, .ref h), (1, .int a), (2, .int b), (3, .int q)] := hl
  obtain ⟨tp, cd, cl, g1, g2, g3, xs, v32, v33, v34, hh, hxs, hp1, hp2, hp8, hp9, hp13, hp24, hp25, hp29, hp31, hp43, hp53, ⟨hp32, hp33, hp34⟩, htp, hcd, hcl⟩ := id hM
  refine lv_aload_n G.1 G.2.1 dX12_diary_0 rfl (lv_at hl 0 rfl) ?_
  refine lv_iload_n G.1 G.2.1 dX12_diary_1 rfl (lv_at hl 1 rfl) ?_
  refine py_calli hw (va_runV (As := [.int a]) (rest := []) G (c_X12_isFamily l E L f s.heap.size h a hM) (cwV 1 G.2.2.2.2 g_X12_diary_X12_isFamily_347 rfl rfl rfl (by decide +kernel) ⟨(Nat.le_of_ble_eq_true rfl), (Nat.le_of_ble_eq_true rfl)⟩) (py_preV hw (C := RX12) (T := TX12) (N := 54) rfl hh) rfl rfl hl.1 rfl (lv_room (Nat.le_of_ble_eq_true rfl)) dX12_diary_2 ⟨(Nat.le_of_ble_eq_true rfl), (Nat.le_of_ble_eq_true rfl)⟩) (fun r_5 L_1 f_2 H_3 locs hp_4 hw => ?_)
  obtain ⟨rfl, rfl, rfl⟩ := hp_4
  refine lv_if_eq (tgt := 31) G.1 G.2.1 dX12_diary_5 (by decide) (fun c_6 => ?_) (fun c_6 => ?_)
  · skip
    refine lv_ldcw (v := (-1000000)) G.1 G.2.1 G.2.2.2.1 (G.2.2.2.2 (Cond.constant RX12 350 (-1000000)) (by decide +kernel)) dX12_diary_31 ?_
    exact py_iret G hr rfl hlk hw rfl dX12_diary_34
  · skip
    exact absurd c_6 (by decide)

def w_X12_climb : List Cond := .code yX12_climb cX12_climb 9 (some .int) :: ([Cond.methodLink RX12 347 yX12_isFamily, Cond.instanceMethod yX12_isFamily, Cond.selects RX12 yX12_isFamily yX12_isFamily, Cond.initialized RX12, Cond.constant RX12 350 (-1000000)] ++ (w_X12_isFamily ++ ([])))
theorem gg_X12_climb_X12_isFamily : GoodIn w_X12_climb w_X12_isFamily := goodIn_sub (fun _ h => List.mem_cons_of_mem _ (List.mem_append_right _ (List.mem_append_left _ h))) (by decide +kernel)
theorem g_X12_climb_X12_isFamily_347 : GoodIn w_X12_climb (wsV RX12 347 RX12 yX12_isFamily w_X12_isFamily) := goodIn_app (goodIn_of _ (by decide +kernel)) gg_X12_climb_X12_isFamily
set_option maxHeartbeats 4000000 in
set_option maxRecDepth 100000 in
theorem c_X12_climb (l : Launch) (E : py_E) (L : List Nat) (f : py_F) (sz : Nat) (h : Nat) (a : Int32) (b : Int32) (hM : fr_M E L f h) : Met l yX12_climb w_X12_climb ({ frames := 2, cells := 0, slots := 0, locals := 43 }) (py_Pc E [.ref h, .int a, .int b] L f sz) (py_Qi E L f sz (fun r _ _ => r = -1000000)) 0 0 (va_A (va_pl L f) sz) := by
  refine Met.ofW (cc := cX12_climb) (maxL := 9) (ret := (some .int)) (by decide) rfl ?_
  intro p e s m args below meth c s₁ B hml hv
  obtain ⟨rfl, rfl, hw⟩ := py_start hv
  have G : CallFix p m c cX12_climb 9 s _ w_X12_climb RX12 := ⟨B.exec, B.bytes, hml, findClass_of_methodNamed B.named, atoms_spec (ws := w_X12_climb) B.pre⟩
  have hr := B.returns
  have hlk := B.notSynchronized
  have hl := lv_entry ([.ref h, .int a, .int b]) (n := 9) (Nat.le_of_ble_eq_true rfl)
  rw [lg_entry_eq]
  generalize (lg_sl ([.ref h, .int a, .int b]) ++ List.replicate (9 - (lg_sl ([.ref h, .int a, .int b])).length) Slot.unset).toArray = ls at hl ⊢
  have hl : lv_has ls 9 [(0, .ref h), (1, .int a), (2, .int b)] := hl
  obtain ⟨tp, cd, cl, g1, g2, g3, xs, v32, v33, v34, hh, hxs, hp1, hp2, hp8, hp9, hp13, hp24, hp25, hp29, hp31, hp43, hp53, ⟨hp32, hp33, hp34⟩, htp, hcd, hcl⟩ := id hM
  refine lv_aload_n G.1 G.2.1 dX12_climb_0 rfl (lv_at hl 0 rfl) ?_
  refine lv_iload_n G.1 G.2.1 dX12_climb_1 rfl (lv_at hl 1 rfl) ?_
  refine py_calli hw (va_runV (As := [.int a]) (rest := []) G (c_X12_isFamily l E L f s.heap.size h a hM) (cwV 1 G.2.2.2.2 g_X12_climb_X12_isFamily_347 rfl rfl rfl (by decide +kernel) ⟨(Nat.le_of_ble_eq_true rfl), (Nat.le_of_ble_eq_true rfl)⟩) (py_preV hw (C := RX12) (T := TX12) (N := 54) rfl hh) rfl rfl hl.1 rfl (lv_room (Nat.le_of_ble_eq_true rfl)) dX12_climb_2 ⟨(Nat.le_of_ble_eq_true rfl), (Nat.le_of_ble_eq_true rfl)⟩) (fun r_5 L_1 f_2 H_3 locs hp_4 hw => ?_)
  obtain ⟨rfl, rfl, rfl⟩ := hp_4
  refine lv_if_eq (tgt := 17) G.1 G.2.1 dX12_climb_5 (by decide) (fun c_6 => ?_) (fun c_6 => ?_)
  · skip
    refine lv_ldcw (v := (-1000000)) G.1 G.2.1 G.2.2.2.1 (G.2.2.2.2 (Cond.constant RX12 350 (-1000000)) (by decide +kernel)) dX12_climb_17 ?_
    exact py_iret G hr rfl hlk hw rfl dX12_climb_20
  · skip
    exact absurd c_6 (by decide)

def w_X12_full : List Cond := .code yX12_full cX12_full 3 (some .int) :: ([Cond.fieldLink RX12 290 "HeadYearModel" "families" "I"] ++ (u_ws RX12 TX12 54 ++ ([])))
theorem in_X12_full_X12 : ∀ w ∈ u_ws RX12 TX12 54, w ∈ w_X12_full := fun _ h => List.mem_cons_of_mem _ (List.mem_append_right _ (List.mem_append_left _ h))
set_option maxHeartbeats 4000000 in
set_option maxRecDepth 100000 in
theorem c_X12_full (l : Launch) (E : py_E) (L : List Nat) (f : py_F) (sz : Nat) (h : Nat) (hM : fr_M E L f h) : Met l yX12_full w_X12_full ({ frames := 0, cells := 0, slots := 0, locals := 0 }) (py_Pc E [.ref h] L f sz) (py_Qi E L f sz (fun r _ _ => r = -1)) 0 0 (va_A (va_pl L f) sz) := by
  refine Met.ofW (cc := cX12_full) (maxL := 3) (ret := (some .int)) (by decide) rfl ?_
  intro p e s m args below meth c s₁ B hml hv
  obtain ⟨rfl, rfl, hw⟩ := py_start hv
  have G : CallFix p m c cX12_full 3 s _ w_X12_full RX12 := ⟨B.exec, B.bytes, hml, findClass_of_methodNamed B.named, atoms_spec (ws := w_X12_full) B.pre⟩
  have hr := B.returns
  have hlk := B.notSynchronized
  have hl := lv_entry ([.ref h]) (n := 3) (Nat.le_of_ble_eq_true rfl)
  rw [lg_entry_eq]
  generalize (lg_sl ([.ref h]) ++ List.replicate (3 - (lg_sl ([.ref h])).length) Slot.unset).toArray = ls at hl ⊢
  have hl : lv_has ls 3 [(0, .ref h)] := hl
  obtain ⟨tp, cd, cl, g1, g2, g3, xs, v32, v33, v34, hh, hxs, hp1, hp2, hp8, hp9, hp13, hp24, hp25, hp29, hp31, hp43, hp53, ⟨hp32, hp33, hp34⟩, htp, hcd, hcl⟩ := id hM
  refine lv_aload_n G.1 G.2.1 dX12_full_0 rfl (lv_at hl 0 rfl) ?_
  refine py_get (C := RX12) (T := TX12) (N := 54) (k := 25) (v := .int 0) G hw in_X12_full_X12 rfl hh (by decide) (by decide +kernel) hp25 dX12_full_1 ?_
  refine lv_if_ne (tgt := 9) G.1 G.2.1 dX12_full_4 (by decide) (fun c_1 => ?_) (fun c_1 => ?_)
  · skip
    exact absurd c_1 (by decide)
  · skip
    refine lv_iconst (v := (-1)) G.1 G.2.1 dX12_full_7 (by decide) ?_
    exact py_iret G hr rfl hlk hw rfl dX12_full_8

def w_X12_hungry : List Cond := .code yX12_hungry cX12_hungry 5 (some .int) :: ([Cond.fieldLink RX12 290 "HeadYearModel" "families" "I"] ++ (u_ws RX12 TX12 54 ++ ([])))
theorem in_X12_hungry_X12 : ∀ w ∈ u_ws RX12 TX12 54, w ∈ w_X12_hungry := fun _ h => List.mem_cons_of_mem _ (List.mem_append_right _ (List.mem_append_left _ h))
set_option maxHeartbeats 4000000 in
set_option maxRecDepth 100000 in
theorem c_X12_hungry (l : Launch) (E : py_E) (L : List Nat) (f : py_F) (sz : Nat) (h : Nat) (a : Int32) (hM : fr_M E L f h) : Met l yX12_hungry w_X12_hungry ({ frames := 0, cells := 0, slots := 0, locals := 0 }) (py_Pc E [.ref h, .int a] L f sz) (py_Qi E L f sz (fun r _ _ => r = -1)) 0 0 (va_A (va_pl L f) sz) := by
  refine Met.ofW (cc := cX12_hungry) (maxL := 5) (ret := (some .int)) (by decide) rfl ?_
  intro p e s m args below meth c s₁ B hml hv
  obtain ⟨rfl, rfl, hw⟩ := py_start hv
  have G : CallFix p m c cX12_hungry 5 s _ w_X12_hungry RX12 := ⟨B.exec, B.bytes, hml, findClass_of_methodNamed B.named, atoms_spec (ws := w_X12_hungry) B.pre⟩
  have hr := B.returns
  have hlk := B.notSynchronized
  have hl := lv_entry ([.ref h, .int a]) (n := 5) (Nat.le_of_ble_eq_true rfl)
  rw [lg_entry_eq]
  generalize (lg_sl ([.ref h, .int a]) ++ List.replicate (5 - (lg_sl ([.ref h, .int a])).length) Slot.unset).toArray = ls at hl ⊢
  have hl : lv_has ls 5 [(0, .ref h), (1, .int a)] := hl
  obtain ⟨tp, cd, cl, g1, g2, g3, xs, v32, v33, v34, hh, hxs, hp1, hp2, hp8, hp9, hp13, hp24, hp25, hp29, hp31, hp43, hp53, ⟨hp32, hp33, hp34⟩, htp, hcd, hcl⟩ := id hM
  refine lv_aload_n G.1 G.2.1 dX12_hungry_0 rfl (lv_at hl 0 rfl) ?_
  refine py_get (C := RX12) (T := TX12) (N := 54) (k := 25) (v := .int 0) G hw in_X12_hungry_X12 rfl hh (by decide) (by decide +kernel) hp25 dX12_hungry_1 ?_
  refine lv_if_eq (tgt := 16) G.1 G.2.1 dX12_hungry_4 (by decide) (fun c_1 => ?_) (fun c_1 => ?_)
  · skip
    refine lv_iconst (v := (-1)) G.1 G.2.1 dX12_hungry_16 (by decide) ?_
    exact py_iret G hr rfl hlk hw rfl dX12_hungry_17
  · skip
    exact absurd c_1 (by decide)

def w_X12_rank : List Cond := .code yX12_rank cX12_rank 5 (some .int) :: ([Cond.fieldLink RX12 290 "HeadYearModel" "families" "I"] ++ (u_ws RX12 TX12 54 ++ ([])))
theorem in_X12_rank_X12 : ∀ w ∈ u_ws RX12 TX12 54, w ∈ w_X12_rank := fun _ h => List.mem_cons_of_mem _ (List.mem_append_right _ (List.mem_append_left _ h))
set_option maxHeartbeats 4000000 in
set_option maxRecDepth 100000 in
theorem c_X12_rank (l : Launch) (E : py_E) (L : List Nat) (f : py_F) (sz : Nat) (h : Nat) (a : Int32) (hM : fr_M E L f h) : Met l yX12_rank w_X12_rank ({ frames := 0, cells := 0, slots := 0, locals := 0 }) (py_Pc E [.ref h, .int a] L f sz) (py_Qi E L f sz (fun r _ _ => r = -1)) 0 0 (va_A (va_pl L f) sz) := by
  refine Met.ofW (cc := cX12_rank) (maxL := 5) (ret := (some .int)) (by decide) rfl ?_
  intro p e s m args below meth c s₁ B hml hv
  obtain ⟨rfl, rfl, hw⟩ := py_start hv
  have G : CallFix p m c cX12_rank 5 s _ w_X12_rank RX12 := ⟨B.exec, B.bytes, hml, findClass_of_methodNamed B.named, atoms_spec (ws := w_X12_rank) B.pre⟩
  have hr := B.returns
  have hlk := B.notSynchronized
  have hl := lv_entry ([.ref h, .int a]) (n := 5) (Nat.le_of_ble_eq_true rfl)
  rw [lg_entry_eq]
  generalize (lg_sl ([.ref h, .int a]) ++ List.replicate (5 - (lg_sl ([.ref h, .int a])).length) Slot.unset).toArray = ls at hl ⊢
  have hl : lv_has ls 5 [(0, .ref h), (1, .int a)] := hl
  obtain ⟨tp, cd, cl, g1, g2, g3, xs, v32, v33, v34, hh, hxs, hp1, hp2, hp8, hp9, hp13, hp24, hp25, hp29, hp31, hp43, hp53, ⟨hp32, hp33, hp34⟩, htp, hcd, hcl⟩ := id hM
  refine lv_iconst (v := 0) G.1 G.2.1 dX12_rank_0 (by decide) ?_
  refine lv_istore_n (lv' := [(2, .int 0), (0, .ref h), (1, .int a)]) G.1 G.2.1 dX12_rank_1 rfl hl (by decide) rfl (fun ls hl => ?_)
  refine lv_iload_n G.1 G.2.1 dX12_rank_2 rfl (lv_at hl 0 rfl) ?_
  refine lv_aload_n G.1 G.2.1 dX12_rank_3 rfl (lv_at hl 1 rfl) ?_
  refine py_get (C := RX12) (T := TX12) (N := 54) (k := 25) (v := .int 0) G hw in_X12_rank_X12 rfl hh (by decide) (by decide +kernel) hp25 dX12_rank_4 ?_
  refine lv_icmp_ge (tgt := 89) G.1 G.2.1 dX12_rank_7 (by decide) (fun c_1 => ?_) (fun c_1 => ?_)
  · skip
    refine lv_iconst (v := (-1)) G.1 G.2.1 dX12_rank_89 (by decide) ?_
    exact py_iret G hr rfl hlk hw rfl dX12_rank_90
  · skip
    exact absurd c_1 (by decide)

def w_X12_met : List Cond := .code yX12_met cX12_met 7 (some .int) :: ([Cond.methodLink RX12 347 yX12_isFamily, Cond.instanceMethod yX12_isFamily, Cond.selects RX12 yX12_isFamily yX12_isFamily, Cond.initialized RX12, Cond.constant RX12 350 (-1000000)] ++ (w_X12_isFamily ++ ([])))
theorem gg_X12_met_X12_isFamily : GoodIn w_X12_met w_X12_isFamily := goodIn_sub (fun _ h => List.mem_cons_of_mem _ (List.mem_append_right _ (List.mem_append_left _ h))) (by decide +kernel)
theorem g_X12_met_X12_isFamily_347 : GoodIn w_X12_met (wsV RX12 347 RX12 yX12_isFamily w_X12_isFamily) := goodIn_app (goodIn_of _ (by decide +kernel)) gg_X12_met_X12_isFamily
set_option maxHeartbeats 4000000 in
set_option maxRecDepth 100000 in
theorem c_X12_met (l : Launch) (E : py_E) (L : List Nat) (f : py_F) (sz : Nat) (h : Nat) (a : Int32) (b : Int32) (q : Int32) (hM : fr_M E L f h) : Met l yX12_met w_X12_met ({ frames := 2, cells := 0, slots := 0, locals := 43 }) (py_Pc E [.ref h, .int a, .int b, .int q] L f sz) (py_Qi E L f sz (fun r _ _ => r = -1000000)) 0 0 (va_A (va_pl L f) sz) := by
  refine Met.ofW (cc := cX12_met) (maxL := 7) (ret := (some .int)) (by decide) rfl ?_
  intro p e s m args below meth c s₁ B hml hv
  obtain ⟨rfl, rfl, hw⟩ := py_start hv
  have G : CallFix p m c cX12_met 7 s _ w_X12_met RX12 := ⟨B.exec, B.bytes, hml, findClass_of_methodNamed B.named, atoms_spec (ws := w_X12_met) B.pre⟩
  have hr := B.returns
  have hlk := B.notSynchronized
  have hl := lv_entry ([.ref h, .int a, .int b, .int q]) (n := 7) (Nat.le_of_ble_eq_true rfl)
  rw [lg_entry_eq]
  generalize (lg_sl ([.ref h, .int a, .int b, .int q]) ++ List.replicate (7 - (lg_sl ([.ref h, .int a, .int b, .int q])).length) Slot.unset).toArray = ls at hl ⊢
  have hl : lv_has ls 7 [(0, .ref h), (1, .int a), (2, .int b), (3, .int q)] := hl
  obtain ⟨tp, cd, cl, g1, g2, g3, xs, v32, v33, v34, hh, hxs, hp1, hp2, hp8, hp9, hp13, hp24, hp25, hp29, hp31, hp43, hp53, ⟨hp32, hp33, hp34⟩, htp, hcd, hcl⟩ := id hM
  refine lv_aload_n G.1 G.2.1 dX12_met_0 rfl (lv_at hl 0 rfl) ?_
  refine lv_iload_n G.1 G.2.1 dX12_met_1 rfl (lv_at hl 1 rfl) ?_
  refine py_calli hw (va_runV (As := [.int a]) (rest := []) G (c_X12_isFamily l E L f s.heap.size h a hM) (cwV 1 G.2.2.2.2 g_X12_met_X12_isFamily_347 rfl rfl rfl (by decide +kernel) ⟨(Nat.le_of_ble_eq_true rfl), (Nat.le_of_ble_eq_true rfl)⟩) (py_preV hw (C := RX12) (T := TX12) (N := 54) rfl hh) rfl rfl hl.1 rfl (lv_room (Nat.le_of_ble_eq_true rfl)) dX12_met_2 ⟨(Nat.le_of_ble_eq_true rfl), (Nat.le_of_ble_eq_true rfl)⟩) (fun r_5 L_1 f_2 H_3 locs hp_4 hw => ?_)
  obtain ⟨rfl, rfl, rfl⟩ := hp_4
  refine lv_if_eq (tgt := 30) G.1 G.2.1 dX12_met_5 (by decide) (fun c_6 => ?_) (fun c_6 => ?_)
  · skip
    refine lv_ldcw (v := (-1000000)) G.1 G.2.1 G.2.2.2.1 (G.2.2.2.2 (Cond.constant RX12 350 (-1000000)) (by decide +kernel)) dX12_met_30 ?_
    exact py_iret G hr rfl hlk hw rfl dX12_met_33
  · skip
    exact absurd c_6 (by decide)

def w_X12_leap : List Cond := .code yX12_leap cX12_leap 6 (some .int) :: ([Cond.methodLink RX12 347 yX12_isFamily, Cond.instanceMethod yX12_isFamily, Cond.selects RX12 yX12_isFamily yX12_isFamily, Cond.initialized RX12, Cond.constant RX12 350 (-1000000)] ++ (w_X12_isFamily ++ ([])))
theorem gg_X12_leap_X12_isFamily : GoodIn w_X12_leap w_X12_isFamily := goodIn_sub (fun _ h => List.mem_cons_of_mem _ (List.mem_append_right _ (List.mem_append_left _ h))) (by decide +kernel)
theorem g_X12_leap_X12_isFamily_347 : GoodIn w_X12_leap (wsV RX12 347 RX12 yX12_isFamily w_X12_isFamily) := goodIn_app (goodIn_of _ (by decide +kernel)) gg_X12_leap_X12_isFamily
set_option maxHeartbeats 4000000 in
set_option maxRecDepth 100000 in
theorem c_X12_leap (l : Launch) (E : py_E) (L : List Nat) (f : py_F) (sz : Nat) (h : Nat) (a : Int32) (hM : fr_M E L f h) : Met l yX12_leap w_X12_leap ({ frames := 2, cells := 0, slots := 0, locals := 43 }) (py_Pc E [.ref h, .int a] L f sz) (py_Qi E L f sz (fun r _ _ => r = -1000000)) 0 0 (va_A (va_pl L f) sz) := by
  refine Met.ofW (cc := cX12_leap) (maxL := 6) (ret := (some .int)) (by decide) rfl ?_
  intro p e s m args below meth c s₁ B hml hv
  obtain ⟨rfl, rfl, hw⟩ := py_start hv
  have G : CallFix p m c cX12_leap 6 s _ w_X12_leap RX12 := ⟨B.exec, B.bytes, hml, findClass_of_methodNamed B.named, atoms_spec (ws := w_X12_leap) B.pre⟩
  have hr := B.returns
  have hlk := B.notSynchronized
  have hl := lv_entry ([.ref h, .int a]) (n := 6) (Nat.le_of_ble_eq_true rfl)
  rw [lg_entry_eq]
  generalize (lg_sl ([.ref h, .int a]) ++ List.replicate (6 - (lg_sl ([.ref h, .int a])).length) Slot.unset).toArray = ls at hl ⊢
  have hl : lv_has ls 6 [(0, .ref h), (1, .int a)] := hl
  obtain ⟨tp, cd, cl, g1, g2, g3, xs, v32, v33, v34, hh, hxs, hp1, hp2, hp8, hp9, hp13, hp24, hp25, hp29, hp31, hp43, hp53, ⟨hp32, hp33, hp34⟩, htp, hcd, hcl⟩ := id hM
  refine lv_aload_n G.1 G.2.1 dX12_leap_0 rfl (lv_at hl 0 rfl) ?_
  refine lv_iload_n G.1 G.2.1 dX12_leap_1 rfl (lv_at hl 1 rfl) ?_
  refine py_calli hw (va_runV (As := [.int a]) (rest := []) G (c_X12_isFamily l E L f s.heap.size h a hM) (cwV 1 G.2.2.2.2 g_X12_leap_X12_isFamily_347 rfl rfl rfl (by decide +kernel) ⟨(Nat.le_of_ble_eq_true rfl), (Nat.le_of_ble_eq_true rfl)⟩) (py_preV hw (C := RX12) (T := TX12) (N := 54) rfl hh) rfl rfl hl.1 rfl (lv_room (Nat.le_of_ble_eq_true rfl)) dX12_leap_2 ⟨(Nat.le_of_ble_eq_true rfl), (Nat.le_of_ble_eq_true rfl)⟩) (fun r_5 L_1 f_2 H_3 locs hp_4 hw => ?_)
  obtain ⟨rfl, rfl, rfl⟩ := hp_4
  refine lv_if_ne (tgt := 12) G.1 G.2.1 dX12_leap_5 (by decide) (fun c_6 => ?_) (fun c_6 => ?_)
  · skip
    exact absurd c_6 (by decide)
  · skip
    refine lv_ldcw (v := (-1000000)) G.1 G.2.1 G.2.2.2.1 (G.2.2.2.2 (Cond.constant RX12 350 (-1000000)) (by decide +kernel)) dX12_leap_8 ?_
    exact py_iret G hr rfl hlk hw rfl dX12_leap_11

def w_X12_leanest : List Cond := .code yX12_leanest cX12_leanest 4 (some .int) :: ([Cond.fieldLink RX12 309 "HeadYearModel" "years" "I"] ++ (u_ws RX12 TX12 54 ++ ([])))
theorem in_X12_leanest_X12 : ∀ w ∈ u_ws RX12 TX12 54, w ∈ w_X12_leanest := fun _ h => List.mem_cons_of_mem _ (List.mem_append_right _ (List.mem_append_left _ h))
set_option maxHeartbeats 4000000 in
set_option maxRecDepth 100000 in
theorem c_X12_leanest (l : Launch) (E : py_E) (L : List Nat) (f : py_F) (sz : Nat) (h : Nat) (a : Int32) (hM : fr_M E L f h) : Met l yX12_leanest w_X12_leanest ({ frames := 0, cells := 0, slots := 0, locals := 0 }) (py_Pc E [.ref h, .int a] L f sz) (py_Qi E L f sz (fun r _ _ => r = -1)) 0 0 (va_A (va_pl L f) sz) := by
  refine Met.ofW (cc := cX12_leanest) (maxL := 4) (ret := (some .int)) (by decide) rfl ?_
  intro p e s m args below meth c s₁ B hml hv
  obtain ⟨rfl, rfl, hw⟩ := py_start hv
  have G : CallFix p m c cX12_leanest 4 s _ w_X12_leanest RX12 := ⟨B.exec, B.bytes, hml, findClass_of_methodNamed B.named, atoms_spec (ws := w_X12_leanest) B.pre⟩
  have hr := B.returns
  have hlk := B.notSynchronized
  have hl := lv_entry ([.ref h, .int a]) (n := 4) (Nat.le_of_ble_eq_true rfl)
  rw [lg_entry_eq]
  generalize (lg_sl ([.ref h, .int a]) ++ List.replicate (4 - (lg_sl ([.ref h, .int a])).length) Slot.unset).toArray = ls at hl ⊢
  have hl : lv_has ls 4 [(0, .ref h), (1, .int a)] := hl
  obtain ⟨tp, cd, cl, g1, g2, g3, xs, v32, v33, v34, hh, hxs, hp1, hp2, hp8, hp9, hp13, hp24, hp25, hp29, hp31, hp43, hp53, ⟨hp32, hp33, hp34⟩, htp, hcd, hcl⟩ := id hM
  refine lv_aload_n G.1 G.2.1 dX12_leanest_0 rfl (lv_at hl 0 rfl) ?_
  refine py_get (C := RX12) (T := TX12) (N := 54) (k := 29) (v := .int 0) G hw in_X12_leanest_X12 rfl hh (by decide) (by decide +kernel) hp29 dX12_leanest_1 ?_
  refine lv_if_eq (tgt := 16) G.1 G.2.1 dX12_leanest_4 (by decide) (fun c_1 => ?_) (fun c_1 => ?_)
  · skip
    refine lv_iconst (v := (-1)) G.1 G.2.1 dX12_leanest_16 (by decide) ?_
    exact py_iret G hr rfl hlk hw rfl dX12_leanest_17
  · skip
    exact absurd c_1 (by decide)

def w_X12_advice : List Cond := .code yX12_advice cX12_advice 10 (some .int) :: ([Cond.methodLink RX12 441 yX12_isTrial, Cond.instanceMethod yX12_isTrial, Cond.selects RX12 yX12_isTrial yX12_isTrial, Cond.initialized RX12, Cond.constant RX12 350 (-1000000)] ++ (w_X12_isTrial ++ ([])))
theorem gg_X12_advice_X12_isTrial : GoodIn w_X12_advice w_X12_isTrial := goodIn_sub (fun _ h => List.mem_cons_of_mem _ (List.mem_append_right _ (List.mem_append_left _ h))) (by decide +kernel)
theorem g_X12_advice_X12_isTrial_441 : GoodIn w_X12_advice (wsV RX12 441 RX12 yX12_isTrial w_X12_isTrial) := goodIn_app (goodIn_of _ (by decide +kernel)) gg_X12_advice_X12_isTrial
set_option maxHeartbeats 4000000 in
set_option maxRecDepth 100000 in
theorem c_X12_advice (l : Launch) (E : py_E) (L : List Nat) (f : py_F) (sz : Nat) (h : Nat) (a : Int32) (b : Int32) (q : Int32) (d : Int32) (hM : fr_M E L f h) : Met l yX12_advice w_X12_advice ({ frames := 1, cells := 0, slots := 0, locals := 22 }) (py_Pc E [.ref h, .int a, .int b, .int q, .int d] L f sz) (py_Qi E L f sz (fun r _ _ => r = -1000000)) 0 0 (va_A (va_pl L f) sz) := by
  refine Met.ofW (cc := cX12_advice) (maxL := 10) (ret := (some .int)) (by decide) rfl ?_
  intro p e s m args below meth c s₁ B hml hv
  obtain ⟨rfl, rfl, hw⟩ := py_start hv
  have G : CallFix p m c cX12_advice 10 s _ w_X12_advice RX12 := ⟨B.exec, B.bytes, hml, findClass_of_methodNamed B.named, atoms_spec (ws := w_X12_advice) B.pre⟩
  have hr := B.returns
  have hlk := B.notSynchronized
  have hl := lv_entry ([.ref h, .int a, .int b, .int q, .int d]) (n := 10) (Nat.le_of_ble_eq_true rfl)
  rw [lg_entry_eq]
  generalize (lg_sl ([.ref h, .int a, .int b, .int q, .int d]) ++ List.replicate (10 - (lg_sl ([.ref h, .int a, .int b, .int q, .int d])).length) Slot.unset).toArray = ls at hl ⊢
  have hl : lv_has ls 10 [(0, .ref h), (1, .int a), (2, .int b), (3, .int q), (4, .int d)] := hl
  obtain ⟨tp, cd, cl, g1, g2, g3, xs, v32, v33, v34, hh, hxs, hp1, hp2, hp8, hp9, hp13, hp24, hp25, hp29, hp31, hp43, hp53, ⟨hp32, hp33, hp34⟩, htp, hcd, hcl⟩ := id hM
  refine lv_aload_n G.1 G.2.1 dX12_advice_0 rfl (lv_at hl 0 rfl) ?_
  refine lv_iload_n G.1 G.2.1 dX12_advice_1 rfl (lv_at hl 2 rfl) ?_
  refine lv_iload_n G.1 G.2.1 dX12_advice_2 rfl (lv_at hl 3 rfl) ?_
  refine py_calli hw (va_runV (As := [.int b, .int q]) (rest := []) G (c_X12_isTrial l E L f s.heap.size h b q hM) (cwV 2 G.2.2.2.2 g_X12_advice_X12_isTrial_441 rfl rfl rfl (by decide +kernel) ⟨(Nat.le_of_ble_eq_true rfl), (Nat.le_of_ble_eq_true rfl)⟩) (py_preV hw (C := RX12) (T := TX12) (N := 54) rfl hh) rfl rfl hl.1 rfl (lv_room (Nat.le_of_ble_eq_true rfl)) dX12_advice_3 ⟨(Nat.le_of_ble_eq_true rfl), (Nat.le_of_ble_eq_true rfl)⟩) (fun r_5 L_1 f_2 H_3 locs hp_4 hw => ?_)
  obtain ⟨rfl, rfl, rfl⟩ := hp_4
  refine lv_if_eq (tgt := 35) G.1 G.2.1 dX12_advice_6 (by decide) (fun c_6 => ?_) (fun c_6 => ?_)
  · skip
    refine lv_ldcw (v := (-1000000)) G.1 G.2.1 G.2.2.2.1 (G.2.2.2.2 (Cond.constant RX12 350 (-1000000)) (by decide +kernel)) dX12_advice_35 ?_
    exact py_iret G hr rfl hlk hw rfl dX12_advice_38
  · skip
    exact absurd c_6 (by decide)

def w_X12_image : List Cond := .code yX12_image cX12_image 2 (some .int) :: ([Cond.fieldLink RX12 290 "HeadYearModel" "families" "I"] ++ (u_ws RX12 TX12 54 ++ ([])))
theorem in_X12_image_X12 : ∀ w ∈ u_ws RX12 TX12 54, w ∈ w_X12_image := fun _ h => List.mem_cons_of_mem _ (List.mem_append_right _ (List.mem_append_left _ h))
set_option maxHeartbeats 4000000 in
set_option maxRecDepth 100000 in
theorem c_X12_image (l : Launch) (E : py_E) (L : List Nat) (f : py_F) (sz : Nat) (h : Nat) (hM : fr_M E L f h) : Met l yX12_image w_X12_image ({ frames := 0, cells := 0, slots := 0, locals := 0 }) (py_Pc E [.ref h] L f sz) (py_Qi E L f sz (fun r _ _ => r = -1)) 0 0 (va_A (va_pl L f) sz) := by
  refine Met.ofW (cc := cX12_image) (maxL := 2) (ret := (some .int)) (by decide) rfl ?_
  intro p e s m args below meth c s₁ B hml hv
  obtain ⟨rfl, rfl, hw⟩ := py_start hv
  have G : CallFix p m c cX12_image 2 s _ w_X12_image RX12 := ⟨B.exec, B.bytes, hml, findClass_of_methodNamed B.named, atoms_spec (ws := w_X12_image) B.pre⟩
  have hr := B.returns
  have hlk := B.notSynchronized
  have hl := lv_entry ([.ref h]) (n := 2) (Nat.le_of_ble_eq_true rfl)
  rw [lg_entry_eq]
  generalize (lg_sl ([.ref h]) ++ List.replicate (2 - (lg_sl ([.ref h])).length) Slot.unset).toArray = ls at hl ⊢
  have hl : lv_has ls 2 [(0, .ref h)] := hl
  obtain ⟨tp, cd, cl, g1, g2, g3, xs, v32, v33, v34, hh, hxs, hp1, hp2, hp8, hp9, hp13, hp24, hp25, hp29, hp31, hp43, hp53, ⟨hp32, hp33, hp34⟩, htp, hcd, hcl⟩ := id hM
  refine lv_aload_n G.1 G.2.1 dX12_image_0 rfl (lv_at hl 0 rfl) ?_
  refine py_get (C := RX12) (T := TX12) (N := 54) (k := 25) (v := .int 0) G hw in_X12_image_X12 rfl hh (by decide) (by decide +kernel) hp25 dX12_image_1 ?_
  refine lv_if_ne (tgt := 9) G.1 G.2.1 dX12_image_4 (by decide) (fun c_1 => ?_) (fun c_1 => ?_)
  · skip
    exact absurd c_1 (by decide)
  · skip
    refine lv_iconst (v := (-1)) G.1 G.2.1 dX12_image_7 (by decide) ?_
    exact py_iret G hr rfl hlk hw rfl dX12_image_8

def w_X12_back : List Cond := .code yX12_back cX12_back 2 (some .int) :: ([Cond.fieldLink RX12 315 "HeadYearModel" "hasImage" "Z"] ++ (u_ws RX12 TX12 54 ++ ([])))
theorem in_X12_back_X12 : ∀ w ∈ u_ws RX12 TX12 54, w ∈ w_X12_back := fun _ h => List.mem_cons_of_mem _ (List.mem_append_right _ (List.mem_append_left _ h))
set_option maxHeartbeats 4000000 in
set_option maxRecDepth 100000 in
theorem c_X12_back (l : Launch) (E : py_E) (L : List Nat) (f : py_F) (sz : Nat) (h : Nat) (hM : fr_M E L f h) : Met l yX12_back w_X12_back ({ frames := 0, cells := 0, slots := 0, locals := 0 }) (py_Pc E [.ref h] L f sz) (py_Qi E L f sz (fun r _ _ => r = -1)) 0 0 (va_A (va_pl L f) sz) := by
  refine Met.ofW (cc := cX12_back) (maxL := 2) (ret := (some .int)) (by decide) rfl ?_
  intro p e s m args below meth c s₁ B hml hv
  obtain ⟨rfl, rfl, hw⟩ := py_start hv
  have G : CallFix p m c cX12_back 2 s _ w_X12_back RX12 := ⟨B.exec, B.bytes, hml, findClass_of_methodNamed B.named, atoms_spec (ws := w_X12_back) B.pre⟩
  have hr := B.returns
  have hlk := B.notSynchronized
  have hl := lv_entry ([.ref h]) (n := 2) (Nat.le_of_ble_eq_true rfl)
  rw [lg_entry_eq]
  generalize (lg_sl ([.ref h]) ++ List.replicate (2 - (lg_sl ([.ref h])).length) Slot.unset).toArray = ls at hl ⊢
  have hl : lv_has ls 2 [(0, .ref h)] := hl
  obtain ⟨tp, cd, cl, g1, g2, g3, xs, v32, v33, v34, hh, hxs, hp1, hp2, hp8, hp9, hp13, hp24, hp25, hp29, hp31, hp43, hp53, ⟨hp32, hp33, hp34⟩, htp, hcd, hcl⟩ := id hM
  refine lv_aload_n G.1 G.2.1 dX12_back_0 rfl (lv_at hl 0 rfl) ?_
  refine py_get (C := RX12) (T := TX12) (N := 54) (k := 53) (v := .int 0) G hw in_X12_back_X12 rfl hh (by decide) (by decide +kernel) hp53 dX12_back_1 ?_
  refine lv_if_ne (tgt := 9) G.1 G.2.1 dX12_back_4 (by decide) (fun c_1 => ?_) (fun c_1 => ?_)
  · skip
    exact absurd c_1 (by decide)
  · skip
    refine lv_iconst (v := (-1)) G.1 G.2.1 dX12_back_7 (by decide) ?_
    exact py_iret G hr rfl hlk hw rfl dX12_back_8

def w_X12_mean : List Cond := .code yX12_mean cX12_mean 6 (some .long) :: ([Cond.methodLink RX12 451 yX12_odds, Cond.instanceMethod yX12_odds, Cond.selects RX12 yX12_odds yX12_odds, Cond.initialized RX12, Cond.constant RX12 350 (-1000000), Cond.constantLong RX12 207 (-1000000)] ++ (w_X12_odds ++ ([])))
theorem gg_X12_mean_X12_odds : GoodIn w_X12_mean w_X12_odds := goodIn_sub (fun _ h => List.mem_cons_of_mem _ (List.mem_append_right _ (List.mem_append_left _ h))) (by decide +kernel)
theorem g_X12_mean_X12_odds_451 : GoodIn w_X12_mean (wsV RX12 451 RX12 yX12_odds w_X12_odds) := goodIn_app (goodIn_of _ (by decide +kernel)) gg_X12_mean_X12_odds
set_option maxHeartbeats 4000000 in
set_option maxRecDepth 100000 in
theorem c_X12_mean (l : Launch) (E : py_E) (L : List Nat) (f : py_F) (sz : Nat) (h : Nat) (a : Int32) (b : Int32) (hM : fr_M E L f h) : Met l yX12_mean w_X12_mean ({ frames := 3, cells := 0, slots := 0, locals := 69 }) (py_Pc E [.ref h, .int a, .int b] L f sz) (py_Ql E L f sz (fun r _ _ => r = -1000000)) 0 0 (va_A (va_pl L f) sz) := by
  refine Met.ofW (cc := cX12_mean) (maxL := 6) (ret := (some .long)) (by decide) rfl ?_
  intro p e s m args below meth c s₁ B hml hv
  obtain ⟨rfl, rfl, hw⟩ := py_start hv
  have G : CallFix p m c cX12_mean 6 s _ w_X12_mean RX12 := ⟨B.exec, B.bytes, hml, findClass_of_methodNamed B.named, atoms_spec (ws := w_X12_mean) B.pre⟩
  have hr := B.returns
  have hlk := B.notSynchronized
  have hl := lv_entry ([.ref h, .int a, .int b]) (n := 6) (Nat.le_of_ble_eq_true rfl)
  rw [lg_entry_eq]
  generalize (lg_sl ([.ref h, .int a, .int b]) ++ List.replicate (6 - (lg_sl ([.ref h, .int a, .int b])).length) Slot.unset).toArray = ls at hl ⊢
  have hl : lv_has ls 6 [(0, .ref h), (1, .int a), (2, .int b)] := hl
  obtain ⟨tp, cd, cl, g1, g2, g3, xs, v32, v33, v34, hh, hxs, hp1, hp2, hp8, hp9, hp13, hp24, hp25, hp29, hp31, hp43, hp53, ⟨hp32, hp33, hp34⟩, htp, hcd, hcl⟩ := id hM
  refine lv_aload_n G.1 G.2.1 dX12_mean_0 rfl (lv_at hl 0 rfl) ?_
  refine lv_iload_n G.1 G.2.1 dX12_mean_1 rfl (lv_at hl 1 rfl) ?_
  refine lv_iload_n G.1 G.2.1 dX12_mean_2 rfl (lv_at hl 2 rfl) ?_
  refine lv_iconst (v := (-1)) G.1 G.2.1 dX12_mean_3 (by decide) ?_
  refine py_calli hw (va_runV (As := [.int a, .int b, .int (-1)]) (rest := []) G (c_X12_odds l E L f s.heap.size h a b (-1) hM) (cwV 3 G.2.2.2.2 g_X12_mean_X12_odds_451 rfl rfl rfl (by decide +kernel) ⟨(Nat.le_of_ble_eq_true rfl), (Nat.le_of_ble_eq_true rfl)⟩) (py_preV hw (C := RX12) (T := TX12) (N := 54) rfl hh) rfl rfl hl.1 rfl (lv_room (Nat.le_of_ble_eq_true rfl)) dX12_mean_4 ⟨(Nat.le_of_ble_eq_true rfl), (Nat.le_of_ble_eq_true rfl)⟩) (fun r_5 L_1 f_2 H_3 locs hp_4 hw => ?_)
  obtain ⟨rfl, rfl, rfl⟩ := hp_4
  refine lv_ldcw (v := (-1000000)) G.1 G.2.1 G.2.2.2.1 (G.2.2.2.2 (Cond.constant RX12 350 (-1000000)) (by decide +kernel)) dX12_mean_7 ?_
  refine lv_icmp_ne (tgt := 17) G.1 G.2.1 dX12_mean_10 (by decide) (fun c_6 => ?_) (fun c_6 => ?_)
  · skip
    exact absurd c_6 (by decide)
  · skip
    refine lv_ldc2 (v := (-1000000)) G.1 G.2.1 G.2.2.2.1 (G.2.2.2.2 (Cond.constantLong RX12 207 (-1000000)) (by decide +kernel)) dX12_mean_13 ?_
    exact py_lret G hr hlk hw rfl dX12_mean_16

def w_X12_seed : List Cond := .code yX12_seed cX12_seed 3 (some .boolean) :: ([Cond.fieldLink RX12 357 "HeadYearModel" "draws" "J"] ++ (u_ws RX12 TX12 54 ++ ([])))
theorem in_X12_seed_X12 : ∀ w ∈ u_ws RX12 TX12 54, w ∈ w_X12_seed := fun _ h => List.mem_cons_of_mem _ (List.mem_append_right _ (List.mem_append_left _ h))
set_option maxHeartbeats 4000000 in
set_option maxRecDepth 100000 in
theorem c_X12_seed (l : Launch) (E : py_E) (L : List Nat) (f : py_F) (sz : Nat) (h : Nat) (v : Int64) (hM : fr_M E L f h) : Met l yX12_seed w_X12_seed ({ frames := 0, cells := 0, slots := 0, locals := 0 }) (py_Pc E [.ref h, .long v] L f sz) (py_Qi E L f sz (fun r _ _ => r = 1)) 0 0 (va_A (va_pl L f) sz) := by
  refine Met.ofW (cc := cX12_seed) (maxL := 3) (ret := (some .boolean)) (by decide) rfl ?_
  intro p e s m args below meth c s₁ B hml hv
  obtain ⟨rfl, rfl, hw⟩ := py_start hv
  have G : CallFix p m c cX12_seed 3 s _ w_X12_seed RX12 := ⟨B.exec, B.bytes, hml, findClass_of_methodNamed B.named, atoms_spec (ws := w_X12_seed) B.pre⟩
  have hr := B.returns
  have hlk := B.notSynchronized
  have hl := lv_entry ([.ref h, .long v]) (n := 3) (Nat.le_of_ble_eq_true rfl)
  rw [lg_entry_eq]
  generalize (lg_sl ([.ref h, .long v]) ++ List.replicate (3 - (lg_sl ([.ref h, .long v])).length) Slot.unset).toArray = ls at hl ⊢
  have hl : lv_has ls 3 [(0, .ref h), (1, .long v)] := hl
  obtain ⟨tp, cd, cl, g1, g2, g3, xs, v32, v33, v34, hh, hxs, hp1, hp2, hp8, hp9, hp13, hp24, hp25, hp29, hp31, hp43, hp53, ⟨hp32, hp33, hp34⟩, htp, hcd, hcl⟩ := id hM
  refine lv_aload_n G.1 G.2.1 dX12_seed_0 rfl (lv_at hl 0 rfl) ?_
  refine lv_lload_n G.1 G.2.1 dX12_seed_1 rfl (lv_at hl 1 rfl) ?_
  refine py_put (C := RX12) (T := TX12) (N := 54) (k := 30) (v := .long v) (fs' := xs.set 30 (.long v)) (ty0 := tyX12) G hw tyX12_ok nmX12 in_X12_seed_X12 rfl hh (by decide) (by decide +kernel) rfl rfl rfl rfl (py_len hxs (by decide)) rfl dX12_seed_2 (fun f_1 H_2 locs h_3 x_4 hw => ?_)
  obtain ⟨xs_5, exs_5⟩ : ∃ y, y = xs.set 30 (.long v) := ⟨_, rfl⟩
  rw [← exs_5] at h_3
  have hl_6 : xs_5.length = 54 := by rw [exs_5, List.length_set]; exact hxs
  have hp_7 : xs_5[1]? = some (.ref tp) := by rw [exs_5, List.getElem?_set_ne (by decide)]; exact hp1
  have hp_8 : xs_5[2]? = some (.int 0) := by rw [exs_5, List.getElem?_set_ne (by decide)]; exact hp2
  have hp_9 : xs_5[8]? = some (.ref cd) := by rw [exs_5, List.getElem?_set_ne (by decide)]; exact hp8
  have hp_10 : xs_5[9]? = some (.ref cl) := by rw [exs_5, List.getElem?_set_ne (by decide)]; exact hp9
  have hp_11 : xs_5[13]? = some (.int 0) := by rw [exs_5, List.getElem?_set_ne (by decide)]; exact hp13
  have hp_12 : xs_5[24]? = some (.int 0) := by rw [exs_5, List.getElem?_set_ne (by decide)]; exact hp24
  have hp_13 : xs_5[25]? = some (.int 0) := by rw [exs_5, List.getElem?_set_ne (by decide)]; exact hp25
  have hp_14 : xs_5[29]? = some (.int 0) := by rw [exs_5, List.getElem?_set_ne (by decide)]; exact hp29
  have hp_15 : xs_5[31]? = some (.int (-1)) := by rw [exs_5, List.getElem?_set_ne (by decide)]; exact hp31
  have hp_16 : xs_5[43]? = some (.int 0) := by rw [exs_5, List.getElem?_set_ne (by decide)]; exact hp43
  have hp_17 : xs_5[53]? = some (.int 0) := by rw [exs_5, List.getElem?_set_ne (by decide)]; exact hp53
  have hp_18 : xs_5[32]? = some (.int v32) := by rw [exs_5, List.getElem?_set_ne (by decide)]; exact hp32
  have hp_19 : xs_5[33]? = some (.int v33) := by rw [exs_5, List.getElem?_set_ne (by decide)]; exact hp33
  have hp_20 : xs_5[34]? = some (.int v34) := by rw [exs_5, List.getElem?_set_ne (by decide)]; exact hp34
  have hp_21 : xs_5[30]? = some (.long v) := by rw [exs_5, List.getElem?_set_self (by rw [hxs]; decide)]
  have htp := htp.ext x_4 (Ne.symm (py_ne_arr hh htp))
  have hcd := hcd.ext x_4 (Ne.symm (py_ne_arr hh hcd))
  have hcl := hcl.ext x_4 (Ne.symm (py_ne_arr hh hcl))
  refine lv_iconst (v := 1) G.1 G.2.1 dX12_seed_5 (by decide) ?_
  exact py_iret G hr rfl hlk hw rfl dX12_seed_6

def w_X12_end : List Cond := .code yX12_end cX12_end 2 (some .boolean) :: ([Cond.fieldLink RX12 124 "HeadYearModel" "size" "I"] ++ (u_ws RX12 TX12 54 ++ ([])))
theorem in_X12_end_X12 : ∀ w ∈ u_ws RX12 TX12 54, w ∈ w_X12_end := fun _ h => List.mem_cons_of_mem _ (List.mem_append_right _ (List.mem_append_left _ h))
set_option maxHeartbeats 4000000 in
set_option maxRecDepth 100000 in
theorem c_X12_end (l : Launch) (E : py_E) (L : List Nat) (f : py_F) (sz : Nat) (h : Nat) (a : Int32) (hM : fr_M E L f h) : Met l yX12_end w_X12_end ({ frames := 0, cells := 0, slots := 0, locals := 0 }) (py_Pc E [.ref h, .int a] L f sz) (py_Qi E L f sz (fun r _ _ => r = (if a < 0 ∨ 0 < a then 0 else 1))) 0 0 (va_A (va_pl L f) sz) := by
  refine Met.ofW (cc := cX12_end) (maxL := 2) (ret := (some .boolean)) (by decide) rfl ?_
  intro p e s m args below meth c s₁ B hml hv
  obtain ⟨rfl, rfl, hw⟩ := py_start hv
  have G : CallFix p m c cX12_end 2 s _ w_X12_end RX12 := ⟨B.exec, B.bytes, hml, findClass_of_methodNamed B.named, atoms_spec (ws := w_X12_end) B.pre⟩
  have hr := B.returns
  have hlk := B.notSynchronized
  have hl := lv_entry ([.ref h, .int a]) (n := 2) (Nat.le_of_ble_eq_true rfl)
  rw [lg_entry_eq]
  generalize (lg_sl ([.ref h, .int a]) ++ List.replicate (2 - (lg_sl ([.ref h, .int a])).length) Slot.unset).toArray = ls at hl ⊢
  have hl : lv_has ls 2 [(0, .ref h), (1, .int a)] := hl
  obtain ⟨tp, cd, cl, g1, g2, g3, xs, v32, v33, v34, hh, hxs, hp1, hp2, hp8, hp9, hp13, hp24, hp25, hp29, hp31, hp43, hp53, ⟨hp32, hp33, hp34⟩, htp, hcd, hcl⟩ := id hM
  refine lv_iload_n G.1 G.2.1 dX12_end_0 rfl (lv_at hl 1 rfl) ?_
  refine lv_if_lt (tgt := 12) G.1 G.2.1 dX12_end_1 (by decide) (fun c_1 => ?_) (fun c_1 => ?_)
  · skip
    refine lv_iconst (v := 0) G.1 G.2.1 dX12_end_12 (by decide) ?_
    exact py_iret G hr rfl hlk hw (by simp [c_1]) dX12_end_13
  · skip
    refine lv_iload_n G.1 G.2.1 dX12_end_4 rfl (lv_at hl 1 rfl) ?_
    refine lv_aload_n G.1 G.2.1 dX12_end_5 rfl (lv_at hl 0 rfl) ?_
    refine py_get (C := RX12) (T := TX12) (N := 54) (k := 2) (v := .int 0) G hw in_X12_end_X12 rfl hh (by decide) (by decide +kernel) hp2 dX12_end_6 ?_
    refine lv_icmp_le (tgt := 14) G.1 G.2.1 dX12_end_9 (by decide) (fun c_2 => ?_) (fun c_2 => ?_)
    · skip
      refine lv_aload_n G.1 G.2.1 dX12_end_14 rfl (lv_at hl 0 rfl) ?_
      refine lv_iload_n G.1 G.2.1 dX12_end_15 rfl (lv_at hl 1 rfl) ?_
      refine py_put (C := RX12) (T := TX12) (N := 54) (k := 2) (v := .int a) (fs' := xs.set 2 (.int a)) (ty0 := tyX12) G hw tyX12_ok nmX12 in_X12_end_X12 rfl hh (by decide) (by decide +kernel) rfl rfl rfl rfl (py_len hxs (by decide)) rfl dX12_end_16 (fun f_3 H_4 locs h_5 x_6 hw => ?_)
      obtain ⟨xs_7, exs_7⟩ : ∃ y, y = xs.set 2 (.int a) := ⟨_, rfl⟩
      rw [← exs_7] at h_5
      have hl_8 : xs_7.length = 54 := by rw [exs_7, List.length_set]; exact hxs
      have hp_9 : xs_7[1]? = some (.ref tp) := by rw [exs_7, List.getElem?_set_ne (by decide)]; exact hp1
      have hp_10 : xs_7[8]? = some (.ref cd) := by rw [exs_7, List.getElem?_set_ne (by decide)]; exact hp8
      have hp_11 : xs_7[9]? = some (.ref cl) := by rw [exs_7, List.getElem?_set_ne (by decide)]; exact hp9
      have hp_12 : xs_7[13]? = some (.int 0) := by rw [exs_7, List.getElem?_set_ne (by decide)]; exact hp13
      have hp_13 : xs_7[24]? = some (.int 0) := by rw [exs_7, List.getElem?_set_ne (by decide)]; exact hp24
      have hp_14 : xs_7[25]? = some (.int 0) := by rw [exs_7, List.getElem?_set_ne (by decide)]; exact hp25
      have hp_15 : xs_7[29]? = some (.int 0) := by rw [exs_7, List.getElem?_set_ne (by decide)]; exact hp29
      have hp_16 : xs_7[31]? = some (.int (-1)) := by rw [exs_7, List.getElem?_set_ne (by decide)]; exact hp31
      have hp_17 : xs_7[43]? = some (.int 0) := by rw [exs_7, List.getElem?_set_ne (by decide)]; exact hp43
      have hp_18 : xs_7[53]? = some (.int 0) := by rw [exs_7, List.getElem?_set_ne (by decide)]; exact hp53
      have hp_19 : xs_7[32]? = some (.int v32) := by rw [exs_7, List.getElem?_set_ne (by decide)]; exact hp32
      have hp_20 : xs_7[33]? = some (.int v33) := by rw [exs_7, List.getElem?_set_ne (by decide)]; exact hp33
      have hp_21 : xs_7[34]? = some (.int v34) := by rw [exs_7, List.getElem?_set_ne (by decide)]; exact hp34
      have hp_22 : xs_7[2]? = some (.int a) := by rw [exs_7, List.getElem?_set_self (by rw [hxs]; decide)]
      have htp := htp.ext x_6 (Ne.symm (py_ne_arr hh htp))
      have hcd := hcd.ext x_6 (Ne.symm (py_ne_arr hh hcd))
      have hcl := hcl.ext x_6 (Ne.symm (py_ne_arr hh hcl))
      refine lv_iconst (v := 1) G.1 G.2.1 dX12_end_19 (by decide) ?_
      exact py_iret G hr rfl hlk hw (by simp [c_1, c_2]) dX12_end_20
    · skip
      refine lv_iconst (v := 0) G.1 G.2.1 dX12_end_12 (by decide) ?_
      exact py_iret G hr rfl hlk hw (by simp [c_1, c_2]) dX12_end_13

def w_X12_law : List Cond := .code yX12_law cX12_law 2 (some .boolean) :: ([Cond.fieldLink RX12 322 "HeadYearModel" "laws" "I", Cond.methodLink RX12 232 yX12_in, Cond.static yX12_in, Cond.initialized RX12, Cond.fieldLink RX12 64 "HeadYearModel" "holding" "I"] ++ (u_ws RX12 TX12 54 ++ (w_X12_in ++ ([]))))
theorem in_X12_law_X12 : ∀ w ∈ u_ws RX12 TX12 54, w ∈ w_X12_law := fun _ h => List.mem_cons_of_mem _ (List.mem_append_right _ (List.mem_append_left _ h))
theorem gg_X12_law_X12_in : GoodIn w_X12_law w_X12_in := goodIn_sub (fun _ h => List.mem_cons_of_mem _ (List.mem_append_right _ (List.mem_append_right _ (List.mem_append_left _ h)))) (by decide +kernel)
theorem g_X12_law_X12_in_232 : GoodIn w_X12_law (va_wsS RX12 232 yX12_in w_X12_in) := goodIn_app (goodIn_of _ (by decide +kernel)) gg_X12_law_X12_in
set_option maxHeartbeats 4000000 in
set_option maxRecDepth 100000 in
theorem c_X12_law (l : Launch) (E : py_E) (L : List Nat) (f : py_F) (sz : Nat) (h : Nat) (a : Int32) (hM : fr_M E L f h) : Met l yX12_law w_X12_law ({ frames := 1, cells := 0, slots := 0, locals := 22 }) (py_Pc E [.ref h, .int a] L f sz) (py_Qi E L f sz (fun r _ _ => r = (if a = -1 then 1 else 0))) 0 0 (va_A (va_pl L f) sz) := by
  refine Met.ofW (cc := cX12_law) (maxL := 2) (ret := (some .boolean)) (by decide) rfl ?_
  intro p e s m args below meth c s₁ B hml hv
  obtain ⟨rfl, rfl, hw⟩ := py_start hv
  have G : CallFix p m c cX12_law 2 s _ w_X12_law RX12 := ⟨B.exec, B.bytes, hml, findClass_of_methodNamed B.named, atoms_spec (ws := w_X12_law) B.pre⟩
  have hr := B.returns
  have hlk := B.notSynchronized
  have hl := lv_entry ([.ref h, .int a]) (n := 2) (Nat.le_of_ble_eq_true rfl)
  rw [lg_entry_eq]
  generalize (lg_sl ([.ref h, .int a]) ++ List.replicate (2 - (lg_sl ([.ref h, .int a])).length) Slot.unset).toArray = ls at hl ⊢
  have hl : lv_has ls 2 [(0, .ref h), (1, .int a)] := hl
  obtain ⟨tp, cd, cl, g1, g2, g3, xs, v32, v33, v34, hh, hxs, hp1, hp2, hp8, hp9, hp13, hp24, hp25, hp29, hp31, hp43, hp53, ⟨hp32, hp33, hp34⟩, htp, hcd, hcl⟩ := id hM
  refine lv_iload_n G.1 G.2.1 dX12_law_0 rfl (lv_at hl 1 rfl) ?_
  refine lv_iconst (v := (-1)) G.1 G.2.1 dX12_law_1 (by decide) ?_
  refine lv_aload_n G.1 G.2.1 dX12_law_2 rfl (lv_at hl 0 rfl) ?_
  refine py_get (C := RX12) (T := TX12) (N := 54) (k := 13) (v := .int 0) G hw in_X12_law_X12 rfl hh (by decide) (by decide +kernel) hp13 dX12_law_3 ?_
  refine lv_iconst (v := 1) G.1 G.2.1 dX12_law_6 (by decide) ?_
  refine lv_isub G.1 G.2.1 dX12_law_7 ?_
  rw [show 0 - 1 = ((-1) : Int32) by decide]
  refine py_calli hw (va_runS (As := [.int a, .int (-1), .int (-1)]) (rest := []) G (c_X12_in l E L f s.heap.size a (-1) (-1)) (va_cwS 3 G.2.2.2.2 g_X12_law_X12_in_232 rfl rfl rfl (by decide +kernel) ⟨(Nat.le_of_ble_eq_true rfl), (Nat.le_of_ble_eq_true rfl)⟩) (py_preS hw) rfl rfl hl.1 rfl (lv_room (Nat.le_of_ble_eq_true rfl)) dX12_law_8 ⟨(Nat.le_of_ble_eq_true rfl), (Nat.le_of_ble_eq_true rfl)⟩) (fun r_5 L_1 f_2 H_3 locs hp_4 hw => ?_)
  obtain ⟨rfl, rfl, hi_6⟩ := hp_4
  rcases hi_6 with ⟨rfl, hi_6⟩ | ⟨rfl, hi_6⟩
  · skip
    refine lv_if_ne (tgt := 16) G.1 G.2.1 dX12_law_11 (by decide) (fun c_7 => ?_) (fun c_7 => ?_)
    · skip
      refine lv_aload_n G.1 G.2.1 dX12_law_16 rfl (lv_at hl 0 rfl) ?_
      refine lv_iload_n G.1 G.2.1 dX12_law_17 rfl (lv_at hl 1 rfl) ?_
      refine py_put (C := RX12) (T := TX12) (N := 54) (k := 31) (v := .int a) (fs' := xs.set 31 (.int a)) (ty0 := tyX12) G hw tyX12_ok nmX12 in_X12_law_X12 rfl hh (by decide) (by decide +kernel) rfl rfl rfl rfl (py_len hxs (by decide)) rfl dX12_law_18 (fun f_8 H_9 locs h_10 x_11 hw => ?_)
      obtain ⟨xs_12, exs_12⟩ : ∃ y, y = xs.set 31 (.int a) := ⟨_, rfl⟩
      rw [← exs_12] at h_10
      have hl_13 : xs_12.length = 54 := by rw [exs_12, List.length_set]; exact hxs
      have hp_14 : xs_12[1]? = some (.ref tp) := by rw [exs_12, List.getElem?_set_ne (by decide)]; exact hp1
      have hp_15 : xs_12[2]? = some (.int 0) := by rw [exs_12, List.getElem?_set_ne (by decide)]; exact hp2
      have hp_16 : xs_12[8]? = some (.ref cd) := by rw [exs_12, List.getElem?_set_ne (by decide)]; exact hp8
      have hp_17 : xs_12[9]? = some (.ref cl) := by rw [exs_12, List.getElem?_set_ne (by decide)]; exact hp9
      have hp_18 : xs_12[13]? = some (.int 0) := by rw [exs_12, List.getElem?_set_ne (by decide)]; exact hp13
      have hp_19 : xs_12[24]? = some (.int 0) := by rw [exs_12, List.getElem?_set_ne (by decide)]; exact hp24
      have hp_20 : xs_12[25]? = some (.int 0) := by rw [exs_12, List.getElem?_set_ne (by decide)]; exact hp25
      have hp_21 : xs_12[29]? = some (.int 0) := by rw [exs_12, List.getElem?_set_ne (by decide)]; exact hp29
      have hp_22 : xs_12[43]? = some (.int 0) := by rw [exs_12, List.getElem?_set_ne (by decide)]; exact hp43
      have hp_23 : xs_12[53]? = some (.int 0) := by rw [exs_12, List.getElem?_set_ne (by decide)]; exact hp53
      have hp_24 : xs_12[32]? = some (.int v32) := by rw [exs_12, List.getElem?_set_ne (by decide)]; exact hp32
      have hp_25 : xs_12[33]? = some (.int v33) := by rw [exs_12, List.getElem?_set_ne (by decide)]; exact hp33
      have hp_26 : xs_12[34]? = some (.int v34) := by rw [exs_12, List.getElem?_set_ne (by decide)]; exact hp34
      have hp_27 : xs_12[31]? = some (.int a) := by rw [exs_12, List.getElem?_set_self (by rw [hxs]; decide)]
      have htp := htp.ext x_11 (Ne.symm (py_ne_arr hh htp))
      have hcd := hcd.ext x_11 (Ne.symm (py_ne_arr hh hcd))
      have hcl := hcl.ext x_11 (Ne.symm (py_ne_arr hh hcl))
      refine lv_iconst (v := 1) G.1 G.2.1 dX12_law_21 (by decide) ?_
      exact py_iret G hr rfl hlk hw (by have z0 : (-1 : Int32).toInt = -1 := rfl; simp only [Int32.le_iff_toInt_le, ← Int32.toInt_inj] at hi_6 c_7 ⊢; split <;> first | rfl | omega) dX12_law_22
    · skip
      exact absurd c_7 (by decide)
  · skip
    refine lv_if_ne (tgt := 16) G.1 G.2.1 dX12_law_11 (by decide) (fun c_28 => ?_) (fun c_28 => ?_)
    · skip
      exact absurd c_28 (by decide)
    · skip
      refine lv_iconst (v := 0) G.1 G.2.1 dX12_law_14 (by decide) ?_
      exact py_iret G hr rfl hlk hw (by have z0 : (-1 : Int32).toInt = -1 := rfl; simp only [Int32.le_iff_toInt_le, ← Int32.toInt_inj] at hi_6 c_28 ⊢; split <;> first | rfl | omega) dX12_law_15

def w_X12_set : List Cond := .code yX12_set cX12_set 3 (some .boolean) :: ([Cond.methodLink RX12 232 yX12_in, Cond.static yX12_in, Cond.initialized RX12, Cond.fieldLink RX12 68 "HeadYearModel" "find" "I", Cond.fieldLink RX12 354 "HeadYearModel" "luck" "I", Cond.fieldLink RX12 71 "HeadYearModel" "price" "I"] ++ (u_ws RX12 TX12 54 ++ (w_X12_in ++ ([]))))
theorem in_X12_set_X12 : ∀ w ∈ u_ws RX12 TX12 54, w ∈ w_X12_set := fun _ h => List.mem_cons_of_mem _ (List.mem_append_right _ (List.mem_append_left _ h))
theorem gg_X12_set_X12_in : GoodIn w_X12_set w_X12_in := goodIn_sub (fun _ h => List.mem_cons_of_mem _ (List.mem_append_right _ (List.mem_append_right _ (List.mem_append_left _ h)))) (by decide +kernel)
theorem g_X12_set_X12_in_232 : GoodIn w_X12_set (va_wsS RX12 232 yX12_in w_X12_in) := goodIn_app (goodIn_of _ (by decide +kernel)) gg_X12_set_X12_in
set_option maxHeartbeats 4000000 in
set_option maxRecDepth 100000 in
theorem c_X12_set (l : Launch) (E : py_E) (L : List Nat) (f : py_F) (sz : Nat) (h : Nat) (a : Int32) (b : Int32) (hM : fr_M E L f h) : Met l yX12_set w_X12_set ({ frames := 1, cells := 0, slots := 0, locals := 22 }) (py_Pc E [.ref h, .int a, .int b] L f sz) (py_Qi E L f sz (fun r _ _ => r = sp_set a b)) 0 0 (va_A (va_pl L f) sz) := by
  refine Met.ofW (cc := cX12_set) (maxL := 3) (ret := (some .boolean)) (by decide) rfl ?_
  intro p e s m args below meth c s₁ B hml hv
  obtain ⟨rfl, rfl, hw⟩ := py_start hv
  have G : CallFix p m c cX12_set 3 s _ w_X12_set RX12 := ⟨B.exec, B.bytes, hml, findClass_of_methodNamed B.named, atoms_spec (ws := w_X12_set) B.pre⟩
  have hr := B.returns
  have hlk := B.notSynchronized
  have hl := lv_entry ([.ref h, .int a, .int b]) (n := 3) (Nat.le_of_ble_eq_true rfl)
  rw [lg_entry_eq]
  generalize (lg_sl ([.ref h, .int a, .int b]) ++ List.replicate (3 - (lg_sl ([.ref h, .int a, .int b])).length) Slot.unset).toArray = ls at hl ⊢
  have hl : lv_has ls 3 [(0, .ref h), (1, .int a), (2, .int b)] := hl
  obtain ⟨tp, cd, cl, g1, g2, g3, xs, v32, v33, v34, hh, hxs, hp1, hp2, hp8, hp9, hp13, hp24, hp25, hp29, hp31, hp43, hp53, ⟨hp32, hp33, hp34⟩, htp, hcd, hcl⟩ := id hM
  refine lv_iload_n G.1 G.2.1 dX12_set_0 rfl (lv_at hl 1 rfl) ?_
  refine lv_iconst (v := 0) G.1 G.2.1 dX12_set_1 (by decide) ?_
  refine lv_iconst (v := 2) G.1 G.2.1 dX12_set_2 (by decide) ?_
  refine py_calli hw (va_runS (As := [.int a, .int 0, .int 2]) (rest := []) G (c_X12_in l E L f s.heap.size a 0 2) (va_cwS 3 G.2.2.2.2 g_X12_set_X12_in_232 rfl rfl rfl (by decide +kernel) ⟨(Nat.le_of_ble_eq_true rfl), (Nat.le_of_ble_eq_true rfl)⟩) (py_preS hw) rfl rfl hl.1 rfl (lv_room (Nat.le_of_ble_eq_true rfl)) dX12_set_3 ⟨(Nat.le_of_ble_eq_true rfl), (Nat.le_of_ble_eq_true rfl)⟩) (fun r_5 L_1 f_2 H_3 locs hp_4 hw => ?_)
  obtain ⟨rfl, rfl, hi_6⟩ := hp_4
  rcases hi_6 with ⟨rfl, hi_6⟩ | ⟨rfl, hi_6⟩
  · skip
    refine lv_if_eq (tgt := 37) G.1 G.2.1 dX12_set_6 (by decide) (fun c_7 => ?_) (fun c_7 => ?_)
    · skip
      exact absurd c_7 (by decide)
    · skip
      refine lv_iload_n G.1 G.2.1 dX12_set_9 rfl (lv_at hl 2 rfl) ?_
      refine lv_iconst (v := 0) G.1 G.2.1 dX12_set_10 (by decide) ?_
      refine lv_iload_n G.1 G.2.1 dX12_set_11 rfl (lv_at hl 1 rfl) ?_
      refine lv_if_ne (tgt := 20) G.1 G.2.1 dX12_set_12 (by decide) (fun c_8 => ?_) (fun c_8 => ?_)
      · skip
        refine lv_iload_n G.1 G.2.1 dX12_set_20 rfl (lv_at hl 1 rfl) ?_
        refine lv_iconst (v := 1) G.1 G.2.1 dX12_set_21 (by decide) ?_
        refine lv_icmp_ne (tgt := 29) G.1 G.2.1 dX12_set_22 (by decide) (fun c_9 => ?_) (fun c_9 => ?_)
        · skip
          refine lv_bipush (v := 99) G.1 G.2.1 dX12_set_29 (by decide) ?_
          refine py_calli hw (va_runS (As := [.int b, .int 0, .int 99]) (rest := []) G (c_X12_in l E L f H_3.size b 0 99) (va_cwS 3 G.2.2.2.2 g_X12_set_X12_in_232 rfl rfl rfl (by decide +kernel) ⟨(Nat.le_of_ble_eq_true rfl), (Nat.le_of_ble_eq_true rfl)⟩) (py_preS hw) rfl rfl hl.1 rfl (lv_room (Nat.le_of_ble_eq_true rfl)) dX12_set_31 ⟨(Nat.le_of_ble_eq_true rfl), (Nat.le_of_ble_eq_true rfl)⟩) (fun r_14 L_10 f_11 H_12 locs hp_13 hw => ?_)
          obtain ⟨rfl, rfl, hi_15⟩ := hp_13
          rcases hi_15 with ⟨rfl, hi_15⟩ | ⟨rfl, hi_15⟩
          · skip
            refine lv_if_ne (tgt := 39) G.1 G.2.1 dX12_set_34 (by decide) (fun c_16 => ?_) (fun c_16 => ?_)
            · skip
              refine lv_aload_n G.1 G.2.1 dX12_set_39 rfl (lv_at hl 0 rfl) ?_
              refine lv_iload_n G.1 G.2.1 dX12_set_40 rfl (lv_at hl 1 rfl) ?_
              refine lv_if_ne (tgt := 48) G.1 G.2.1 dX12_set_41 (by decide) (fun c_17 => ?_) (fun c_17 => ?_)
              · skip
                refine lv_aload_n G.1 G.2.1 dX12_set_48 rfl (lv_at hl 0 rfl) ?_
                refine py_get (C := RX12) (T := TX12) (N := 54) (k := 32) (v := .int v32) G hw in_X12_set_X12 rfl hh (by decide) (by decide +kernel) hp32 dX12_set_49 ?_
                refine py_put (C := RX12) (T := TX12) (N := 54) (k := 32) (v := .int v32) (fs' := xs.set 32 (.int v32)) (ty0 := tyX12) G hw tyX12_ok nmX12 in_X12_set_X12 rfl hh (by decide) (by decide +kernel) rfl rfl rfl rfl (py_len hxs (by decide)) rfl dX12_set_52 (fun f_18 H_19 locs h_20 x_21 hw => ?_)
                obtain ⟨xs_22, exs_22⟩ : ∃ y, y = xs.set 32 (.int v32) := ⟨_, rfl⟩
                rw [← exs_22] at h_20
                have hl_23 : xs_22.length = 54 := by rw [exs_22, List.length_set]; exact hxs
                have hp_24 : xs_22[1]? = some (.ref tp) := by rw [exs_22, List.getElem?_set_ne (by decide)]; exact hp1
                have hp_25 : xs_22[2]? = some (.int 0) := by rw [exs_22, List.getElem?_set_ne (by decide)]; exact hp2
                have hp_26 : xs_22[8]? = some (.ref cd) := by rw [exs_22, List.getElem?_set_ne (by decide)]; exact hp8
                have hp_27 : xs_22[9]? = some (.ref cl) := by rw [exs_22, List.getElem?_set_ne (by decide)]; exact hp9
                have hp_28 : xs_22[13]? = some (.int 0) := by rw [exs_22, List.getElem?_set_ne (by decide)]; exact hp13
                have hp_29 : xs_22[24]? = some (.int 0) := by rw [exs_22, List.getElem?_set_ne (by decide)]; exact hp24
                have hp_30 : xs_22[25]? = some (.int 0) := by rw [exs_22, List.getElem?_set_ne (by decide)]; exact hp25
                have hp_31 : xs_22[29]? = some (.int 0) := by rw [exs_22, List.getElem?_set_ne (by decide)]; exact hp29
                have hp_32 : xs_22[31]? = some (.int (-1)) := by rw [exs_22, List.getElem?_set_ne (by decide)]; exact hp31
                have hp_33 : xs_22[43]? = some (.int 0) := by rw [exs_22, List.getElem?_set_ne (by decide)]; exact hp43
                have hp_34 : xs_22[53]? = some (.int 0) := by rw [exs_22, List.getElem?_set_ne (by decide)]; exact hp53
                have hp_35 : xs_22[33]? = some (.int v33) := by rw [exs_22, List.getElem?_set_ne (by decide)]; exact hp33
                have hp_36 : xs_22[34]? = some (.int v34) := by rw [exs_22, List.getElem?_set_ne (by decide)]; exact hp34
                have hp_37 : xs_22[32]? = some (.int v32) := by rw [exs_22, List.getElem?_set_self (by rw [hxs]; decide)]
                have htp := htp.ext x_21 (Ne.symm (py_ne_arr hh htp))
                have hcd := hcd.ext x_21 (Ne.symm (py_ne_arr hh hcd))
                have hcl := hcl.ext x_21 (Ne.symm (py_ne_arr hh hcl))
                refine lv_aload_n G.1 G.2.1 dX12_set_55 rfl (lv_at hl 0 rfl) ?_
                refine lv_iload_n G.1 G.2.1 dX12_set_56 rfl (lv_at hl 1 rfl) ?_
                refine lv_iconst (v := 1) G.1 G.2.1 dX12_set_57 (by decide) ?_
                refine lv_icmp_ne (tgt := 65) G.1 G.2.1 dX12_set_58 (by decide) (fun c_38 => ?_) (fun c_38 => ?_)
                · skip
                  refine lv_aload_n G.1 G.2.1 dX12_set_65 rfl (lv_at hl 0 rfl) ?_
                  refine py_get (C := RX12) (T := TX12) (N := 54) (k := 33) (v := .int v33) G hw in_X12_set_X12 rfl h_20 (by decide) (by decide +kernel) hp_35 dX12_set_66 ?_
                  refine py_put (C := RX12) (T := TX12) (N := 54) (k := 33) (v := .int v33) (fs' := xs_22.set 33 (.int v33)) (ty0 := tyX12) G hw tyX12_ok nmX12 in_X12_set_X12 rfl h_20 (by decide) (by decide +kernel) rfl rfl rfl rfl (py_len hl_23 (by decide)) rfl dX12_set_69 (fun f_39 H_40 locs h_41 x_42 hw => ?_)
                  obtain ⟨xs_43, exs_43⟩ : ∃ y, y = xs_22.set 33 (.int v33) := ⟨_, rfl⟩
                  rw [← exs_43] at h_41
                  have hl_44 : xs_43.length = 54 := by rw [exs_43, List.length_set]; exact hl_23
                  have hp_45 : xs_43[1]? = some (.ref tp) := by rw [exs_43, List.getElem?_set_ne (by decide)]; exact hp_24
                  have hp_46 : xs_43[2]? = some (.int 0) := by rw [exs_43, List.getElem?_set_ne (by decide)]; exact hp_25
                  have hp_47 : xs_43[8]? = some (.ref cd) := by rw [exs_43, List.getElem?_set_ne (by decide)]; exact hp_26
                  have hp_48 : xs_43[9]? = some (.ref cl) := by rw [exs_43, List.getElem?_set_ne (by decide)]; exact hp_27
                  have hp_49 : xs_43[13]? = some (.int 0) := by rw [exs_43, List.getElem?_set_ne (by decide)]; exact hp_28
                  have hp_50 : xs_43[24]? = some (.int 0) := by rw [exs_43, List.getElem?_set_ne (by decide)]; exact hp_29
                  have hp_51 : xs_43[25]? = some (.int 0) := by rw [exs_43, List.getElem?_set_ne (by decide)]; exact hp_30
                  have hp_52 : xs_43[29]? = some (.int 0) := by rw [exs_43, List.getElem?_set_ne (by decide)]; exact hp_31
                  have hp_53 : xs_43[31]? = some (.int (-1)) := by rw [exs_43, List.getElem?_set_ne (by decide)]; exact hp_32
                  have hp_54 : xs_43[43]? = some (.int 0) := by rw [exs_43, List.getElem?_set_ne (by decide)]; exact hp_33
                  have hp_55 : xs_43[53]? = some (.int 0) := by rw [exs_43, List.getElem?_set_ne (by decide)]; exact hp_34
                  have hp_56 : xs_43[34]? = some (.int v34) := by rw [exs_43, List.getElem?_set_ne (by decide)]; exact hp_36
                  have hp_57 : xs_43[32]? = some (.int v32) := by rw [exs_43, List.getElem?_set_ne (by decide)]; exact hp_37
                  have hp_58 : xs_43[33]? = some (.int v33) := by rw [exs_43, List.getElem?_set_self (by rw [hl_23]; decide)]
                  have htp := htp.ext x_42 (Ne.symm (py_ne_arr h_20 htp))
                  have hcd := hcd.ext x_42 (Ne.symm (py_ne_arr h_20 hcd))
                  have hcl := hcl.ext x_42 (Ne.symm (py_ne_arr h_20 hcl))
                  refine lv_aload_n G.1 G.2.1 dX12_set_72 rfl (lv_at hl 0 rfl) ?_
                  refine lv_iload_n G.1 G.2.1 dX12_set_73 rfl (lv_at hl 1 rfl) ?_
                  refine lv_iconst (v := 2) G.1 G.2.1 dX12_set_74 (by decide) ?_
                  refine lv_icmp_ne (tgt := 82) G.1 G.2.1 dX12_set_75 (by decide) (fun c_59 => ?_) (fun c_59 => ?_)
                  · skip
                    refine lv_aload_n G.1 G.2.1 dX12_set_82 rfl (lv_at hl 0 rfl) ?_
                    refine py_get (C := RX12) (T := TX12) (N := 54) (k := 34) (v := .int v34) G hw in_X12_set_X12 rfl h_41 (by decide) (by decide +kernel) hp_56 dX12_set_83 ?_
                    refine py_put (C := RX12) (T := TX12) (N := 54) (k := 34) (v := .int v34) (fs' := xs_43.set 34 (.int v34)) (ty0 := tyX12) G hw tyX12_ok nmX12 in_X12_set_X12 rfl h_41 (by decide) (by decide +kernel) rfl rfl rfl rfl (py_len hl_44 (by decide)) rfl dX12_set_86 (fun f_60 H_61 locs h_62 x_63 hw => ?_)
                    obtain ⟨xs_64, exs_64⟩ : ∃ y, y = xs_43.set 34 (.int v34) := ⟨_, rfl⟩
                    rw [← exs_64] at h_62
                    have hl_65 : xs_64.length = 54 := by rw [exs_64, List.length_set]; exact hl_44
                    have hp_66 : xs_64[1]? = some (.ref tp) := by rw [exs_64, List.getElem?_set_ne (by decide)]; exact hp_45
                    have hp_67 : xs_64[2]? = some (.int 0) := by rw [exs_64, List.getElem?_set_ne (by decide)]; exact hp_46
                    have hp_68 : xs_64[8]? = some (.ref cd) := by rw [exs_64, List.getElem?_set_ne (by decide)]; exact hp_47
                    have hp_69 : xs_64[9]? = some (.ref cl) := by rw [exs_64, List.getElem?_set_ne (by decide)]; exact hp_48
                    have hp_70 : xs_64[13]? = some (.int 0) := by rw [exs_64, List.getElem?_set_ne (by decide)]; exact hp_49
                    have hp_71 : xs_64[24]? = some (.int 0) := by rw [exs_64, List.getElem?_set_ne (by decide)]; exact hp_50
                    have hp_72 : xs_64[25]? = some (.int 0) := by rw [exs_64, List.getElem?_set_ne (by decide)]; exact hp_51
                    have hp_73 : xs_64[29]? = some (.int 0) := by rw [exs_64, List.getElem?_set_ne (by decide)]; exact hp_52
                    have hp_74 : xs_64[31]? = some (.int (-1)) := by rw [exs_64, List.getElem?_set_ne (by decide)]; exact hp_53
                    have hp_75 : xs_64[43]? = some (.int 0) := by rw [exs_64, List.getElem?_set_ne (by decide)]; exact hp_54
                    have hp_76 : xs_64[53]? = some (.int 0) := by rw [exs_64, List.getElem?_set_ne (by decide)]; exact hp_55
                    have hp_77 : xs_64[32]? = some (.int v32) := by rw [exs_64, List.getElem?_set_ne (by decide)]; exact hp_57
                    have hp_78 : xs_64[33]? = some (.int v33) := by rw [exs_64, List.getElem?_set_ne (by decide)]; exact hp_58
                    have hp_79 : xs_64[34]? = some (.int v34) := by rw [exs_64, List.getElem?_set_self (by rw [hl_44]; decide)]
                    have htp := htp.ext x_63 (Ne.symm (py_ne_arr h_41 htp))
                    have hcd := hcd.ext x_63 (Ne.symm (py_ne_arr h_41 hcd))
                    have hcl := hcl.ext x_63 (Ne.symm (py_ne_arr h_41 hcl))
                    refine lv_iconst (v := 1) G.1 G.2.1 dX12_set_89 (by decide) ?_
                    exact py_iret G hr rfl hlk hw (by first | (simp [sp_set, hi_6, c_7, c_8, c_9, hi_15, c_16, c_17, c_38, c_59]; done) | (first | decide | exact absurd rfl hi_6 | exact absurd rfl c_7 | exact absurd rfl c_8 | exact absurd rfl c_9 | exact absurd rfl hi_15 | exact absurd rfl c_16 | exact absurd rfl c_17 | exact absurd rfl c_38 | exact absurd rfl c_59 | (have h9 := Int32.not_lt.mp hi_6; simp [sp_set, h9, hi_6, c_7, c_8, c_9, hi_15, c_16, c_17, c_38, c_59]; done) | (have h9 := Int32.not_lt.mp c_7; simp [sp_set, h9, hi_6, c_7, c_8, c_9, hi_15, c_16, c_17, c_38, c_59]; done) | (have h9 := Int32.not_lt.mp c_8; simp [sp_set, h9, hi_6, c_7, c_8, c_9, hi_15, c_16, c_17, c_38, c_59]; done) | (have h9 := Int32.not_lt.mp c_9; simp [sp_set, h9, hi_6, c_7, c_8, c_9, hi_15, c_16, c_17, c_38, c_59]; done) | (have h9 := Int32.not_lt.mp hi_15; simp [sp_set, h9, hi_6, c_7, c_8, c_9, hi_15, c_16, c_17, c_38, c_59]; done) | (have h9 := Int32.not_lt.mp c_16; simp [sp_set, h9, hi_6, c_7, c_8, c_9, hi_15, c_16, c_17, c_38, c_59]; done) | (have h9 := Int32.not_lt.mp c_17; simp [sp_set, h9, hi_6, c_7, c_8, c_9, hi_15, c_16, c_17, c_38, c_59]; done) | (have h9 := Int32.not_lt.mp c_38; simp [sp_set, h9, hi_6, c_7, c_8, c_9, hi_15, c_16, c_17, c_38, c_59]; done) | (have h9 := Int32.not_lt.mp c_59; simp [sp_set, h9, hi_6, c_7, c_8, c_9, hi_15, c_16, c_17, c_38, c_59]; done) | (have z0 : (0 : Int32).toInt = 0 := rfl; have z1 : (1 : Int32).toInt = 1 := rfl; have z2 : (2 : Int32).toInt = 2 := rfl; have z3 : (99 : Int32).toInt = 99 := rfl; have z4 : (100 : Int32).toInt = 100 := rfl; simp only [sp_set, Int32.lt_iff_toInt_lt, Int32.le_iff_toInt_le, ← Int32.toInt_inj] at hi_6 c_7 c_8 c_9 hi_15 c_16 c_17 c_38 c_59 ⊢; split <;> first | rfl | omega))) dX12_set_90
                  · skip
                    subst c_59
                    refine lv_iload_n G.1 G.2.1 dX12_set_78 rfl (lv_at hl 2 rfl) ?_
                    refine lv_goto (tgt := 86) G.1 G.2.1 dX12_set_79 (by decide) ?_
                    refine py_put (C := RX12) (T := TX12) (N := 54) (k := 34) (v := .int b) (fs' := xs_43.set 34 (.int b)) (ty0 := tyX12) G hw tyX12_ok nmX12 in_X12_set_X12 rfl h_41 (by decide) (by decide +kernel) rfl rfl rfl rfl (py_len hl_44 (by decide)) rfl dX12_set_86 (fun f_80 H_81 locs h_82 x_83 hw => ?_)
                    obtain ⟨xs_84, exs_84⟩ : ∃ y, y = xs_43.set 34 (.int b) := ⟨_, rfl⟩
                    rw [← exs_84] at h_82
                    have hl_85 : xs_84.length = 54 := by rw [exs_84, List.length_set]; exact hl_44
                    have hp_86 : xs_84[1]? = some (.ref tp) := by rw [exs_84, List.getElem?_set_ne (by decide)]; exact hp_45
                    have hp_87 : xs_84[2]? = some (.int 0) := by rw [exs_84, List.getElem?_set_ne (by decide)]; exact hp_46
                    have hp_88 : xs_84[8]? = some (.ref cd) := by rw [exs_84, List.getElem?_set_ne (by decide)]; exact hp_47
                    have hp_89 : xs_84[9]? = some (.ref cl) := by rw [exs_84, List.getElem?_set_ne (by decide)]; exact hp_48
                    have hp_90 : xs_84[13]? = some (.int 0) := by rw [exs_84, List.getElem?_set_ne (by decide)]; exact hp_49
                    have hp_91 : xs_84[24]? = some (.int 0) := by rw [exs_84, List.getElem?_set_ne (by decide)]; exact hp_50
                    have hp_92 : xs_84[25]? = some (.int 0) := by rw [exs_84, List.getElem?_set_ne (by decide)]; exact hp_51
                    have hp_93 : xs_84[29]? = some (.int 0) := by rw [exs_84, List.getElem?_set_ne (by decide)]; exact hp_52
                    have hp_94 : xs_84[31]? = some (.int (-1)) := by rw [exs_84, List.getElem?_set_ne (by decide)]; exact hp_53
                    have hp_95 : xs_84[43]? = some (.int 0) := by rw [exs_84, List.getElem?_set_ne (by decide)]; exact hp_54
                    have hp_96 : xs_84[53]? = some (.int 0) := by rw [exs_84, List.getElem?_set_ne (by decide)]; exact hp_55
                    have hp_97 : xs_84[32]? = some (.int v32) := by rw [exs_84, List.getElem?_set_ne (by decide)]; exact hp_57
                    have hp_98 : xs_84[33]? = some (.int v33) := by rw [exs_84, List.getElem?_set_ne (by decide)]; exact hp_58
                    have hp_99 : xs_84[34]? = some (.int b) := by rw [exs_84, List.getElem?_set_self (by rw [hl_44]; decide)]
                    have htp := htp.ext x_83 (Ne.symm (py_ne_arr h_41 htp))
                    have hcd := hcd.ext x_83 (Ne.symm (py_ne_arr h_41 hcd))
                    have hcl := hcl.ext x_83 (Ne.symm (py_ne_arr h_41 hcl))
                    refine lv_iconst (v := 1) G.1 G.2.1 dX12_set_89 (by decide) ?_
                    exact py_iret G hr rfl hlk hw (by first | (simp [sp_set, hi_6, c_7, c_8, c_9, hi_15, c_16, c_17, c_38]; done) | (first | decide | exact absurd rfl hi_6 | exact absurd rfl c_7 | exact absurd rfl c_8 | exact absurd rfl c_9 | exact absurd rfl hi_15 | exact absurd rfl c_16 | exact absurd rfl c_17 | exact absurd rfl c_38 | (have h9 := Int32.not_lt.mp hi_6; simp [sp_set, h9, hi_6, c_7, c_8, c_9, hi_15, c_16, c_17, c_38]; done) | (have h9 := Int32.not_lt.mp c_7; simp [sp_set, h9, hi_6, c_7, c_8, c_9, hi_15, c_16, c_17, c_38]; done) | (have h9 := Int32.not_lt.mp c_8; simp [sp_set, h9, hi_6, c_7, c_8, c_9, hi_15, c_16, c_17, c_38]; done) | (have h9 := Int32.not_lt.mp c_9; simp [sp_set, h9, hi_6, c_7, c_8, c_9, hi_15, c_16, c_17, c_38]; done) | (have h9 := Int32.not_lt.mp hi_15; simp [sp_set, h9, hi_6, c_7, c_8, c_9, hi_15, c_16, c_17, c_38]; done) | (have h9 := Int32.not_lt.mp c_16; simp [sp_set, h9, hi_6, c_7, c_8, c_9, hi_15, c_16, c_17, c_38]; done) | (have h9 := Int32.not_lt.mp c_17; simp [sp_set, h9, hi_6, c_7, c_8, c_9, hi_15, c_16, c_17, c_38]; done) | (have h9 := Int32.not_lt.mp c_38; simp [sp_set, h9, hi_6, c_7, c_8, c_9, hi_15, c_16, c_17, c_38]; done) | (have z0 : (0 : Int32).toInt = 0 := rfl; have z1 : (1 : Int32).toInt = 1 := rfl; have z2 : (2 : Int32).toInt = 2 := rfl; have z3 : (99 : Int32).toInt = 99 := rfl; have z4 : (100 : Int32).toInt = 100 := rfl; simp only [sp_set, Int32.lt_iff_toInt_lt, Int32.le_iff_toInt_le, ← Int32.toInt_inj] at hi_6 c_7 c_8 c_9 hi_15 c_16 c_17 c_38 ⊢; split <;> first | rfl | omega))) dX12_set_90
                · skip
                  subst c_38
                  refine lv_iload_n G.1 G.2.1 dX12_set_61 rfl (lv_at hl 2 rfl) ?_
                  refine lv_goto (tgt := 69) G.1 G.2.1 dX12_set_62 (by decide) ?_
                  refine py_put (C := RX12) (T := TX12) (N := 54) (k := 33) (v := .int b) (fs' := xs_22.set 33 (.int b)) (ty0 := tyX12) G hw tyX12_ok nmX12 in_X12_set_X12 rfl h_20 (by decide) (by decide +kernel) rfl rfl rfl rfl (py_len hl_23 (by decide)) rfl dX12_set_69 (fun f_100 H_101 locs h_102 x_103 hw => ?_)
                  obtain ⟨xs_104, exs_104⟩ : ∃ y, y = xs_22.set 33 (.int b) := ⟨_, rfl⟩
                  rw [← exs_104] at h_102
                  have hl_105 : xs_104.length = 54 := by rw [exs_104, List.length_set]; exact hl_23
                  have hp_106 : xs_104[1]? = some (.ref tp) := by rw [exs_104, List.getElem?_set_ne (by decide)]; exact hp_24
                  have hp_107 : xs_104[2]? = some (.int 0) := by rw [exs_104, List.getElem?_set_ne (by decide)]; exact hp_25
                  have hp_108 : xs_104[8]? = some (.ref cd) := by rw [exs_104, List.getElem?_set_ne (by decide)]; exact hp_26
                  have hp_109 : xs_104[9]? = some (.ref cl) := by rw [exs_104, List.getElem?_set_ne (by decide)]; exact hp_27
                  have hp_110 : xs_104[13]? = some (.int 0) := by rw [exs_104, List.getElem?_set_ne (by decide)]; exact hp_28
                  have hp_111 : xs_104[24]? = some (.int 0) := by rw [exs_104, List.getElem?_set_ne (by decide)]; exact hp_29
                  have hp_112 : xs_104[25]? = some (.int 0) := by rw [exs_104, List.getElem?_set_ne (by decide)]; exact hp_30
                  have hp_113 : xs_104[29]? = some (.int 0) := by rw [exs_104, List.getElem?_set_ne (by decide)]; exact hp_31
                  have hp_114 : xs_104[31]? = some (.int (-1)) := by rw [exs_104, List.getElem?_set_ne (by decide)]; exact hp_32
                  have hp_115 : xs_104[43]? = some (.int 0) := by rw [exs_104, List.getElem?_set_ne (by decide)]; exact hp_33
                  have hp_116 : xs_104[53]? = some (.int 0) := by rw [exs_104, List.getElem?_set_ne (by decide)]; exact hp_34
                  have hp_117 : xs_104[34]? = some (.int v34) := by rw [exs_104, List.getElem?_set_ne (by decide)]; exact hp_36
                  have hp_118 : xs_104[32]? = some (.int v32) := by rw [exs_104, List.getElem?_set_ne (by decide)]; exact hp_37
                  have hp_119 : xs_104[33]? = some (.int b) := by rw [exs_104, List.getElem?_set_self (by rw [hl_23]; decide)]
                  have htp := htp.ext x_103 (Ne.symm (py_ne_arr h_20 htp))
                  have hcd := hcd.ext x_103 (Ne.symm (py_ne_arr h_20 hcd))
                  have hcl := hcl.ext x_103 (Ne.symm (py_ne_arr h_20 hcl))
                  refine lv_aload_n G.1 G.2.1 dX12_set_72 rfl (lv_at hl 0 rfl) ?_
                  refine lv_iload_n G.1 G.2.1 dX12_set_73 rfl (lv_at hl 1 rfl) ?_
                  refine lv_iconst (v := 2) G.1 G.2.1 dX12_set_74 (by decide) ?_
                  refine lv_icmp_ne (tgt := 82) G.1 G.2.1 dX12_set_75 (by decide) (fun c_120 => ?_) (fun c_120 => ?_)
                  · skip
                    refine lv_aload_n G.1 G.2.1 dX12_set_82 rfl (lv_at hl 0 rfl) ?_
                    refine py_get (C := RX12) (T := TX12) (N := 54) (k := 34) (v := .int v34) G hw in_X12_set_X12 rfl h_102 (by decide) (by decide +kernel) hp_117 dX12_set_83 ?_
                    refine py_put (C := RX12) (T := TX12) (N := 54) (k := 34) (v := .int v34) (fs' := xs_104.set 34 (.int v34)) (ty0 := tyX12) G hw tyX12_ok nmX12 in_X12_set_X12 rfl h_102 (by decide) (by decide +kernel) rfl rfl rfl rfl (py_len hl_105 (by decide)) rfl dX12_set_86 (fun f_121 H_122 locs h_123 x_124 hw => ?_)
                    obtain ⟨xs_125, exs_125⟩ : ∃ y, y = xs_104.set 34 (.int v34) := ⟨_, rfl⟩
                    rw [← exs_125] at h_123
                    have hl_126 : xs_125.length = 54 := by rw [exs_125, List.length_set]; exact hl_105
                    have hp_127 : xs_125[1]? = some (.ref tp) := by rw [exs_125, List.getElem?_set_ne (by decide)]; exact hp_106
                    have hp_128 : xs_125[2]? = some (.int 0) := by rw [exs_125, List.getElem?_set_ne (by decide)]; exact hp_107
                    have hp_129 : xs_125[8]? = some (.ref cd) := by rw [exs_125, List.getElem?_set_ne (by decide)]; exact hp_108
                    have hp_130 : xs_125[9]? = some (.ref cl) := by rw [exs_125, List.getElem?_set_ne (by decide)]; exact hp_109
                    have hp_131 : xs_125[13]? = some (.int 0) := by rw [exs_125, List.getElem?_set_ne (by decide)]; exact hp_110
                    have hp_132 : xs_125[24]? = some (.int 0) := by rw [exs_125, List.getElem?_set_ne (by decide)]; exact hp_111
                    have hp_133 : xs_125[25]? = some (.int 0) := by rw [exs_125, List.getElem?_set_ne (by decide)]; exact hp_112
                    have hp_134 : xs_125[29]? = some (.int 0) := by rw [exs_125, List.getElem?_set_ne (by decide)]; exact hp_113
                    have hp_135 : xs_125[31]? = some (.int (-1)) := by rw [exs_125, List.getElem?_set_ne (by decide)]; exact hp_114
                    have hp_136 : xs_125[43]? = some (.int 0) := by rw [exs_125, List.getElem?_set_ne (by decide)]; exact hp_115
                    have hp_137 : xs_125[53]? = some (.int 0) := by rw [exs_125, List.getElem?_set_ne (by decide)]; exact hp_116
                    have hp_138 : xs_125[32]? = some (.int v32) := by rw [exs_125, List.getElem?_set_ne (by decide)]; exact hp_118
                    have hp_139 : xs_125[33]? = some (.int b) := by rw [exs_125, List.getElem?_set_ne (by decide)]; exact hp_119
                    have hp_140 : xs_125[34]? = some (.int v34) := by rw [exs_125, List.getElem?_set_self (by rw [hl_105]; decide)]
                    have htp := htp.ext x_124 (Ne.symm (py_ne_arr h_102 htp))
                    have hcd := hcd.ext x_124 (Ne.symm (py_ne_arr h_102 hcd))
                    have hcl := hcl.ext x_124 (Ne.symm (py_ne_arr h_102 hcl))
                    refine lv_iconst (v := 1) G.1 G.2.1 dX12_set_89 (by decide) ?_
                    exact py_iret G hr rfl hlk hw (by first | (simp [sp_set, hi_6, c_7, c_8, c_9, hi_15, c_16, c_17, c_120]; done) | (first | decide | exact absurd rfl hi_6 | exact absurd rfl c_7 | exact absurd rfl c_8 | exact absurd rfl c_9 | exact absurd rfl hi_15 | exact absurd rfl c_16 | exact absurd rfl c_17 | exact absurd rfl c_120 | (have h9 := Int32.not_lt.mp hi_6; simp [sp_set, h9, hi_6, c_7, c_8, c_9, hi_15, c_16, c_17, c_120]; done) | (have h9 := Int32.not_lt.mp c_7; simp [sp_set, h9, hi_6, c_7, c_8, c_9, hi_15, c_16, c_17, c_120]; done) | (have h9 := Int32.not_lt.mp c_8; simp [sp_set, h9, hi_6, c_7, c_8, c_9, hi_15, c_16, c_17, c_120]; done) | (have h9 := Int32.not_lt.mp c_9; simp [sp_set, h9, hi_6, c_7, c_8, c_9, hi_15, c_16, c_17, c_120]; done) | (have h9 := Int32.not_lt.mp hi_15; simp [sp_set, h9, hi_6, c_7, c_8, c_9, hi_15, c_16, c_17, c_120]; done) | (have h9 := Int32.not_lt.mp c_16; simp [sp_set, h9, hi_6, c_7, c_8, c_9, hi_15, c_16, c_17, c_120]; done) | (have h9 := Int32.not_lt.mp c_17; simp [sp_set, h9, hi_6, c_7, c_8, c_9, hi_15, c_16, c_17, c_120]; done) | (have h9 := Int32.not_lt.mp c_120; simp [sp_set, h9, hi_6, c_7, c_8, c_9, hi_15, c_16, c_17, c_120]; done) | (have z0 : (0 : Int32).toInt = 0 := rfl; have z1 : (1 : Int32).toInt = 1 := rfl; have z2 : (2 : Int32).toInt = 2 := rfl; have z3 : (99 : Int32).toInt = 99 := rfl; have z4 : (100 : Int32).toInt = 100 := rfl; simp only [sp_set, Int32.lt_iff_toInt_lt, Int32.le_iff_toInt_le, ← Int32.toInt_inj] at hi_6 c_7 c_8 c_9 hi_15 c_16 c_17 c_120 ⊢; split <;> first | rfl | omega))) dX12_set_90
                  · skip
                    exact absurd c_120 (by decide)
              · skip
                subst c_17
                refine lv_iload_n G.1 G.2.1 dX12_set_44 rfl (lv_at hl 2 rfl) ?_
                refine lv_goto (tgt := 52) G.1 G.2.1 dX12_set_45 (by decide) ?_
                refine py_put (C := RX12) (T := TX12) (N := 54) (k := 32) (v := .int b) (fs' := xs.set 32 (.int b)) (ty0 := tyX12) G hw tyX12_ok nmX12 in_X12_set_X12 rfl hh (by decide) (by decide +kernel) rfl rfl rfl rfl (py_len hxs (by decide)) rfl dX12_set_52 (fun f_141 H_142 locs h_143 x_144 hw => ?_)
                obtain ⟨xs_145, exs_145⟩ : ∃ y, y = xs.set 32 (.int b) := ⟨_, rfl⟩
                rw [← exs_145] at h_143
                have hl_146 : xs_145.length = 54 := by rw [exs_145, List.length_set]; exact hxs
                have hp_147 : xs_145[1]? = some (.ref tp) := by rw [exs_145, List.getElem?_set_ne (by decide)]; exact hp1
                have hp_148 : xs_145[2]? = some (.int 0) := by rw [exs_145, List.getElem?_set_ne (by decide)]; exact hp2
                have hp_149 : xs_145[8]? = some (.ref cd) := by rw [exs_145, List.getElem?_set_ne (by decide)]; exact hp8
                have hp_150 : xs_145[9]? = some (.ref cl) := by rw [exs_145, List.getElem?_set_ne (by decide)]; exact hp9
                have hp_151 : xs_145[13]? = some (.int 0) := by rw [exs_145, List.getElem?_set_ne (by decide)]; exact hp13
                have hp_152 : xs_145[24]? = some (.int 0) := by rw [exs_145, List.getElem?_set_ne (by decide)]; exact hp24
                have hp_153 : xs_145[25]? = some (.int 0) := by rw [exs_145, List.getElem?_set_ne (by decide)]; exact hp25
                have hp_154 : xs_145[29]? = some (.int 0) := by rw [exs_145, List.getElem?_set_ne (by decide)]; exact hp29
                have hp_155 : xs_145[31]? = some (.int (-1)) := by rw [exs_145, List.getElem?_set_ne (by decide)]; exact hp31
                have hp_156 : xs_145[43]? = some (.int 0) := by rw [exs_145, List.getElem?_set_ne (by decide)]; exact hp43
                have hp_157 : xs_145[53]? = some (.int 0) := by rw [exs_145, List.getElem?_set_ne (by decide)]; exact hp53
                have hp_158 : xs_145[33]? = some (.int v33) := by rw [exs_145, List.getElem?_set_ne (by decide)]; exact hp33
                have hp_159 : xs_145[34]? = some (.int v34) := by rw [exs_145, List.getElem?_set_ne (by decide)]; exact hp34
                have hp_160 : xs_145[32]? = some (.int b) := by rw [exs_145, List.getElem?_set_self (by rw [hxs]; decide)]
                have htp := htp.ext x_144 (Ne.symm (py_ne_arr hh htp))
                have hcd := hcd.ext x_144 (Ne.symm (py_ne_arr hh hcd))
                have hcl := hcl.ext x_144 (Ne.symm (py_ne_arr hh hcl))
                refine lv_aload_n G.1 G.2.1 dX12_set_55 rfl (lv_at hl 0 rfl) ?_
                refine lv_iload_n G.1 G.2.1 dX12_set_56 rfl (lv_at hl 1 rfl) ?_
                refine lv_iconst (v := 1) G.1 G.2.1 dX12_set_57 (by decide) ?_
                refine lv_icmp_ne (tgt := 65) G.1 G.2.1 dX12_set_58 (by decide) (fun c_161 => ?_) (fun c_161 => ?_)
                · skip
                  refine lv_aload_n G.1 G.2.1 dX12_set_65 rfl (lv_at hl 0 rfl) ?_
                  refine py_get (C := RX12) (T := TX12) (N := 54) (k := 33) (v := .int v33) G hw in_X12_set_X12 rfl h_143 (by decide) (by decide +kernel) hp_158 dX12_set_66 ?_
                  refine py_put (C := RX12) (T := TX12) (N := 54) (k := 33) (v := .int v33) (fs' := xs_145.set 33 (.int v33)) (ty0 := tyX12) G hw tyX12_ok nmX12 in_X12_set_X12 rfl h_143 (by decide) (by decide +kernel) rfl rfl rfl rfl (py_len hl_146 (by decide)) rfl dX12_set_69 (fun f_162 H_163 locs h_164 x_165 hw => ?_)
                  obtain ⟨xs_166, exs_166⟩ : ∃ y, y = xs_145.set 33 (.int v33) := ⟨_, rfl⟩
                  rw [← exs_166] at h_164
                  have hl_167 : xs_166.length = 54 := by rw [exs_166, List.length_set]; exact hl_146
                  have hp_168 : xs_166[1]? = some (.ref tp) := by rw [exs_166, List.getElem?_set_ne (by decide)]; exact hp_147
                  have hp_169 : xs_166[2]? = some (.int 0) := by rw [exs_166, List.getElem?_set_ne (by decide)]; exact hp_148
                  have hp_170 : xs_166[8]? = some (.ref cd) := by rw [exs_166, List.getElem?_set_ne (by decide)]; exact hp_149
                  have hp_171 : xs_166[9]? = some (.ref cl) := by rw [exs_166, List.getElem?_set_ne (by decide)]; exact hp_150
                  have hp_172 : xs_166[13]? = some (.int 0) := by rw [exs_166, List.getElem?_set_ne (by decide)]; exact hp_151
                  have hp_173 : xs_166[24]? = some (.int 0) := by rw [exs_166, List.getElem?_set_ne (by decide)]; exact hp_152
                  have hp_174 : xs_166[25]? = some (.int 0) := by rw [exs_166, List.getElem?_set_ne (by decide)]; exact hp_153
                  have hp_175 : xs_166[29]? = some (.int 0) := by rw [exs_166, List.getElem?_set_ne (by decide)]; exact hp_154
                  have hp_176 : xs_166[31]? = some (.int (-1)) := by rw [exs_166, List.getElem?_set_ne (by decide)]; exact hp_155
                  have hp_177 : xs_166[43]? = some (.int 0) := by rw [exs_166, List.getElem?_set_ne (by decide)]; exact hp_156
                  have hp_178 : xs_166[53]? = some (.int 0) := by rw [exs_166, List.getElem?_set_ne (by decide)]; exact hp_157
                  have hp_179 : xs_166[34]? = some (.int v34) := by rw [exs_166, List.getElem?_set_ne (by decide)]; exact hp_159
                  have hp_180 : xs_166[32]? = some (.int b) := by rw [exs_166, List.getElem?_set_ne (by decide)]; exact hp_160
                  have hp_181 : xs_166[33]? = some (.int v33) := by rw [exs_166, List.getElem?_set_self (by rw [hl_146]; decide)]
                  have htp := htp.ext x_165 (Ne.symm (py_ne_arr h_143 htp))
                  have hcd := hcd.ext x_165 (Ne.symm (py_ne_arr h_143 hcd))
                  have hcl := hcl.ext x_165 (Ne.symm (py_ne_arr h_143 hcl))
                  refine lv_aload_n G.1 G.2.1 dX12_set_72 rfl (lv_at hl 0 rfl) ?_
                  refine lv_iload_n G.1 G.2.1 dX12_set_73 rfl (lv_at hl 1 rfl) ?_
                  refine lv_iconst (v := 2) G.1 G.2.1 dX12_set_74 (by decide) ?_
                  refine lv_icmp_ne (tgt := 82) G.1 G.2.1 dX12_set_75 (by decide) (fun c_182 => ?_) (fun c_182 => ?_)
                  · skip
                    refine lv_aload_n G.1 G.2.1 dX12_set_82 rfl (lv_at hl 0 rfl) ?_
                    refine py_get (C := RX12) (T := TX12) (N := 54) (k := 34) (v := .int v34) G hw in_X12_set_X12 rfl h_164 (by decide) (by decide +kernel) hp_179 dX12_set_83 ?_
                    refine py_put (C := RX12) (T := TX12) (N := 54) (k := 34) (v := .int v34) (fs' := xs_166.set 34 (.int v34)) (ty0 := tyX12) G hw tyX12_ok nmX12 in_X12_set_X12 rfl h_164 (by decide) (by decide +kernel) rfl rfl rfl rfl (py_len hl_167 (by decide)) rfl dX12_set_86 (fun f_183 H_184 locs h_185 x_186 hw => ?_)
                    obtain ⟨xs_187, exs_187⟩ : ∃ y, y = xs_166.set 34 (.int v34) := ⟨_, rfl⟩
                    rw [← exs_187] at h_185
                    have hl_188 : xs_187.length = 54 := by rw [exs_187, List.length_set]; exact hl_167
                    have hp_189 : xs_187[1]? = some (.ref tp) := by rw [exs_187, List.getElem?_set_ne (by decide)]; exact hp_168
                    have hp_190 : xs_187[2]? = some (.int 0) := by rw [exs_187, List.getElem?_set_ne (by decide)]; exact hp_169
                    have hp_191 : xs_187[8]? = some (.ref cd) := by rw [exs_187, List.getElem?_set_ne (by decide)]; exact hp_170
                    have hp_192 : xs_187[9]? = some (.ref cl) := by rw [exs_187, List.getElem?_set_ne (by decide)]; exact hp_171
                    have hp_193 : xs_187[13]? = some (.int 0) := by rw [exs_187, List.getElem?_set_ne (by decide)]; exact hp_172
                    have hp_194 : xs_187[24]? = some (.int 0) := by rw [exs_187, List.getElem?_set_ne (by decide)]; exact hp_173
                    have hp_195 : xs_187[25]? = some (.int 0) := by rw [exs_187, List.getElem?_set_ne (by decide)]; exact hp_174
                    have hp_196 : xs_187[29]? = some (.int 0) := by rw [exs_187, List.getElem?_set_ne (by decide)]; exact hp_175
                    have hp_197 : xs_187[31]? = some (.int (-1)) := by rw [exs_187, List.getElem?_set_ne (by decide)]; exact hp_176
                    have hp_198 : xs_187[43]? = some (.int 0) := by rw [exs_187, List.getElem?_set_ne (by decide)]; exact hp_177
                    have hp_199 : xs_187[53]? = some (.int 0) := by rw [exs_187, List.getElem?_set_ne (by decide)]; exact hp_178
                    have hp_200 : xs_187[32]? = some (.int b) := by rw [exs_187, List.getElem?_set_ne (by decide)]; exact hp_180
                    have hp_201 : xs_187[33]? = some (.int v33) := by rw [exs_187, List.getElem?_set_ne (by decide)]; exact hp_181
                    have hp_202 : xs_187[34]? = some (.int v34) := by rw [exs_187, List.getElem?_set_self (by rw [hl_167]; decide)]
                    have htp := htp.ext x_186 (Ne.symm (py_ne_arr h_164 htp))
                    have hcd := hcd.ext x_186 (Ne.symm (py_ne_arr h_164 hcd))
                    have hcl := hcl.ext x_186 (Ne.symm (py_ne_arr h_164 hcl))
                    refine lv_iconst (v := 1) G.1 G.2.1 dX12_set_89 (by decide) ?_
                    exact py_iret G hr rfl hlk hw (by first | (simp [sp_set, hi_6, c_7, c_8, c_9, hi_15, c_16, c_161, c_182]; done) | (first | decide | exact absurd rfl hi_6 | exact absurd rfl c_7 | exact absurd rfl c_8 | exact absurd rfl c_9 | exact absurd rfl hi_15 | exact absurd rfl c_16 | exact absurd rfl c_161 | exact absurd rfl c_182 | (have h9 := Int32.not_lt.mp hi_6; simp [sp_set, h9, hi_6, c_7, c_8, c_9, hi_15, c_16, c_161, c_182]; done) | (have h9 := Int32.not_lt.mp c_7; simp [sp_set, h9, hi_6, c_7, c_8, c_9, hi_15, c_16, c_161, c_182]; done) | (have h9 := Int32.not_lt.mp c_8; simp [sp_set, h9, hi_6, c_7, c_8, c_9, hi_15, c_16, c_161, c_182]; done) | (have h9 := Int32.not_lt.mp c_9; simp [sp_set, h9, hi_6, c_7, c_8, c_9, hi_15, c_16, c_161, c_182]; done) | (have h9 := Int32.not_lt.mp hi_15; simp [sp_set, h9, hi_6, c_7, c_8, c_9, hi_15, c_16, c_161, c_182]; done) | (have h9 := Int32.not_lt.mp c_16; simp [sp_set, h9, hi_6, c_7, c_8, c_9, hi_15, c_16, c_161, c_182]; done) | (have h9 := Int32.not_lt.mp c_161; simp [sp_set, h9, hi_6, c_7, c_8, c_9, hi_15, c_16, c_161, c_182]; done) | (have h9 := Int32.not_lt.mp c_182; simp [sp_set, h9, hi_6, c_7, c_8, c_9, hi_15, c_16, c_161, c_182]; done) | (have z0 : (0 : Int32).toInt = 0 := rfl; have z1 : (1 : Int32).toInt = 1 := rfl; have z2 : (2 : Int32).toInt = 2 := rfl; have z3 : (99 : Int32).toInt = 99 := rfl; have z4 : (100 : Int32).toInt = 100 := rfl; simp only [sp_set, Int32.lt_iff_toInt_lt, Int32.le_iff_toInt_le, ← Int32.toInt_inj] at hi_6 c_7 c_8 c_9 hi_15 c_16 c_161 c_182 ⊢; split <;> first | rfl | omega))) dX12_set_90
                  · skip
                    exact absurd c_182 (by decide)
                · skip
                  exact absurd c_161 (by decide)
            · skip
              exact absurd c_16 (by decide)
          · skip
            refine lv_if_ne (tgt := 39) G.1 G.2.1 dX12_set_34 (by decide) (fun c_203 => ?_) (fun c_203 => ?_)
            · skip
              exact absurd c_203 (by decide)
            · skip
              refine lv_iconst (v := 0) G.1 G.2.1 dX12_set_37 (by decide) ?_
              exact py_iret G hr rfl hlk hw (by first | (simp [sp_set, hi_6, c_7, c_8, c_9, hi_15, c_203]; done) | (first | decide | exact absurd rfl hi_6 | exact absurd rfl c_7 | exact absurd rfl c_8 | exact absurd rfl c_9 | exact absurd rfl hi_15 | exact absurd rfl c_203 | (have h9 := Int32.not_lt.mp hi_6; simp [sp_set, h9, hi_6, c_7, c_8, c_9, hi_15, c_203]; done) | (have h9 := Int32.not_lt.mp c_7; simp [sp_set, h9, hi_6, c_7, c_8, c_9, hi_15, c_203]; done) | (have h9 := Int32.not_lt.mp c_8; simp [sp_set, h9, hi_6, c_7, c_8, c_9, hi_15, c_203]; done) | (have h9 := Int32.not_lt.mp c_9; simp [sp_set, h9, hi_6, c_7, c_8, c_9, hi_15, c_203]; done) | (have h9 := Int32.not_lt.mp hi_15; simp [sp_set, h9, hi_6, c_7, c_8, c_9, hi_15, c_203]; done) | (have h9 := Int32.not_lt.mp c_203; simp [sp_set, h9, hi_6, c_7, c_8, c_9, hi_15, c_203]; done) | (have z0 : (0 : Int32).toInt = 0 := rfl; have z1 : (1 : Int32).toInt = 1 := rfl; have z2 : (2 : Int32).toInt = 2 := rfl; have z3 : (99 : Int32).toInt = 99 := rfl; have z4 : (100 : Int32).toInt = 100 := rfl; simp only [sp_set, Int32.lt_iff_toInt_lt, Int32.le_iff_toInt_le, ← Int32.toInt_inj] at hi_6 c_7 c_8 c_9 hi_15 c_203 ⊢; split <;> first | rfl | omega))) dX12_set_38
        · skip
          subst c_9
          refine lv_iconst (v := 1) G.1 G.2.1 dX12_set_25 (by decide) ?_
          refine lv_goto (tgt := 31) G.1 G.2.1 dX12_set_26 (by decide) ?_
          refine py_calli hw (va_runS (As := [.int b, .int 0, .int 1]) (rest := []) G (c_X12_in l E L f H_3.size b 0 1) (va_cwS 3 G.2.2.2.2 g_X12_set_X12_in_232 rfl rfl rfl (by decide +kernel) ⟨(Nat.le_of_ble_eq_true rfl), (Nat.le_of_ble_eq_true rfl)⟩) (py_preS hw) rfl rfl hl.1 rfl (lv_room (Nat.le_of_ble_eq_true rfl)) dX12_set_31 ⟨(Nat.le_of_ble_eq_true rfl), (Nat.le_of_ble_eq_true rfl)⟩) (fun r_208 L_204 f_205 H_206 locs hp_207 hw => ?_)
          obtain ⟨rfl, rfl, hi_209⟩ := hp_207
          rcases hi_209 with ⟨rfl, hi_209⟩ | ⟨rfl, hi_209⟩
          · skip
            refine lv_if_ne (tgt := 39) G.1 G.2.1 dX12_set_34 (by decide) (fun c_210 => ?_) (fun c_210 => ?_)
            · skip
              refine lv_aload_n G.1 G.2.1 dX12_set_39 rfl (lv_at hl 0 rfl) ?_
              refine lv_iload_n G.1 G.2.1 dX12_set_40 rfl (lv_at hl 1 rfl) ?_
              refine lv_if_ne (tgt := 48) G.1 G.2.1 dX12_set_41 (by decide) (fun c_211 => ?_) (fun c_211 => ?_)
              · skip
                refine lv_aload_n G.1 G.2.1 dX12_set_48 rfl (lv_at hl 0 rfl) ?_
                refine py_get (C := RX12) (T := TX12) (N := 54) (k := 32) (v := .int v32) G hw in_X12_set_X12 rfl hh (by decide) (by decide +kernel) hp32 dX12_set_49 ?_
                refine py_put (C := RX12) (T := TX12) (N := 54) (k := 32) (v := .int v32) (fs' := xs.set 32 (.int v32)) (ty0 := tyX12) G hw tyX12_ok nmX12 in_X12_set_X12 rfl hh (by decide) (by decide +kernel) rfl rfl rfl rfl (py_len hxs (by decide)) rfl dX12_set_52 (fun f_212 H_213 locs h_214 x_215 hw => ?_)
                obtain ⟨xs_216, exs_216⟩ : ∃ y, y = xs.set 32 (.int v32) := ⟨_, rfl⟩
                rw [← exs_216] at h_214
                have hl_217 : xs_216.length = 54 := by rw [exs_216, List.length_set]; exact hxs
                have hp_218 : xs_216[1]? = some (.ref tp) := by rw [exs_216, List.getElem?_set_ne (by decide)]; exact hp1
                have hp_219 : xs_216[2]? = some (.int 0) := by rw [exs_216, List.getElem?_set_ne (by decide)]; exact hp2
                have hp_220 : xs_216[8]? = some (.ref cd) := by rw [exs_216, List.getElem?_set_ne (by decide)]; exact hp8
                have hp_221 : xs_216[9]? = some (.ref cl) := by rw [exs_216, List.getElem?_set_ne (by decide)]; exact hp9
                have hp_222 : xs_216[13]? = some (.int 0) := by rw [exs_216, List.getElem?_set_ne (by decide)]; exact hp13
                have hp_223 : xs_216[24]? = some (.int 0) := by rw [exs_216, List.getElem?_set_ne (by decide)]; exact hp24
                have hp_224 : xs_216[25]? = some (.int 0) := by rw [exs_216, List.getElem?_set_ne (by decide)]; exact hp25
                have hp_225 : xs_216[29]? = some (.int 0) := by rw [exs_216, List.getElem?_set_ne (by decide)]; exact hp29
                have hp_226 : xs_216[31]? = some (.int (-1)) := by rw [exs_216, List.getElem?_set_ne (by decide)]; exact hp31
                have hp_227 : xs_216[43]? = some (.int 0) := by rw [exs_216, List.getElem?_set_ne (by decide)]; exact hp43
                have hp_228 : xs_216[53]? = some (.int 0) := by rw [exs_216, List.getElem?_set_ne (by decide)]; exact hp53
                have hp_229 : xs_216[33]? = some (.int v33) := by rw [exs_216, List.getElem?_set_ne (by decide)]; exact hp33
                have hp_230 : xs_216[34]? = some (.int v34) := by rw [exs_216, List.getElem?_set_ne (by decide)]; exact hp34
                have hp_231 : xs_216[32]? = some (.int v32) := by rw [exs_216, List.getElem?_set_self (by rw [hxs]; decide)]
                have htp := htp.ext x_215 (Ne.symm (py_ne_arr hh htp))
                have hcd := hcd.ext x_215 (Ne.symm (py_ne_arr hh hcd))
                have hcl := hcl.ext x_215 (Ne.symm (py_ne_arr hh hcl))
                refine lv_aload_n G.1 G.2.1 dX12_set_55 rfl (lv_at hl 0 rfl) ?_
                refine lv_iload_n G.1 G.2.1 dX12_set_56 rfl (lv_at hl 1 rfl) ?_
                refine lv_iconst (v := 1) G.1 G.2.1 dX12_set_57 (by decide) ?_
                refine lv_icmp_ne (tgt := 65) G.1 G.2.1 dX12_set_58 (by decide) (fun c_232 => ?_) (fun c_232 => ?_)
                · skip
                  exact absurd c_232 (by decide)
                · skip
                  refine lv_iload_n G.1 G.2.1 dX12_set_61 rfl (lv_at hl 2 rfl) ?_
                  refine lv_goto (tgt := 69) G.1 G.2.1 dX12_set_62 (by decide) ?_
                  refine py_put (C := RX12) (T := TX12) (N := 54) (k := 33) (v := .int b) (fs' := xs_216.set 33 (.int b)) (ty0 := tyX12) G hw tyX12_ok nmX12 in_X12_set_X12 rfl h_214 (by decide) (by decide +kernel) rfl rfl rfl rfl (py_len hl_217 (by decide)) rfl dX12_set_69 (fun f_233 H_234 locs h_235 x_236 hw => ?_)
                  obtain ⟨xs_237, exs_237⟩ : ∃ y, y = xs_216.set 33 (.int b) := ⟨_, rfl⟩
                  rw [← exs_237] at h_235
                  have hl_238 : xs_237.length = 54 := by rw [exs_237, List.length_set]; exact hl_217
                  have hp_239 : xs_237[1]? = some (.ref tp) := by rw [exs_237, List.getElem?_set_ne (by decide)]; exact hp_218
                  have hp_240 : xs_237[2]? = some (.int 0) := by rw [exs_237, List.getElem?_set_ne (by decide)]; exact hp_219
                  have hp_241 : xs_237[8]? = some (.ref cd) := by rw [exs_237, List.getElem?_set_ne (by decide)]; exact hp_220
                  have hp_242 : xs_237[9]? = some (.ref cl) := by rw [exs_237, List.getElem?_set_ne (by decide)]; exact hp_221
                  have hp_243 : xs_237[13]? = some (.int 0) := by rw [exs_237, List.getElem?_set_ne (by decide)]; exact hp_222
                  have hp_244 : xs_237[24]? = some (.int 0) := by rw [exs_237, List.getElem?_set_ne (by decide)]; exact hp_223
                  have hp_245 : xs_237[25]? = some (.int 0) := by rw [exs_237, List.getElem?_set_ne (by decide)]; exact hp_224
                  have hp_246 : xs_237[29]? = some (.int 0) := by rw [exs_237, List.getElem?_set_ne (by decide)]; exact hp_225
                  have hp_247 : xs_237[31]? = some (.int (-1)) := by rw [exs_237, List.getElem?_set_ne (by decide)]; exact hp_226
                  have hp_248 : xs_237[43]? = some (.int 0) := by rw [exs_237, List.getElem?_set_ne (by decide)]; exact hp_227
                  have hp_249 : xs_237[53]? = some (.int 0) := by rw [exs_237, List.getElem?_set_ne (by decide)]; exact hp_228
                  have hp_250 : xs_237[34]? = some (.int v34) := by rw [exs_237, List.getElem?_set_ne (by decide)]; exact hp_230
                  have hp_251 : xs_237[32]? = some (.int v32) := by rw [exs_237, List.getElem?_set_ne (by decide)]; exact hp_231
                  have hp_252 : xs_237[33]? = some (.int b) := by rw [exs_237, List.getElem?_set_self (by rw [hl_217]; decide)]
                  have htp := htp.ext x_236 (Ne.symm (py_ne_arr h_214 htp))
                  have hcd := hcd.ext x_236 (Ne.symm (py_ne_arr h_214 hcd))
                  have hcl := hcl.ext x_236 (Ne.symm (py_ne_arr h_214 hcl))
                  refine lv_aload_n G.1 G.2.1 dX12_set_72 rfl (lv_at hl 0 rfl) ?_
                  refine lv_iload_n G.1 G.2.1 dX12_set_73 rfl (lv_at hl 1 rfl) ?_
                  refine lv_iconst (v := 2) G.1 G.2.1 dX12_set_74 (by decide) ?_
                  refine lv_icmp_ne (tgt := 82) G.1 G.2.1 dX12_set_75 (by decide) (fun c_253 => ?_) (fun c_253 => ?_)
                  · skip
                    refine lv_aload_n G.1 G.2.1 dX12_set_82 rfl (lv_at hl 0 rfl) ?_
                    refine py_get (C := RX12) (T := TX12) (N := 54) (k := 34) (v := .int v34) G hw in_X12_set_X12 rfl h_235 (by decide) (by decide +kernel) hp_250 dX12_set_83 ?_
                    refine py_put (C := RX12) (T := TX12) (N := 54) (k := 34) (v := .int v34) (fs' := xs_237.set 34 (.int v34)) (ty0 := tyX12) G hw tyX12_ok nmX12 in_X12_set_X12 rfl h_235 (by decide) (by decide +kernel) rfl rfl rfl rfl (py_len hl_238 (by decide)) rfl dX12_set_86 (fun f_254 H_255 locs h_256 x_257 hw => ?_)
                    obtain ⟨xs_258, exs_258⟩ : ∃ y, y = xs_237.set 34 (.int v34) := ⟨_, rfl⟩
                    rw [← exs_258] at h_256
                    have hl_259 : xs_258.length = 54 := by rw [exs_258, List.length_set]; exact hl_238
                    have hp_260 : xs_258[1]? = some (.ref tp) := by rw [exs_258, List.getElem?_set_ne (by decide)]; exact hp_239
                    have hp_261 : xs_258[2]? = some (.int 0) := by rw [exs_258, List.getElem?_set_ne (by decide)]; exact hp_240
                    have hp_262 : xs_258[8]? = some (.ref cd) := by rw [exs_258, List.getElem?_set_ne (by decide)]; exact hp_241
                    have hp_263 : xs_258[9]? = some (.ref cl) := by rw [exs_258, List.getElem?_set_ne (by decide)]; exact hp_242
                    have hp_264 : xs_258[13]? = some (.int 0) := by rw [exs_258, List.getElem?_set_ne (by decide)]; exact hp_243
                    have hp_265 : xs_258[24]? = some (.int 0) := by rw [exs_258, List.getElem?_set_ne (by decide)]; exact hp_244
                    have hp_266 : xs_258[25]? = some (.int 0) := by rw [exs_258, List.getElem?_set_ne (by decide)]; exact hp_245
                    have hp_267 : xs_258[29]? = some (.int 0) := by rw [exs_258, List.getElem?_set_ne (by decide)]; exact hp_246
                    have hp_268 : xs_258[31]? = some (.int (-1)) := by rw [exs_258, List.getElem?_set_ne (by decide)]; exact hp_247
                    have hp_269 : xs_258[43]? = some (.int 0) := by rw [exs_258, List.getElem?_set_ne (by decide)]; exact hp_248
                    have hp_270 : xs_258[53]? = some (.int 0) := by rw [exs_258, List.getElem?_set_ne (by decide)]; exact hp_249
                    have hp_271 : xs_258[32]? = some (.int v32) := by rw [exs_258, List.getElem?_set_ne (by decide)]; exact hp_251
                    have hp_272 : xs_258[33]? = some (.int b) := by rw [exs_258, List.getElem?_set_ne (by decide)]; exact hp_252
                    have hp_273 : xs_258[34]? = some (.int v34) := by rw [exs_258, List.getElem?_set_self (by rw [hl_238]; decide)]
                    have htp := htp.ext x_257 (Ne.symm (py_ne_arr h_235 htp))
                    have hcd := hcd.ext x_257 (Ne.symm (py_ne_arr h_235 hcd))
                    have hcl := hcl.ext x_257 (Ne.symm (py_ne_arr h_235 hcl))
                    refine lv_iconst (v := 1) G.1 G.2.1 dX12_set_89 (by decide) ?_
                    exact py_iret G hr rfl hlk hw (by first | (simp [sp_set, hi_6, c_7, c_8, hi_209, c_210, c_211, c_232, c_253]; done) | (first | decide | exact absurd rfl hi_6 | exact absurd rfl c_7 | exact absurd rfl c_8 | exact absurd rfl hi_209 | exact absurd rfl c_210 | exact absurd rfl c_211 | exact absurd rfl c_232 | exact absurd rfl c_253 | (have h9 := Int32.not_lt.mp hi_6; simp [sp_set, h9, hi_6, c_7, c_8, hi_209, c_210, c_211, c_232, c_253]; done) | (have h9 := Int32.not_lt.mp c_7; simp [sp_set, h9, hi_6, c_7, c_8, hi_209, c_210, c_211, c_232, c_253]; done) | (have h9 := Int32.not_lt.mp c_8; simp [sp_set, h9, hi_6, c_7, c_8, hi_209, c_210, c_211, c_232, c_253]; done) | (have h9 := Int32.not_lt.mp hi_209; simp [sp_set, h9, hi_6, c_7, c_8, hi_209, c_210, c_211, c_232, c_253]; done) | (have h9 := Int32.not_lt.mp c_210; simp [sp_set, h9, hi_6, c_7, c_8, hi_209, c_210, c_211, c_232, c_253]; done) | (have h9 := Int32.not_lt.mp c_211; simp [sp_set, h9, hi_6, c_7, c_8, hi_209, c_210, c_211, c_232, c_253]; done) | (have h9 := Int32.not_lt.mp c_232; simp [sp_set, h9, hi_6, c_7, c_8, hi_209, c_210, c_211, c_232, c_253]; done) | (have h9 := Int32.not_lt.mp c_253; simp [sp_set, h9, hi_6, c_7, c_8, hi_209, c_210, c_211, c_232, c_253]; done) | (have z0 : (0 : Int32).toInt = 0 := rfl; have z1 : (1 : Int32).toInt = 1 := rfl; have z2 : (2 : Int32).toInt = 2 := rfl; have z3 : (99 : Int32).toInt = 99 := rfl; have z4 : (100 : Int32).toInt = 100 := rfl; simp only [sp_set, Int32.lt_iff_toInt_lt, Int32.le_iff_toInt_le, ← Int32.toInt_inj] at hi_6 c_7 c_8 hi_209 c_210 c_211 c_232 c_253 ⊢; split <;> first | rfl | omega))) dX12_set_90
                  · skip
                    exact absurd c_253 (by decide)
              · skip
                exact absurd c_211 (by decide)
            · skip
              exact absurd c_210 (by decide)
          · skip
            refine lv_if_ne (tgt := 39) G.1 G.2.1 dX12_set_34 (by decide) (fun c_274 => ?_) (fun c_274 => ?_)
            · skip
              exact absurd c_274 (by decide)
            · skip
              refine lv_iconst (v := 0) G.1 G.2.1 dX12_set_37 (by decide) ?_
              exact py_iret G hr rfl hlk hw (by first | (simp [sp_set, hi_6, c_7, c_8, hi_209, c_274]; done) | (first | decide | exact absurd rfl hi_6 | exact absurd rfl c_7 | exact absurd rfl c_8 | exact absurd rfl hi_209 | exact absurd rfl c_274 | (have h9 := Int32.not_lt.mp hi_6; simp [sp_set, h9, hi_6, c_7, c_8, hi_209, c_274]; done) | (have h9 := Int32.not_lt.mp c_7; simp [sp_set, h9, hi_6, c_7, c_8, hi_209, c_274]; done) | (have h9 := Int32.not_lt.mp c_8; simp [sp_set, h9, hi_6, c_7, c_8, hi_209, c_274]; done) | (have h9 := Int32.not_lt.mp hi_209; simp [sp_set, h9, hi_6, c_7, c_8, hi_209, c_274]; done) | (have h9 := Int32.not_lt.mp c_274; simp [sp_set, h9, hi_6, c_7, c_8, hi_209, c_274]; done) | (have z0 : (0 : Int32).toInt = 0 := rfl; have z1 : (1 : Int32).toInt = 1 := rfl; have z2 : (2 : Int32).toInt = 2 := rfl; have z3 : (99 : Int32).toInt = 99 := rfl; have z4 : (100 : Int32).toInt = 100 := rfl; simp only [sp_set, Int32.lt_iff_toInt_lt, Int32.le_iff_toInt_le, ← Int32.toInt_inj] at hi_6 c_7 c_8 hi_209 c_274 ⊢; split <;> first | rfl | omega))) dX12_set_38
      · skip
        subst c_8
        refine lv_bipush (v := 100) G.1 G.2.1 dX12_set_15 (by decide) ?_
        refine lv_goto (tgt := 31) G.1 G.2.1 dX12_set_17 (by decide) ?_
        refine py_calli hw (va_runS (As := [.int b, .int 0, .int 100]) (rest := []) G (c_X12_in l E L f H_3.size b 0 100) (va_cwS 3 G.2.2.2.2 g_X12_set_X12_in_232 rfl rfl rfl (by decide +kernel) ⟨(Nat.le_of_ble_eq_true rfl), (Nat.le_of_ble_eq_true rfl)⟩) (py_preS hw) rfl rfl hl.1 rfl (lv_room (Nat.le_of_ble_eq_true rfl)) dX12_set_31 ⟨(Nat.le_of_ble_eq_true rfl), (Nat.le_of_ble_eq_true rfl)⟩) (fun r_279 L_275 f_276 H_277 locs hp_278 hw => ?_)
        obtain ⟨rfl, rfl, hi_280⟩ := hp_278
        rcases hi_280 with ⟨rfl, hi_280⟩ | ⟨rfl, hi_280⟩
        · skip
          refine lv_if_ne (tgt := 39) G.1 G.2.1 dX12_set_34 (by decide) (fun c_281 => ?_) (fun c_281 => ?_)
          · skip
            refine lv_aload_n G.1 G.2.1 dX12_set_39 rfl (lv_at hl 0 rfl) ?_
            refine lv_iload_n G.1 G.2.1 dX12_set_40 rfl (lv_at hl 1 rfl) ?_
            refine lv_if_ne (tgt := 48) G.1 G.2.1 dX12_set_41 (by decide) (fun c_282 => ?_) (fun c_282 => ?_)
            · skip
              exact absurd c_282 (by decide)
            · skip
              refine lv_iload_n G.1 G.2.1 dX12_set_44 rfl (lv_at hl 2 rfl) ?_
              refine lv_goto (tgt := 52) G.1 G.2.1 dX12_set_45 (by decide) ?_
              refine py_put (C := RX12) (T := TX12) (N := 54) (k := 32) (v := .int b) (fs' := xs.set 32 (.int b)) (ty0 := tyX12) G hw tyX12_ok nmX12 in_X12_set_X12 rfl hh (by decide) (by decide +kernel) rfl rfl rfl rfl (py_len hxs (by decide)) rfl dX12_set_52 (fun f_283 H_284 locs h_285 x_286 hw => ?_)
              obtain ⟨xs_287, exs_287⟩ : ∃ y, y = xs.set 32 (.int b) := ⟨_, rfl⟩
              rw [← exs_287] at h_285
              have hl_288 : xs_287.length = 54 := by rw [exs_287, List.length_set]; exact hxs
              have hp_289 : xs_287[1]? = some (.ref tp) := by rw [exs_287, List.getElem?_set_ne (by decide)]; exact hp1
              have hp_290 : xs_287[2]? = some (.int 0) := by rw [exs_287, List.getElem?_set_ne (by decide)]; exact hp2
              have hp_291 : xs_287[8]? = some (.ref cd) := by rw [exs_287, List.getElem?_set_ne (by decide)]; exact hp8
              have hp_292 : xs_287[9]? = some (.ref cl) := by rw [exs_287, List.getElem?_set_ne (by decide)]; exact hp9
              have hp_293 : xs_287[13]? = some (.int 0) := by rw [exs_287, List.getElem?_set_ne (by decide)]; exact hp13
              have hp_294 : xs_287[24]? = some (.int 0) := by rw [exs_287, List.getElem?_set_ne (by decide)]; exact hp24
              have hp_295 : xs_287[25]? = some (.int 0) := by rw [exs_287, List.getElem?_set_ne (by decide)]; exact hp25
              have hp_296 : xs_287[29]? = some (.int 0) := by rw [exs_287, List.getElem?_set_ne (by decide)]; exact hp29
              have hp_297 : xs_287[31]? = some (.int (-1)) := by rw [exs_287, List.getElem?_set_ne (by decide)]; exact hp31
              have hp_298 : xs_287[43]? = some (.int 0) := by rw [exs_287, List.getElem?_set_ne (by decide)]; exact hp43
              have hp_299 : xs_287[53]? = some (.int 0) := by rw [exs_287, List.getElem?_set_ne (by decide)]; exact hp53
              have hp_300 : xs_287[33]? = some (.int v33) := by rw [exs_287, List.getElem?_set_ne (by decide)]; exact hp33
              have hp_301 : xs_287[34]? = some (.int v34) := by rw [exs_287, List.getElem?_set_ne (by decide)]; exact hp34
              have hp_302 : xs_287[32]? = some (.int b) := by rw [exs_287, List.getElem?_set_self (by rw [hxs]; decide)]
              have htp := htp.ext x_286 (Ne.symm (py_ne_arr hh htp))
              have hcd := hcd.ext x_286 (Ne.symm (py_ne_arr hh hcd))
              have hcl := hcl.ext x_286 (Ne.symm (py_ne_arr hh hcl))
              refine lv_aload_n G.1 G.2.1 dX12_set_55 rfl (lv_at hl 0 rfl) ?_
              refine lv_iload_n G.1 G.2.1 dX12_set_56 rfl (lv_at hl 1 rfl) ?_
              refine lv_iconst (v := 1) G.1 G.2.1 dX12_set_57 (by decide) ?_
              refine lv_icmp_ne (tgt := 65) G.1 G.2.1 dX12_set_58 (by decide) (fun c_303 => ?_) (fun c_303 => ?_)
              · skip
                refine lv_aload_n G.1 G.2.1 dX12_set_65 rfl (lv_at hl 0 rfl) ?_
                refine py_get (C := RX12) (T := TX12) (N := 54) (k := 33) (v := .int v33) G hw in_X12_set_X12 rfl h_285 (by decide) (by decide +kernel) hp_300 dX12_set_66 ?_
                refine py_put (C := RX12) (T := TX12) (N := 54) (k := 33) (v := .int v33) (fs' := xs_287.set 33 (.int v33)) (ty0 := tyX12) G hw tyX12_ok nmX12 in_X12_set_X12 rfl h_285 (by decide) (by decide +kernel) rfl rfl rfl rfl (py_len hl_288 (by decide)) rfl dX12_set_69 (fun f_304 H_305 locs h_306 x_307 hw => ?_)
                obtain ⟨xs_308, exs_308⟩ : ∃ y, y = xs_287.set 33 (.int v33) := ⟨_, rfl⟩
                rw [← exs_308] at h_306
                have hl_309 : xs_308.length = 54 := by rw [exs_308, List.length_set]; exact hl_288
                have hp_310 : xs_308[1]? = some (.ref tp) := by rw [exs_308, List.getElem?_set_ne (by decide)]; exact hp_289
                have hp_311 : xs_308[2]? = some (.int 0) := by rw [exs_308, List.getElem?_set_ne (by decide)]; exact hp_290
                have hp_312 : xs_308[8]? = some (.ref cd) := by rw [exs_308, List.getElem?_set_ne (by decide)]; exact hp_291
                have hp_313 : xs_308[9]? = some (.ref cl) := by rw [exs_308, List.getElem?_set_ne (by decide)]; exact hp_292
                have hp_314 : xs_308[13]? = some (.int 0) := by rw [exs_308, List.getElem?_set_ne (by decide)]; exact hp_293
                have hp_315 : xs_308[24]? = some (.int 0) := by rw [exs_308, List.getElem?_set_ne (by decide)]; exact hp_294
                have hp_316 : xs_308[25]? = some (.int 0) := by rw [exs_308, List.getElem?_set_ne (by decide)]; exact hp_295
                have hp_317 : xs_308[29]? = some (.int 0) := by rw [exs_308, List.getElem?_set_ne (by decide)]; exact hp_296
                have hp_318 : xs_308[31]? = some (.int (-1)) := by rw [exs_308, List.getElem?_set_ne (by decide)]; exact hp_297
                have hp_319 : xs_308[43]? = some (.int 0) := by rw [exs_308, List.getElem?_set_ne (by decide)]; exact hp_298
                have hp_320 : xs_308[53]? = some (.int 0) := by rw [exs_308, List.getElem?_set_ne (by decide)]; exact hp_299
                have hp_321 : xs_308[34]? = some (.int v34) := by rw [exs_308, List.getElem?_set_ne (by decide)]; exact hp_301
                have hp_322 : xs_308[32]? = some (.int b) := by rw [exs_308, List.getElem?_set_ne (by decide)]; exact hp_302
                have hp_323 : xs_308[33]? = some (.int v33) := by rw [exs_308, List.getElem?_set_self (by rw [hl_288]; decide)]
                have htp := htp.ext x_307 (Ne.symm (py_ne_arr h_285 htp))
                have hcd := hcd.ext x_307 (Ne.symm (py_ne_arr h_285 hcd))
                have hcl := hcl.ext x_307 (Ne.symm (py_ne_arr h_285 hcl))
                refine lv_aload_n G.1 G.2.1 dX12_set_72 rfl (lv_at hl 0 rfl) ?_
                refine lv_iload_n G.1 G.2.1 dX12_set_73 rfl (lv_at hl 1 rfl) ?_
                refine lv_iconst (v := 2) G.1 G.2.1 dX12_set_74 (by decide) ?_
                refine lv_icmp_ne (tgt := 82) G.1 G.2.1 dX12_set_75 (by decide) (fun c_324 => ?_) (fun c_324 => ?_)
                · skip
                  refine lv_aload_n G.1 G.2.1 dX12_set_82 rfl (lv_at hl 0 rfl) ?_
                  refine py_get (C := RX12) (T := TX12) (N := 54) (k := 34) (v := .int v34) G hw in_X12_set_X12 rfl h_306 (by decide) (by decide +kernel) hp_321 dX12_set_83 ?_
                  refine py_put (C := RX12) (T := TX12) (N := 54) (k := 34) (v := .int v34) (fs' := xs_308.set 34 (.int v34)) (ty0 := tyX12) G hw tyX12_ok nmX12 in_X12_set_X12 rfl h_306 (by decide) (by decide +kernel) rfl rfl rfl rfl (py_len hl_309 (by decide)) rfl dX12_set_86 (fun f_325 H_326 locs h_327 x_328 hw => ?_)
                  obtain ⟨xs_329, exs_329⟩ : ∃ y, y = xs_308.set 34 (.int v34) := ⟨_, rfl⟩
                  rw [← exs_329] at h_327
                  have hl_330 : xs_329.length = 54 := by rw [exs_329, List.length_set]; exact hl_309
                  have hp_331 : xs_329[1]? = some (.ref tp) := by rw [exs_329, List.getElem?_set_ne (by decide)]; exact hp_310
                  have hp_332 : xs_329[2]? = some (.int 0) := by rw [exs_329, List.getElem?_set_ne (by decide)]; exact hp_311
                  have hp_333 : xs_329[8]? = some (.ref cd) := by rw [exs_329, List.getElem?_set_ne (by decide)]; exact hp_312
                  have hp_334 : xs_329[9]? = some (.ref cl) := by rw [exs_329, List.getElem?_set_ne (by decide)]; exact hp_313
                  have hp_335 : xs_329[13]? = some (.int 0) := by rw [exs_329, List.getElem?_set_ne (by decide)]; exact hp_314
                  have hp_336 : xs_329[24]? = some (.int 0) := by rw [exs_329, List.getElem?_set_ne (by decide)]; exact hp_315
                  have hp_337 : xs_329[25]? = some (.int 0) := by rw [exs_329, List.getElem?_set_ne (by decide)]; exact hp_316
                  have hp_338 : xs_329[29]? = some (.int 0) := by rw [exs_329, List.getElem?_set_ne (by decide)]; exact hp_317
                  have hp_339 : xs_329[31]? = some (.int (-1)) := by rw [exs_329, List.getElem?_set_ne (by decide)]; exact hp_318
                  have hp_340 : xs_329[43]? = some (.int 0) := by rw [exs_329, List.getElem?_set_ne (by decide)]; exact hp_319
                  have hp_341 : xs_329[53]? = some (.int 0) := by rw [exs_329, List.getElem?_set_ne (by decide)]; exact hp_320
                  have hp_342 : xs_329[32]? = some (.int b) := by rw [exs_329, List.getElem?_set_ne (by decide)]; exact hp_322
                  have hp_343 : xs_329[33]? = some (.int v33) := by rw [exs_329, List.getElem?_set_ne (by decide)]; exact hp_323
                  have hp_344 : xs_329[34]? = some (.int v34) := by rw [exs_329, List.getElem?_set_self (by rw [hl_309]; decide)]
                  have htp := htp.ext x_328 (Ne.symm (py_ne_arr h_306 htp))
                  have hcd := hcd.ext x_328 (Ne.symm (py_ne_arr h_306 hcd))
                  have hcl := hcl.ext x_328 (Ne.symm (py_ne_arr h_306 hcl))
                  refine lv_iconst (v := 1) G.1 G.2.1 dX12_set_89 (by decide) ?_
                  exact py_iret G hr rfl hlk hw (by first | (simp [sp_set, hi_6, c_7, hi_280, c_281, c_282, c_303, c_324]; done) | (first | decide | exact absurd rfl hi_6 | exact absurd rfl c_7 | exact absurd rfl hi_280 | exact absurd rfl c_281 | exact absurd rfl c_282 | exact absurd rfl c_303 | exact absurd rfl c_324 | (have h9 := Int32.not_lt.mp hi_6; simp [sp_set, h9, hi_6, c_7, hi_280, c_281, c_282, c_303, c_324]; done) | (have h9 := Int32.not_lt.mp c_7; simp [sp_set, h9, hi_6, c_7, hi_280, c_281, c_282, c_303, c_324]; done) | (have h9 := Int32.not_lt.mp hi_280; simp [sp_set, h9, hi_6, c_7, hi_280, c_281, c_282, c_303, c_324]; done) | (have h9 := Int32.not_lt.mp c_281; simp [sp_set, h9, hi_6, c_7, hi_280, c_281, c_282, c_303, c_324]; done) | (have h9 := Int32.not_lt.mp c_282; simp [sp_set, h9, hi_6, c_7, hi_280, c_281, c_282, c_303, c_324]; done) | (have h9 := Int32.not_lt.mp c_303; simp [sp_set, h9, hi_6, c_7, hi_280, c_281, c_282, c_303, c_324]; done) | (have h9 := Int32.not_lt.mp c_324; simp [sp_set, h9, hi_6, c_7, hi_280, c_281, c_282, c_303, c_324]; done) | (have z0 : (0 : Int32).toInt = 0 := rfl; have z1 : (1 : Int32).toInt = 1 := rfl; have z2 : (2 : Int32).toInt = 2 := rfl; have z3 : (99 : Int32).toInt = 99 := rfl; have z4 : (100 : Int32).toInt = 100 := rfl; simp only [sp_set, Int32.lt_iff_toInt_lt, Int32.le_iff_toInt_le, ← Int32.toInt_inj] at hi_6 c_7 hi_280 c_281 c_282 c_303 c_324 ⊢; split <;> first | rfl | omega))) dX12_set_90
                · skip
                  exact absurd c_324 (by decide)
              · skip
                exact absurd c_303 (by decide)
          · skip
            exact absurd c_281 (by decide)
        · skip
          refine lv_if_ne (tgt := 39) G.1 G.2.1 dX12_set_34 (by decide) (fun c_345 => ?_) (fun c_345 => ?_)
          · skip
            exact absurd c_345 (by decide)
          · skip
            refine lv_iconst (v := 0) G.1 G.2.1 dX12_set_37 (by decide) ?_
            exact py_iret G hr rfl hlk hw (by first | (simp [sp_set, hi_6, c_7, hi_280, c_345]; done) | (first | decide | exact absurd rfl hi_6 | exact absurd rfl c_7 | exact absurd rfl hi_280 | exact absurd rfl c_345 | (have h9 := Int32.not_lt.mp hi_6; simp [sp_set, h9, hi_6, c_7, hi_280, c_345]; done) | (have h9 := Int32.not_lt.mp c_7; simp [sp_set, h9, hi_6, c_7, hi_280, c_345]; done) | (have h9 := Int32.not_lt.mp hi_280; simp [sp_set, h9, hi_6, c_7, hi_280, c_345]; done) | (have h9 := Int32.not_lt.mp c_345; simp [sp_set, h9, hi_6, c_7, hi_280, c_345]; done) | (have z0 : (0 : Int32).toInt = 0 := rfl; have z1 : (1 : Int32).toInt = 1 := rfl; have z2 : (2 : Int32).toInt = 2 := rfl; have z3 : (99 : Int32).toInt = 99 := rfl; have z4 : (100 : Int32).toInt = 100 := rfl; simp only [sp_set, Int32.lt_iff_toInt_lt, Int32.le_iff_toInt_le, ← Int32.toInt_inj] at hi_6 c_7 hi_280 c_345 ⊢; split <;> first | rfl | omega))) dX12_set_38
  · skip
    refine lv_if_eq (tgt := 37) G.1 G.2.1 dX12_set_6 (by decide) (fun c_346 => ?_) (fun c_346 => ?_)
    · skip
      refine lv_iconst (v := 0) G.1 G.2.1 dX12_set_37 (by decide) ?_
      exact py_iret G hr rfl hlk hw (by first | (simp [sp_set, hi_6, c_346]; done) | (first | decide | exact absurd rfl hi_6 | exact absurd rfl c_346 | (have h9 := Int32.not_lt.mp hi_6; simp [sp_set, h9, hi_6, c_346]; done) | (have h9 := Int32.not_lt.mp c_346; simp [sp_set, h9, hi_6, c_346]; done) | (have z0 : (0 : Int32).toInt = 0 := rfl; have z1 : (1 : Int32).toInt = 1 := rfl; have z2 : (2 : Int32).toInt = 2 := rfl; have z3 : (99 : Int32).toInt = 99 := rfl; have z4 : (100 : Int32).toInt = 100 := rfl; simp only [sp_set, Int32.lt_iff_toInt_lt, Int32.le_iff_toInt_le, ← Int32.toInt_inj] at hi_6 c_346 ⊢; split <;> first | rfl | omega))) dX12_set_38
    · skip
      exact absurd c_346 (by decide)

def w_X12_count : List Cond := .code yX12_count cX12_count 2 (some .int) :: ([Cond.fieldLink RX12 302 "HeadYearModel" "levels" "I", Cond.fieldLink RX12 290 "HeadYearModel" "families" "I", Cond.fieldLink RX12 322 "HeadYearModel" "laws" "I", Cond.fieldLink RX12 124 "HeadYearModel" "size" "I", Cond.fieldLink RX12 309 "HeadYearModel" "years" "I", Cond.fieldLink RX12 64 "HeadYearModel" "holding" "I", Cond.fieldLink RX12 312 "HeadYearModel" "buys" "I", Cond.methodLink RX12 463 yX12_gones, Cond.instanceMethod yX12_gones, Cond.selects RX12 yX12_gones yX12_gones, Cond.initialized RX12, Cond.constant RX12 350 (-1000000)] ++ (u_ws RX12 TX12 54 ++ (w_X12_gones ++ ([]))))
theorem in_X12_count_X12 : ∀ w ∈ u_ws RX12 TX12 54, w ∈ w_X12_count := fun _ h => List.mem_cons_of_mem _ (List.mem_append_right _ (List.mem_append_left _ h))
theorem gg_X12_count_X12_gones : GoodIn w_X12_count w_X12_gones := goodIn_sub (fun _ h => List.mem_cons_of_mem _ (List.mem_append_right _ (List.mem_append_right _ (List.mem_append_left _ h)))) (by decide +kernel)
theorem g_X12_count_X12_gones_463 : GoodIn w_X12_count (wsV RX12 463 RX12 yX12_gones w_X12_gones) := goodIn_app (goodIn_of _ (by decide +kernel)) gg_X12_count_X12_gones
set_option maxHeartbeats 4000000 in
set_option maxRecDepth 100000 in
theorem c_X12_count (l : Launch) (E : py_E) (L : List Nat) (f : py_F) (sz : Nat) (h : Nat) (a : Int32) (hM : fr_M E L f h) : Met l yX12_count w_X12_count ({ frames := 1, cells := 0, slots := 0, locals := 22 }) (py_Pc E [.ref h, .int a] L f sz) (py_Qi E L f sz (fun r _ _ => r = sp_count a)) 0 0 (va_A (va_pl L f) sz) := by
  refine Met.ofW (cc := cX12_count) (maxL := 2) (ret := (some .int)) (by decide) rfl ?_
  intro p e s m args below meth c s₁ B hml hv
  obtain ⟨rfl, rfl, hw⟩ := py_start hv
  have G : CallFix p m c cX12_count 2 s _ w_X12_count RX12 := ⟨B.exec, B.bytes, hml, findClass_of_methodNamed B.named, atoms_spec (ws := w_X12_count) B.pre⟩
  have hr := B.returns
  have hlk := B.notSynchronized
  have hl := lv_entry ([.ref h, .int a]) (n := 2) (Nat.le_of_ble_eq_true rfl)
  rw [lg_entry_eq]
  generalize (lg_sl ([.ref h, .int a]) ++ List.replicate (2 - (lg_sl ([.ref h, .int a])).length) Slot.unset).toArray = ls at hl ⊢
  have hl : lv_has ls 2 [(0, .ref h), (1, .int a)] := hl
  obtain ⟨tp, cd, cl, g1, g2, g3, xs, v32, v33, v34, hh, hxs, hp1, hp2, hp8, hp9, hp13, hp24, hp25, hp29, hp31, hp43, hp53, ⟨hp32, hp33, hp34⟩, htp, hcd, hcl⟩ := id hM
  refine lv_iload_n G.1 G.2.1 dX12_count_0 rfl (lv_at hl 1 rfl) ?_
  rcases py_sw8 a with e_sw | e_sw | e_sw | e_sw | e_sw | e_sw | e_sw | e_sw | e_sw
  · skip
    subst e_sw
    refine lv_tableIn (tgt := 48) G.1 G.2.1 dX12_count_1 (by decide) (by decide) rfl (by decide) ?_
    refine lv_aload_n G.1 G.2.1 dX12_count_48 rfl (lv_at hl 0 rfl) ?_
    refine py_get (C := RX12) (T := TX12) (N := 54) (k := 24) (v := .int 0) G hw in_X12_count_X12 rfl hh (by decide) (by decide +kernel) hp24 dX12_count_49 ?_
    exact py_iret G hr rfl hlk hw (by decide) dX12_count_52
  · skip
    subst e_sw
    refine lv_tableIn (tgt := 53) G.1 G.2.1 dX12_count_1 (by decide) (by decide) rfl (by decide) ?_
    refine lv_aload_n G.1 G.2.1 dX12_count_53 rfl (lv_at hl 0 rfl) ?_
    refine py_get (C := RX12) (T := TX12) (N := 54) (k := 25) (v := .int 0) G hw in_X12_count_X12 rfl hh (by decide) (by decide +kernel) hp25 dX12_count_54 ?_
    exact py_iret G hr rfl hlk hw (by decide) dX12_count_57
  · skip
    subst e_sw
    refine lv_tableIn (tgt := 58) G.1 G.2.1 dX12_count_1 (by decide) (by decide) rfl (by decide) ?_
    refine lv_aload_n G.1 G.2.1 dX12_count_58 rfl (lv_at hl 0 rfl) ?_
    refine py_get (C := RX12) (T := TX12) (N := 54) (k := 13) (v := .int 0) G hw in_X12_count_X12 rfl hh (by decide) (by decide +kernel) hp13 dX12_count_59 ?_
    exact py_iret G hr rfl hlk hw (by decide) dX12_count_62
  · skip
    subst e_sw
    refine lv_tableIn (tgt := 63) G.1 G.2.1 dX12_count_1 (by decide) (by decide) rfl (by decide) ?_
    refine lv_aload_n G.1 G.2.1 dX12_count_63 rfl (lv_at hl 0 rfl) ?_
    refine py_get (C := RX12) (T := TX12) (N := 54) (k := 2) (v := .int 0) G hw in_X12_count_X12 rfl hh (by decide) (by decide +kernel) hp2 dX12_count_64 ?_
    exact py_iret G hr rfl hlk hw (by decide) dX12_count_67
  · skip
    subst e_sw
    refine lv_tableIn (tgt := 68) G.1 G.2.1 dX12_count_1 (by decide) (by decide) rfl (by decide) ?_
    refine lv_aload_n G.1 G.2.1 dX12_count_68 rfl (lv_at hl 0 rfl) ?_
    refine py_get (C := RX12) (T := TX12) (N := 54) (k := 29) (v := .int 0) G hw in_X12_count_X12 rfl hh (by decide) (by decide +kernel) hp29 dX12_count_69 ?_
    exact py_iret G hr rfl hlk hw (by decide) dX12_count_72
  · skip
    subst e_sw
    refine lv_tableIn (tgt := 73) G.1 G.2.1 dX12_count_1 (by decide) (by decide) rfl (by decide) ?_
    refine lv_aload_n G.1 G.2.1 dX12_count_73 rfl (lv_at hl 0 rfl) ?_
    refine py_get (C := RX12) (T := TX12) (N := 54) (k := 31) (v := .int (-1)) G hw in_X12_count_X12 rfl hh (by decide) (by decide +kernel) hp31 dX12_count_74 ?_
    exact py_iret G hr rfl hlk hw (by decide) dX12_count_77
  · skip
    subst e_sw
    refine lv_tableIn (tgt := 78) G.1 G.2.1 dX12_count_1 (by decide) (by decide) rfl (by decide) ?_
    refine lv_aload_n G.1 G.2.1 dX12_count_78 rfl (lv_at hl 0 rfl) ?_
    refine py_get (C := RX12) (T := TX12) (N := 54) (k := 43) (v := .int 0) G hw in_X12_count_X12 rfl hh (by decide) (by decide +kernel) hp43 dX12_count_79 ?_
    exact py_iret G hr rfl hlk hw (by decide) dX12_count_82
  · skip
    subst e_sw
    refine lv_tableIn (tgt := 83) G.1 G.2.1 dX12_count_1 (by decide) (by decide) rfl (by decide) ?_
    refine lv_aload_n G.1 G.2.1 dX12_count_83 rfl (lv_at hl 0 rfl) ?_
    refine py_calli hw (va_runV (As := []) (rest := []) G (c_X12_gones l E L f s.heap.size h hM) (cwV 0 G.2.2.2.2 g_X12_count_X12_gones_463 rfl rfl rfl (by decide +kernel) ⟨(Nat.le_of_ble_eq_true rfl), (Nat.le_of_ble_eq_true rfl)⟩) (py_preV hw (C := RX12) (T := TX12) (N := 54) rfl hh) rfl rfl hl.1 rfl (lv_room (Nat.le_of_ble_eq_true rfl)) dX12_count_84 ⟨(Nat.le_of_ble_eq_true rfl), (Nat.le_of_ble_eq_true rfl)⟩) (fun r_5 L_1 f_2 H_3 locs hp_4 hw => ?_)
    obtain ⟨rfl, rfl, rfl⟩ := hp_4
    exact py_iret G hr rfl hlk hw (by decide) dX12_count_87
  · skip
    refine lv_tableOut (tgt := 88) G.1 G.2.1 dX12_count_1 e_sw (by decide) ?_
    refine lv_ldcw (v := (-1000000)) G.1 G.2.1 G.2.2.2.1 (G.2.2.2.2 (Cond.constant RX12 350 (-1000000)) (by decide +kernel)) dX12_count_88 ?_
    exact py_iret G hr rfl hlk hw (by have n0 := py_out8 e_sw; simp [sp_count, n0]) dX12_count_91
