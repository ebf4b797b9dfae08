theorem dX11_advice_0 : decode cX11_advice 0 = .ok (.aload_n 0, 1) := by decide +kernel
theorem dX11_advice_1 : decode cX11_advice 1 = .ok (.iload_n 1, 1) := by decide +kernel
theorem dX11_advice_2 : decode cX11_advice 2 = .ok (.invokevirtual 246, 3) := by decide +kernel
theorem dX11_advice_5 : decode cX11_advice 5 = .ok (.ifCond .eq 19, 3) := by decide +kernel
theorem dX11_advice_24 : decode cX11_advice 24 = .ok (.ldc 166, 2) := by decide +kernel
theorem dX11_advice_26 : decode cX11_advice 26 = .ok (.ireturn, 1) := by decide +kernel
theorem dX11_back_0 : decode cX11_back 0 = .ok (.aload_n 0, 1) := by decide +kernel
theorem dX11_back_1 : decode cX11_back 1 = .ok (.getfield 101, 3) := by decide +kernel
theorem dX11_back_4 : decode cX11_back 4 = .ok (.ifCond .ne 5, 3) := by decide +kernel
theorem dX11_back_7 : decode cX11_back 7 = .ok (.iconst (-1), 1) := by decide +kernel
theorem dX11_back_8 : decode cX11_back 8 = .ok (.ireturn, 1) := by decide +kernel
theorem dX11_buy_0 : decode cX11_buy 0 = .ok (.aload_n 0, 1) := by decide +kernel
theorem dX11_buy_1 : decode cX11_buy 1 = .ok (.iload_n 1, 1) := by decide +kernel
theorem dX11_buy_2 : decode cX11_buy 2 = .ok (.invokevirtual 246, 3) := by decide +kernel
theorem dX11_buy_5 : decode cX11_buy 5 = .ok (.ifCond .eq 26, 3) := by decide +kernel
theorem dX11_buy_31 : decode cX11_buy 31 = .ok (.iconst (-1), 1) := by decide +kernel
theorem dX11_buy_32 : decode cX11_buy 32 = .ok (.ireturn, 1) := by decide +kernel
theorem dX11_climb_0 : decode cX11_climb 0 = .ok (.aload_n 0, 1) := by decide +kernel
theorem dX11_climb_1 : decode cX11_climb 1 = .ok (.iload_n 1, 1) := by decide +kernel
theorem dX11_climb_2 : decode cX11_climb 2 = .ok (.invokevirtual 163, 3) := by decide +kernel
theorem dX11_climb_5 : decode cX11_climb 5 = .ok (.ifCond .eq 10, 3) := by decide +kernel
theorem dX11_climb_15 : decode cX11_climb 15 = .ok (.ldc 166, 2) := by decide +kernel
theorem dX11_climb_17 : decode cX11_climb 17 = .ok (.ireturn, 1) := by decide +kernel
theorem dX11_diary_0 : decode cX11_diary 0 = .ok (.aload_n 0, 1) := by decide +kernel
theorem dX11_diary_1 : decode cX11_diary 1 = .ok (.iload_n 1, 1) := by decide +kernel
theorem dX11_diary_2 : decode cX11_diary 2 = .ok (.invokevirtual 163, 3) := by decide +kernel
theorem dX11_diary_5 : decode cX11_diary 5 = .ok (.ifCond .eq 25, 3) := by decide +kernel
theorem dX11_diary_30 : decode cX11_diary 30 = .ok (.ldc 166, 2) := by decide +kernel
theorem dX11_diary_32 : decode cX11_diary 32 = .ok (.ireturn, 1) := by decide +kernel
theorem dX11_end_0 : decode cX11_end 0 = .ok (.iload_n 1, 1) := by decide +kernel
theorem dX11_end_1 : decode cX11_end 1 = .ok (.ifCond .lt 14, 3) := by decide +kernel
theorem dX11_end_4 : decode cX11_end 4 = .ok (.iload_n 1, 1) := by decide +kernel
theorem dX11_end_5 : decode cX11_end 5 = .ok (.aload_n 0, 1) := by decide +kernel
theorem dX11_end_6 : decode cX11_end 6 = .ok (.getfield 10, 3) := by decide +kernel
theorem dX11_end_9 : decode cX11_end 9 = .ok (.getfield 109, 3) := by decide +kernel
theorem dX11_end_12 : decode cX11_end 12 = .ok (.if_icmp .le 5, 3) := by decide +kernel
theorem dX11_end_15 : decode cX11_end 15 = .ok (.iconst 0, 1) := by decide +kernel
theorem dX11_end_16 : decode cX11_end 16 = .ok (.ireturn, 1) := by decide +kernel
theorem dX11_end_17 : decode cX11_end 17 = .ok (.aload_n 0, 1) := by decide +kernel
theorem dX11_end_18 : decode cX11_end 18 = .ok (.getfield 10, 3) := by decide +kernel
theorem dX11_end_21 : decode cX11_end 21 = .ok (.iload_n 1, 1) := by decide +kernel
theorem dX11_end_22 : decode cX11_end 22 = .ok (.putfield 109, 3) := by decide +kernel
theorem dX11_end_25 : decode cX11_end 25 = .ok (.iconst 1, 1) := by decide +kernel
theorem dX11_end_26 : decode cX11_end 26 = .ok (.ireturn, 1) := by decide +kernel
theorem dX11_family_0 : decode cX11_family 0 = .ok (.aload_n 0, 1) := by decide +kernel
theorem dX11_family_1 : decode cX11_family 1 = .ok (.iload_n 1, 1) := by decide +kernel
theorem dX11_family_2 : decode cX11_family 2 = .ok (.invokevirtual 163, 3) := by decide +kernel
theorem dX11_family_5 : decode cX11_family 5 = .ok (.ifCond .ne 6, 3) := by decide +kernel
theorem dX11_family_8 : decode cX11_family 8 = .ok (.ldc 166, 2) := by decide +kernel
theorem dX11_family_10 : decode cX11_family 10 = .ok (.ireturn, 1) := by decide +kernel
theorem dX11_full_0 : decode cX11_full 0 = .ok (.aload_n 0, 1) := by decide +kernel
theorem dX11_full_1 : decode cX11_full 1 = .ok (.invokevirtual 218, 3) := by decide +kernel
theorem dX11_full_4 : decode cX11_full 4 = .ok (.ifCond .eq 13, 3) := by decide +kernel
theorem dX11_full_17 : decode cX11_full 17 = .ok (.iconst (-1), 1) := by decide +kernel
theorem dX11_full_18 : decode cX11_full 18 = .ok (.ireturn, 1) := by decide +kernel
theorem dX11_hasValley_0 : decode cX11_hasValley 0 = .ok (.aload_n 0, 1) := by decide +kernel
theorem dX11_hasValley_1 : decode cX11_hasValley 1 = .ok (.getfield 47, 3) := by decide +kernel
theorem dX11_hasValley_4 : decode cX11_hasValley 4 = .ok (.getfield 128, 3) := by decide +kernel
theorem dX11_hasValley_7 : decode cX11_hasValley 7 = .ok (.getfield 317, 3) := by decide +kernel
theorem dX11_hasValley_10 : decode cX11_hasValley 10 = .ok (.ifCond .le 7, 3) := by decide +kernel
theorem dX11_hasValley_17 : decode cX11_hasValley 17 = .ok (.iconst 0, 1) := by decide +kernel
theorem dX11_hasValley_18 : decode cX11_hasValley 18 = .ok (.ireturn, 1) := by decide +kernel
theorem dX11_hungry_0 : decode cX11_hungry 0 = .ok (.aload_n 0, 1) := by decide +kernel
theorem dX11_hungry_1 : decode cX11_hungry 1 = .ok (.invokevirtual 218, 3) := by decide +kernel
theorem dX11_hungry_4 : decode cX11_hungry 4 = .ok (.ifCond .eq 10, 3) := by decide +kernel
theorem dX11_hungry_14 : decode cX11_hungry 14 = .ok (.iconst (-1), 1) := by decide +kernel
theorem dX11_hungry_15 : decode cX11_hungry 15 = .ok (.ireturn, 1) := by decide +kernel
theorem dX11_hush_0 : decode cX11_hush 0 = .ok (.aload_n 0, 1) := by decide +kernel
theorem dX11_hush_1 : decode cX11_hush 1 = .ok (.iload_n 1, 1) := by decide +kernel
theorem dX11_hush_2 : decode cX11_hush 2 = .ok (.invokevirtual 246, 3) := by decide +kernel
theorem dX11_hush_5 : decode cX11_hush 5 = .ok (.ifCond .eq 16, 3) := by decide +kernel
theorem dX11_hush_21 : decode cX11_hush 21 = .ok (.iconst 0, 1) := by decide +kernel
theorem dX11_hush_22 : decode cX11_hush 22 = .ok (.ireturn, 1) := by decide +kernel
theorem dX11_hut_0 : decode cX11_hut 0 = .ok (.aload_n 0, 1) := by decide +kernel
theorem dX11_hut_1 : decode cX11_hut 1 = .ok (.iload_n 1, 1) := by decide +kernel
theorem dX11_hut_2 : decode cX11_hut 2 = .ok (.invokevirtual 132, 3) := by decide +kernel
theorem dX11_hut_5 : decode cX11_hut 5 = .ok (.ifCond .eq 15, 3) := by decide +kernel
theorem dX11_hut_20 : decode cX11_hut 20 = .ok (.iconst (-1), 1) := by decide +kernel
theorem dX11_hut_21 : decode cX11_hut 21 = .ok (.ireturn, 1) := by decide +kernel
theorem dX11_image_0 : decode cX11_image 0 = .ok (.aload_n 0, 1) := by decide +kernel
theorem dX11_image_1 : decode cX11_image 1 = .ok (.invokevirtual 218, 3) := by decide +kernel
theorem dX11_image_4 : decode cX11_image 4 = .ok (.ifCond .ne 5, 3) := by decide +kernel
theorem dX11_image_7 : decode cX11_image 7 = .ok (.iconst (-1), 1) := by decide +kernel
theorem dX11_image_8 : decode cX11_image 8 = .ok (.ireturn, 1) := by decide +kernel
theorem dX11_isFamily_0 : decode cX11_isFamily 0 = .ok (.iload_n 1, 1) := by decide +kernel
theorem dX11_isFamily_1 : decode cX11_isFamily 1 = .ok (.ifCond .lt 21, 3) := by decide +kernel
theorem dX11_isFamily_4 : decode cX11_isFamily 4 = .ok (.iload_n 1, 1) := by decide +kernel
theorem dX11_isFamily_5 : decode cX11_isFamily 5 = .ok (.aload_n 0, 1) := by decide +kernel
theorem dX11_isFamily_6 : decode cX11_isFamily 6 = .ok (.getfield 47, 3) := by decide +kernel
theorem dX11_isFamily_9 : decode cX11_isFamily 9 = .ok (.getfield 128, 3) := by decide +kernel
theorem dX11_isFamily_12 : decode cX11_isFamily 12 = .ok (.getfield 319, 3) := by decide +kernel
theorem dX11_isFamily_15 : decode cX11_isFamily 15 = .ok (.if_icmp .ge 7, 3) := by decide +kernel
theorem dX11_isFamily_18 : decode cX11_isFamily 18 = .ok (.iconst 1, 1) := by decide +kernel
theorem dX11_isFamily_19 : decode cX11_isFamily 19 = .ok (.goto 4, 3) := by decide +kernel
theorem dX11_isFamily_22 : decode cX11_isFamily 22 = .ok (.iconst 0, 1) := by decide +kernel
theorem dX11_isFamily_23 : decode cX11_isFamily 23 = .ok (.ireturn, 1) := by decide +kernel
theorem dX11_isLaw_0 : decode cX11_isLaw 0 = .ok (.iload_n 1, 1) := by decide +kernel
theorem dX11_isLaw_1 : decode cX11_isLaw 1 = .ok (.ifCond .lt 15, 3) := by decide +kernel
theorem dX11_isLaw_4 : decode cX11_isLaw 4 = .ok (.iload_n 1, 1) := by decide +kernel
theorem dX11_isLaw_5 : decode cX11_isLaw 5 = .ok (.aload_n 0, 1) := by decide +kernel
theorem dX11_isLaw_6 : decode cX11_isLaw 6 = .ok (.getfield 94, 3) := by decide +kernel
theorem dX11_isLaw_9 : decode cX11_isLaw 9 = .ok (.if_icmp .ge 7, 3) := by decide +kernel
theorem dX11_isLaw_12 : decode cX11_isLaw 12 = .ok (.iconst 1, 1) := by decide +kernel
theorem dX11_isLaw_13 : decode cX11_isLaw 13 = .ok (.goto 4, 3) := by decide +kernel
theorem dX11_isLaw_16 : decode cX11_isLaw 16 = .ok (.iconst 0, 1) := by decide +kernel
theorem dX11_isLaw_17 : decode cX11_isLaw 17 = .ok (.ireturn, 1) := by decide +kernel
theorem dX11_isLevel_0 : decode cX11_isLevel 0 = .ok (.iload_n 1, 1) := by decide +kernel
theorem dX11_isLevel_1 : decode cX11_isLevel 1 = .ok (.ifCond .lt 21, 3) := by decide +kernel
theorem dX11_isLevel_4 : decode cX11_isLevel 4 = .ok (.iload_n 1, 1) := by decide +kernel
theorem dX11_isLevel_5 : decode cX11_isLevel 5 = .ok (.aload_n 0, 1) := by decide +kernel
theorem dX11_isLevel_6 : decode cX11_isLevel 6 = .ok (.getfield 47, 3) := by decide +kernel
theorem dX11_isLevel_9 : decode cX11_isLevel 9 = .ok (.getfield 128, 3) := by decide +kernel
theorem dX11_isLevel_12 : decode cX11_isLevel 12 = .ok (.getfield 317, 3) := by decide +kernel
theorem dX11_isLevel_15 : decode cX11_isLevel 15 = .ok (.if_icmp .ge 7, 3) := by decide +kernel
theorem dX11_isLevel_18 : decode cX11_isLevel 18 = .ok (.iconst 1, 1) := by decide +kernel
theorem dX11_isLevel_19 : decode cX11_isLevel 19 = .ok (.goto 4, 3) := by decide +kernel
theorem dX11_isLevel_22 : decode cX11_isLevel 22 = .ok (.iconst 0, 1) := by decide +kernel
theorem dX11_isLevel_23 : decode cX11_isLevel 23 = .ok (.ireturn, 1) := by decide +kernel
theorem dX11_law_0 : decode cX11_law 0 = .ok (.iload_n 1, 1) := by decide +kernel
theorem dX11_law_1 : decode cX11_law 1 = .ok (.iconst (-1), 1) := by decide +kernel
theorem dX11_law_2 : decode cX11_law 2 = .ok (.if_icmp .eq 13, 3) := by decide +kernel
theorem dX11_law_5 : decode cX11_law 5 = .ok (.aload_n 0, 1) := by decide +kernel
theorem dX11_law_6 : decode cX11_law 6 = .ok (.iload_n 1, 1) := by decide +kernel
theorem dX11_law_7 : decode cX11_law 7 = .ok (.invokevirtual 202, 3) := by decide +kernel
theorem dX11_law_10 : decode cX11_law 10 = .ok (.ifCond .ne 5, 3) := by decide +kernel
theorem dX11_law_13 : decode cX11_law 13 = .ok (.iconst 0, 1) := by decide +kernel
theorem dX11_law_14 : decode cX11_law 14 = .ok (.ireturn, 1) := by decide +kernel
theorem dX11_law_15 : decode cX11_law 15 = .ok (.aload_n 0, 1) := by decide +kernel
theorem dX11_law_16 : decode cX11_law 16 = .ok (.iload_n 1, 1) := by decide +kernel
theorem dX11_law_17 : decode cX11_law 17 = .ok (.putfield 98, 3) := by decide +kernel
theorem dX11_law_20 : decode cX11_law 20 = .ok (.iconst 1, 1) := by decide +kernel
theorem dX11_law_21 : decode cX11_law 21 = .ok (.ireturn, 1) := by decide +kernel
theorem dX11_leanest_0 : decode cX11_leanest 0 = .ok (.aload_n 0, 1) := by decide +kernel
theorem dX11_leanest_1 : decode cX11_leanest 1 = .ok (.getfield 60, 3) := by decide +kernel
theorem dX11_leanest_4 : decode cX11_leanest 4 = .ok (.getfield 304, 3) := by decide +kernel
theorem dX11_leanest_7 : decode cX11_leanest 7 = .ok (.ifCond .eq 10, 3) := by decide +kernel
theorem dX11_leanest_17 : decode cX11_leanest 17 = .ok (.iconst (-1), 1) := by decide +kernel
theorem dX11_leanest_18 : decode cX11_leanest 18 = .ok (.ireturn, 1) := by decide +kernel
theorem dX11_leap_0 : decode cX11_leap 0 = .ok (.aload_n 0, 1) := by decide +kernel
theorem dX11_leap_1 : decode cX11_leap 1 = .ok (.iload_n 1, 1) := by decide +kernel
theorem dX11_leap_2 : decode cX11_leap 2 = .ok (.invokevirtual 163, 3) := by decide +kernel
theorem dX11_leap_5 : decode cX11_leap 5 = .ok (.ifCond .ne 6, 3) := by decide +kernel
theorem dX11_leap_8 : decode cX11_leap 8 = .ok (.ldc 166, 2) := by decide +kernel
theorem dX11_leap_10 : decode cX11_leap 10 = .ok (.ireturn, 1) := by decide +kernel
theorem dX11_lives_0 : decode cX11_lives 0 = .ok (.aload_n 0, 1) := by decide +kernel
theorem dX11_lives_1 : decode cX11_lives 1 = .ok (.iload_n 1, 1) := by decide +kernel
theorem dX11_lives_2 : decode cX11_lives 2 = .ok (.invokevirtual 163, 3) := by decide +kernel
theorem dX11_lives_5 : decode cX11_lives 5 = .ok (.ifCond .eq 19, 3) := by decide +kernel
theorem dX11_lives_24 : decode cX11_lives 24 = .ok (.iconst 0, 1) := by decide +kernel
theorem dX11_lives_25 : decode cX11_lives 25 = .ok (.ireturn, 1) := by decide +kernel
theorem dX11_mean_0 : decode cX11_mean 0 = .ok (.aload_n 0, 1) := by decide +kernel
theorem dX11_mean_1 : decode cX11_mean 1 = .ok (.iload_n 1, 1) := by decide +kernel
theorem dX11_mean_2 : decode cX11_mean 2 = .ok (.invokevirtual 246, 3) := by decide +kernel
theorem dX11_mean_5 : decode cX11_mean 5 = .ok (.ifCond .eq 14, 3) := by decide +kernel
theorem dX11_mean_19 : decode cX11_mean 19 = .ok (.ldc2_w 336, 3) := by decide +kernel
theorem dX11_mean_22 : decode cX11_mean 22 = .ok (.lreturn, 1) := by decide +kernel
theorem dX11_met_0 : decode cX11_met 0 = .ok (.aload_n 0, 1) := by decide +kernel
theorem dX11_met_1 : decode cX11_met 1 = .ok (.iload_n 1, 1) := by decide +kernel
theorem dX11_met_2 : decode cX11_met 2 = .ok (.invokevirtual 163, 3) := by decide +kernel
theorem dX11_met_5 : decode cX11_met 5 = .ok (.ifCond .eq 23, 3) := by decide +kernel
theorem dX11_met_28 : decode cX11_met 28 = .ok (.ldc 166, 2) := by decide +kernel
theorem dX11_met_30 : decode cX11_met 30 = .ok (.ireturn, 1) := by decide +kernel
theorem dX11_most_0 : decode cX11_most 0 = .ok (.aload_n 0, 1) := by decide +kernel
theorem dX11_most_1 : decode cX11_most 1 = .ok (.invokevirtual 218, 3) := by decide +kernel
theorem dX11_most_4 : decode cX11_most 4 = .ok (.ifCond .eq 10, 3) := by decide +kernel
theorem dX11_most_14 : decode cX11_most 14 = .ok (.iconst (-1), 1) := by decide +kernel
theorem dX11_most_15 : decode cX11_most 15 = .ok (.ireturn, 1) := by decide +kernel
theorem dX11_needs_0 : decode cX11_needs 0 = .ok (.aload_n 0, 1) := by decide +kernel
theorem dX11_needs_1 : decode cX11_needs 1 = .ok (.iload_n 1, 1) := by decide +kernel
theorem dX11_needs_2 : decode cX11_needs 2 = .ok (.invokevirtual 163, 3) := by decide +kernel
theorem dX11_needs_5 : decode cX11_needs 5 = .ok (.ifCond .eq 14, 3) := by decide +kernel
theorem dX11_needs_19 : decode cX11_needs 19 = .ok (.iconst (-1), 1) := by decide +kernel
theorem dX11_needs_20 : decode cX11_needs 20 = .ok (.ireturn, 1) := by decide +kernel
theorem dX11_odds_0 : decode cX11_odds 0 = .ok (.aload_n 0, 1) := by decide +kernel
theorem dX11_odds_1 : decode cX11_odds 1 = .ok (.iload_n 1, 1) := by decide +kernel
theorem dX11_odds_2 : decode cX11_odds 2 = .ok (.invokevirtual 246, 3) := by decide +kernel
theorem dX11_odds_5 : decode cX11_odds 5 = .ok (.ifCond .eq 27, 3) := by decide +kernel
theorem dX11_odds_32 : decode cX11_odds 32 = .ok (.ldc 166, 2) := by decide +kernel
theorem dX11_odds_34 : decode cX11_odds 34 = .ok (.ireturn, 1) := by decide +kernel
theorem dX11_rank_0 : decode cX11_rank 0 = .ok (.aload_n 0, 1) := by decide +kernel
theorem dX11_rank_1 : decode cX11_rank 1 = .ok (.iload_n 1, 1) := by decide +kernel
theorem dX11_rank_2 : decode cX11_rank 2 = .ok (.invokevirtual 163, 3) := by decide +kernel
theorem dX11_rank_5 : decode cX11_rank 5 = .ok (.ifCond .ne 5, 3) := by decide +kernel
theorem dX11_rank_8 : decode cX11_rank 8 = .ok (.iconst (-1), 1) := by decide +kernel
theorem dX11_rank_9 : decode cX11_rank 9 = .ok (.ireturn, 1) := by decide +kernel
theorem dX11_reform_0 : decode cX11_reform 0 = .ok (.aload_n 0, 1) := by decide +kernel
theorem dX11_reform_1 : decode cX11_reform 1 = .ok (.invokevirtual 218, 3) := by decide +kernel
theorem dX11_reform_4 : decode cX11_reform 4 = .ok (.ifCond .eq 11, 3) := by decide +kernel
theorem dX11_reform_15 : decode cX11_reform 15 = .ok (.ldc 166, 2) := by decide +kernel
theorem dX11_reform_17 : decode cX11_reform 17 = .ok (.ireturn, 1) := by decide +kernel
theorem dX11_seed_0 : decode cX11_seed 0 = .ok (.aload_n 0, 1) := by decide +kernel
theorem dX11_seed_1 : decode cX11_seed 1 = .ok (.getfield 47, 3) := by decide +kernel
theorem dX11_seed_4 : decode cX11_seed 4 = .ok (.lload_n 1, 1) := by decide +kernel
theorem dX11_seed_5 : decode cX11_seed 5 = .ok (.putfield 214, 3) := by decide +kernel
theorem dX11_seed_8 : decode cX11_seed 8 = .ok (.iconst 1, 1) := by decide +kernel
theorem dX11_seed_9 : decode cX11_seed 9 = .ok (.ireturn, 1) := by decide +kernel
theorem dX11_set_0 : decode cX11_set 0 = .ok (.iload_n 2, 1) := by decide +kernel
theorem dX11_set_1 : decode cX11_set 1 = .ok (.ifCond .ge 5, 3) := by decide +kernel
theorem dX11_set_4 : decode cX11_set 4 = .ok (.iconst 0, 1) := by decide +kernel
theorem dX11_set_5 : decode cX11_set 5 = .ok (.ireturn, 1) := by decide +kernel
theorem dX11_set_6 : decode cX11_set 6 = .ok (.iload_n 1, 1) := by decide +kernel
theorem dX11_set_7 : decode cX11_set 7 = .ok (.ifCond .ne 19, 3) := by decide +kernel
theorem dX11_set_10 : decode cX11_set 10 = .ok (.iload_n 2, 1) := by decide +kernel
theorem dX11_set_11 : decode cX11_set 11 = .ok (.bipush 100, 2) := by decide +kernel
theorem dX11_set_13 : decode cX11_set 13 = .ok (.if_icmp .gt 13, 3) := by decide +kernel
theorem dX11_set_16 : decode cX11_set 16 = .ok (.aload_n 0, 1) := by decide +kernel
theorem dX11_set_17 : decode cX11_set 17 = .ok (.getfield 74, 3) := by decide +kernel
theorem dX11_set_20 : decode cX11_set 20 = .ok (.iload_n 2, 1) := by decide +kernel
theorem dX11_set_21 : decode cX11_set 21 = .ok (.putfield 205, 3) := by decide +kernel
theorem dX11_set_24 : decode cX11_set 24 = .ok (.iconst 1, 1) := by decide +kernel
theorem dX11_set_25 : decode cX11_set 25 = .ok (.ireturn, 1) := by decide +kernel
theorem dX11_set_26 : decode cX11_set 26 = .ok (.iload_n 1, 1) := by decide +kernel
theorem dX11_set_27 : decode cX11_set 27 = .ok (.iconst 1, 1) := by decide +kernel
theorem dX11_set_28 : decode cX11_set 28 = .ok (.if_icmp .ne 27, 3) := by decide +kernel
theorem dX11_set_31 : decode cX11_set 31 = .ok (.iload_n 2, 1) := by decide +kernel
theorem dX11_set_32 : decode cX11_set 32 = .ok (.iconst 1, 1) := by decide +kernel
theorem dX11_set_33 : decode cX11_set 33 = .ok (.if_icmp .gt 22, 3) := by decide +kernel
theorem dX11_set_36 : decode cX11_set 36 = .ok (.aload_n 0, 1) := by decide +kernel
theorem dX11_set_37 : decode cX11_set 37 = .ok (.getfield 74, 3) := by decide +kernel
theorem dX11_set_40 : decode cX11_set 40 = .ok (.iload_n 2, 1) := by decide +kernel
theorem dX11_set_41 : decode cX11_set 41 = .ok (.iconst 1, 1) := by decide +kernel
theorem dX11_set_42 : decode cX11_set 42 = .ok (.if_icmp .ne 7, 3) := by decide +kernel
theorem dX11_set_45 : decode cX11_set 45 = .ok (.iconst 1, 1) := by decide +kernel
theorem dX11_set_46 : decode cX11_set 46 = .ok (.goto 4, 3) := by decide +kernel
theorem dX11_set_49 : decode cX11_set 49 = .ok (.iconst 0, 1) := by decide +kernel
theorem dX11_set_50 : decode cX11_set 50 = .ok (.putfield 208, 3) := by decide +kernel
theorem dX11_set_53 : decode cX11_set 53 = .ok (.iconst 1, 1) := by decide +kernel
theorem dX11_set_54 : decode cX11_set 54 = .ok (.ireturn, 1) := by decide +kernel
theorem dX11_set_55 : decode cX11_set 55 = .ok (.iload_n 1, 1) := by decide +kernel
theorem dX11_set_56 : decode cX11_set 56 = .ok (.iconst 2, 1) := by decide +kernel
theorem dX11_set_57 : decode cX11_set 57 = .ok (.if_icmp .ne 19, 3) := by decide +kernel
theorem dX11_set_60 : decode cX11_set 60 = .ok (.iload_n 2, 1) := by decide +kernel
theorem dX11_set_61 : decode cX11_set 61 = .ok (.bipush 99, 2) := by decide +kernel
theorem dX11_set_63 : decode cX11_set 63 = .ok (.if_icmp .gt 13, 3) := by decide +kernel
theorem dX11_set_66 : decode cX11_set 66 = .ok (.aload_n 0, 1) := by decide +kernel
theorem dX11_set_67 : decode cX11_set 67 = .ok (.getfield 67, 3) := by decide +kernel
theorem dX11_set_70 : decode cX11_set 70 = .ok (.iload_n 2, 1) := by decide +kernel
theorem dX11_set_71 : decode cX11_set 71 = .ok (.putfield 211, 3) := by decide +kernel
theorem dX11_set_74 : decode cX11_set 74 = .ok (.iconst 1, 1) := by decide +kernel
theorem dX11_set_75 : decode cX11_set 75 = .ok (.ireturn, 1) := by decide +kernel
theorem dX11_set_76 : decode cX11_set 76 = .ok (.iconst 0, 1) := by decide +kernel
theorem dX11_set_77 : decode cX11_set 77 = .ok (.ireturn, 1) := by decide +kernel
theorem dX11_spring_0 : decode cX11_spring 0 = .ok (.aload_n 0, 1) := by decide +kernel
theorem dX11_spring_1 : decode cX11_spring 1 = .ok (.invokevirtual 218, 3) := by decide +kernel
theorem dX11_spring_4 : decode cX11_spring 4 = .ok (.ifCond .ne 5, 3) := by decide +kernel
theorem dX11_spring_7 : decode cX11_spring 7 = .ok (.iconst (-1), 1) := by decide +kernel
theorem dX11_spring_8 : decode cX11_spring 8 = .ok (.ireturn, 1) := by decide +kernel
theorem dX11_tried_0 : decode cX11_tried 0 = .ok (.aload_n 0, 1) := by decide +kernel
theorem dX11_tried_1 : decode cX11_tried 1 = .ok (.invokevirtual 218, 3) := by decide +kernel
theorem dX11_tried_4 : decode cX11_tried 4 = .ok (.ifCond .eq 35, 3) := by decide +kernel
theorem dX11_tried_39 : decode cX11_tried 39 = .ok (.ldc 166, 2) := by decide +kernel
theorem dX11_tried_41 : decode cX11_tried 41 = .ok (.ireturn, 1) := by decide +kernel
theorem dX11_undo_0 : decode cX11_undo 0 = .ok (.aload_n 0, 1) := by decide +kernel
theorem dX11_undo_1 : decode cX11_undo 1 = .ok (.getfield 67, 3) := by decide +kernel
theorem dX11_undo_4 : decode cX11_undo 4 = .ok (.getfield 240, 3) := by decide +kernel
theorem dX11_undo_7 : decode cX11_undo 7 = .ok (.iconst 1, 1) := by decide +kernel
theorem dX11_undo_8 : decode cX11_undo 8 = .ok (.if_icmp .ge 5, 3) := by decide +kernel
theorem dX11_undo_11 : decode cX11_undo 11 = .ok (.iconst (-1), 1) := by decide +kernel
theorem dX11_undo_12 : decode cX11_undo 12 = .ok (.ireturn, 1) := by decide +kernel
theorem dX11_waiting_0 : decode cX11_waiting 0 = .ok (.aload_n 0, 1) := by decide +kernel
theorem dX11_waiting_1 : decode cX11_waiting 1 = .ok (.invokevirtual 218, 3) := by decide +kernel
theorem dX11_waiting_4 : decode cX11_waiting 4 = .ok (.ifCond .eq 13, 3) := by decide +kernel
theorem dX11_waiting_17 : decode cX11_waiting 17 = .ok (.iconst (-1), 1) := by decide +kernel
theorem dX11_waiting_18 : decode cX11_waiting 18 = .ok (.ireturn, 1) := by decide +kernel
theorem dX11_winters_0 : decode cX11_winters 0 = .ok (.aload_n 0, 1) := by decide +kernel
theorem dX11_winters_1 : decode cX11_winters 1 = .ok (.invokevirtual 218, 3) := by decide +kernel
theorem dX11_winters_4 : decode cX11_winters 4 = .ok (.ifCond .eq 28, 3) := by decide +kernel
theorem dX11_winters_32 : decode cX11_winters 32 = .ok (.iconst (-1), 1) := by decide +kernel
theorem dX11_winters_33 : decode cX11_winters 33 = .ok (.ireturn, 1) := by decide +kernel
def w_X11_hasValley : List Cond := .code yX11_hasValley cX11_hasValley 1 (some .boolean) :: ([Cond.fieldLink RX11 47 "HeadYear" "folk" "LHeadYear$Folk;", Cond.fieldLink RX11 128 "HeadYear$Folk" "valley" "LHeadYear$Valley;", Cond.fieldLink RX11 317 "HeadYear$Valley" "levels" "I"] ++ (u_ws RX11 TX11 16 ++ (u_ws RX2 TX2 12 ++ (u_ws RX9 TX9 10 ++ ([])))))
theorem in_X11_hasValley_X11 : ∀ w ∈ u_ws RX11 TX11 16, w ∈ w_X11_hasValley := fun _ h => List.mem_cons_of_mem _ (List.mem_append_right _ (List.mem_append_left _ h))
theorem in_X11_hasValley_X2 : ∀ w ∈ u_ws RX2 TX2 12, w ∈ w_X11_hasValley := fun _ h => List.mem_cons_of_mem _ (List.mem_append_right _ (List.mem_append_right _ (List.mem_append_left _ h)))
theorem in_X11_hasValley_X9 : ∀ w ∈ u_ws RX9 TX9 10, w ∈ w_X11_hasValley := fun _ h => List.mem_cons_of_mem _ (List.mem_append_right _ (List.mem_append_right _ (List.mem_append_right _ (List.mem_append_left _ h))))
set_option maxHeartbeats 4000000 in
set_option maxRecDepth 100000 in
theorem c_X11_hasValley (l : Launch) (E : py_E) (L : List Nat) (f : py_F) (sz : Nat) (h : Nat) (hF : fr_H E L f h) : Met l yX11_hasValley w_X11_hasValley ({ frames := 0, cells := 0, slots := 0, locals := 0 }) (py_Pc E [.ref h] L f sz) (py_Qi E L f sz (fun r L1 f1 => r = 0 ∧ L = L1 ∧ f = f1)) 0 0 (va_A (va_pl L f) sz) := by
  refine Met.ofW (cc := cX11_hasValley) (maxL := 1) (ret := (some .boolean)) (by decide) rfl ?_
  intro p e s m args below meth c s₁ B hml hv
  obtain ⟨rfl, rfl, hw⟩ := py_start hv
  have G : CallFix p m c cX11_hasValley 1 s _ w_X11_hasValley RX11 := ⟨B.exec, B.bytes, hml, findClass_of_methodNamed B.named, atoms_spec (ws := w_X11_hasValley) B.pre⟩
  have hr := B.returns
  have hlk := B.notSynchronized
  have hl := lv_entry ([.ref h]) (n := 1) (Nat.le_of_ble_eq_true rfl)
  rw [lg_entry_eq]
  generalize (lg_sl ([.ref h]) ++ List.replicate (1 - (lg_sl ([.ref h])).length) Slot.unset).toArray = ls at hl ⊢
  have hl : lv_has ls 1 [(0, .ref h)] := hl
  obtain ⟨tape, byt, vr, itm, dr, lr, dl, lws, nl, fo, va, tr, im, di, bu, se, mo, od, g, xd, xl, xf, xv, xi, xu, xs, hh, htape, hbyt, hvr, hdr, hxd, hlr, hdl, hxl, hfo, hxf, hf9, hf11, hva, hxv, hv8, hv9, hdi, hxi, hi2, hbu, hxu, hu3, hse, hxs⟩ := id hF
  have hMp : ∀ m, fr_M E L f m → fr_M E L f m := fun _ h => h
  refine lv_aload_n G.1 G.2.1 dX11_hasValley_0 rfl (lv_at hl 0 rfl) ?_
  refine py_get (C := RX11) (T := TX11) (N := 16) (k := 5) (v := .ref fo) G hw in_X11_hasValley_X11 rfl hh (by decide) (by decide +kernel) rfl dX11_hasValley_1 ?_
  refine py_get (C := RX2) (T := TX2) (N := 12) (k := 9) (v := .ref va) G hw in_X11_hasValley_X2 rfl hfo (by decide) (by decide +kernel) hf9 dX11_hasValley_4 ?_
  refine py_get (C := RX9) (T := TX9) (N := 10) (k := 8) (v := .int 0) G hw in_X11_hasValley_X9 rfl hva (by decide) (by decide +kernel) hv8 dX11_hasValley_7 ?_
  refine lv_if_le (tgt := 17) G.1 G.2.1 dX11_hasValley_10 (by decide) (fun c_1 => ?_) (fun c_1 => ?_)
  · skip
    refine lv_iconst (v := 0) G.1 G.2.1 dX11_hasValley_17 (by decide) ?_
    exact py_iret G hr rfl hlk hw ⟨rfl, rfl, rfl⟩ dX11_hasValley_18
  · skip
    exact absurd c_1 (by decide)

def w_X11_isLevel : List Cond := .code yX11_isLevel cX11_isLevel 2 (some .boolean) :: ([Cond.fieldLink RX11 47 "HeadYear" "folk" "LHeadYear$Folk;", Cond.fieldLink RX11 128 "HeadYear$Folk" "valley" "LHeadYear$Valley;", Cond.fieldLink RX11 317 "HeadYear$Valley" "levels" "I"] ++ (u_ws RX11 TX11 16 ++ (u_ws RX2 TX2 12 ++ (u_ws RX9 TX9 10 ++ ([])))))
theorem in_X11_isLevel_X11 : ∀ w ∈ u_ws RX11 TX11 16, w ∈ w_X11_isLevel := fun _ h => List.mem_cons_of_mem _ (List.mem_append_right _ (List.mem_append_left _ h))
theorem in_X11_isLevel_X2 : ∀ w ∈ u_ws RX2 TX2 12, w ∈ w_X11_isLevel := fun _ h => List.mem_cons_of_mem _ (List.mem_append_right _ (List.mem_append_right _ (List.mem_append_left _ h)))
theorem in_X11_isLevel_X9 : ∀ w ∈ u_ws RX9 TX9 10, w ∈ w_X11_isLevel := fun _ h => List.mem_cons_of_mem _ (List.mem_append_right _ (List.mem_append_right _ (List.mem_append_right _ (List.mem_append_left _ h))))
set_option maxHeartbeats 4000000 in
set_option maxRecDepth 100000 in
theorem c_X11_isLevel (l : Launch) (E : py_E) (L : List Nat) (f : py_F) (sz : Nat) (h : Nat) (a : Int32) (hF : fr_H E L f h) : Met l yX11_isLevel w_X11_isLevel ({ frames := 0, cells := 0, slots := 0, locals := 0 }) (py_Pc E [.ref h, .int a] L f sz) (py_Qi E L f sz (fun r L1 f1 => r = 0 ∧ L = L1 ∧ f = f1)) 0 0 (va_A (va_pl L f) sz) := by
  refine Met.ofW (cc := cX11_isLevel) (maxL := 2) (ret := (some .boolean)) (by decide) rfl ?_
  intro p e s m args below meth c s₁ B hml hv
  obtain ⟨rfl, rfl, hw⟩ := py_start hv
  have G : CallFix p m c cX11_isLevel 2 s _ w_X11_isLevel RX11 := ⟨B.exec, B.bytes, hml, findClass_of_methodNamed B.named, atoms_spec (ws := w_X11_isLevel) B.pre⟩
  have hr := B.returns
  have hlk := B.notSynchronized
  have hl := lv_entry ([.ref h, .int a]) (n := 2) (Nat.le_of_ble_eq_true rfl)
  rw [lg_entry_eq]
  generalize (lg_sl ([.ref h, .int a]) ++ List.replicate (2 - (lg_sl ([.ref h, .int a])).length) Slot.unset).toArray = ls at hl ⊢
  have hl : lv_has ls 2 [(0, .ref h), (1, .int a)] := hl
  obtain ⟨tape, byt, vr, itm, dr, lr, dl, lws, nl, fo, va, tr, im, di, bu, se, mo, od, g, xd, xl, xf, xv, xi, xu, xs, hh, htape, hbyt, hvr, hdr, hxd, hlr, hdl, hxl, hfo, hxf, hf9, hf11, hva, hxv, hv8, hv9, hdi, hxi, hi2, hbu, hxu, hu3, hse, hxs⟩ := id hF
  have hMp : ∀ m, fr_M E L f m → fr_M E L f m := fun _ h => h
  refine lv_iload_n G.1 G.2.1 dX11_isLevel_0 rfl (lv_at hl 1 rfl) ?_
  refine lv_if_lt (tgt := 22) G.1 G.2.1 dX11_isLevel_1 (by decide) (fun c_1 => ?_) (fun c_1 => ?_)
  · skip
    refine lv_iconst (v := 0) G.1 G.2.1 dX11_isLevel_22 (by decide) ?_
    exact py_iret G hr rfl hlk hw ⟨rfl, rfl, rfl⟩ dX11_isLevel_23
  · skip
    refine lv_iload_n G.1 G.2.1 dX11_isLevel_4 rfl (lv_at hl 1 rfl) ?_
    refine lv_aload_n G.1 G.2.1 dX11_isLevel_5 rfl (lv_at hl 0 rfl) ?_
    refine py_get (C := RX11) (T := TX11) (N := 16) (k := 5) (v := .ref fo) G hw in_X11_isLevel_X11 rfl hh (by decide) (by decide +kernel) rfl dX11_isLevel_6 ?_
    refine py_get (C := RX2) (T := TX2) (N := 12) (k := 9) (v := .ref va) G hw in_X11_isLevel_X2 rfl hfo (by decide) (by decide +kernel) hf9 dX11_isLevel_9 ?_
    refine py_get (C := RX9) (T := TX9) (N := 10) (k := 8) (v := .int 0) G hw in_X11_isLevel_X9 rfl hva (by decide) (by decide +kernel) hv8 dX11_isLevel_12 ?_
    refine lv_icmp_ge (tgt := 22) G.1 G.2.1 dX11_isLevel_15 (by decide) (fun c_2 => ?_) (fun c_2 => ?_)
    · skip
      refine lv_iconst (v := 0) G.1 G.2.1 dX11_isLevel_22 (by decide) ?_
      exact py_iret G hr rfl hlk hw ⟨rfl, rfl, rfl⟩ dX11_isLevel_23
    · skip
      refine lv_iconst (v := 1) G.1 G.2.1 dX11_isLevel_18 (by decide) ?_
      refine lv_goto (tgt := 23) G.1 G.2.1 dX11_isLevel_19 (by decide) ?_
      exact py_iret G hr rfl hlk hw (absurd (Int32.not_lt.mp c_1) c_2) dX11_isLevel_23

def w_X11_isFamily : List Cond := .code yX11_isFamily cX11_isFamily 2 (some .boolean) :: ([Cond.fieldLink RX11 47 "HeadYear" "folk" "LHeadYear$Folk;", Cond.fieldLink RX11 128 "HeadYear$Folk" "valley" "LHeadYear$Valley;", Cond.fieldLink RX11 319 "HeadYear$Valley" "families" "I"] ++ (u_ws RX11 TX11 16 ++ (u_ws RX2 TX2 12 ++ (u_ws RX9 TX9 10 ++ ([])))))
theorem in_X11_isFamily_X11 : ∀ w ∈ u_ws RX11 TX11 16, w ∈ w_X11_isFamily := fun _ h => List.mem_cons_of_mem _ (List.mem_append_right _ (List.mem_append_left _ h))
theorem in_X11_isFamily_X2 : ∀ w ∈ u_ws RX2 TX2 12, w ∈ w_X11_isFamily := fun _ h => List.mem_cons_of_mem _ (List.mem_append_right _ (List.mem_append_right _ (List.mem_append_left _ h)))
theorem in_X11_isFamily_X9 : ∀ w ∈ u_ws RX9 TX9 10, w ∈ w_X11_isFamily := fun _ h => List.mem_cons_of_mem _ (List.mem_append_right _ (List.mem_append_right _ (List.mem_append_right _ (List.mem_append_left _ h))))
set_option maxHeartbeats 4000000 in
set_option maxRecDepth 100000 in
theorem c_X11_isFamily (l : Launch) (E : py_E) (L : List Nat) (f : py_F) (sz : Nat) (h : Nat) (a : Int32) (hF : fr_H E L f h) : Met l yX11_isFamily w_X11_isFamily ({ frames := 0, cells := 0, slots := 0, locals := 0 }) (py_Pc E [.ref h, .int a] L f sz) (py_Qi E L f sz (fun r L1 f1 => r = 0 ∧ L = L1 ∧ f = f1)) 0 0 (va_A (va_pl L f) sz) := by
  refine Met.ofW (cc := cX11_isFamily) (maxL := 2) (ret := (some .boolean)) (by decide) rfl ?_
  intro p e s m args below meth c s₁ B hml hv
  obtain ⟨rfl, rfl, hw⟩ := py_start hv
  have G : CallFix p m c cX11_isFamily 2 s _ w_X11_isFamily RX11 := ⟨B.exec, B.bytes, hml, findClass_of_methodNamed B.named, atoms_spec (ws := w_X11_isFamily) B.pre⟩
  have hr := B.returns
  have hlk := B.notSynchronized
  have hl := lv_entry ([.ref h, .int a]) (n := 2) (Nat.le_of_ble_eq_true rfl)
  rw [lg_entry_eq]
  generalize (lg_sl ([.ref h, .int a]) ++ List.replicate (2 - (lg_sl ([.ref h, .int a])).length) Slot.unset).toArray = ls at hl ⊢
  have hl : lv_has ls 2 [(0, .ref h), (1, .int a)] := hl
  obtain ⟨tape, byt, vr, itm, dr, lr, dl, lws, nl, fo, va, tr, im, di, bu, se, mo, od, g, xd, xl, xf, xv, xi, xu, xs, hh, htape, hbyt, hvr, hdr, hxd, hlr, hdl, hxl, hfo, hxf, hf9, hf11, hva, hxv, hv8, hv9, hdi, hxi, hi2, hbu, hxu, hu3, hse, hxs⟩ := id hF
  have hMp : ∀ m, fr_M E L f m → fr_M E L f m := fun _ h => h
  refine lv_iload_n G.1 G.2.1 dX11_isFamily_0 rfl (lv_at hl 1 rfl) ?_
  refine lv_if_lt (tgt := 22) G.1 G.2.1 dX11_isFamily_1 (by decide) (fun c_1 => ?_) (fun c_1 => ?_)
  · skip
    refine lv_iconst (v := 0) G.1 G.2.1 dX11_isFamily_22 (by decide) ?_
    exact py_iret G hr rfl hlk hw ⟨rfl, rfl, rfl⟩ dX11_isFamily_23
  · skip
    refine lv_iload_n G.1 G.2.1 dX11_isFamily_4 rfl (lv_at hl 1 rfl) ?_
    refine lv_aload_n G.1 G.2.1 dX11_isFamily_5 rfl (lv_at hl 0 rfl) ?_
    refine py_get (C := RX11) (T := TX11) (N := 16) (k := 5) (v := .ref fo) G hw in_X11_isFamily_X11 rfl hh (by decide) (by decide +kernel) rfl dX11_isFamily_6 ?_
    refine py_get (C := RX2) (T := TX2) (N := 12) (k := 9) (v := .ref va) G hw in_X11_isFamily_X2 rfl hfo (by decide) (by decide +kernel) hf9 dX11_isFamily_9 ?_
    refine py_get (C := RX9) (T := TX9) (N := 10) (k := 9) (v := .int 0) G hw in_X11_isFamily_X9 rfl hva (by decide) (by decide +kernel) hv9 dX11_isFamily_12 ?_
    refine lv_icmp_ge (tgt := 22) G.1 G.2.1 dX11_isFamily_15 (by decide) (fun c_2 => ?_) (fun c_2 => ?_)
    · skip
      refine lv_iconst (v := 0) G.1 G.2.1 dX11_isFamily_22 (by decide) ?_
      exact py_iret G hr rfl hlk hw ⟨rfl, rfl, rfl⟩ dX11_isFamily_23
    · skip
      refine lv_iconst (v := 1) G.1 G.2.1 dX11_isFamily_18 (by decide) ?_
      refine lv_goto (tgt := 23) G.1 G.2.1 dX11_isFamily_19 (by decide) ?_
      exact py_iret G hr rfl hlk hw (absurd (Int32.not_lt.mp c_1) c_2) dX11_isFamily_23

def w_X11_isLaw : List Cond := .code yX11_isLaw cX11_isLaw 2 (some .boolean) :: ([Cond.fieldLink RX11 94 "HeadYear" "lawCount" "I"] ++ (u_ws RX11 TX11 16 ++ ([])))
theorem in_X11_isLaw_X11 : ∀ w ∈ u_ws RX11 TX11 16, w ∈ w_X11_isLaw := fun _ h => List.mem_cons_of_mem _ (List.mem_append_right _ (List.mem_append_left _ h))
set_option maxHeartbeats 4000000 in
set_option maxRecDepth 100000 in
theorem c_X11_isLaw (l : Launch) (E : py_E) (L : List Nat) (f : py_F) (sz : Nat) (h : Nat) (a : Int32) (hF : fr_H E L f h) : Met l yX11_isLaw w_X11_isLaw ({ frames := 0, cells := 0, slots := 0, locals := 0 }) (py_Pc E [.ref h, .int a] L f sz) (py_Qi E L f sz (fun r L1 f1 => r = 0 ∧ L = L1 ∧ f = f1)) 0 0 (va_A (va_pl L f) sz) := by
  refine Met.ofW (cc := cX11_isLaw) (maxL := 2) (ret := (some .boolean)) (by decide) rfl ?_
  intro p e s m args below meth c s₁ B hml hv
  obtain ⟨rfl, rfl, hw⟩ := py_start hv
  have G : CallFix p m c cX11_isLaw 2 s _ w_X11_isLaw RX11 := ⟨B.exec, B.bytes, hml, findClass_of_methodNamed B.named, atoms_spec (ws := w_X11_isLaw) B.pre⟩
  have hr := B.returns
  have hlk := B.notSynchronized
  have hl := lv_entry ([.ref h, .int a]) (n := 2) (Nat.le_of_ble_eq_true rfl)
  rw [lg_entry_eq]
  generalize (lg_sl ([.ref h, .int a]) ++ List.replicate (2 - (lg_sl ([.ref h, .int a])).length) Slot.unset).toArray = ls at hl ⊢
  have hl : lv_has ls 2 [(0, .ref h), (1, .int a)] := hl
  obtain ⟨tape, byt, vr, itm, dr, lr, dl, lws, nl, fo, va, tr, im, di, bu, se, mo, od, g, xd, xl, xf, xv, xi, xu, xs, hh, htape, hbyt, hvr, hdr, hxd, hlr, hdl, hxl, hfo, hxf, hf9, hf11, hva, hxv, hv8, hv9, hdi, hxi, hi2, hbu, hxu, hu3, hse, hxs⟩ := id hF
  have hMp : ∀ m, fr_M E L f m → fr_M E L f m := fun _ h => h
  refine lv_iload_n G.1 G.2.1 dX11_isLaw_0 rfl (lv_at hl 1 rfl) ?_
  refine lv_if_lt (tgt := 16) G.1 G.2.1 dX11_isLaw_1 (by decide) (fun c_1 => ?_) (fun c_1 => ?_)
  · skip
    refine lv_iconst (v := 0) G.1 G.2.1 dX11_isLaw_16 (by decide) ?_
    exact py_iret G hr rfl hlk hw ⟨rfl, rfl, rfl⟩ dX11_isLaw_17
  · skip
    refine lv_iload_n G.1 G.2.1 dX11_isLaw_4 rfl (lv_at hl 1 rfl) ?_
    refine lv_aload_n G.1 G.2.1 dX11_isLaw_5 rfl (lv_at hl 0 rfl) ?_
    refine py_get (C := RX11) (T := TX11) (N := 16) (k := 13) (v := .int 0) G hw in_X11_isLaw_X11 rfl hh (by decide) (by decide +kernel) rfl dX11_isLaw_6 ?_
    refine lv_icmp_ge (tgt := 16) G.1 G.2.1 dX11_isLaw_9 (by decide) (fun c_2 => ?_) (fun c_2 => ?_)
    · skip
      refine lv_iconst (v := 0) G.1 G.2.1 dX11_isLaw_16 (by decide) ?_
      exact py_iret G hr rfl hlk hw ⟨rfl, rfl, rfl⟩ dX11_isLaw_17
    · skip
      refine lv_iconst (v := 1) G.1 G.2.1 dX11_isLaw_12 (by decide) ?_
      refine lv_goto (tgt := 17) G.1 G.2.1 dX11_isLaw_13 (by decide) ?_
      exact py_iret G hr rfl hlk hw (absurd (Int32.not_lt.mp c_1) c_2) dX11_isLaw_17

def w_X11_lives : List Cond := .code yX11_lives cX11_lives 2 (some .boolean) :: ([Cond.methodLink RX11 163 yX11_isFamily, Cond.instanceMethod yX11_isFamily, Cond.selects RX11 yX11_isFamily yX11_isFamily, Cond.initialized RX11] ++ (w_X11_isFamily ++ ([])))
theorem gg_X11_lives_X11_isFamily : GoodIn w_X11_lives w_X11_isFamily := goodIn_sub (fun _ h => List.mem_cons_of_mem _ (List.mem_append_right _ (List.mem_append_left _ h))) (by decide +kernel)
theorem g_X11_lives_X11_isFamily_163 : GoodIn w_X11_lives (wsV RX11 163 RX11 yX11_isFamily w_X11_isFamily) := goodIn_app (goodIn_of _ (by decide +kernel)) gg_X11_lives_X11_isFamily
set_option maxHeartbeats 4000000 in
set_option maxRecDepth 100000 in
theorem c_X11_lives (l : Launch) (E : py_E) (L : List Nat) (f : py_F) (sz : Nat) (h : Nat) (a : Int32) (hF : fr_H E L f h) : Met l yX11_lives w_X11_lives ({ frames := 1, cells := 0, slots := 0, locals := 21 }) (py_Pc E [.ref h, .int a] L f sz) (py_Qi E L f sz (fun r L1 f1 => r = 0 ∧ L = L1 ∧ f = f1)) 0 0 (va_A (va_pl L f) sz) := by
  refine Met.ofW (cc := cX11_lives) (maxL := 2) (ret := (some .boolean)) (by decide) rfl ?_
  intro p e s m args below meth c s₁ B hml hv
  obtain ⟨rfl, rfl, hw⟩ := py_start hv
  have G : CallFix p m c cX11_lives 2 s _ w_X11_lives RX11 := ⟨B.exec, B.bytes, hml, findClass_of_methodNamed B.named, atoms_spec (ws := w_X11_lives) B.pre⟩
  have hr := B.returns
  have hlk := B.notSynchronized
  have hl := lv_entry ([.ref h, .int a]) (n := 2) (Nat.le_of_ble_eq_true rfl)
  rw [lg_entry_eq]
  generalize (lg_sl ([.ref h, .int a]) ++ List.replicate (2 - (lg_sl ([.ref h, .int a])).length) Slot.unset).toArray = ls at hl ⊢
  have hl : lv_has ls 2 [(0, .ref h), (1, .int a)] := hl
  obtain ⟨tape, byt, vr, itm, dr, lr, dl, lws, nl, fo, va, tr, im, di, bu, se, mo, od, g, xd, xl, xf, xv, xi, xu, xs, hh, htape, hbyt, hvr, hdr, hxd, hlr, hdl, hxl, hfo, hxf, hf9, hf11, hva, hxv, hv8, hv9, hdi, hxi, hi2, hbu, hxu, hu3, hse, hxs⟩ := id hF
  have hMp : ∀ m, fr_M E L f m → fr_M E L f m := fun _ h => h
  refine lv_aload_n G.1 G.2.1 dX11_lives_0 rfl (lv_at hl 0 rfl) ?_
  refine lv_iload_n G.1 G.2.1 dX11_lives_1 rfl (lv_at hl 1 rfl) ?_
  refine py_calli hw (va_runV (As := [.int a]) (rest := []) G (c_X11_isFamily l E L f s.heap.size h a hF) (cwV 1 G.2.2.2.2 g_X11_lives_X11_isFamily_163 rfl rfl rfl (by decide +kernel) ⟨(Nat.le_of_ble_eq_true rfl), (Nat.le_of_ble_eq_true rfl)⟩) (py_preV hw (C := RX11) (T := TX11) (N := 16) rfl hh) rfl rfl hl.1 rfl (lv_room (Nat.le_of_ble_eq_true rfl)) dX11_lives_2 ⟨(Nat.le_of_ble_eq_true rfl), (Nat.le_of_ble_eq_true rfl)⟩) (fun r_5 L_1 f_2 H_3 locs hp_4 hw => ?_)
  obtain ⟨rfl, rfl, rfl⟩ := hp_4
  refine lv_if_eq (tgt := 24) G.1 G.2.1 dX11_lives_5 (by decide) (fun c_6 => ?_) (fun c_6 => ?_)
  · skip
    refine lv_iconst (v := 0) G.1 G.2.1 dX11_lives_24 (by decide) ?_
    exact py_iret G hr rfl hlk hw ⟨rfl, rfl, rfl⟩ dX11_lives_25
  · skip
    exact absurd c_6 (by decide)

def w_X11_family : List Cond := .code yX11_family cX11_family 3 (some .int) :: ([Cond.methodLink RX11 163 yX11_isFamily, Cond.instanceMethod yX11_isFamily, Cond.selects RX11 yX11_isFamily yX11_isFamily, Cond.initialized RX11, Cond.constant RX11 166 (-1000000)] ++ (w_X11_isFamily ++ ([])))
theorem gg_X11_family_X11_isFamily : GoodIn w_X11_family w_X11_isFamily := goodIn_sub (fun _ h => List.mem_cons_of_mem _ (List.mem_append_right _ (List.mem_append_left _ h))) (by decide +kernel)
theorem g_X11_family_X11_isFamily_163 : GoodIn w_X11_family (wsV RX11 163 RX11 yX11_isFamily w_X11_isFamily) := goodIn_app (goodIn_of _ (by decide +kernel)) gg_X11_family_X11_isFamily
set_option maxHeartbeats 4000000 in
set_option maxRecDepth 100000 in
theorem c_X11_family (l : Launch) (E : py_E) (L : List Nat) (f : py_F) (sz : Nat) (h : Nat) (a : Int32) (b : Int32) (hF : fr_H E L f h) : Met l yX11_family w_X11_family ({ frames := 1, cells := 0, slots := 0, locals := 21 }) (py_Pc E [.ref h, .int a, .int b] L f sz) (py_Qi E L f sz (fun r L1 f1 => r = -1000000 ∧ ∀ m, fr_M E L f m → fr_M E L1 f1 m)) 0 0 (va_A (va_pl L f) sz) := by
  refine Met.ofW (cc := cX11_family) (maxL := 3) (ret := (some .int)) (by decide) rfl ?_
  intro p e s m args below meth c s₁ B hml hv
  obtain ⟨rfl, rfl, hw⟩ := py_start hv
  have G : CallFix p m c cX11_family 3 s _ w_X11_family RX11 := ⟨B.exec, B.bytes, hml, findClass_of_methodNamed B.named, atoms_spec (ws := w_X11_family) B.pre⟩
  have hr := B.returns
  have hlk := B.notSynchronized
  have hl := lv_entry ([.ref h, .int a, .int b]) (n := 3) (Nat.le_of_ble_eq_true rfl)
  rw [lg_entry_eq]
  generalize (lg_sl ([.ref h, .int a, .int b]) ++ List.replicate (3 - (lg_sl ([.ref h, .int a, .int b])).length) Slot.unset).toArray = ls at hl ⊢
  have hl : lv_has ls 3 [(0, .ref h), (1, .int a), (2, .int b)] := hl
  obtain ⟨tape, byt, vr, itm, dr, lr, dl, lws, nl, fo, va, tr, im, di, bu, se, mo, od, g, xd, xl, xf, xv, xi, xu, xs, hh, htape, hbyt, hvr, hdr, hxd, hlr, hdl, hxl, hfo, hxf, hf9, hf11, hva, hxv, hv8, hv9, hdi, hxi, hi2, hbu, hxu, hu3, hse, hxs⟩ := id hF
  have hMp : ∀ m, fr_M E L f m → fr_M E L f m := fun _ h => h
  refine lv_aload_n G.1 G.2.1 dX11_family_0 rfl (lv_at hl 0 rfl) ?_
  refine lv_iload_n G.1 G.2.1 dX11_family_1 rfl (lv_at hl 1 rfl) ?_
  refine py_calli hw (va_runV (As := [.int a]) (rest := []) G (c_X11_isFamily l E L f s.heap.size h a hF) (cwV 1 G.2.2.2.2 g_X11_family_X11_isFamily_163 rfl rfl rfl (by decide +kernel) ⟨(Nat.le_of_ble_eq_true rfl), (Nat.le_of_ble_eq_true rfl)⟩) (py_preV hw (C := RX11) (T := TX11) (N := 16) rfl hh) rfl rfl hl.1 rfl (lv_room (Nat.le_of_ble_eq_true rfl)) dX11_family_2 ⟨(Nat.le_of_ble_eq_true rfl), (Nat.le_of_ble_eq_true rfl)⟩) (fun r_5 L_1 f_2 H_3 locs hp_4 hw => ?_)
  obtain ⟨rfl, rfl, rfl⟩ := hp_4
  refine lv_if_ne (tgt := 11) G.1 G.2.1 dX11_family_5 (by decide) (fun c_6 => ?_) (fun c_6 => ?_)
  · skip
    exact absurd c_6 (by decide)
  · skip
    refine lv_ldc (v := (-1000000)) G.1 G.2.1 G.2.2.2.1 (G.2.2.2.2 (Cond.constant RX11 166 (-1000000)) (by decide +kernel)) dX11_family_8 ?_
    exact py_iret G hr rfl hlk hw ⟨rfl, hMp⟩ dX11_family_10

def w_X11_hut : List Cond := .code yX11_hut cX11_hut 3 (some .int) :: ([Cond.methodLink RX11 132 yX11_isLevel, Cond.instanceMethod yX11_isLevel, Cond.selects RX11 yX11_isLevel yX11_isLevel, Cond.initialized RX11] ++ (w_X11_isLevel ++ ([])))
theorem gg_X11_hut_X11_isLevel : GoodIn w_X11_hut w_X11_isLevel := goodIn_sub (fun _ h => List.mem_cons_of_mem _ (List.mem_append_right _ (List.mem_append_left _ h))) (by decide +kernel)
theorem g_X11_hut_X11_isLevel_132 : GoodIn w_X11_hut (wsV RX11 132 RX11 yX11_isLevel w_X11_isLevel) := goodIn_app (goodIn_of _ (by decide +kernel)) gg_X11_hut_X11_isLevel
set_option maxHeartbeats 4000000 in
set_option maxRecDepth 100000 in
theorem c_X11_hut (l : Launch) (E : py_E) (L : List Nat) (f : py_F) (sz : Nat) (h : Nat) (a : Int32) (b : Int32) (hF : fr_H E L f h) : Met l yX11_hut w_X11_hut ({ frames := 1, cells := 0, slots := 0, locals := 21 }) (py_Pc E [.ref h, .int a, .int b] L f sz) (py_Qi E L f sz (fun r L1 f1 => r = -1 ∧ ∀ m, fr_M E L f m → fr_M E L1 f1 m)) 0 0 (va_A (va_pl L f) sz) := by
  refine Met.ofW (cc := cX11_hut) (maxL := 3) (ret := (some .int)) (by decide) rfl ?_
  intro p e s m args below meth c s₁ B hml hv
  obtain ⟨rfl, rfl, hw⟩ := py_start hv
  have G : CallFix p m c cX11_hut 3 s _ w_X11_hut RX11 := ⟨B.exec, B.bytes, hml, findClass_of_methodNamed B.named, atoms_spec (ws := w_X11_hut) B.pre⟩
  have hr := B.returns
  have hlk := B.notSynchronized
  have hl := lv_entry ([.ref h, .int a, .int b]) (n := 3) (Nat.le_of_ble_eq_true rfl)
  rw [lg_entry_eq]
  generalize (lg_sl ([.ref h, .int a, .int b]) ++ List.replicate (3 - (lg_sl ([.ref h, .int a, .int b])).length) Slot.unset).toArray = ls at hl ⊢
  have hl : lv_has ls 3 [(0, .ref h), (1, .int a), (2, .int b)] := hl
  obtain ⟨tape, byt, vr, itm, dr, lr, dl, lws, nl, fo, va, tr, im, di, bu, se, mo, od, g, xd, xl, xf, xv, xi, xu, xs, hh, htape, hbyt, hvr, hdr, hxd, hlr, hdl, hxl, hfo, hxf, hf9, hf11, hva, hxv, hv8, hv9, hdi, hxi, hi2, hbu, hxu, hu3, hse, hxs⟩ := id hF
  have hMp : ∀ m, fr_M E L f m → fr_M E L f m := fun _ h => h
  refine lv_aload_n G.1 G.2.1 dX11_hut_0 rfl (lv_at hl 0 rfl) ?_
  refine lv_iload_n G.1 G.2.1 dX11_hut_1 rfl (lv_at hl 1 rfl) ?_
  refine py_calli hw (va_runV (As := [.int a]) (rest := []) G (c_X11_isLevel l E L f s.heap.size h a hF) (cwV 1 G.2.2.2.2 g_X11_hut_X11_isLevel_132 rfl rfl rfl (by decide +kernel) ⟨(Nat.le_of_ble_eq_true rfl), (Nat.le_of_ble_eq_true rfl)⟩) (py_preV hw (C := RX11) (T := TX11) (N := 16) rfl hh) rfl rfl hl.1 rfl (lv_room (Nat.le_of_ble_eq_true rfl)) dX11_hut_2 ⟨(Nat.le_of_ble_eq_true rfl), (Nat.le_of_ble_eq_true rfl)⟩) (fun r_5 L_1 f_2 H_3 locs hp_4 hw => ?_)
  obtain ⟨rfl, rfl, rfl⟩ := hp_4
  refine lv_if_eq (tgt := 20) G.1 G.2.1 dX11_hut_5 (by decide) (fun c_6 => ?_) (fun c_6 => ?_)
  · skip
    refine lv_iconst (v := (-1)) G.1 G.2.1 dX11_hut_20 (by decide) ?_
    exact py_iret G hr rfl hlk hw ⟨rfl, hMp⟩ dX11_hut_21
  · skip
    exact absurd c_6 (by decide)

def w_X11_winters : List Cond := .code yX11_winters cX11_winters 4 (some .int) :: ([Cond.methodLink RX11 218 yX11_hasValley, Cond.instanceMethod yX11_hasValley, Cond.selects RX11 yX11_hasValley yX11_hasValley, Cond.initialized RX11] ++ (w_X11_hasValley ++ ([])))
theorem gg_X11_winters_X11_hasValley : GoodIn w_X11_winters w_X11_hasValley := goodIn_sub (fun _ h => List.mem_cons_of_mem _ (List.mem_append_right _ (List.mem_append_left _ h))) (by decide +kernel)
theorem g_X11_winters_X11_hasValley_218 : GoodIn w_X11_winters (wsV RX11 218 RX11 yX11_hasValley w_X11_hasValley) := goodIn_app (goodIn_of _ (by decide +kernel)) gg_X11_winters_X11_hasValley
set_option maxHeartbeats 4000000 in
set_option maxRecDepth 100000 in
theorem c_X11_winters (l : Launch) (E : py_E) (L : List Nat) (f : py_F) (sz : Nat) (h : Nat) (a : Int32) (hF : fr_H E L f h) : Met l yX11_winters w_X11_winters ({ frames := 1, cells := 0, slots := 0, locals := 20 }) (py_Pc E [.ref h, .int a] L f sz) (py_Qi E L f sz (fun r L1 f1 => r = -1 ∧ ∀ m, fr_M E L f m → fr_M E L1 f1 m)) 0 0 (va_A (va_pl L f) sz) := by
  refine Met.ofW (cc := cX11_winters) (maxL := 4) (ret := (some .int)) (by decide) rfl ?_
  intro p e s m args below meth c s₁ B hml hv
  obtain ⟨rfl, rfl, hw⟩ := py_start hv
  have G : CallFix p m c cX11_winters 4 s _ w_X11_winters RX11 := ⟨B.exec, B.bytes, hml, findClass_of_methodNamed B.named, atoms_spec (ws := w_X11_winters) B.pre⟩
  have hr := B.returns
  have hlk := B.notSynchronized
  have hl := lv_entry ([.ref h, .int a]) (n := 4) (Nat.le_of_ble_eq_true rfl)
  rw [lg_entry_eq]
  generalize (lg_sl ([.ref h, .int a]) ++ List.replicate (4 - (lg_sl ([.ref h, .int a])).length) Slot.unset).toArray = ls at hl ⊢
  have hl : lv_has ls 4 [(0, .ref h), (1, .int a)] := hl
  obtain ⟨tape, byt, vr, itm, dr, lr, dl, lws, nl, fo, va, tr, im, di, bu, se, mo, od, g, xd, xl, xf, xv, xi, xu, xs, hh, htape, hbyt, hvr, hdr, hxd, hlr, hdl, hxl, hfo, hxf, hf9, hf11, hva, hxv, hv8, hv9, hdi, hxi, hi2, hbu, hxu, hu3, hse, hxs⟩ := id hF
  have hMp : ∀ m, fr_M E L f m → fr_M E L f m := fun _ h => h
  refine lv_aload_n G.1 G.2.1 dX11_winters_0 rfl (lv_at hl 0 rfl) ?_
  refine py_calli hw (va_runV (As := []) (rest := []) G (c_X11_hasValley l E L f s.heap.size h hF) (cwV 0 G.2.2.2.2 g_X11_winters_X11_hasValley_218 rfl rfl rfl (by decide +kernel) ⟨(Nat.le_of_ble_eq_true rfl), (Nat.le_of_ble_eq_true rfl)⟩) (py_preV hw (C := RX11) (T := TX11) (N := 16) rfl hh) rfl rfl hl.1 rfl (lv_room (Nat.le_of_ble_eq_true rfl)) dX11_winters_1 ⟨(Nat.le_of_ble_eq_true rfl), (Nat.le_of_ble_eq_true rfl)⟩) (fun r_5 L_1 f_2 H_3 locs hp_4 hw => ?_)
  obtain ⟨rfl, rfl, rfl⟩ := hp_4
  refine lv_if_eq (tgt := 32) G.1 G.2.1 dX11_winters_4 (by decide) (fun c_6 => ?_) (fun c_6 => ?_)
  · skip
    refine lv_iconst (v := (-1)) G.1 G.2.1 dX11_winters_32 (by decide) ?_
    exact py_iret G hr rfl hlk hw ⟨rfl, hMp⟩ dX11_winters_33
  · skip
    exact absurd c_6 (by decide)

def w_X11_spring : List Cond := .code yX11_spring cX11_spring 1 (some .int) :: ([Cond.methodLink RX11 218 yX11_hasValley, Cond.instanceMethod yX11_hasValley, Cond.selects RX11 yX11_hasValley yX11_hasValley, Cond.initialized RX11] ++ (w_X11_hasValley ++ ([])))
theorem gg_X11_spring_X11_hasValley : GoodIn w_X11_spring w_X11_hasValley := goodIn_sub (fun _ h => List.mem_cons_of_mem _ (List.mem_append_right _ (List.mem_append_left _ h))) (by decide +kernel)
theorem g_X11_spring_X11_hasValley_218 : GoodIn w_X11_spring (wsV RX11 218 RX11 yX11_hasValley w_X11_hasValley) := goodIn_app (goodIn_of _ (by decide +kernel)) gg_X11_spring_X11_hasValley
set_option maxHeartbeats 4000000 in
set_option maxRecDepth 100000 in
theorem c_X11_spring (l : Launch) (E : py_E) (L : List Nat) (f : py_F) (sz : Nat) (h : Nat) (hF : fr_H E L f h) : Met l yX11_spring w_X11_spring ({ frames := 1, cells := 0, slots := 0, locals := 20 }) (py_Pc E [.ref h] L f sz) (py_Qi E L f sz (fun r L1 f1 => r = -1 ∧ ∀ m, fr_M E L f m → fr_M E L1 f1 m)) 0 0 (va_A (va_pl L f) sz) := by
  refine Met.ofW (cc := cX11_spring) (maxL := 1) (ret := (some .int)) (by decide) rfl ?_
  intro p e s m args below meth c s₁ B hml hv
  obtain ⟨rfl, rfl, hw⟩ := py_start hv
  have G : CallFix p m c cX11_spring 1 s _ w_X11_spring RX11 := ⟨B.exec, B.bytes, hml, findClass_of_methodNamed B.named, atoms_spec (ws := w_X11_spring) B.pre⟩
  have hr := B.returns
  have hlk := B.notSynchronized
  have hl := lv_entry ([.ref h]) (n := 1) (Nat.le_of_ble_eq_true rfl)
  rw [lg_entry_eq]
  generalize (lg_sl ([.ref h]) ++ List.replicate (1 - (lg_sl ([.ref h])).length) Slot.unset).toArray = ls at hl ⊢
  have hl : lv_has ls 1 [(0, .ref h)] := hl
  obtain ⟨tape, byt, vr, itm, dr, lr, dl, lws, nl, fo, va, tr, im, di, bu, se, mo, od, g, xd, xl, xf, xv, xi, xu, xs, hh, htape, hbyt, hvr, hdr, hxd, hlr, hdl, hxl, hfo, hxf, hf9, hf11, hva, hxv, hv8, hv9, hdi, hxi, hi2, hbu, hxu, hu3, hse, hxs⟩ := id hF
  have hMp : ∀ m, fr_M E L f m → fr_M E L f m := fun _ h => h
  refine lv_aload_n G.1 G.2.1 dX11_spring_0 rfl (lv_at hl 0 rfl) ?_
  refine py_calli hw (va_runV (As := []) (rest := []) G (c_X11_hasValley l E L f s.heap.size h hF) (cwV 0 G.2.2.2.2 g_X11_spring_X11_hasValley_218 rfl rfl rfl (by decide +kernel) ⟨(Nat.le_of_ble_eq_true rfl), (Nat.le_of_ble_eq_true rfl)⟩) (py_preV hw (C := RX11) (T := TX11) (N := 16) rfl hh) rfl rfl hl.1 rfl (lv_room (Nat.le_of_ble_eq_true rfl)) dX11_spring_1 ⟨(Nat.le_of_ble_eq_true rfl), (Nat.le_of_ble_eq_true rfl)⟩) (fun r_5 L_1 f_2 H_3 locs hp_4 hw => ?_)
  obtain ⟨rfl, rfl, rfl⟩ := hp_4
  refine lv_if_ne (tgt := 9) G.1 G.2.1 dX11_spring_4 (by decide) (fun c_6 => ?_) (fun c_6 => ?_)
  · skip
    exact absurd c_6 (by decide)
  · skip
    refine lv_iconst (v := (-1)) G.1 G.2.1 dX11_spring_7 (by decide) ?_
    exact py_iret G hr rfl hlk hw ⟨rfl, hMp⟩ dX11_spring_8

def w_X11_buy : List Cond := .code yX11_buy cX11_buy 4 (some .int) :: ([Cond.methodLink RX11 246 yX11_lives, Cond.instanceMethod yX11_lives, Cond.selects RX11 yX11_lives yX11_lives, Cond.initialized RX11] ++ (w_X11_lives ++ ([])))
theorem gg_X11_buy_X11_lives : GoodIn w_X11_buy w_X11_lives := goodIn_sub (fun _ h => List.mem_cons_of_mem _ (List.mem_append_right _ (List.mem_append_left _ h))) (by decide +kernel)
theorem g_X11_buy_X11_lives_246 : GoodIn w_X11_buy (wsV RX11 246 RX11 yX11_lives w_X11_lives) := goodIn_app (goodIn_of _ (by decide +kernel)) gg_X11_buy_X11_lives
set_option maxHeartbeats 4000000 in
set_option maxRecDepth 100000 in
theorem c_X11_buy (l : Launch) (E : py_E) (L : List Nat) (f : py_F) (sz : Nat) (h : Nat) (a : Int32) (b : Int32) (hF : fr_H E L f h) : Met l yX11_buy w_X11_buy ({ frames := 2, cells := 0, slots := 0, locals := 42 }) (py_Pc E [.ref h, .int a, .int b] L f sz) (py_Qi E L f sz (fun r L1 f1 => r = -1 ∧ ∀ m, fr_M E L f m → fr_M E L1 f1 m)) 0 0 (va_A (va_pl L f) sz) := by
  refine Met.ofW (cc := cX11_buy) (maxL := 4) (ret := (some .int)) (by decide) rfl ?_
  intro p e s m args below meth c s₁ B hml hv
  obtain ⟨rfl, rfl, hw⟩ := py_start hv
  have G : CallFix p m c cX11_buy 4 s _ w_X11_buy RX11 := ⟨B.exec, B.bytes, hml, findClass_of_methodNamed B.named, atoms_spec (ws := w_X11_buy) B.pre⟩
  have hr := B.returns
  have hlk := B.notSynchronized
  have hl := lv_entry ([.ref h, .int a, .int b]) (n := 4) (Nat.le_of_ble_eq_true rfl)
  rw [lg_entry_eq]
  generalize (lg_sl ([.ref h, .int a, .int b]) ++ List.replicate (4 - (lg_sl ([.ref h, .int a, .int b])).length) Slot.unset).toArray = ls at hl ⊢
  have hl : lv_has ls 4 [(0, .ref h), (1, .int a), (2, .int b)] := hl
  obtain ⟨tape, byt, vr, itm, dr, lr, dl, lws, nl, fo, va, tr, im, di, bu, se, mo, od, g, xd, xl, xf, xv, xi, xu, xs, hh, htape, hbyt, hvr, hdr, hxd, hlr, hdl, hxl, hfo, hxf, hf9, hf11, hva, hxv, hv8, hv9, hdi, hxi, hi2, hbu, hxu, hu3, hse, hxs⟩ := id hF
  have hMp : ∀ m, fr_M E L f m → fr_M E L f m := fun _ h => h
  refine lv_aload_n G.1 G.2.1 dX11_buy_0 rfl (lv_at hl 0 rfl) ?_
  refine lv_iload_n G.1 G.2.1 dX11_buy_1 rfl (lv_at hl 1 rfl) ?_
  refine py_calli hw (va_runV (As := [.int a]) (rest := []) G (c_X11_lives l E L f s.heap.size h a hF) (cwV 1 G.2.2.2.2 g_X11_buy_X11_lives_246 rfl rfl rfl (by decide +kernel) ⟨(Nat.le_of_ble_eq_true rfl), (Nat.le_of_ble_eq_true rfl)⟩) (py_preV hw (C := RX11) (T := TX11) (N := 16) rfl hh) rfl rfl hl.1 rfl (lv_room (Nat.le_of_ble_eq_true rfl)) dX11_buy_2 ⟨(Nat.le_of_ble_eq_true rfl), (Nat.le_of_ble_eq_true rfl)⟩) (fun r_5 L_1 f_2 H_3 locs hp_4 hw => ?_)
  obtain ⟨rfl, rfl, rfl⟩ := hp_4
  refine lv_if_eq (tgt := 31) G.1 G.2.1 dX11_buy_5 (by decide) (fun c_6 => ?_) (fun c_6 => ?_)
  · skip
    refine lv_iconst (v := (-1)) G.1 G.2.1 dX11_buy_31 (by decide) ?_
    exact py_iret G hr rfl hlk hw ⟨rfl, hMp⟩ dX11_buy_32
  · skip
    exact absurd c_6 (by decide)

def w_X11_undo : List Cond := .code yX11_undo cX11_undo 3 (some .int) :: ([Cond.fieldLink RX11 67 "HeadYear" "buyings" "LHeadYear$Buyings;", Cond.fieldLink RX11 240 "HeadYear$Buyings" "count" "I"] ++ (u_ws RX11 TX11 16 ++ (u_ws RX0 TX0 5 ++ ([]))))
theorem in_X11_undo_X11 : ∀ w ∈ u_ws RX11 TX11 16, w ∈ w_X11_undo := fun _ h => List.mem_cons_of_mem _ (List.mem_append_right _ (List.mem_append_left _ h))
theorem in_X11_undo_X0 : ∀ w ∈ u_ws RX0 TX0 5, w ∈ w_X11_undo := fun _ h => List.mem_cons_of_mem _ (List.mem_append_right _ (List.mem_append_right _ (List.mem_append_left _ h)))
set_option maxHeartbeats 4000000 in
set_option maxRecDepth 100000 in
theorem c_X11_undo (l : Launch) (E : py_E) (L : List Nat) (f : py_F) (sz : Nat) (h : Nat) (hF : fr_H E L f h) : Met l yX11_undo w_X11_undo ({ frames := 0, cells := 0, slots := 0, locals := 0 }) (py_Pc E [.ref h] L f sz) (py_Qi E L f sz (fun r L1 f1 => r = -1 ∧ ∀ m, fr_M E L f m → fr_M E L1 f1 m)) 0 0 (va_A (va_pl L f) sz) := by
  refine Met.ofW (cc := cX11_undo) (maxL := 3) (ret := (some .int)) (by decide) rfl ?_
  intro p e s m args below meth c s₁ B hml hv
  obtain ⟨rfl, rfl, hw⟩ := py_start hv
  have G : CallFix p m c cX11_undo 3 s _ w_X11_undo RX11 := ⟨B.exec, B.bytes, hml, findClass_of_methodNamed B.named, atoms_spec (ws := w_X11_undo) B.pre⟩
  have hr := B.returns
  have hlk := B.notSynchronized
  have hl := lv_entry ([.ref h]) (n := 3) (Nat.le_of_ble_eq_true rfl)
  rw [lg_entry_eq]
  generalize (lg_sl ([.ref h]) ++ List.replicate (3 - (lg_sl ([.ref h])).length) Slot.unset).toArray = ls at hl ⊢
  have hl : lv_has ls 3 [(0, .ref h)] := hl
  obtain ⟨tape, byt, vr, itm, dr, lr, dl, lws, nl, fo, va, tr, im, di, bu, se, mo, od, g, xd, xl, xf, xv, xi, xu, xs, hh, htape, hbyt, hvr, hdr, hxd, hlr, hdl, hxl, hfo, hxf, hf9, hf11, hva, hxv, hv8, hv9, hdi, hxi, hi2, hbu, hxu, hu3, hse, hxs⟩ := id hF
  have hMp : ∀ m, fr_M E L f m → fr_M E L f m := fun _ h => h
  refine lv_aload_n G.1 G.2.1 dX11_undo_0 rfl (lv_at hl 0 rfl) ?_
  refine py_get (C := RX11) (T := TX11) (N := 16) (k := 9) (v := .ref bu) G hw in_X11_undo_X11 rfl hh (by decide) (by decide +kernel) rfl dX11_undo_1 ?_
  refine py_get (C := RX0) (T := TX0) (N := 5) (k := 3) (v := .int 0) G hw in_X11_undo_X0 rfl hbu (by decide) (by decide +kernel) hu3 dX11_undo_4 ?_
  refine lv_iconst (v := 1) G.1 G.2.1 dX11_undo_7 (by decide) ?_
  refine lv_icmp_ge (tgt := 13) G.1 G.2.1 dX11_undo_8 (by decide) (fun c_1 => ?_) (fun c_1 => ?_)
  · skip
    exact absurd c_1 (by decide)
  · skip
    refine lv_iconst (v := (-1)) G.1 G.2.1 dX11_undo_11 (by decide) ?_
    exact py_iret G hr rfl hlk hw ⟨rfl, hMp⟩ dX11_undo_12

def w_X11_hush : List Cond := .code yX11_hush cX11_hush 3 (some .boolean) :: ([Cond.methodLink RX11 246 yX11_lives, Cond.instanceMethod yX11_lives, Cond.selects RX11 yX11_lives yX11_lives, Cond.initialized RX11] ++ (w_X11_lives ++ ([])))
theorem gg_X11_hush_X11_lives : GoodIn w_X11_hush w_X11_lives := goodIn_sub (fun _ h => List.mem_cons_of_mem _ (List.mem_append_right _ (List.mem_append_left _ h))) (by decide +kernel)
theorem g_X11_hush_X11_lives_246 : GoodIn w_X11_hush (wsV RX11 246 RX11 yX11_lives w_X11_lives) := goodIn_app (goodIn_of _ (by decide +kernel)) gg_X11_hush_X11_lives
set_option maxHeartbeats 4000000 in
set_option maxRecDepth 100000 in
theorem c_X11_hush (l : Launch) (E : py_E) (L : List Nat) (f : py_F) (sz : Nat) (h : Nat) (a : Int32) (b : Int32) (hF : fr_H E L f h) : Met l yX11_hush w_X11_hush ({ frames := 2, cells := 0, slots := 0, locals := 42 }) (py_Pc E [.ref h, .int a, .int b] L f sz) (py_Qi E L f sz (fun r L1 f1 => r = 0 ∧ ∀ m, fr_M E L f m → fr_M E L1 f1 m)) 0 0 (va_A (va_pl L f) sz) := by
  refine Met.ofW (cc := cX11_hush) (maxL := 3) (ret := (some .boolean)) (by decide) rfl ?_
  intro p e s m args below meth c s₁ B hml hv
  obtain ⟨rfl, rfl, hw⟩ := py_start hv
  have G : CallFix p m c cX11_hush 3 s _ w_X11_hush RX11 := ⟨B.exec, B.bytes, hml, findClass_of_methodNamed B.named, atoms_spec (ws := w_X11_hush) B.pre⟩
  have hr := B.returns
  have hlk := B.notSynchronized
  have hl := lv_entry ([.ref h, .int a, .int b]) (n := 3) (Nat.le_of_ble_eq_true rfl)
  rw [lg_entry_eq]
  generalize (lg_sl ([.ref h, .int a, .int b]) ++ List.replicate (3 - (lg_sl ([.ref h, .int a, .int b])).length) Slot.unset).toArray = ls at hl ⊢
  have hl : lv_has ls 3 [(0, .ref h), (1, .int a), (2, .int b)] := hl
  obtain ⟨tape, byt, vr, itm, dr, lr, dl, lws, nl, fo, va, tr, im, di, bu, se, mo, od, g, xd, xl, xf, xv, xi, xu, xs, hh, htape, hbyt, hvr, hdr, hxd, hlr, hdl, hxl, hfo, hxf, hf9, hf11, hva, hxv, hv8, hv9, hdi, hxi, hi2, hbu, hxu, hu3, hse, hxs⟩ := id hF
  have hMp : ∀ m, fr_M E L f m → fr_M E L f m := fun _ h => h
  refine lv_aload_n G.1 G.2.1 dX11_hush_0 rfl (lv_at hl 0 rfl) ?_
  refine lv_iload_n G.1 G.2.1 dX11_hush_1 rfl (lv_at hl 1 rfl) ?_
  refine py_calli hw (va_runV (As := [.int a]) (rest := []) G (c_X11_lives l E L f s.heap.size h a hF) (cwV 1 G.2.2.2.2 g_X11_hush_X11_lives_246 rfl rfl rfl (by decide +kernel) ⟨(Nat.le_of_ble_eq_true rfl), (Nat.le_of_ble_eq_true rfl)⟩) (py_preV hw (C := RX11) (T := TX11) (N := 16) rfl hh) rfl rfl hl.1 rfl (lv_room (Nat.le_of_ble_eq_true rfl)) dX11_hush_2 ⟨(Nat.le_of_ble_eq_true rfl), (Nat.le_of_ble_eq_true rfl)⟩) (fun r_5 L_1 f_2 H_3 locs hp_4 hw => ?_)
  obtain ⟨rfl, rfl, rfl⟩ := hp_4
  refine lv_if_eq (tgt := 21) G.1 G.2.1 dX11_hush_5 (by decide) (fun c_6 => ?_) (fun c_6 => ?_)
  · skip
    refine lv_iconst (v := 0) G.1 G.2.1 dX11_hush_21 (by decide) ?_
    exact py_iret G hr rfl hlk hw ⟨rfl, hMp⟩ dX11_hush_22
  · skip
    exact absurd c_6 (by decide)

def w_X11_waiting : List Cond := .code yX11_waiting cX11_waiting 1 (some .int) :: ([Cond.methodLink RX11 218 yX11_hasValley, Cond.instanceMethod yX11_hasValley, Cond.selects RX11 yX11_hasValley yX11_hasValley, Cond.initialized RX11] ++ (w_X11_hasValley ++ ([])))
theorem gg_X11_waiting_X11_hasValley : GoodIn w_X11_waiting w_X11_hasValley := goodIn_sub (fun _ h => List.mem_cons_of_mem _ (List.mem_append_right _ (List.mem_append_left _ h))) (by decide +kernel)
theorem g_X11_waiting_X11_hasValley_218 : GoodIn w_X11_waiting (wsV RX11 218 RX11 yX11_hasValley w_X11_hasValley) := goodIn_app (goodIn_of _ (by decide +kernel)) gg_X11_waiting_X11_hasValley
set_option maxHeartbeats 4000000 in
set_option maxRecDepth 100000 in
theorem c_X11_waiting (l : Launch) (E : py_E) (L : List Nat) (f : py_F) (sz : Nat) (h : Nat) (hF : fr_H E L f h) : Met l yX11_waiting w_X11_waiting ({ frames := 1, cells := 0, slots := 0, locals := 20 }) (py_Pc E [.ref h] L f sz) (py_Qi E L f sz (fun r L1 f1 => r = -1 ∧ ∀ m, fr_M E L f m → fr_M E L1 f1 m)) 0 0 (va_A (va_pl L f) sz) := by
  refine Met.ofW (cc := cX11_waiting) (maxL := 1) (ret := (some .int)) (by decide) rfl ?_
  intro p e s m args below meth c s₁ B hml hv
  obtain ⟨rfl, rfl, hw⟩ := py_start hv
  have G : CallFix p m c cX11_waiting 1 s _ w_X11_waiting RX11 := ⟨B.exec, B.bytes, hml, findClass_of_methodNamed B.named, atoms_spec (ws := w_X11_waiting) B.pre⟩
  have hr := B.returns
  have hlk := B.notSynchronized
  have hl := lv_entry ([.ref h]) (n := 1) (Nat.le_of_ble_eq_true rfl)
  rw [lg_entry_eq]
  generalize (lg_sl ([.ref h]) ++ List.replicate (1 - (lg_sl ([.ref h])).length) Slot.unset).toArray = ls at hl ⊢
  have hl : lv_has ls 1 [(0, .ref h)] := hl
  obtain ⟨tape, byt, vr, itm, dr, lr, dl, lws, nl, fo, va, tr, im, di, bu, se, mo, od, g, xd, xl, xf, xv, xi, xu, xs, hh, htape, hbyt, hvr, hdr, hxd, hlr, hdl, hxl, hfo, hxf, hf9, hf11, hva, hxv, hv8, hv9, hdi, hxi, hi2, hbu, hxu, hu3, hse, hxs⟩ := id hF
  have hMp : ∀ m, fr_M E L f m → fr_M E L f m := fun _ h => h
  refine lv_aload_n G.1 G.2.1 dX11_waiting_0 rfl (lv_at hl 0 rfl) ?_
  refine py_calli hw (va_runV (As := []) (rest := []) G (c_X11_hasValley l E L f s.heap.size h hF) (cwV 0 G.2.2.2.2 g_X11_waiting_X11_hasValley_218 rfl rfl rfl (by decide +kernel) ⟨(Nat.le_of_ble_eq_true rfl), (Nat.le_of_ble_eq_true rfl)⟩) (py_preV hw (C := RX11) (T := TX11) (N := 16) rfl hh) rfl rfl hl.1 rfl (lv_room (Nat.le_of_ble_eq_true rfl)) dX11_waiting_1 ⟨(Nat.le_of_ble_eq_true rfl), (Nat.le_of_ble_eq_true rfl)⟩) (fun r_5 L_1 f_2 H_3 locs hp_4 hw => ?_)
  obtain ⟨rfl, rfl, rfl⟩ := hp_4
  refine lv_if_eq (tgt := 17) G.1 G.2.1 dX11_waiting_4 (by decide) (fun c_6 => ?_) (fun c_6 => ?_)
  · skip
    refine lv_iconst (v := (-1)) G.1 G.2.1 dX11_waiting_17 (by decide) ?_
    exact py_iret G hr rfl hlk hw ⟨rfl, hMp⟩ dX11_waiting_18
  · skip
    exact absurd c_6 (by decide)

def w_X11_most : List Cond := .code yX11_most cX11_most 3 (some .int) :: ([Cond.methodLink RX11 218 yX11_hasValley, Cond.instanceMethod yX11_hasValley, Cond.selects RX11 yX11_hasValley yX11_hasValley, Cond.initialized RX11] ++ (w_X11_hasValley ++ ([])))
theorem gg_X11_most_X11_hasValley : GoodIn w_X11_most w_X11_hasValley := goodIn_sub (fun _ h => List.mem_cons_of_mem _ (List.mem_append_right _ (List.mem_append_left _ h))) (by decide +kernel)
theorem g_X11_most_X11_hasValley_218 : GoodIn w_X11_most (wsV RX11 218 RX11 yX11_hasValley w_X11_hasValley) := goodIn_app (goodIn_of _ (by decide +kernel)) gg_X11_most_X11_hasValley
set_option maxHeartbeats 4000000 in
set_option maxRecDepth 100000 in
theorem c_X11_most (l : Launch) (E : py_E) (L : List Nat) (f : py_F) (sz : Nat) (h : Nat) (a : Int32) (hF : fr_H E L f h) : Met l yX11_most w_X11_most ({ frames := 1, cells := 0, slots := 0, locals := 20 }) (py_Pc E [.ref h, .int a] L f sz) (py_Qi E L f sz (fun r L1 f1 => r = -1 ∧ ∀ m, fr_M E L f m → fr_M E L1 f1 m)) 0 0 (va_A (va_pl L f) sz) := by
  refine Met.ofW (cc := cX11_most) (maxL := 3) (ret := (some .int)) (by decide) rfl ?_
  intro p e s m args below meth c s₁ B hml hv
  obtain ⟨rfl, rfl, hw⟩ := py_start hv
  have G : CallFix p m c cX11_most 3 s _ w_X11_most RX11 := ⟨B.exec, B.bytes, hml, findClass_of_methodNamed B.named, atoms_spec (ws := w_X11_most) B.pre⟩
  have hr := B.returns
  have hlk := B.notSynchronized
  have hl := lv_entry ([.ref h, .int a]) (n := 3) (Nat.le_of_ble_eq_true rfl)
  rw [lg_entry_eq]
  generalize (lg_sl ([.ref h, .int a]) ++ List.replicate (3 - (lg_sl ([.ref h, .int a])).length) Slot.unset).toArray = ls at hl ⊢
  have hl : lv_has ls 3 [(0, .ref h), (1, .int a)] := hl
  obtain ⟨tape, byt, vr, itm, dr, lr, dl, lws, nl, fo, va, tr, im, di, bu, se, mo, od, g, xd, xl, xf, xv, xi, xu, xs, hh, htape, hbyt, hvr, hdr, hxd, hlr, hdl, hxl, hfo, hxf, hf9, hf11, hva, hxv, hv8, hv9, hdi, hxi, hi2, hbu, hxu, hu3, hse, hxs⟩ := id hF
  have hMp : ∀ m, fr_M E L f m → fr_M E L f m := fun _ h => h
  refine lv_aload_n G.1 G.2.1 dX11_most_0 rfl (lv_at hl 0 rfl) ?_
  refine py_calli hw (va_runV (As := []) (rest := []) G (c_X11_hasValley l E L f s.heap.size h hF) (cwV 0 G.2.2.2.2 g_X11_most_X11_hasValley_218 rfl rfl rfl (by decide +kernel) ⟨(Nat.le_of_ble_eq_true rfl), (Nat.le_of_ble_eq_true rfl)⟩) (py_preV hw (C := RX11) (T := TX11) (N := 16) rfl hh) rfl rfl hl.1 rfl (lv_room (Nat.le_of_ble_eq_true rfl)) dX11_most_1 ⟨(Nat.le_of_ble_eq_true rfl), (Nat.le_of_ble_eq_true rfl)⟩) (fun r_5 L_1 f_2 H_3 locs hp_4 hw => ?_)
  obtain ⟨rfl, rfl, rfl⟩ := hp_4
  refine lv_if_eq (tgt := 14) G.1 G.2.1 dX11_most_4 (by decide) (fun c_6 => ?_) (fun c_6 => ?_)
  · skip
    refine lv_iconst (v := (-1)) G.1 G.2.1 dX11_most_14 (by decide) ?_
    exact py_iret G hr rfl hlk hw ⟨rfl, hMp⟩ dX11_most_15
  · skip
    exact absurd c_6 (by decide)

def w_X11_needs : List Cond := .code yX11_needs cX11_needs 2 (some .int) :: ([Cond.methodLink RX11 163 yX11_isFamily, Cond.instanceMethod yX11_isFamily, Cond.selects RX11 yX11_isFamily yX11_isFamily, Cond.initialized RX11] ++ (w_X11_isFamily ++ ([])))
theorem gg_X11_needs_X11_isFamily : GoodIn w_X11_needs w_X11_isFamily := goodIn_sub (fun _ h => List.mem_cons_of_mem _ (List.mem_append_right _ (List.mem_append_left _ h))) (by decide +kernel)
theorem g_X11_needs_X11_isFamily_163 : GoodIn w_X11_needs (wsV RX11 163 RX11 yX11_isFamily w_X11_isFamily) := goodIn_app (goodIn_of _ (by decide +kernel)) gg_X11_needs_X11_isFamily
set_option maxHeartbeats 4000000 in
set_option maxRecDepth 100000 in
theorem c_X11_needs (l : Launch) (E : py_E) (L : List Nat) (f : py_F) (sz : Nat) (h : Nat) (a : Int32) (hF : fr_H E L f h) : Met l yX11_needs w_X11_needs ({ frames := 1, cells := 0, slots := 0, locals := 21 }) (py_Pc E [.ref h, .int a] L f sz) (py_Qi E L f sz (fun r L1 f1 => r = -1 ∧ ∀ m, fr_M E L f m → fr_M E L1 f1 m)) 0 0 (va_A (va_pl L f) sz) := by
  refine Met.ofW (cc := cX11_needs) (maxL := 2) (ret := (some .int)) (by decide) rfl ?_
  intro p e s m args below meth c s₁ B hml hv
  obtain ⟨rfl, rfl, hw⟩ := py_start hv
  have G : CallFix p m c cX11_needs 2 s _ w_X11_needs RX11 := ⟨B.exec, B.bytes, hml, findClass_of_methodNamed B.named, atoms_spec (ws := w_X11_needs) B.pre⟩
  have hr := B.returns
  have hlk := B.notSynchronized
  have hl := lv_entry ([.ref h, .int a]) (n := 2) (Nat.le_of_ble_eq_true rfl)
  rw [lg_entry_eq]
  generalize (lg_sl ([.ref h, .int a]) ++ List.replicate (2 - (lg_sl ([.ref h, .int a])).length) Slot.unset).toArray = ls at hl ⊢
  have hl : lv_has ls 2 [(0, .ref h), (1, .int a)] := hl
  obtain ⟨tape, byt, vr, itm, dr, lr, dl, lws, nl, fo, va, tr, im, di, bu, se, mo, od, g, xd, xl, xf, xv, xi, xu, xs, hh, htape, hbyt, hvr, hdr, hxd, hlr, hdl, hxl, hfo, hxf, hf9, hf11, hva, hxv, hv8, hv9, hdi, hxi, hi2, hbu, hxu, hu3, hse, hxs⟩ := id hF
  have hMp : ∀ m, fr_M E L f m → fr_M E L f m := fun _ h => h
  refine lv_aload_n G.1 G.2.1 dX11_needs_0 rfl (lv_at hl 0 rfl) ?_
  refine lv_iload_n G.1 G.2.1 dX11_needs_1 rfl (lv_at hl 1 rfl) ?_
  refine py_calli hw (va_runV (As := [.int a]) (rest := []) G (c_X11_isFamily l E L f s.heap.size h a hF) (cwV 1 G.2.2.2.2 g_X11_needs_X11_isFamily_163 rfl rfl rfl (by decide +kernel) ⟨(Nat.le_of_ble_eq_true rfl), (Nat.le_of_ble_eq_true rfl)⟩) (py_preV hw (C := RX11) (T := TX11) (N := 16) rfl hh) rfl rfl hl.1 rfl (lv_room (Nat.le_of_ble_eq_true rfl)) dX11_needs_2 ⟨(Nat.le_of_ble_eq_true rfl), (Nat.le_of_ble_eq_true rfl)⟩) (fun r_5 L_1 f_2 H_3 locs hp_4 hw => ?_)
  obtain ⟨rfl, rfl, rfl⟩ := hp_4
  refine lv_if_eq (tgt := 19) G.1 G.2.1 dX11_needs_5 (by decide) (fun c_6 => ?_) (fun c_6 => ?_)
  · skip
    refine lv_iconst (v := (-1)) G.1 G.2.1 dX11_needs_19 (by decide) ?_
    exact py_iret G hr rfl hlk hw ⟨rfl, hMp⟩ dX11_needs_20
  · skip
    exact absurd c_6 (by decide)

def w_X11_odds : List Cond := .code yX11_odds cX11_odds 4 (some .int) :: ([Cond.methodLink RX11 246 yX11_lives, Cond.instanceMethod yX11_lives, Cond.selects RX11 yX11_lives yX11_lives, Cond.initialized RX11, Cond.constant RX11 166 (-1000000)] ++ (w_X11_lives ++ ([])))
theorem gg_X11_odds_X11_lives : GoodIn w_X11_odds w_X11_lives := goodIn_sub (fun _ h => List.mem_cons_of_mem _ (List.mem_append_right _ (List.mem_append_left _ h))) (by decide +kernel)
theorem g_X11_odds_X11_lives_246 : GoodIn w_X11_odds (wsV RX11 246 RX11 yX11_lives w_X11_lives) := goodIn_app (goodIn_of _ (by decide +kernel)) gg_X11_odds_X11_lives
set_option maxHeartbeats 4000000 in
set_option maxRecDepth 100000 in
theorem c_X11_odds (l : Launch) (E : py_E) (L : List Nat) (f : py_F) (sz : Nat) (h : Nat) (a : Int32) (b : Int32) (q : Int32) (hF : fr_H E L f h) : Met l yX11_odds w_X11_odds ({ frames := 2, cells := 0, slots := 0, locals := 42 }) (py_Pc E [.ref h, .int a, .int b, .int q] L f sz) (py_Qi E L f sz (fun r L1 f1 => r = -1000000 ∧ ∀ m, fr_M E L f m → fr_M E L1 f1 m)) 0 0 (va_A (va_pl L f) sz) := by
  refine Met.ofW (cc := cX11_odds) (maxL := 4) (ret := (some .int)) (by decide) rfl ?_
  intro p e s m args below meth c s₁ B hml hv
  obtain ⟨rfl, rfl, hw⟩ := py_start hv
  have G : CallFix p m c cX11_odds 4 s _ w_X11_odds RX11 := ⟨B.exec, B.bytes, hml, findClass_of_methodNamed B.named, atoms_spec (ws := w_X11_odds) B.pre⟩
  have hr := B.returns
  have hlk := B.notSynchronized
  have hl := lv_entry ([.ref h, .int a, .int b, .int q]) (n := 4) (Nat.le_of_ble_eq_true rfl)
  rw [lg_entry_eq]
  generalize (lg_sl ([.ref h, .int a, .int b, .int q]) ++ List.replicate (4 - (lg_sl ([.ref h, .int a, .int b, .int q])).length) Slot.unset).toArray = ls at hl ⊢
  have hl : lv_has ls 4 [(0, .ref h), (1, .int a), (2, .int b), (3, .int q)] := hl
  obtain ⟨tape, byt, vr, itm, dr, lr, dl, lws, nl, fo, va, tr, im, di, bu, se, mo, od, g, xd, xl, xf, xv, xi, xu, xs, hh, htape, hbyt, hvr, hdr, hxd, hlr, hdl, hxl, hfo, hxf, hf9, hf11, hva, hxv, hv8, hv9, hdi, hxi, hi2, hbu, hxu, hu3, hse, hxs⟩ := id hF
  have hMp : ∀ m, fr_M E L f m → fr_M E L f m := fun _ h => h
  refine lv_aload_n G.1 G.2.1 dX11_odds_0 rfl (lv_at hl 0 rfl) ?_
  refine lv_iload_n G.1 G.2.1 dX11_odds_1 rfl (lv_at hl 1 rfl) ?_
  refine py_calli hw (va_runV (As := [.int a]) (rest := []) G (c_X11_lives l E L f s.heap.size h a hF) (cwV 1 G.2.2.2.2 g_X11_odds_X11_lives_246 rfl rfl rfl (by decide +kernel) ⟨(Nat.le_of_ble_eq_true rfl), (Nat.le_of_ble_eq_true rfl)⟩) (py_preV hw (C := RX11) (T := TX11) (N := 16) rfl hh) rfl rfl hl.1 rfl (lv_room (Nat.le_of_ble_eq_true rfl)) dX11_odds_2 ⟨(Nat.le_of_ble_eq_true rfl), (Nat.le_of_ble_eq_true rfl)⟩) (fun r_5 L_1 f_2 H_3 locs hp_4 hw => ?_)
  obtain ⟨rfl, rfl, rfl⟩ := hp_4
  refine lv_if_eq (tgt := 32) G.1 G.2.1 dX11_odds_5 (by decide) (fun c_6 => ?_) (fun c_6 => ?_)
  · skip
    refine lv_ldc (v := (-1000000)) G.1 G.2.1 G.2.2.2.1 (G.2.2.2.2 (Cond.constant RX11 166 (-1000000)) (by decide +kernel)) dX11_odds_32 ?_
    exact py_iret G hr rfl hlk hw ⟨rfl, hMp⟩ dX11_odds_34
  · skip
    exact absurd c_6 (by decide)

def w_X11_tried : List Cond := .code yX11_tried cX11_tried 5 (some .int) :: ([Cond.methodLink RX11 218 yX11_hasValley, Cond.instanceMethod yX11_hasValley, Cond.selects RX11 yX11_hasValley yX11_hasValley, Cond.initialized RX11, Cond.constant RX11 166 (-1000000)] ++ (w_X11_hasValley ++ ([])))
theorem gg_X11_tried_X11_hasValley : GoodIn w_X11_tried w_X11_hasValley := goodIn_sub (fun _ h => List.mem_cons_of_mem _ (List.mem_append_right _ (List.mem_append_left _ h))) (by decide +kernel)
theorem g_X11_tried_X11_hasValley_218 : GoodIn w_X11_tried (wsV RX11 218 RX11 yX11_hasValley w_X11_hasValley) := goodIn_app (goodIn_of _ (by decide +kernel)) gg_X11_tried_X11_hasValley
set_option maxHeartbeats 4000000 in
set_option maxRecDepth 100000 in
theorem c_X11_tried (l : Launch) (E : py_E) (L : List Nat) (f : py_F) (sz : Nat) (h : Nat) (a : Int32) (b : Int32) (q : Int32) (d : Int32) (hF : fr_H E L f h) : Met l yX11_tried w_X11_tried ({ frames := 1, cells := 0, slots := 0, locals := 20 }) (py_Pc E [.ref h, .int a, .int b, .int q, .int d] L f sz) (py_Qi E L f sz (fun r L1 f1 => r = -1000000 ∧ ∀ m, fr_M E L f m → fr_M E L1 f1 m)) 0 0 (va_A (va_pl L f) sz) := by
  refine Met.ofW (cc := cX11_tried) (maxL := 5) (ret := (some .int)) (by decide) rfl ?_
  intro p e s m args below meth c s₁ B hml hv
  obtain ⟨rfl, rfl, hw⟩ := py_start hv
  have G : CallFix p m c cX11_tried 5 s _ w_X11_tried RX11 := ⟨B.exec, B.bytes, hml, findClass_of_methodNamed B.named, atoms_spec (ws := w_X11_tried) B.pre⟩
  have hr := B.returns
  have hlk := B.notSynchronized
  have hl := lv_entry ([.ref h, .int a, .int b, .int q, .int d]) (n := 5) (Nat.le_of_ble_eq_true rfl)
  rw [lg_entry_eq]
  generalize (lg_sl ([.ref h, .int a, .int b, .int q, .int d]) ++ List.replicate (5 - (lg_sl ([.ref h, .int a, .int b, .int q, .int d])).length) Slot.unset).toArray = ls at hl ⊢
  have hl : lv_has ls 5 [(0, .ref h), (1, .int a), (2, .int b), (3, .int q), (4, .int d)] := hl
  obtain ⟨tape, byt, vr, itm, dr, lr, dl, lws, nl, fo, va, tr, im, di, bu, se, mo, od, g, xd, xl, xf, xv, xi, xu, xs, hh, htape, hbyt, hvr, hdr, hxd, hlr, hdl, hxl, hfo, hxf, hf9, hf11, hva, hxv, hv8, hv9, hdi, hxi, hi2, hbu, hxu, hu3, hse, hxs⟩ := id hF
  have hMp : ∀ m, fr_M E L f m → fr_M E L f m := fun _ h => h
  refine lv_aload_n G.1 G.2.1 dX11_tried_0 rfl (lv_at hl 0 rfl) ?_
  refine py_calli hw (va_runV (As := []) (rest := []) G (c_X11_hasValley l E L f s.heap.size h hF) (cwV 0 G.2.2.2.2 g_X11_tried_X11_hasValley_218 rfl rfl rfl (by decide +kernel) ⟨(Nat.le_of_ble_eq_true rfl), (Nat.le_of_ble_eq_true rfl)⟩) (py_preV hw (C := RX11) (T := TX11) (N := 16) rfl hh) rfl rfl hl.1 rfl (lv_room (Nat.le_of_ble_eq_true rfl)) dX11_tried_1 ⟨(Nat.le_of_ble_eq_true rfl), (Nat.le_of_ble_eq_true rfl)⟩) (fun r_5 L_1 f_2 H_3 locs hp_4 hw => ?_)
  obtain ⟨rfl, rfl, rfl⟩ := hp_4
  refine lv_if_eq (tgt := 39) G.1 G.2.1 dX11_tried_4 (by decide) (fun c_6 => ?_) (fun c_6 => ?_)
  · skip
    refine lv_ldc (v := (-1000000)) G.1 G.2.1 G.2.2.2.1 (G.2.2.2.2 (Cond.constant RX11 166 (-1000000)) (by decide +kernel)) dX11_tried_39 ?_
    exact py_iret G hr rfl hlk hw ⟨rfl, hMp⟩ dX11_tried_41
  · skip
    exact absurd c_6 (by decide)

def w_X11_reform : List Cond := .code yX11_reform cX11_reform 7 (some .int) :: ([Cond.methodLink RX11 218 yX11_hasValley, Cond.instanceMethod yX11_hasValley, Cond.selects RX11 yX11_hasValley yX11_hasValley, Cond.initialized RX11, Cond.constant RX11 166 (-1000000)] ++ (w_X11_hasValley ++ ([])))
theorem gg_X11_reform_X11_hasValley : GoodIn w_X11_reform w_X11_hasValley := goodIn_sub (fun _ h => List.mem_cons_of_mem _ (List.mem_append_right _ (List.mem_append_left _ h))) (by decide +kernel)
theorem g_X11_reform_X11_hasValley_218 : GoodIn w_X11_reform (wsV RX11 218 RX11 yX11_hasValley w_X11_hasValley) := goodIn_app (goodIn_of _ (by decide +kernel)) gg_X11_reform_X11_hasValley
set_option maxHeartbeats 4000000 in
set_option maxRecDepth 100000 in
theorem c_X11_reform (l : Launch) (E : py_E) (L : List Nat) (f : py_F) (sz : Nat) (h : Nat) (a : Int32) (b : Int32) (hF : fr_H E L f h) : Met l yX11_reform w_X11_reform ({ frames := 1, cells := 0, slots := 0, locals := 20 }) (py_Pc E [.ref h, .int a, .int b] L f sz) (py_Qi E L f sz (fun r L1 f1 => r = -1000000 ∧ ∀ m, fr_M E L f m → fr_M E L1 f1 m)) 0 0 (va_A (va_pl L f) sz) := by
  refine Met.ofW (cc := cX11_reform) (maxL := 7) (ret := (some .int)) (by decide) rfl ?_
  intro p e s m args below meth c s₁ B hml hv
  obtain ⟨rfl, rfl, hw⟩ := py_start hv
  have G : CallFix p m c cX11_reform 7 s _ w_X11_reform RX11 := ⟨B.exec, B.bytes, hml, findClass_of_methodNamed B.named, atoms_spec (ws := w_X11_reform) B.pre⟩
  have hr := B.returns
  have hlk := B.notSynchronized
  have hl := lv_entry ([.ref h, .int a, .int b]) (n := 7) (Nat.le_of_ble_eq_true rfl)
  rw [lg_entry_eq]
  generalize (lg_sl ([.ref h, .int a, .int b]) ++ List.replicate (7 - (lg_sl ([.ref h, .int a, .int b])).length) Slot.unset).toArray = ls at hl ⊢
  have hl : lv_has ls 7 [(0, .ref h), (1, .int a), (2, .int b)] := hl
  obtain ⟨tape, byt, vr, itm, dr, lr, dl, lws, nl, fo, va, tr, im, di, bu, se, mo, od, g, xd, xl, xf, xv, xi, xu, xs, hh, htape, hbyt, hvr, hdr, hxd, hlr, hdl, hxl, hfo, hxf, hf9, hf11, hva, hxv, hv8, hv9, hdi, hxi, hi2, hbu, hxu, hu3, hse, hxs⟩ := id hF
  have hMp : ∀ m, fr_M E L f m → fr_M E L f m := fun _ h => h
  refine lv_aload_n G.1 G.2.1 dX11_reform_0 rfl (lv_at hl 0 rfl) ?_
  refine py_calli hw (va_runV (As := []) (rest := []) G (c_X11_hasValley l E L f s.heap.size h hF) (cwV 0 G.2.2.2.2 g_X11_reform_X11_hasValley_218 rfl rfl rfl (by decide +kernel) ⟨(Nat.le_of_ble_eq_true rfl), (Nat.le_of_ble_eq_true rfl)⟩) (py_preV hw (C := RX11) (T := TX11) (N := 16) rfl hh) rfl rfl hl.1 rfl (lv_room (Nat.le_of_ble_eq_true rfl)) dX11_reform_1 ⟨(Nat.le_of_ble_eq_true rfl), (Nat.le_of_ble_eq_true rfl)⟩) (fun r_5 L_1 f_2 H_3 locs hp_4 hw => ?_)
  obtain ⟨rfl, rfl, rfl⟩ := hp_4
  refine lv_if_eq (tgt := 15) G.1 G.2.1 dX11_reform_4 (by decide) (fun c_6 => ?_) (fun c_6 => ?_)
  · skip
    refine lv_ldc (v := (-1000000)) G.1 G.2.1 G.2.2.2.1 (G.2.2.2.2 (Cond.constant RX11 166 (-1000000)) (by decide +kernel)) dX11_reform_15 ?_
    exact py_iret G hr rfl hlk hw ⟨rfl, hMp⟩ dX11_reform_17
  · skip
    exact absurd c_6 (by decide)

def w_X11_diary : List Cond := .code yX11_diary cX11_diary 4 (some .int) :: ([Cond.methodLink RX11 163 yX11_isFamily, Cond.instanceMethod yX11_isFamily, Cond.selects RX11 yX11_isFamily yX11_isFamily, Cond.initialized RX11, Cond.constant RX11 166 (-1000000)] ++ (w_X11_isFamily ++ ([])))
theorem gg_X11_diary_X11_isFamily : GoodIn w_X11_diary w_X11_isFamily := goodIn_sub (fun _ h => List.mem_cons_of_mem _ (List.mem_append_right _ (List.mem_append_left _ h))) (by decide +kernel)
theorem g_X11_diary_X11_isFamily_163 : GoodIn w_X11_diary (wsV RX11 163 RX11 yX11_isFamily w_X11_isFamily) := goodIn_app (goodIn_of _ (by decide +kernel)) gg_X11_diary_X11_isFamily
set_option maxHeartbeats 4000000 in
set_option maxRecDepth 100000 in
theorem c_X11_diary (l : Launch) (E : py_E) (L : List Nat) (f : py_F) (sz : Nat) (h : Nat) (a : Int32) (b : Int32) (q : Int32) (hF : fr_H E L f h) : Met l yX11_diary w_X11_diary ({ frames := 1, cells := 0, slots := 0, locals := 21 }) (py_Pc E [.ref h, .int a, .int b, .int q] L f sz) (py_Qi E L f sz (fun r L1 f1 => r = -1000000 ∧ ∀ m, fr_M E L f m → fr_M E L1 f1 m)) 0 0 (va_A (va_pl L f) sz) := by
  refine Met.ofW (cc := cX11_diary) (maxL := 4) (ret := (some .int)) (by decide) rfl ?_
  intro p e s m args below meth c s₁ B hml hv
  obtain ⟨rfl, rfl, hw⟩ := py_start hv
  have G : CallFix p m c cX11_diary 4 s _ w_X11_diary RX11 := ⟨B.exec, B.bytes, hml, findClass_of_methodNamed B.named, atoms_spec (ws := w_X11_diary) B.pre⟩
  have hr := B.returns
  have hlk := B.notSynchronized
  have hl := lv_entry ([.ref h, .int a, .int b, .int q]) (n := 4) (Nat.le_of_ble_eq_true rfl)
  rw [lg_entry_eq]
  generalize (lg_sl ([.ref h, .int a, .int b, .int q]) ++ List.replicate (4 - (lg_sl ([.ref h, .int a, .int b, .int q])).length) Slot.unset).toArray = ls at hl ⊢
  have hl : lv_has ls 4 [(0, .ref h), (1, .int a), (2, .int b), (3, .int q)] := hl
  obtain ⟨tape, byt, vr, itm, dr, lr, dl, lws, nl, fo, va, tr, im, di, bu, se, mo, od, g, xd, xl, xf, xv, xi, xu, xs, hh, htape, hbyt, hvr, hdr, hxd, hlr, hdl, hxl, hfo, hxf, hf9, hf11, hva, hxv, hv8, hv9, hdi, hxi, hi2, hbu, hxu, hu3, hse, hxs⟩ := id hF
  have hMp : ∀ m, fr_M E L f m → fr_M E L f m := fun _ h => h
  refine lv_aload_n G.1 G.2.1 dX11_diary_0 rfl (lv_at hl 0 rfl) ?_
  refine lv_iload_n G.1 G.2.1 dX11_diary_1 rfl (lv_at hl 1 rfl) ?_
  refine py_calli hw (va_runV (As := [.int a]) (rest := []) G (c_X11_isFamily l E L f s.heap.size h a hF) (cwV 1 G.2.2.2.2 g_X11_diary_X11_isFamily_163 rfl rfl rfl (by decide +kernel) ⟨(Nat.le_of_ble_eq_true rfl), (Nat.le_of_ble_eq_true rfl)⟩) (py_preV hw (C := RX11) (T := TX11) (N := 16) rfl hh) rfl rfl hl.1 rfl (lv_room (Nat.le_of_ble_eq_true rfl)) dX11_diary_2 ⟨(Nat.le_of_ble_eq_true rfl), (Nat.le_of_ble_eq_true rfl)⟩) (fun r_5 L_1 f_2 H_3 locs hp_4 hw => ?_)
  obtain ⟨rfl, rfl, rfl⟩ := hp_4
  refine lv_if_eq (tgt := 30) G.1 G.2.1 dX11_diary_5 (by decide) (fun c_6 => ?_) (fun c_6 => ?_)
  · skip
    refine lv_ldc (v := (-1000000)) G.1 G.2.1 G.2.2.2.1 (G.2.2.2.2 (Cond.constant RX11 166 (-1000000)) (by decide +kernel)) dX11_diary_30 ?_
    exact py_iret G hr rfl hlk hw ⟨rfl, hMp⟩ dX11_diary_32
  · skip
    exact absurd c_6 (by decide)

def w_X11_climb : List Cond := .code yX11_climb cX11_climb 7 (some .int) :: ([Cond.methodLink RX11 163 yX11_isFamily, Cond.instanceMethod yX11_isFamily, Cond.selects RX11 yX11_isFamily yX11_isFamily, Cond.initialized RX11, Cond.constant RX11 166 (-1000000)] ++ (w_X11_isFamily ++ ([])))
theorem gg_X11_climb_X11_isFamily : GoodIn w_X11_climb w_X11_isFamily := goodIn_sub (fun _ h => List.mem_cons_of_mem _ (List.mem_append_right _ (List.mem_append_left _ h))) (by decide +kernel)
theorem g_X11_climb_X11_isFamily_163 : GoodIn w_X11_climb (wsV RX11 163 RX11 yX11_isFamily w_X11_isFamily) := goodIn_app (goodIn_of _ (by decide +kernel)) gg_X11_climb_X11_isFamily
set_option maxHeartbeats 4000000 in
set_option maxRecDepth 100000 in
theorem c_X11_climb (l : Launch) (E : py_E) (L : List Nat) (f : py_F) (sz : Nat) (h : Nat) (a : Int32) (b : Int32) (hF : fr_H E L f h) : Met l yX11_climb w_X11_climb ({ frames := 1, cells := 0, slots := 0, locals := 21 }) (py_Pc E [.ref h, .int a, .int b] L f sz) (py_Qi E L f sz (fun r L1 f1 => r = -1000000 ∧ ∀ m, fr_M E L f m → fr_M E L1 f1 m)) 0 0 (va_A (va_pl L f) sz) := by
  refine Met.ofW (cc := cX11_climb) (maxL := 7) (ret := (some .int)) (by decide) rfl ?_
  intro p e s m args below meth c s₁ B hml hv
  obtain ⟨rfl, rfl, hw⟩ := py_start hv
  have G : CallFix p m c cX11_climb 7 s _ w_X11_climb RX11 := ⟨B.exec, B.bytes, hml, findClass_of_methodNamed B.named, atoms_spec (ws := w_X11_climb) B.pre⟩
  have hr := B.returns
  have hlk := B.notSynchronized
  have hl := lv_entry ([.ref h, .int a, .int b]) (n := 7) (Nat.le_of_ble_eq_true rfl)
  rw [lg_entry_eq]
  generalize (lg_sl ([.ref h, .int a, .int b]) ++ List.replicate (7 - (lg_sl ([.ref h, .int a, .int b])).length) Slot.unset).toArray = ls at hl ⊢
  have hl : lv_has ls 7 [(0, .ref h), (1, .int a), (2, .int b)] := hl
  obtain ⟨tape, byt, vr, itm, dr, lr, dl, lws, nl, fo, va, tr, im, di, bu, se, mo, od, g, xd, xl, xf, xv, xi, xu, xs, hh, htape, hbyt, hvr, hdr, hxd, hlr, hdl, hxl, hfo, hxf, hf9, hf11, hva, hxv, hv8, hv9, hdi, hxi, hi2, hbu, hxu, hu3, hse, hxs⟩ := id hF
  have hMp : ∀ m, fr_M E L f m → fr_M E L f m := fun _ h => h
  refine lv_aload_n G.1 G.2.1 dX11_climb_0 rfl (lv_at hl 0 rfl) ?_
  refine lv_iload_n G.1 G.2.1 dX11_climb_1 rfl (lv_at hl 1 rfl) ?_
  refine py_calli hw (va_runV (As := [.int a]) (rest := []) G (c_X11_isFamily l E L f s.heap.size h a hF) (cwV 1 G.2.2.2.2 g_X11_climb_X11_isFamily_163 rfl rfl rfl (by decide +kernel) ⟨(Nat.le_of_ble_eq_true rfl), (Nat.le_of_ble_eq_true rfl)⟩) (py_preV hw (C := RX11) (T := TX11) (N := 16) rfl hh) rfl rfl hl.1 rfl (lv_room (Nat.le_of_ble_eq_true rfl)) dX11_climb_2 ⟨(Nat.le_of_ble_eq_true rfl), (Nat.le_of_ble_eq_true rfl)⟩) (fun r_5 L_1 f_2 H_3 locs hp_4 hw => ?_)
  obtain ⟨rfl, rfl, rfl⟩ := hp_4
  refine lv_if_eq (tgt := 15) G.1 G.2.1 dX11_climb_5 (by decide) (fun c_6 => ?_) (fun c_6 => ?_)
  · skip
    refine lv_ldc (v := (-1000000)) G.1 G.2.1 G.2.2.2.1 (G.2.2.2.2 (Cond.constant RX11 166 (-1000000)) (by decide +kernel)) dX11_climb_15 ?_
    exact py_iret G hr rfl hlk hw ⟨rfl, hMp⟩ dX11_climb_17
  · skip
    exact absurd c_6 (by decide)

def w_X11_full : List Cond := .code yX11_full cX11_full 1 (some .int) :: ([Cond.methodLink RX11 218 yX11_hasValley, Cond.instanceMethod yX11_hasValley, Cond.selects RX11 yX11_hasValley yX11_hasValley, Cond.initialized RX11] ++ (w_X11_hasValley ++ ([])))
theorem gg_X11_full_X11_hasValley : GoodIn w_X11_full w_X11_hasValley := goodIn_sub (fun _ h => List.mem_cons_of_mem _ (List.mem_append_right _ (List.mem_append_left _ h))) (by decide +kernel)
theorem g_X11_full_X11_hasValley_218 : GoodIn w_X11_full (wsV RX11 218 RX11 yX11_hasValley w_X11_hasValley) := goodIn_app (goodIn_of _ (by decide +kernel)) gg_X11_full_X11_hasValley
set_option maxHeartbeats 4000000 in
set_option maxRecDepth 100000 in
theorem c_X11_full (l : Launch) (E : py_E) (L : List Nat) (f : py_F) (sz : Nat) (h : Nat) (hF : fr_H E L f h) : Met l yX11_full w_X11_full ({ frames := 1, cells := 0, slots := 0, locals := 20 }) (py_Pc E [.ref h] L f sz) (py_Qi E L f sz (fun r L1 f1 => r = -1 ∧ ∀ m, fr_M E L f m → fr_M E L1 f1 m)) 0 0 (va_A (va_pl L f) sz) := by
  refine Met.ofW (cc := cX11_full) (maxL := 1) (ret := (some .int)) (by decide) rfl ?_
  intro p e s m args below meth c s₁ B hml hv
  obtain ⟨rfl, rfl, hw⟩ := py_start hv
  have G : CallFix p m c cX11_full 1 s _ w_X11_full RX11 := ⟨B.exec, B.bytes, hml, findClass_of_methodNamed B.named, atoms_spec (ws := w_X11_full) B.pre⟩
  have hr := B.returns
  have hlk := B.notSynchronized
  have hl := lv_entry ([.ref h]) (n := 1) (Nat.le_of_ble_eq_true rfl)
  rw [lg_entry_eq]
  generalize (lg_sl ([.ref h]) ++ List.replicate (1 - (lg_sl ([.ref h])).length) Slot.unset).toArray = ls at hl ⊢
  have hl : lv_has ls 1 [(0, .ref h)] := hl
  obtain ⟨tape, byt, vr, itm, dr, lr, dl, lws, nl, fo, va, tr, im, di, bu, se, mo, od, g, xd, xl, xf, xv, xi, xu, xs, hh, htape, hbyt, hvr, hdr, hxd, hlr, hdl, hxl, hfo, hxf, hf9, hf11, hva, hxv, hv8, hv9, hdi, hxi, hi2, hbu, hxu, hu3, hse, hxs⟩ := id hF
  have hMp : ∀ m, fr_M E L f m → fr_M E L f m := fun _ h => h
  refine lv_aload_n G.1 G.2.1 dX11_full_0 rfl (lv_at hl 0 rfl) ?_
  refine py_calli hw (va_runV (As := []) (rest := []) G (c_X11_hasValley l E L f s.heap.size h hF) (cwV 0 G.2.2.2.2 g_X11_full_X11_hasValley_218 rfl rfl rfl (by decide +kernel) ⟨(Nat.le_of_ble_eq_true rfl), (Nat.le_of_ble_eq_true rfl)⟩) (py_preV hw (C := RX11) (T := TX11) (N := 16) rfl hh) rfl rfl hl.1 rfl (lv_room (Nat.le_of_ble_eq_true rfl)) dX11_full_1 ⟨(Nat.le_of_ble_eq_true rfl), (Nat.le_of_ble_eq_true rfl)⟩) (fun r_5 L_1 f_2 H_3 locs hp_4 hw => ?_)
  obtain ⟨rfl, rfl, rfl⟩ := hp_4
  refine lv_if_eq (tgt := 17) G.1 G.2.1 dX11_full_4 (by decide) (fun c_6 => ?_) (fun c_6 => ?_)
  · skip
    refine lv_iconst (v := (-1)) G.1 G.2.1 dX11_full_17 (by decide) ?_
    exact py_iret G hr rfl hlk hw ⟨rfl, hMp⟩ dX11_full_18
  · skip
    exact absurd c_6 (by decide)

def w_X11_hungry : List Cond := .code yX11_hungry cX11_hungry 6 (some .int) :: ([Cond.methodLink RX11 218 yX11_hasValley, Cond.instanceMethod yX11_hasValley, Cond.selects RX11 yX11_hasValley yX11_hasValley, Cond.initialized RX11] ++ (w_X11_hasValley ++ ([])))
theorem gg_X11_hungry_X11_hasValley : GoodIn w_X11_hungry w_X11_hasValley := goodIn_sub (fun _ h => List.mem_cons_of_mem _ (List.mem_append_right _ (List.mem_append_left _ h))) (by decide +kernel)
theorem g_X11_hungry_X11_hasValley_218 : GoodIn w_X11_hungry (wsV RX11 218 RX11 yX11_hasValley w_X11_hasValley) := goodIn_app (goodIn_of _ (by decide +kernel)) gg_X11_hungry_X11_hasValley
set_option maxHeartbeats 4000000 in
set_option maxRecDepth 100000 in
theorem c_X11_hungry (l : Launch) (E : py_E) (L : List Nat) (f : py_F) (sz : Nat) (h : Nat) (a : Int32) (hF : fr_H E L f h) : Met l yX11_hungry w_X11_hungry ({ frames := 1, cells := 0, slots := 0, locals := 20 }) (py_Pc E [.ref h, .int a] L f sz) (py_Qi E L f sz (fun r L1 f1 => r = -1 ∧ ∀ m, fr_M E L f m → fr_M E L1 f1 m)) 0 0 (va_A (va_pl L f) sz) := by
  refine Met.ofW (cc := cX11_hungry) (maxL := 6) (ret := (some .int)) (by decide) rfl ?_
  intro p e s m args below meth c s₁ B hml hv
  obtain ⟨rfl, rfl, hw⟩ := py_start hv
  have G : CallFix p m c cX11_hungry 6 s _ w_X11_hungry RX11 := ⟨B.exec, B.bytes, hml, findClass_of_methodNamed B.named, atoms_spec (ws := w_X11_hungry) B.pre⟩
  have hr := B.returns
  have hlk := B.notSynchronized
  have hl := lv_entry ([.ref h, .int a]) (n := 6) (Nat.le_of_ble_eq_true rfl)
  rw [lg_entry_eq]
  generalize (lg_sl ([.ref h, .int a]) ++ List.replicate (6 - (lg_sl ([.ref h, .int a])).length) Slot.unset).toArray = ls at hl ⊢
  have hl : lv_has ls 6 [(0, .ref h), (1, .int a)] := hl
  obtain ⟨tape, byt, vr, itm, dr, lr, dl, lws, nl, fo, va, tr, im, di, bu, se, mo, od, g, xd, xl, xf, xv, xi, xu, xs, hh, htape, hbyt, hvr, hdr, hxd, hlr, hdl, hxl, hfo, hxf, hf9, hf11, hva, hxv, hv8, hv9, hdi, hxi, hi2, hbu, hxu, hu3, hse, hxs⟩ := id hF
  have hMp : ∀ m, fr_M E L f m → fr_M E L f m := fun _ h => h
  refine lv_aload_n G.1 G.2.1 dX11_hungry_0 rfl (lv_at hl 0 rfl) ?_
  refine py_calli hw (va_runV (As := []) (rest := []) G (c_X11_hasValley l E L f s.heap.size h hF) (cwV 0 G.2.2.2.2 g_X11_hungry_X11_hasValley_218 rfl rfl rfl (by decide +kernel) ⟨(Nat.le_of_ble_eq_true rfl), (Nat.le_of_ble_eq_true rfl)⟩) (py_preV hw (C := RX11) (T := TX11) (N := 16) rfl hh) rfl rfl hl.1 rfl (lv_room (Nat.le_of_ble_eq_true rfl)) dX11_hungry_1 ⟨(Nat.le_of_ble_eq_true rfl), (Nat.le_of_ble_eq_true rfl)⟩) (fun r_5 L_1 f_2 H_3 locs hp_4 hw => ?_)
  obtain ⟨rfl, rfl, rfl⟩ := hp_4
  refine lv_if_eq (tgt := 14) G.1 G.2.1 dX11_hungry_4 (by decide) (fun c_6 => ?_) (fun c_6 => ?_)
  · skip
    refine lv_iconst (v := (-1)) G.1 G.2.1 dX11_hungry_14 (by decide) ?_
    exact py_iret G hr rfl hlk hw ⟨rfl, hMp⟩ dX11_hungry_15
  · skip
    exact absurd c_6 (by decide)

def w_X11_rank : List Cond := .code yX11_rank cX11_rank 3 (some .int) :: ([Cond.methodLink RX11 163 yX11_isFamily, Cond.instanceMethod yX11_isFamily, Cond.selects RX11 yX11_isFamily yX11_isFamily, Cond.initialized RX11] ++ (w_X11_isFamily ++ ([])))
theorem gg_X11_rank_X11_isFamily : GoodIn w_X11_rank w_X11_isFamily := goodIn_sub (fun _ h => List.mem_cons_of_mem _ (List.mem_append_right _ (List.mem_append_left _ h))) (by decide +kernel)
theorem g_X11_rank_X11_isFamily_163 : GoodIn w_X11_rank (wsV RX11 163 RX11 yX11_isFamily w_X11_isFamily) := goodIn_app (goodIn_of _ (by decide +kernel)) gg_X11_rank_X11_isFamily
set_option maxHeartbeats 4000000 in
set_option maxRecDepth 100000 in
theorem c_X11_rank (l : Launch) (E : py_E) (L : List Nat) (f : py_F) (sz : Nat) (h : Nat) (a : Int32) (hF : fr_H E L f h) : Met l yX11_rank w_X11_rank ({ frames := 1, cells := 0, slots := 0, locals := 21 }) (py_Pc E [.ref h, .int a] L f sz) (py_Qi E L f sz (fun r L1 f1 => r = -1 ∧ ∀ m, fr_M E L f m → fr_M E L1 f1 m)) 0 0 (va_A (va_pl L f) sz) := by
  refine Met.ofW (cc := cX11_rank) (maxL := 3) (ret := (some .int)) (by decide) rfl ?_
  intro p e s m args below meth c s₁ B hml hv
  obtain ⟨rfl, rfl, hw⟩ := py_start hv
  have G : CallFix p m c cX11_rank 3 s _ w_X11_rank RX11 := ⟨B.exec, B.bytes, hml, findClass_of_methodNamed B.named, atoms_spec (ws := w_X11_rank) B.pre⟩
  have hr := B.returns
  have hlk := B.notSynchronized
  have hl := lv_entry ([.ref h, .int a]) (n := 3) (Nat.le_of_ble_eq_true rfl)
  rw [lg_entry_eq]
  generalize (lg_sl ([.ref h, .int a]) ++ List.replicate (3 - (lg_sl ([.ref h, .int a])).length) Slot.unset).toArray = ls at hl ⊢
  have hl : lv_has ls 3 [(0, .ref h), (1, .int a)] := hl
  obtain ⟨tape, byt, vr, itm, dr, lr, dl, lws, nl, fo, va, tr, im, di, bu, se, mo, od, g, xd, xl, xf, xv, xi, xu, xs, hh, htape, hbyt, hvr, hdr, hxd, hlr, hdl, hxl, hfo, hxf, hf9, hf11, hva, hxv, hv8, hv9, hdi, hxi, hi2, hbu, hxu, hu3, hse, hxs⟩ := id hF
  have hMp : ∀ m, fr_M E L f m → fr_M E L f m := fun _ h => h
  refine lv_aload_n G.1 G.2.1 dX11_rank_0 rfl (lv_at hl 0 rfl) ?_
  refine lv_iload_n G.1 G.2.1 dX11_rank_1 rfl (lv_at hl 1 rfl) ?_
  refine py_calli hw (va_runV (As := [.int a]) (rest := []) G (c_X11_isFamily l E L f s.heap.size h a hF) (cwV 1 G.2.2.2.2 g_X11_rank_X11_isFamily_163 rfl rfl rfl (by decide +kernel) ⟨(Nat.le_of_ble_eq_true rfl), (Nat.le_of_ble_eq_true rfl)⟩) (py_preV hw (C := RX11) (T := TX11) (N := 16) rfl hh) rfl rfl hl.1 rfl (lv_room (Nat.le_of_ble_eq_true rfl)) dX11_rank_2 ⟨(Nat.le_of_ble_eq_true rfl), (Nat.le_of_ble_eq_true rfl)⟩) (fun r_5 L_1 f_2 H_3 locs hp_4 hw => ?_)
  obtain ⟨rfl, rfl, rfl⟩ := hp_4
  refine lv_if_ne (tgt := 10) G.1 G.2.1 dX11_rank_5 (by decide) (fun c_6 => ?_) (fun c_6 => ?_)
  · skip
    exact absurd c_6 (by decide)
  · skip
    refine lv_iconst (v := (-1)) G.1 G.2.1 dX11_rank_8 (by decide) ?_
    exact py_iret G hr rfl hlk hw ⟨rfl, hMp⟩ dX11_rank_9

def w_X11_met : List Cond := .code yX11_met cX11_met 8 (some .int) :: ([Cond.methodLink RX11 163 yX11_isFamily, Cond.instanceMethod yX11_isFamily, Cond.selects RX11 yX11_isFamily yX11_isFamily, Cond.initialized RX11, Cond.constant RX11 166 (-1000000)] ++ (w_X11_isFamily ++ ([])))
theorem gg_X11_met_X11_isFamily : GoodIn w_X11_met w_X11_isFamily := goodIn_sub (fun _ h => List.mem_cons_of_mem _ (List.mem_append_right _ (List.mem_append_left _ h))) (by decide +kernel)
theorem g_X11_met_X11_isFamily_163 : GoodIn w_X11_met (wsV RX11 163 RX11 yX11_isFamily w_X11_isFamily) := goodIn_app (goodIn_of _ (by decide +kernel)) gg_X11_met_X11_isFamily
set_option maxHeartbeats 4000000 in
set_option maxRecDepth 100000 in
theorem c_X11_met (l : Launch) (E : py_E) (L : List Nat) (f : py_F) (sz : Nat) (h : Nat) (a : Int32) (b : Int32) (q : Int32) (hF : fr_H E L f h) : Met l yX11_met w_X11_met ({ frames := 1, cells := 0, slots := 0, locals := 21 }) (py_Pc E [.ref h, .int a, .int b, .int q] L f sz) (py_Qi E L f sz (fun r L1 f1 => r = -1000000 ∧ ∀ m, fr_M E L f m → fr_M E L1 f1 m)) 0 0 (va_A (va_pl L f) sz) := by
  refine Met.ofW (cc := cX11_met) (maxL := 8) (ret := (some .int)) (by decide) rfl ?_
  intro p e s m args below meth c s₁ B hml hv
  obtain ⟨rfl, rfl, hw⟩ := py_start hv
  have G : CallFix p m c cX11_met 8 s _ w_X11_met RX11 := ⟨B.exec, B.bytes, hml, findClass_of_methodNamed B.named, atoms_spec (ws := w_X11_met) B.pre⟩
  have hr := B.returns
  have hlk := B.notSynchronized
  have hl := lv_entry ([.ref h, .int a, .int b, .int q]) (n := 8) (Nat.le_of_ble_eq_true rfl)
  rw [lg_entry_eq]
  generalize (lg_sl ([.ref h, .int a, .int b, .int q]) ++ List.replicate (8 - (lg_sl ([.ref h, .int a, .int b, .int q])).length) Slot.unset).toArray = ls at hl ⊢
  have hl : lv_has ls 8 [(0, .ref h), (1, .int a), (2, .int b), (3, .int q)] := hl
  obtain ⟨tape, byt, vr, itm, dr, lr, dl, lws, nl, fo, va, tr, im, di, bu, se, mo, od, g, xd, xl, xf, xv, xi, xu, xs, hh, htape, hbyt, hvr, hdr, hxd, hlr, hdl, hxl, hfo, hxf, hf9, hf11, hva, hxv, hv8, hv9, hdi, hxi, hi2, hbu, hxu, hu3, hse, hxs⟩ := id hF
  have hMp : ∀ m, fr_M E L f m → fr_M E L f m := fun _ h => h
  refine lv_aload_n G.1 G.2.1 dX11_met_0 rfl (lv_at hl 0 rfl) ?_
  refine lv_iload_n G.1 G.2.1 dX11_met_1 rfl (lv_at hl 1 rfl) ?_
  refine py_calli hw (va_runV (As := [.int a]) (rest := []) G (c_X11_isFamily l E L f s.heap.size h a hF) (cwV 1 G.2.2.2.2 g_X11_met_X11_isFamily_163 rfl rfl rfl (by decide +kernel) ⟨(Nat.le_of_ble_eq_true rfl), (Nat.le_of_ble_eq_true rfl)⟩) (py_preV hw (C := RX11) (T := TX11) (N := 16) rfl hh) rfl rfl hl.1 rfl (lv_room (Nat.le_of_ble_eq_true rfl)) dX11_met_2 ⟨(Nat.le_of_ble_eq_true rfl), (Nat.le_of_ble_eq_true rfl)⟩) (fun r_5 L_1 f_2 H_3 locs hp_4 hw => ?_)
  obtain ⟨rfl, rfl, rfl⟩ := hp_4
  refine lv_if_eq (tgt := 28) G.1 G.2.1 dX11_met_5 (by decide) (fun c_6 => ?_) (fun c_6 => ?_)
  · skip
    refine lv_ldc (v := (-1000000)) G.1 G.2.1 G.2.2.2.1 (G.2.2.2.2 (Cond.constant RX11 166 (-1000000)) (by decide +kernel)) dX11_met_28 ?_
    exact py_iret G hr rfl hlk hw ⟨rfl, hMp⟩ dX11_met_30
  · skip
    exact absurd c_6 (by decide)

def w_X11_leap : List Cond := .code yX11_leap cX11_leap 6 (some .int) :: ([Cond.methodLink RX11 163 yX11_isFamily, Cond.instanceMethod yX11_isFamily, Cond.selects RX11 yX11_isFamily yX11_isFamily, Cond.initialized RX11, Cond.constant RX11 166 (-1000000)] ++ (w_X11_isFamily ++ ([])))
theorem gg_X11_leap_X11_isFamily : GoodIn w_X11_leap w_X11_isFamily := goodIn_sub (fun _ h => List.mem_cons_of_mem _ (List.mem_append_right _ (List.mem_append_left _ h))) (by decide +kernel)
theorem g_X11_leap_X11_isFamily_163 : GoodIn w_X11_leap (wsV RX11 163 RX11 yX11_isFamily w_X11_isFamily) := goodIn_app (goodIn_of _ (by decide +kernel)) gg_X11_leap_X11_isFamily
set_option maxHeartbeats 4000000 in
set_option maxRecDepth 100000 in
theorem c_X11_leap (l : Launch) (E : py_E) (L : List Nat) (f : py_F) (sz : Nat) (h : Nat) (a : Int32) (hF : fr_H E L f h) : Met l yX11_leap w_X11_leap ({ frames := 1, cells := 0, slots := 0, locals := 21 }) (py_Pc E [.ref h, .int a] L f sz) (py_Qi E L f sz (fun r L1 f1 => r = -1000000 ∧ ∀ m, fr_M E L f m → fr_M E L1 f1 m)) 0 0 (va_A (va_pl L f) sz) := by
  refine Met.ofW (cc := cX11_leap) (maxL := 6) (ret := (some .int)) (by decide) rfl ?_
  intro p e s m args below meth c s₁ B hml hv
  obtain ⟨rfl, rfl, hw⟩ := py_start hv
  have G : CallFix p m c cX11_leap 6 s _ w_X11_leap RX11 := ⟨B.exec, B.bytes, hml, findClass_of_methodNamed B.named, atoms_spec (ws := w_X11_leap) B.pre⟩
  have hr := B.returns
  have hlk := B.notSynchronized
  have hl := lv_entry ([.ref h, .int a]) (n := 6) (Nat.le_of_ble_eq_true rfl)
  rw [lg_entry_eq]
  generalize (lg_sl ([.ref h, .int a]) ++ List.replicate (6 - (lg_sl ([.ref h, .int a])).length) Slot.unset).toArray = ls at hl ⊢
  have hl : lv_has ls 6 [(0, .ref h), (1, .int a)] := hl
  obtain ⟨tape, byt, vr, itm, dr, lr, dl, lws, nl, fo, va, tr, im, di, bu, se, mo, od, g, xd, xl, xf, xv, xi, xu, xs, hh, htape, hbyt, hvr, hdr, hxd, hlr, hdl, hxl, hfo, hxf, hf9, hf11, hva, hxv, hv8, hv9, hdi, hxi, hi2, hbu, hxu, hu3, hse, hxs⟩ := id hF
  have hMp : ∀ m, fr_M E L f m → fr_M E L f m := fun _ h => h
  refine lv_aload_n G.1 G.2.1 dX11_leap_0 rfl (lv_at hl 0 rfl) ?_
  refine lv_iload_n G.1 G.2.1 dX11_leap_1 rfl (lv_at hl 1 rfl) ?_
  refine py_calli hw (va_runV (As := [.int a]) (rest := []) G (c_X11_isFamily l E L f s.heap.size h a hF) (cwV 1 G.2.2.2.2 g_X11_leap_X11_isFamily_163 rfl rfl rfl (by decide +kernel) ⟨(Nat.le_of_ble_eq_true rfl), (Nat.le_of_ble_eq_true rfl)⟩) (py_preV hw (C := RX11) (T := TX11) (N := 16) rfl hh) rfl rfl hl.1 rfl (lv_room (Nat.le_of_ble_eq_true rfl)) dX11_leap_2 ⟨(Nat.le_of_ble_eq_true rfl), (Nat.le_of_ble_eq_true rfl)⟩) (fun r_5 L_1 f_2 H_3 locs hp_4 hw => ?_)
  obtain ⟨rfl, rfl, rfl⟩ := hp_4
  refine lv_if_ne (tgt := 11) G.1 G.2.1 dX11_leap_5 (by decide) (fun c_6 => ?_) (fun c_6 => ?_)
  · skip
    exact absurd c_6 (by decide)
  · skip
    refine lv_ldc (v := (-1000000)) G.1 G.2.1 G.2.2.2.1 (G.2.2.2.2 (Cond.constant RX11 166 (-1000000)) (by decide +kernel)) dX11_leap_8 ?_
    exact py_iret G hr rfl hlk hw ⟨rfl, hMp⟩ dX11_leap_10

def w_X11_leanest : List Cond := .code yX11_leanest cX11_leanest 6 (some .int) :: ([Cond.fieldLink RX11 60 "HeadYear" "diary" "LHeadYear$Diary;", Cond.fieldLink RX11 304 "HeadYear$Diary" "years" "I"] ++ (u_ws RX11 TX11 16 ++ (u_ws RX1 TX1 3 ++ ([]))))
theorem in_X11_leanest_X11 : ∀ w ∈ u_ws RX11 TX11 16, w ∈ w_X11_leanest := fun _ h => List.mem_cons_of_mem _ (List.mem_append_right _ (List.mem_append_left _ h))
theorem in_X11_leanest_X1 : ∀ w ∈ u_ws RX1 TX1 3, w ∈ w_X11_leanest := fun _ h => List.mem_cons_of_mem _ (List.mem_append_right _ (List.mem_append_right _ (List.mem_append_left _ h)))
set_option maxHeartbeats 4000000 in
set_option maxRecDepth 100000 in
theorem c_X11_leanest (l : Launch) (E : py_E) (L : List Nat) (f : py_F) (sz : Nat) (h : Nat) (a : Int32) (hF : fr_H E L f h) : Met l yX11_leanest w_X11_leanest ({ frames := 0, cells := 0, slots := 0, locals := 0 }) (py_Pc E [.ref h, .int a] L f sz) (py_Qi E L f sz (fun r L1 f1 => r = -1 ∧ ∀ m, fr_M E L f m → fr_M E L1 f1 m)) 0 0 (va_A (va_pl L f) sz) := by
  refine Met.ofW (cc := cX11_leanest) (maxL := 6) (ret := (some .int)) (by decide) rfl ?_
  intro p e s m args below meth c s₁ B hml hv
  obtain ⟨rfl, rfl, hw⟩ := py_start hv
  have G : CallFix p m c cX11_leanest 6 s _ w_X11_leanest RX11 := ⟨B.exec, B.bytes, hml, findClass_of_methodNamed B.named, atoms_spec (ws := w_X11_leanest) B.pre⟩
  have hr := B.returns
  have hlk := B.notSynchronized
  have hl := lv_entry ([.ref h, .int a]) (n := 6) (Nat.le_of_ble_eq_true rfl)
  rw [lg_entry_eq]
  generalize (lg_sl ([.ref h, .int a]) ++ List.replicate (6 - (lg_sl ([.ref h, .int a])).length) Slot.unset).toArray = ls at hl ⊢
  have hl : lv_has ls 6 [(0, .ref h), (1, .int a)] := hl
  obtain ⟨tape, byt, vr, itm, dr, lr, dl, lws, nl, fo, va, tr, im, di, bu, se, mo, od, g, xd, xl, xf, xv, xi, xu, xs, hh, htape, hbyt, hvr, hdr, hxd, hlr, hdl, hxl, hfo, hxf, hf9, hf11, hva, hxv, hv8, hv9, hdi, hxi, hi2, hbu, hxu, hu3, hse, hxs⟩ := id hF
  have hMp : ∀ m, fr_M E L f m → fr_M E L f m := fun _ h => h
  refine lv_aload_n G.1 G.2.1 dX11_leanest_0 rfl (lv_at hl 0 rfl) ?_
  refine py_get (C := RX11) (T := TX11) (N := 16) (k := 8) (v := .ref di) G hw in_X11_leanest_X11 rfl hh (by decide) (by decide +kernel) rfl dX11_leanest_1 ?_
  refine py_get (C := RX1) (T := TX1) (N := 3) (k := 2) (v := .int 0) G hw in_X11_leanest_X1 rfl hdi (by decide) (by decide +kernel) hi2 dX11_leanest_4 ?_
  refine lv_if_eq (tgt := 17) G.1 G.2.1 dX11_leanest_7 (by decide) (fun c_1 => ?_) (fun c_1 => ?_)
  · skip
    refine lv_iconst (v := (-1)) G.1 G.2.1 dX11_leanest_17 (by decide) ?_
    exact py_iret G hr rfl hlk hw ⟨rfl, hMp⟩ dX11_leanest_18
  · skip
    exact absurd c_1 (by decide)

def w_X11_advice : List Cond := .code yX11_advice cX11_advice 10 (some .int) :: ([Cond.methodLink RX11 246 yX11_lives, Cond.instanceMethod yX11_lives, Cond.selects RX11 yX11_lives yX11_lives, Cond.initialized RX11, Cond.constant RX11 166 (-1000000)] ++ (w_X11_lives ++ ([])))
theorem gg_X11_advice_X11_lives : GoodIn w_X11_advice w_X11_lives := goodIn_sub (fun _ h => List.mem_cons_of_mem _ (List.mem_append_right _ (List.mem_append_left _ h))) (by decide +kernel)
theorem g_X11_advice_X11_lives_246 : GoodIn w_X11_advice (wsV RX11 246 RX11 yX11_lives w_X11_lives) := goodIn_app (goodIn_of _ (by decide +kernel)) gg_X11_advice_X11_lives
set_option maxHeartbeats 4000000 in
set_option maxRecDepth 100000 in
theorem c_X11_advice (l : Launch) (E : py_E) (L : List Nat) (f : py_F) (sz : Nat) (h : Nat) (a : Int32) (b : Int32) (q : Int32) (d : Int32) (hF : fr_H E L f h) : Met l yX11_advice w_X11_advice ({ frames := 2, cells := 0, slots := 0, locals := 42 }) (py_Pc E [.ref h, .int a, .int b, .int q, .int d] L f sz) (py_Qi E L f sz (fun r L1 f1 => r = -1000000 ∧ ∀ m, fr_M E L f m → fr_M E L1 f1 m)) 0 0 (va_A (va_pl L f) sz) := by
  refine Met.ofW (cc := cX11_advice) (maxL := 10) (ret := (some .int)) (by decide) rfl ?_
  intro p e s m args below meth c s₁ B hml hv
  obtain ⟨rfl, rfl, hw⟩ := py_start hv
  have G : CallFix p m c cX11_advice 10 s _ w_X11_advice RX11 := ⟨B.exec, B.bytes, hml, findClass_of_methodNamed B.named, atoms_spec (ws := w_X11_advice) B.pre⟩
  have hr := B.returns
  have hlk := B.notSynchronized
  have hl := lv_entry ([.ref h, .int a, .int b, .int q, .int d]) (n := 10) (Nat.le_of_ble_eq_true rfl)
  rw [lg_entry_eq]
  generalize (lg_sl ([.ref h, .int a, .int b, .int q, .int d]) ++ List.replicate (10 - (lg_sl ([.ref h, .int a, .int b, .int q, .int d])).length) Slot.unset).toArray = ls at hl ⊢
  have hl : lv_has ls 10 [(0, .ref h), (1, .int a), (2, .int b), (3, .int q), (4, .int d)] := hl
  obtain ⟨tape, byt, vr, itm, dr, lr, dl, lws, nl, fo, va, tr, im, di, bu, se, mo, od, g, xd, xl, xf, xv, xi, xu, xs, hh, htape, hbyt, hvr, hdr, hxd, hlr, hdl, hxl, hfo, hxf, hf9, hf11, hva, hxv, hv8, hv9, hdi, hxi, hi2, hbu, hxu, hu3, hse, hxs⟩ := id hF
  have hMp : ∀ m, fr_M E L f m → fr_M E L f m := fun _ h => h
  refine lv_aload_n G.1 G.2.1 dX11_advice_0 rfl (lv_at hl 0 rfl) ?_
  refine lv_iload_n G.1 G.2.1 dX11_advice_1 rfl (lv_at hl 1 rfl) ?_
  refine py_calli hw (va_runV (As := [.int a]) (rest := []) G (c_X11_lives l E L f s.heap.size h a hF) (cwV 1 G.2.2.2.2 g_X11_advice_X11_lives_246 rfl rfl rfl (by decide +kernel) ⟨(Nat.le_of_ble_eq_true rfl), (Nat.le_of_ble_eq_true rfl)⟩) (py_preV hw (C := RX11) (T := TX11) (N := 16) rfl hh) rfl rfl hl.1 rfl (lv_room (Nat.le_of_ble_eq_true rfl)) dX11_advice_2 ⟨(Nat.le_of_ble_eq_true rfl), (Nat.le_of_ble_eq_true rfl)⟩) (fun r_5 L_1 f_2 H_3 locs hp_4 hw => ?_)
  obtain ⟨rfl, rfl, rfl⟩ := hp_4
  refine lv_if_eq (tgt := 24) G.1 G.2.1 dX11_advice_5 (by decide) (fun c_6 => ?_) (fun c_6 => ?_)
  · skip
    refine lv_ldc (v := (-1000000)) G.1 G.2.1 G.2.2.2.1 (G.2.2.2.2 (Cond.constant RX11 166 (-1000000)) (by decide +kernel)) dX11_advice_24 ?_
    exact py_iret G hr rfl hlk hw ⟨rfl, hMp⟩ dX11_advice_26
  · skip
    exact absurd c_6 (by decide)

def w_X11_image : List Cond := .code yX11_image cX11_image 1 (some .int) :: ([Cond.methodLink RX11 218 yX11_hasValley, Cond.instanceMethod yX11_hasValley, Cond.selects RX11 yX11_hasValley yX11_hasValley, Cond.initialized RX11] ++ (w_X11_hasValley ++ ([])))
theorem gg_X11_image_X11_hasValley : GoodIn w_X11_image w_X11_hasValley := goodIn_sub (fun _ h => List.mem_cons_of_mem _ (List.mem_append_right _ (List.mem_append_left _ h))) (by decide +kernel)
theorem g_X11_image_X11_hasValley_218 : GoodIn w_X11_image (wsV RX11 218 RX11 yX11_hasValley w_X11_hasValley) := goodIn_app (goodIn_of _ (by decide +kernel)) gg_X11_image_X11_hasValley
set_option maxHeartbeats 4000000 in
set_option maxRecDepth 100000 in
theorem c_X11_image (l : Launch) (E : py_E) (L : List Nat) (f : py_F) (sz : Nat) (h : Nat) (hF : fr_H E L f h) : Met l yX11_image w_X11_image ({ frames := 1, cells := 0, slots := 0, locals := 20 }) (py_Pc E [.ref h] L f sz) (py_Qi E L f sz (fun r L1 f1 => r = -1 ∧ ∀ m, fr_M E L f m → fr_M E L1 f1 m)) 0 0 (va_A (va_pl L f) sz) := by
  refine Met.ofW (cc := cX11_image) (maxL := 1) (ret := (some .int)) (by decide) rfl ?_
  intro p e s m args below meth c s₁ B hml hv
  obtain ⟨rfl, rfl, hw⟩ := py_start hv
  have G : CallFix p m c cX11_image 1 s _ w_X11_image RX11 := ⟨B.exec, B.bytes, hml, findClass_of_methodNamed B.named, atoms_spec (ws := w_X11_image) B.pre⟩
  have hr := B.returns
  have hlk := B.notSynchronized
  have hl := lv_entry ([.ref h]) (n := 1) (Nat.le_of_ble_eq_true rfl)
  rw [lg_entry_eq]
  generalize (lg_sl ([.ref h]) ++ List.replicate (1 - (lg_sl ([.ref h])).length) Slot.unset).toArray = ls at hl ⊢
  have hl : lv_has ls 1 [(0, .ref h)] := hl
  obtain ⟨tape, byt, vr, itm, dr, lr, dl, lws, nl, fo, va, tr, im, di, bu, se, mo, od, g, xd, xl, xf, xv, xi, xu, xs, hh, htape, hbyt, hvr, hdr, hxd, hlr, hdl, hxl, hfo, hxf, hf9, hf11, hva, hxv, hv8, hv9, hdi, hxi, hi2, hbu, hxu, hu3, hse, hxs⟩ := id hF
  have hMp : ∀ m, fr_M E L f m → fr_M E L f m := fun _ h => h
  refine lv_aload_n G.1 G.2.1 dX11_image_0 rfl (lv_at hl 0 rfl) ?_
  refine py_calli hw (va_runV (As := []) (rest := []) G (c_X11_hasValley l E L f s.heap.size h hF) (cwV 0 G.2.2.2.2 g_X11_image_X11_hasValley_218 rfl rfl rfl (by decide +kernel) ⟨(Nat.le_of_ble_eq_true rfl), (Nat.le_of_ble_eq_true rfl)⟩) (py_preV hw (C := RX11) (T := TX11) (N := 16) rfl hh) rfl rfl hl.1 rfl (lv_room (Nat.le_of_ble_eq_true rfl)) dX11_image_1 ⟨(Nat.le_of_ble_eq_true rfl), (Nat.le_of_ble_eq_true rfl)⟩) (fun r_5 L_1 f_2 H_3 locs hp_4 hw => ?_)
  obtain ⟨rfl, rfl, rfl⟩ := hp_4
  refine lv_if_ne (tgt := 9) G.1 G.2.1 dX11_image_4 (by decide) (fun c_6 => ?_) (fun c_6 => ?_)
  · skip
    exact absurd c_6 (by decide)
  · skip
    refine lv_iconst (v := (-1)) G.1 G.2.1 dX11_image_7 (by decide) ?_
    exact py_iret G hr rfl hlk hw ⟨rfl, hMp⟩ dX11_image_8

def w_X11_back : List Cond := .code yX11_back cX11_back 1 (some .int) :: ([Cond.fieldLink RX11 101 "HeadYear" "imaged" "Z"] ++ (u_ws RX11 TX11 16 ++ ([])))
theorem in_X11_back_X11 : ∀ w ∈ u_ws RX11 TX11 16, w ∈ w_X11_back := fun _ h => List.mem_cons_of_mem _ (List.mem_append_right _ (List.mem_append_left _ h))
set_option maxHeartbeats 4000000 in
set_option maxRecDepth 100000 in
theorem c_X11_back (l : Launch) (E : py_E) (L : List Nat) (f : py_F) (sz : Nat) (h : Nat) (hF : fr_H E L f h) : Met l yX11_back w_X11_back ({ frames := 0, cells := 0, slots := 0, locals := 0 }) (py_Pc E [.ref h] L f sz) (py_Qi E L f sz (fun r L1 f1 => r = -1 ∧ ∀ m, fr_M E L f m → fr_M E L1 f1 m)) 0 0 (va_A (va_pl L f) sz) := by
  refine Met.ofW (cc := cX11_back) (maxL := 1) (ret := (some .int)) (by decide) rfl ?_
  intro p e s m args below meth c s₁ B hml hv
  obtain ⟨rfl, rfl, hw⟩ := py_start hv
  have G : CallFix p m c cX11_back 1 s _ w_X11_back RX11 := ⟨B.exec, B.bytes, hml, findClass_of_methodNamed B.named, atoms_spec (ws := w_X11_back) B.pre⟩
  have hr := B.returns
  have hlk := B.notSynchronized
  have hl := lv_entry ([.ref h]) (n := 1) (Nat.le_of_ble_eq_true rfl)
  rw [lg_entry_eq]
  generalize (lg_sl ([.ref h]) ++ List.replicate (1 - (lg_sl ([.ref h])).length) Slot.unset).toArray = ls at hl ⊢
  have hl : lv_has ls 1 [(0, .ref h)] := hl
  obtain ⟨tape, byt, vr, itm, dr, lr, dl, lws, nl, fo, va, tr, im, di, bu, se, mo, od, g, xd, xl, xf, xv, xi, xu, xs, hh, htape, hbyt, hvr, hdr, hxd, hlr, hdl, hxl, hfo, hxf, hf9, hf11, hva, hxv, hv8, hv9, hdi, hxi, hi2, hbu, hxu, hu3, hse, hxs⟩ := id hF
  have hMp : ∀ m, fr_M E L f m → fr_M E L f m := fun _ h => h
  refine lv_aload_n G.1 G.2.1 dX11_back_0 rfl (lv_at hl 0 rfl) ?_
  refine py_get (C := RX11) (T := TX11) (N := 16) (k := 15) (v := .int 0) G hw in_X11_back_X11 rfl hh (by decide) (by decide +kernel) rfl dX11_back_1 ?_
  refine lv_if_ne (tgt := 9) G.1 G.2.1 dX11_back_4 (by decide) (fun c_1 => ?_) (fun c_1 => ?_)
  · skip
    exact absurd c_1 (by decide)
  · skip
    refine lv_iconst (v := (-1)) G.1 G.2.1 dX11_back_7 (by decide) ?_
    exact py_iret G hr rfl hlk hw ⟨rfl, hMp⟩ dX11_back_8

def w_X11_mean : List Cond := .code yX11_mean cX11_mean 3 (some .long) :: ([Cond.methodLink RX11 246 yX11_lives, Cond.instanceMethod yX11_lives, Cond.selects RX11 yX11_lives yX11_lives, Cond.initialized RX11, Cond.constantLong RX11 336 (-1000000)] ++ (w_X11_lives ++ ([])))
theorem gg_X11_mean_X11_lives : GoodIn w_X11_mean w_X11_lives := goodIn_sub (fun _ h => List.mem_cons_of_mem _ (List.mem_append_right _ (List.mem_append_left _ h))) (by decide +kernel)
theorem g_X11_mean_X11_lives_246 : GoodIn w_X11_mean (wsV RX11 246 RX11 yX11_lives w_X11_lives) := goodIn_app (goodIn_of _ (by decide +kernel)) gg_X11_mean_X11_lives
set_option maxHeartbeats 4000000 in
set_option maxRecDepth 100000 in
theorem c_X11_mean (l : Launch) (E : py_E) (L : List Nat) (f : py_F) (sz : Nat) (h : Nat) (a : Int32) (b : Int32) (hF : fr_H E L f h) : Met l yX11_mean w_X11_mean ({ frames := 2, cells := 0, slots := 0, locals := 42 }) (py_Pc E [.ref h, .int a, .int b] L f sz) (py_Ql E L f sz (fun r L1 f1 => r = -1000000 ∧ ∀ m, fr_M E L f m → fr_M E L1 f1 m)) 0 0 (va_A (va_pl L f) sz) := by
  refine Met.ofW (cc := cX11_mean) (maxL := 3) (ret := (some .long)) (by decide) rfl ?_
  intro p e s m args below meth c s₁ B hml hv
  obtain ⟨rfl, rfl, hw⟩ := py_start hv
  have G : CallFix p m c cX11_mean 3 s _ w_X11_mean RX11 := ⟨B.exec, B.bytes, hml, findClass_of_methodNamed B.named, atoms_spec (ws := w_X11_mean) B.pre⟩
  have hr := B.returns
  have hlk := B.notSynchronized
  have hl := lv_entry ([.ref h, .int a, .int b]) (n := 3) (Nat.le_of_ble_eq_true rfl)
  rw [lg_entry_eq]
  generalize (lg_sl ([.ref h, .int a, .int b]) ++ List.replicate (3 - (lg_sl ([.ref h, .int a, .int b])).length) Slot.unset).toArray = ls at hl ⊢
  have hl : lv_has ls 3 [(0, .ref h), (1, .int a), (2, .int b)] := hl
  obtain ⟨tape, byt, vr, itm, dr, lr, dl, lws, nl, fo, va, tr, im, di, bu, se, mo, od, g, xd, xl, xf, xv, xi, xu, xs, hh, htape, hbyt, hvr, hdr, hxd, hlr, hdl, hxl, hfo, hxf, hf9, hf11, hva, hxv, hv8, hv9, hdi, hxi, hi2, hbu, hxu, hu3, hse, hxs⟩ := id hF
  have hMp : ∀ m, fr_M E L f m → fr_M E L f m := fun _ h => h
  refine lv_aload_n G.1 G.2.1 dX11_mean_0 rfl (lv_at hl 0 rfl) ?_
  refine lv_iload_n G.1 G.2.1 dX11_mean_1 rfl (lv_at hl 1 rfl) ?_
  refine py_calli hw (va_runV (As := [.int a]) (rest := []) G (c_X11_lives l E L f s.heap.size h a hF) (cwV 1 G.2.2.2.2 g_X11_mean_X11_lives_246 rfl rfl rfl (by decide +kernel) ⟨(Nat.le_of_ble_eq_true rfl), (Nat.le_of_ble_eq_true rfl)⟩) (py_preV hw (C := RX11) (T := TX11) (N := 16) rfl hh) rfl rfl hl.1 rfl (lv_room (Nat.le_of_ble_eq_true rfl)) dX11_mean_2 ⟨(Nat.le_of_ble_eq_true rfl), (Nat.le_of_ble_eq_true rfl)⟩) (fun r_5 L_1 f_2 H_3 locs hp_4 hw => ?_)
  obtain ⟨rfl, rfl, rfl⟩ := hp_4
  refine lv_if_eq (tgt := 19) G.1 G.2.1 dX11_mean_5 (by decide) (fun c_6 => ?_) (fun c_6 => ?_)
  · skip
    refine lv_ldc2 (v := (-1000000)) G.1 G.2.1 G.2.2.2.1 (G.2.2.2.2 (Cond.constantLong RX11 336 (-1000000)) (by decide +kernel)) dX11_mean_19 ?_
    exact py_lret G hr hlk hw ⟨rfl, hMp⟩ dX11_mean_22
  · skip
    exact absurd c_6 (by decide)

def w_X11_seed : List Cond := .code yX11_seed cX11_seed 3 (some .boolean) :: ([Cond.fieldLink RX11 47 "HeadYear" "folk" "LHeadYear$Folk;", Cond.fieldLink RX11 214 "HeadYear$Folk" "x" "J"] ++ (u_ws RX11 TX11 16 ++ (u_ws RX2 TX2 12 ++ ([]))))
theorem in_X11_seed_X11 : ∀ w ∈ u_ws RX11 TX11 16, w ∈ w_X11_seed := fun _ h => List.mem_cons_of_mem _ (List.mem_append_right _ (List.mem_append_left _ h))
theorem in_X11_seed_X2 : ∀ w ∈ u_ws RX2 TX2 12, w ∈ w_X11_seed := fun _ h => List.mem_cons_of_mem _ (List.mem_append_right _ (List.mem_append_right _ (List.mem_append_left _ h)))
set_option maxHeartbeats 4000000 in
set_option maxRecDepth 100000 in
theorem c_X11_seed (l : Launch) (E : py_E) (L : List Nat) (f : py_F) (sz : Nat) (h : Nat) (v : Int64) (hF : fr_H E L f h) : Met l yX11_seed w_X11_seed ({ frames := 0, cells := 0, slots := 0, locals := 0 }) (py_Pc E [.ref h, .long v] L f sz) (py_Qi E L f sz (fun r L1 f1 => r = 1 ∧ ∀ m, fr_M E L f m → fr_M E L1 f1 m)) 0 0 (va_A (va_pl L f) sz) := by
  refine Met.ofW (cc := cX11_seed) (maxL := 3) (ret := (some .boolean)) (by decide) rfl ?_
  intro p e s m args below meth c s₁ B hml hv
  obtain ⟨rfl, rfl, hw⟩ := py_start hv
  have G : CallFix p m c cX11_seed 3 s _ w_X11_seed RX11 := ⟨B.exec, B.bytes, hml, findClass_of_methodNamed B.named, atoms_spec (ws := w_X11_seed) B.pre⟩
  have hr := B.returns
  have hlk := B.notSynchronized
  have hl := lv_entry ([.ref h, .long v]) (n := 3) (Nat.le_of_ble_eq_true rfl)
  rw [lg_entry_eq]
  generalize (lg_sl ([.ref h, .long v]) ++ List.replicate (3 - (lg_sl ([.ref h, .long v])).length) Slot.unset).toArray = ls at hl ⊢
  have hl : lv_has ls 3 [(0, .ref h), (1, .long v)] := hl
  obtain ⟨tape, byt, vr, itm, dr, lr, dl, lws, nl, fo, va, tr, im, di, bu, se, mo, od, g, xd, xl, xf, xv, xi, xu, xs, hh, htape, hbyt, hvr, hdr, hxd, hlr, hdl, hxl, hfo, hxf, hf9, hf11, hva, hxv, hv8, hv9, hdi, hxi, hi2, hbu, hxu, hu3, hse, hxs⟩ := id hF
  have hMp : ∀ m, fr_M E L f m → fr_M E L f m := fun _ h => h
  refine lv_aload_n G.1 G.2.1 dX11_seed_0 rfl (lv_at hl 0 rfl) ?_
  refine py_get (C := RX11) (T := TX11) (N := 16) (k := 5) (v := .ref fo) G hw in_X11_seed_X11 rfl hh (by decide) (by decide +kernel) rfl dX11_seed_1 ?_
  refine lv_lload_n G.1 G.2.1 dX11_seed_4 rfl (lv_at hl 1 rfl) ?_
  refine py_put (C := RX2) (T := TX2) (N := 12) (k := 10) (v := .long v) (fs' := xf.set 10 (.long v)) (ty0 := tyX2) G hw tyX2_ok nmX2 in_X11_seed_X2 rfl hfo (by decide) (by decide +kernel) rfl rfl rfl rfl (py_len hxf (by decide)) rfl dX11_seed_5 (fun f_1 H_2 locs h_3 x_4 hw => ?_)
  obtain ⟨xs_5, exs_5⟩ : ∃ y, y = xf.set 10 (.long v) := ⟨_, rfl⟩
  rw [← exs_5] at h_3
  have hl_6 : xs_5.length = 12 := by rw [exs_5, List.length_set]; exact hxf
  have hp_7 : xs_5[9]? = some (.ref va) := by rw [exs_5, List.getElem?_set_ne (by decide)]; exact hf9
  have hp_8 : xs_5[11]? = some (.int 0) := by rw [exs_5, List.getElem?_set_ne (by decide)]; exact hf11
  have hp_9 : xs_5[10]? = some (.long v) := by rw [exs_5, List.getElem?_set_self (by rw [hxf]; decide)]
  have hMp : ∀ m, fr_M E L f m → fr_M E L f_1 m := fun m h => fr_M_obj (hMp m h) hfo (by decide) x_4
  have hh := hh.ext x_4 (py_ne_kind hh hfo (by decide))
  have htape := htape.ext x_4 (py_ne_kind htape hfo (by decide))
  have hbyt := hbyt.ext x_4 (Ne.symm (py_ne_arr hfo hbyt))
  have hvr := hvr.ext x_4 (py_ne_kind hvr hfo (by decide))
  have hdr := hdr.ext x_4 (py_ne_kind hdr hfo (by decide))
  have hlr := hlr.ext x_4 (py_ne_kind hlr hfo (by decide))
  have hdl := hdl.ext x_4 (py_ne_kind hdl hfo (by decide))
  have hva := hva.ext x_4 (py_ne_kind hva hfo (by decide))
  have hdi := hdi.ext x_4 (py_ne_kind hdi hfo (by decide))
  have hbu := hbu.ext x_4 (py_ne_kind hbu hfo (by decide))
  have hse := hse.ext x_4 (py_ne_kind hse hfo (by decide))
  refine lv_iconst (v := 1) G.1 G.2.1 dX11_seed_8 (by decide) ?_
  exact py_iret G hr rfl hlk hw ⟨rfl, hMp⟩ dX11_seed_9

def w_X11_end : List Cond := .code yX11_end cX11_end 2 (some .boolean) :: ([Cond.fieldLink RX11 10 "HeadYear" "tape" "LHeadYear$Tape;", Cond.fieldLink RX11 109 "HeadYear$Tape" "length" "I"] ++ (u_ws RX11 TX11 16 ++ (u_ws RX8 TX8 4 ++ ([]))))
theorem in_X11_end_X11 : ∀ w ∈ u_ws RX11 TX11 16, w ∈ w_X11_end := fun _ h => List.mem_cons_of_mem _ (List.mem_append_right _ (List.mem_append_left _ h))
theorem in_X11_end_X8 : ∀ w ∈ u_ws RX8 TX8 4, w ∈ w_X11_end := fun _ h => List.mem_cons_of_mem _ (List.mem_append_right _ (List.mem_append_right _ (List.mem_append_left _ h)))
set_option maxHeartbeats 4000000 in
set_option maxRecDepth 100000 in
theorem c_X11_end (l : Launch) (E : py_E) (L : List Nat) (f : py_F) (sz : Nat) (h : Nat) (a : Int32) (hF : fr_H E L f h) : Met l yX11_end w_X11_end ({ frames := 0, cells := 0, slots := 0, locals := 0 }) (py_Pc E [.ref h, .int a] L f sz) (py_Qi E L f sz (fun r L1 f1 => r = (if a < 0 ∨ 0 < a then 0 else 1) ∧ ∀ m, fr_M E L f m → fr_M E L1 f1 m)) 0 0 (va_A (va_pl L f) sz) := by
  refine Met.ofW (cc := cX11_end) (maxL := 2) (ret := (some .boolean)) (by decide) rfl ?_
  intro p e s m args below meth c s₁ B hml hv
  obtain ⟨rfl, rfl, hw⟩ := py_start hv
  have G : CallFix p m c cX11_end 2 s _ w_X11_end RX11 := ⟨B.exec, B.bytes, hml, findClass_of_methodNamed B.named, atoms_spec (ws := w_X11_end) B.pre⟩
  have hr := B.returns
  have hlk := B.notSynchronized
  have hl := lv_entry ([.ref h, .int a]) (n := 2) (Nat.le_of_ble_eq_true rfl)
  rw [lg_entry_eq]
  generalize (lg_sl ([.ref h, .int a]) ++ List.replicate (2 - (lg_sl ([.ref h, .int a])).length) Slot.unset).toArray = ls at hl ⊢
  have hl : lv_has ls 2 [(0, .ref h), (1, .int a)] := hl
  obtain ⟨tape, byt, vr, itm, dr, lr, dl, lws, nl, fo, va, tr, im, di, bu, se, mo, od, g, xd, xl, xf, xv, xi, xu, xs, hh, htape, hbyt, hvr, hdr, hxd, hlr, hdl, hxl, hfo, hxf, hf9, hf11, hva, hxv, hv8, hv9, hdi, hxi, hi2, hbu, hxu, hu3, hse, hxs⟩ := id hF
  have hMp : ∀ m, fr_M E L f m → fr_M E L f m := fun _ h => h
  refine lv_iload_n G.1 G.2.1 dX11_end_0 rfl (lv_at hl 1 rfl) ?_
  refine lv_if_lt (tgt := 15) G.1 G.2.1 dX11_end_1 (by decide) (fun c_1 => ?_) (fun c_1 => ?_)
  · skip
    refine lv_iconst (v := 0) G.1 G.2.1 dX11_end_15 (by decide) ?_
    exact py_iret G hr rfl hlk hw ⟨by simp [c_1], hMp⟩ dX11_end_16
  · skip
    refine lv_iload_n G.1 G.2.1 dX11_end_4 rfl (lv_at hl 1 rfl) ?_
    refine lv_aload_n G.1 G.2.1 dX11_end_5 rfl (lv_at hl 0 rfl) ?_
    refine py_get (C := RX11) (T := TX11) (N := 16) (k := 0) (v := .ref tape) G hw in_X11_end_X11 rfl hh (by decide) (by decide +kernel) rfl dX11_end_6 ?_
    refine py_get (C := RX8) (T := TX8) (N := 4) (k := 1) (v := .int 0) G hw in_X11_end_X8 rfl htape (by decide) (by decide +kernel) rfl dX11_end_9 ?_
    refine lv_icmp_le (tgt := 17) G.1 G.2.1 dX11_end_12 (by decide) (fun c_2 => ?_) (fun c_2 => ?_)
    · skip
      refine lv_aload_n G.1 G.2.1 dX11_end_17 rfl (lv_at hl 0 rfl) ?_
      refine py_get (C := RX11) (T := TX11) (N := 16) (k := 0) (v := .ref tape) G hw in_X11_end_X11 rfl hh (by decide) (by decide +kernel) rfl dX11_end_18 ?_
      refine lv_iload_n G.1 G.2.1 dX11_end_21 rfl (lv_at hl 1 rfl) ?_
      refine py_put (C := RX8) (T := TX8) (N := 4) (k := 1) (v := .int a) (fs' := [.ref byt, .int a, .int 0, .int 0]) (ty0 := tyX8) G hw tyX8_ok nmX8 in_X11_end_X8 rfl htape (by decide) (by decide +kernel) rfl rfl rfl rfl (Nat.le_of_ble_eq_true rfl) rfl dX11_end_22 (fun f_3 H_4 locs h_5 x_6 hw => ?_)
      have hMp : ∀ m, fr_M E L f m → fr_M E L f_3 m := fun m h => fr_M_obj (hMp m h) htape (by decide) x_6
      have hh := hh.ext x_6 (py_ne_kind hh htape (by decide))
      have hbyt := hbyt.ext x_6 (Ne.symm (py_ne_arr htape hbyt))
      have hvr := hvr.ext x_6 (py_ne_kind hvr htape (by decide))
      have hdr := hdr.ext x_6 (py_ne_kind hdr htape (by decide))
      have hlr := hlr.ext x_6 (py_ne_kind hlr htape (by decide))
      have hdl := hdl.ext x_6 (py_ne_kind hdl htape (by decide))
      have hfo := hfo.ext x_6 (py_ne_kind hfo htape (by decide))
      have hva := hva.ext x_6 (py_ne_kind hva htape (by decide))
      have hdi := hdi.ext x_6 (py_ne_kind hdi htape (by decide))
      have hbu := hbu.ext x_6 (py_ne_kind hbu htape (by decide))
      have hse := hse.ext x_6 (py_ne_kind hse htape (by decide))
      refine lv_iconst (v := 1) G.1 G.2.1 dX11_end_25 (by decide) ?_
      exact py_iret G hr rfl hlk hw ⟨by simp [c_1, c_2], hMp⟩ dX11_end_26
    · skip
      refine lv_iconst (v := 0) G.1 G.2.1 dX11_end_15 (by decide) ?_
      exact py_iret G hr rfl hlk hw ⟨by simp [c_1, c_2], hMp⟩ dX11_end_16

def w_X11_law : List Cond := .code yX11_law cX11_law 2 (some .boolean) :: ([Cond.fieldLink RX11 98 "HeadYear" "heldLaw" "I", Cond.methodLink RX11 202 yX11_isLaw, Cond.instanceMethod yX11_isLaw, Cond.selects RX11 yX11_isLaw yX11_isLaw, Cond.initialized RX11] ++ (u_ws RX11 TX11 16 ++ (w_X11_isLaw ++ ([]))))
theorem in_X11_law_X11 : ∀ w ∈ u_ws RX11 TX11 16, w ∈ w_X11_law := fun _ h => List.mem_cons_of_mem _ (List.mem_append_right _ (List.mem_append_left _ h))
theorem gg_X11_law_X11_isLaw : GoodIn w_X11_law w_X11_isLaw := goodIn_sub (fun _ h => List.mem_cons_of_mem _ (List.mem_append_right _ (List.mem_append_right _ (List.mem_append_left _ h)))) (by decide +kernel)
theorem g_X11_law_X11_isLaw_202 : GoodIn w_X11_law (wsV RX11 202 RX11 yX11_isLaw w_X11_isLaw) := goodIn_app (goodIn_of _ (by decide +kernel)) gg_X11_law_X11_isLaw
set_option maxHeartbeats 4000000 in
set_option maxRecDepth 100000 in
theorem c_X11_law (l : Launch) (E : py_E) (L : List Nat) (f : py_F) (sz : Nat) (h : Nat) (a : Int32) (hF : fr_H E L f h) : Met l yX11_law w_X11_law ({ frames := 1, cells := 0, slots := 0, locals := 21 }) (py_Pc E [.ref h, .int a] L f sz) (py_Qi E L f sz (fun r L1 f1 => r = (if a = -1 then 1 else 0) ∧ ∀ m, fr_M E L f m → fr_M E L1 f1 m)) 0 0 (va_A (va_pl L f) sz) := by
  refine Met.ofW (cc := cX11_law) (maxL := 2) (ret := (some .boolean)) (by decide) rfl ?_
  intro p e s m args below meth c s₁ B hml hv
  obtain ⟨rfl, rfl, hw⟩ := py_start hv
  have G : CallFix p m c cX11_law 2 s _ w_X11_law RX11 := ⟨B.exec, B.bytes, hml, findClass_of_methodNamed B.named, atoms_spec (ws := w_X11_law) B.pre⟩
  have hr := B.returns
  have hlk := B.notSynchronized
  have hl := lv_entry ([.ref h, .int a]) (n := 2) (Nat.le_of_ble_eq_true rfl)
  rw [lg_entry_eq]
  generalize (lg_sl ([.ref h, .int a]) ++ List.replicate (2 - (lg_sl ([.ref h, .int a])).length) Slot.unset).toArray = ls at hl ⊢
  have hl : lv_has ls 2 [(0, .ref h), (1, .int a)] := hl
  obtain ⟨tape, byt, vr, itm, dr, lr, dl, lws, nl, fo, va, tr, im, di, bu, se, mo, od, g, xd, xl, xf, xv, xi, xu, xs, hh, htape, hbyt, hvr, hdr, hxd, hlr, hdl, hxl, hfo, hxf, hf9, hf11, hva, hxv, hv8, hv9, hdi, hxi, hi2, hbu, hxu, hu3, hse, hxs⟩ := id hF
  have hMp : ∀ m, fr_M E L f m → fr_M E L f m := fun _ h => h
  refine lv_iload_n G.1 G.2.1 dX11_law_0 rfl (lv_at hl 1 rfl) ?_
  refine lv_iconst (v := (-1)) G.1 G.2.1 dX11_law_1 (by decide) ?_
  refine lv_icmp_eq (tgt := 15) G.1 G.2.1 dX11_law_2 (by decide) (fun c_1 => ?_) (fun c_1 => ?_)
  · skip
    subst c_1
    refine lv_aload_n G.1 G.2.1 dX11_law_15 rfl (lv_at hl 0 rfl) ?_
    refine lv_iload_n G.1 G.2.1 dX11_law_16 rfl (lv_at hl 1 rfl) ?_
    refine py_put (C := RX11) (T := TX11) (N := 16) (k := 14) (v := .int (-1)) (fs' := [.ref tape, .ref vr, .ref lr, .ref lws, .ref nl, .ref fo, .ref tr, .ref im, .ref di, .ref bu, .ref se, .ref mo, .ref od, .int 0, .int (-1), .int 0]) (ty0 := tyX11) G hw tyX11_ok nmX11 in_X11_law_X11 rfl hh (by decide) (by decide +kernel) rfl rfl rfl rfl (Nat.le_of_ble_eq_true rfl) rfl dX11_law_17 (fun f_2 H_3 locs h_4 x_5 hw => ?_)
    have hMp : ∀ m, fr_M E L f m → fr_M E L f_2 m := fun m h => fr_M_obj (hMp m h) hh (by decide) x_5
    have htape := htape.ext x_5 (py_ne_kind htape hh (by decide))
    have hbyt := hbyt.ext x_5 (Ne.symm (py_ne_arr hh hbyt))
    have hvr := hvr.ext x_5 (py_ne_kind hvr hh (by decide))
    have hdr := hdr.ext x_5 (py_ne_kind hdr hh (by decide))
    have hlr := hlr.ext x_5 (py_ne_kind hlr hh (by decide))
    have hdl := hdl.ext x_5 (py_ne_kind hdl hh (by decide))
    have hfo := hfo.ext x_5 (py_ne_kind hfo hh (by decide))
    have hva := hva.ext x_5 (py_ne_kind hva hh (by decide))
    have hdi := hdi.ext x_5 (py_ne_kind hdi hh (by decide))
    have hbu := hbu.ext x_5 (py_ne_kind hbu hh (by decide))
    have hse := hse.ext x_5 (py_ne_kind hse hh (by decide))
    refine lv_iconst (v := 1) G.1 G.2.1 dX11_law_20 (by decide) ?_
    exact py_iret G hr rfl hlk hw ⟨by simp [], hMp⟩ dX11_law_21
  · skip
    refine lv_aload_n G.1 G.2.1 dX11_law_5 rfl (lv_at hl 0 rfl) ?_
    refine lv_iload_n G.1 G.2.1 dX11_law_6 rfl (lv_at hl 1 rfl) ?_
    refine py_calli hw (va_runV (As := [.int a]) (rest := []) G (c_X11_isLaw l E L f s.heap.size h a hF) (cwV 1 G.2.2.2.2 g_X11_law_X11_isLaw_202 rfl rfl rfl (by decide +kernel) ⟨(Nat.le_of_ble_eq_true rfl), (Nat.le_of_ble_eq_true rfl)⟩) (py_preV hw (C := RX11) (T := TX11) (N := 16) rfl hh) rfl rfl hl.1 rfl (lv_room (Nat.le_of_ble_eq_true rfl)) dX11_law_7 ⟨(Nat.le_of_ble_eq_true rfl), (Nat.le_of_ble_eq_true rfl)⟩) (fun r_10 L_6 f_7 H_8 locs hp_9 hw => ?_)
    obtain ⟨rfl, rfl, rfl⟩ := hp_9
    refine lv_if_ne (tgt := 15) G.1 G.2.1 dX11_law_10 (by decide) (fun c_11 => ?_) (fun c_11 => ?_)
    · skip
      exact absurd c_11 (by decide)
    · skip
      refine lv_iconst (v := 0) G.1 G.2.1 dX11_law_13 (by decide) ?_
      exact py_iret G hr rfl hlk hw ⟨by simp [c_1, c_11], hMp⟩ dX11_law_14

def w_X11_set : List Cond := .code yX11_set cX11_set 3 (some .boolean) :: ([Cond.fieldLink RX11 67 "HeadYear" "buyings" "LHeadYear$Buyings;", Cond.fieldLink RX11 211 "HeadYear$Buyings" "price" "I", Cond.fieldLink RX11 74 "HeadYear" "seasons" "LHeadYear$Seasons;", Cond.fieldLink RX11 208 "HeadYear$Seasons" "luck" "Z", Cond.fieldLink RX11 205 "HeadYear$Seasons" "find" "I"] ++ (u_ws RX11 TX11 16 ++ (u_ws RX0 TX0 5 ++ (u_ws RX7 TX7 5 ++ ([])))))
theorem in_X11_set_X11 : ∀ w ∈ u_ws RX11 TX11 16, w ∈ w_X11_set := fun _ h => List.mem_cons_of_mem _ (List.mem_append_right _ (List.mem_append_left _ h))
theorem in_X11_set_X0 : ∀ w ∈ u_ws RX0 TX0 5, w ∈ w_X11_set := fun _ h => List.mem_cons_of_mem _ (List.mem_append_right _ (List.mem_append_right _ (List.mem_append_left _ h)))
theorem in_X11_set_X7 : ∀ w ∈ u_ws RX7 TX7 5, w ∈ w_X11_set := fun _ h => List.mem_cons_of_mem _ (List.mem_append_right _ (List.mem_append_right _ (List.mem_append_right _ (List.mem_append_left _ h))))
set_option maxHeartbeats 4000000 in
set_option maxRecDepth 100000 in
theorem c_X11_set (l : Launch) (E : py_E) (L : List Nat) (f : py_F) (sz : Nat) (h : Nat) (a : Int32) (b : Int32) (hF : fr_H E L f h) : Met l yX11_set w_X11_set ({ frames := 0, cells := 0, slots := 0, locals := 0 }) (py_Pc E [.ref h, .int a, .int b] L f sz) (py_Qi E L f sz (fun r L1 f1 => r = sp_set a b ∧ ∀ m, fr_M E L f m → fr_M E L1 f1 m)) 0 0 (va_A (va_pl L f) sz) := by
  refine Met.ofW (cc := cX11_set) (maxL := 3) (ret := (some .boolean)) (by decide) rfl ?_
  intro p e s m args below meth c s₁ B hml hv
  obtain ⟨rfl, rfl, hw⟩ := py_start hv
  have G : CallFix p m c cX11_set 3 s _ w_X11_set RX11 := ⟨B.exec, B.bytes, hml, findClass_of_methodNamed B.named, atoms_spec (ws := w_X11_set) B.pre⟩
  have hr := B.returns
  have hlk := B.notSynchronized
  have hl := lv_entry ([.ref h, .int a, .int b]) (n := 3) (Nat.le_of_ble_eq_true rfl)
  rw [lg_entry_eq]
  generalize (lg_sl ([.ref h, .int a, .int b]) ++ List.replicate (3 - (lg_sl ([.ref h, .int a, .int b])).length) Slot.unset).toArray = ls at hl ⊢
  have hl : lv_has ls 3 [(0, .ref h), (1, .int a), (2, .int b)] := hl
  obtain ⟨tape, byt, vr, itm, dr, lr, dl, lws, nl, fo, va, tr, im, di, bu, se, mo, od, g, xd, xl, xf, xv, xi, xu, xs, hh, htape, hbyt, hvr, hdr, hxd, hlr, hdl, hxl, hfo, hxf, hf9, hf11, hva, hxv, hv8, hv9, hdi, hxi, hi2, hbu, hxu, hu3, hse, hxs⟩ := id hF
  have hMp : ∀ m, fr_M E L f m → fr_M E L f m := fun _ h => h
  refine lv_iload_n G.1 G.2.1 dX11_set_0 rfl (lv_at hl 2 rfl) ?_
  refine lv_if_ge (tgt := 6) G.1 G.2.1 dX11_set_1 (by decide) (fun c_1 => ?_) (fun c_1 => ?_)
  · skip
    refine lv_iload_n G.1 G.2.1 dX11_set_6 rfl (lv_at hl 1 rfl) ?_
    refine lv_if_ne (tgt := 26) G.1 G.2.1 dX11_set_7 (by decide) (fun c_2 => ?_) (fun c_2 => ?_)
    · skip
      refine lv_iload_n G.1 G.2.1 dX11_set_26 rfl (lv_at hl 1 rfl) ?_
      refine lv_iconst (v := 1) G.1 G.2.1 dX11_set_27 (by decide) ?_
      refine lv_icmp_ne (tgt := 55) G.1 G.2.1 dX11_set_28 (by decide) (fun c_3 => ?_) (fun c_3 => ?_)
      · skip
        refine lv_iload_n G.1 G.2.1 dX11_set_55 rfl (lv_at hl 1 rfl) ?_
        refine lv_iconst (v := 2) G.1 G.2.1 dX11_set_56 (by decide) ?_
        refine lv_icmp_ne (tgt := 76) G.1 G.2.1 dX11_set_57 (by decide) (fun c_4 => ?_) (fun c_4 => ?_)
        · skip
          refine lv_iconst (v := 0) G.1 G.2.1 dX11_set_76 (by decide) ?_
          exact py_iret G hr rfl hlk hw ⟨by first | decide | exact absurd rfl c_1 | exact absurd rfl c_2 | exact absurd rfl c_3 | exact absurd rfl c_4 | (have h9 := Int32.not_lt.mp c_1; simp [sp_set, h9, c_1, c_2, c_3, c_4]; done) | (have h9 := Int32.not_lt.mp c_2; simp [sp_set, h9, c_1, c_2, c_3, c_4]; done) | (have h9 := Int32.not_lt.mp c_3; simp [sp_set, h9, c_1, c_2, c_3, c_4]; done) | (have h9 := Int32.not_lt.mp c_4; simp [sp_set, h9, c_1, c_2, c_3, c_4]; done) | (have z0 : (0 : Int32).toInt = 0 := rfl; have z1 : (1 : Int32).toInt = 1 := rfl; have z2 : (2 : Int32).toInt = 2 := rfl; have z3 : (99 : Int32).toInt = 99 := rfl; have z4 : (100 : Int32).toInt = 100 := rfl; simp only [sp_set, Int32.lt_iff_toInt_lt, Int32.le_iff_toInt_le, ← Int32.toInt_inj] at c_1 c_2 c_3 c_4 ⊢; split <;> first | rfl | omega), hMp⟩ dX11_set_77
        · skip
          subst c_4
          refine lv_iload_n G.1 G.2.1 dX11_set_60 rfl (lv_at hl 2 rfl) ?_
          refine lv_bipush (v := 99) G.1 G.2.1 dX11_set_61 (by decide) ?_
          refine lv_icmp_gt (tgt := 76) G.1 G.2.1 dX11_set_63 (by decide) (fun c_5 => ?_) (fun c_5 => ?_)
          · skip
            refine lv_iconst (v := 0) G.1 G.2.1 dX11_set_76 (by decide) ?_
            exact py_iret G hr rfl hlk hw ⟨by first | decide | exact absurd rfl c_1 | exact absurd rfl c_2 | exact absurd rfl c_3 | exact absurd rfl c_5 | (have h9 := Int32.not_lt.mp c_1; simp [sp_set, h9, c_1, c_2, c_3, c_5]; done) | (have h9 := Int32.not_lt.mp c_2; simp [sp_set, h9, c_1, c_2, c_3, c_5]; done) | (have h9 := Int32.not_lt.mp c_3; simp [sp_set, h9, c_1, c_2, c_3, c_5]; done) | (have h9 := Int32.not_lt.mp c_5; simp [sp_set, h9, c_1, c_2, c_3, c_5]; done) | (have z0 : (0 : Int32).toInt = 0 := rfl; have z1 : (1 : Int32).toInt = 1 := rfl; have z2 : (2 : Int32).toInt = 2 := rfl; have z3 : (99 : Int32).toInt = 99 := rfl; have z4 : (100 : Int32).toInt = 100 := rfl; simp only [sp_set, Int32.lt_iff_toInt_lt, Int32.le_iff_toInt_le, ← Int32.toInt_inj] at c_1 c_2 c_3 c_5 ⊢; split <;> first | rfl | omega), hMp⟩ dX11_set_77
          · skip
            refine lv_aload_n G.1 G.2.1 dX11_set_66 rfl (lv_at hl 0 rfl) ?_
            refine py_get (C := RX11) (T := TX11) (N := 16) (k := 9) (v := .ref bu) G hw in_X11_set_X11 rfl hh (by decide) (by decide +kernel) rfl dX11_set_67 ?_
            refine lv_iload_n G.1 G.2.1 dX11_set_70 rfl (lv_at hl 2 rfl) ?_
            refine py_put (C := RX0) (T := TX0) (N := 5) (k := 4) (v := .int b) (fs' := xu.set 4 (.int b)) (ty0 := tyX0) G hw tyX0_ok nmX0 in_X11_set_X0 rfl hbu (by decide) (by decide +kernel) rfl rfl rfl rfl (py_len hxu (by decide)) rfl dX11_set_71 (fun f_6 H_7 locs h_8 x_9 hw => ?_)
            obtain ⟨xs_10, exs_10⟩ : ∃ y, y = xu.set 4 (.int b) := ⟨_, rfl⟩
            rw [← exs_10] at h_8
            have hl_11 : xs_10.length = 5 := by rw [exs_10, List.length_set]; exact hxu
            have hp_12 : xs_10[3]? = some (.int 0) := by rw [exs_10, List.getElem?_set_ne (by decide)]; exact hu3
            have hp_13 : xs_10[4]? = some (.int b) := by rw [exs_10, List.getElem?_set_self (by rw [hxu]; decide)]
            have hMp : ∀ m, fr_M E L f m → fr_M E L f_6 m := fun m h => fr_M_obj (hMp m h) hbu (by decide) x_9
            have hh := hh.ext x_9 (py_ne_kind hh hbu (by decide))
            have htape := htape.ext x_9 (py_ne_kind htape hbu (by decide))
            have hbyt := hbyt.ext x_9 (Ne.symm (py_ne_arr hbu hbyt))
            have hvr := hvr.ext x_9 (py_ne_kind hvr hbu (by decide))
            have hdr := hdr.ext x_9 (py_ne_kind hdr hbu (by decide))
            have hlr := hlr.ext x_9 (py_ne_kind hlr hbu (by decide))
            have hdl := hdl.ext x_9 (py_ne_kind hdl hbu (by decide))
            have hfo := hfo.ext x_9 (py_ne_kind hfo hbu (by decide))
            have hva := hva.ext x_9 (py_ne_kind hva hbu (by decide))
            have hdi := hdi.ext x_9 (py_ne_kind hdi hbu (by decide))
            have hse := hse.ext x_9 (py_ne_kind hse hbu (by decide))
            refine lv_iconst (v := 1) G.1 G.2.1 dX11_set_74 (by decide) ?_
            exact py_iret G hr rfl hlk hw ⟨by first | decide | exact absurd rfl c_1 | exact absurd rfl c_2 | exact absurd rfl c_3 | exact absurd rfl c_5 | (have h9 := Int32.not_lt.mp c_1; simp [sp_set, h9, c_1, c_2, c_3, c_5]; done) | (have h9 := Int32.not_lt.mp c_2; simp [sp_set, h9, c_1, c_2, c_3, c_5]; done) | (have h9 := Int32.not_lt.mp c_3; simp [sp_set, h9, c_1, c_2, c_3, c_5]; done) | (have h9 := Int32.not_lt.mp c_5; simp [sp_set, h9, c_1, c_2, c_3, c_5]; done) | (have z0 : (0 : Int32).toInt = 0 := rfl; have z1 : (1 : Int32).toInt = 1 := rfl; have z2 : (2 : Int32).toInt = 2 := rfl; have z3 : (99 : Int32).toInt = 99 := rfl; have z4 : (100 : Int32).toInt = 100 := rfl; simp only [sp_set, Int32.lt_iff_toInt_lt, Int32.le_iff_toInt_le, ← Int32.toInt_inj] at c_1 c_2 c_3 c_5 ⊢; split <;> first | rfl | omega), hMp⟩ dX11_set_75
      · skip
        subst c_3
        refine lv_iload_n G.1 G.2.1 dX11_set_31 rfl (lv_at hl 2 rfl) ?_
        refine lv_iconst (v := 1) G.1 G.2.1 dX11_set_32 (by decide) ?_
        refine lv_icmp_gt (tgt := 55) G.1 G.2.1 dX11_set_33 (by decide) (fun c_14 => ?_) (fun c_14 => ?_)
        · skip
          refine lv_iload_n G.1 G.2.1 dX11_set_55 rfl (lv_at hl 1 rfl) ?_
          refine lv_iconst (v := 2) G.1 G.2.1 dX11_set_56 (by decide) ?_
          refine lv_icmp_ne (tgt := 76) G.1 G.2.1 dX11_set_57 (by decide) (fun c_15 => ?_) (fun c_15 => ?_)
          · skip
            refine lv_iconst (v := 0) G.1 G.2.1 dX11_set_76 (by decide) ?_
            exact py_iret G hr rfl hlk hw ⟨by first | decide | exact absurd rfl c_1 | exact absurd rfl c_2 | exact absurd rfl c_14 | exact absurd rfl c_15 | (have h9 := Int32.not_lt.mp c_1; simp [sp_set, h9, c_1, c_2, c_14, c_15]; done) | (have h9 := Int32.not_lt.mp c_2; simp [sp_set, h9, c_1, c_2, c_14, c_15]; done) | (have h9 := Int32.not_lt.mp c_14; simp [sp_set, h9, c_1, c_2, c_14, c_15]; done) | (have h9 := Int32.not_lt.mp c_15; simp [sp_set, h9, c_1, c_2, c_14, c_15]; done) | (have z0 : (0 : Int32).toInt = 0 := rfl; have z1 : (1 : Int32).toInt = 1 := rfl; have z2 : (2 : Int32).toInt = 2 := rfl; have z3 : (99 : Int32).toInt = 99 := rfl; have z4 : (100 : Int32).toInt = 100 := rfl; simp only [sp_set, Int32.lt_iff_toInt_lt, Int32.le_iff_toInt_le, ← Int32.toInt_inj] at c_1 c_2 c_14 c_15 ⊢; split <;> first | rfl | omega), hMp⟩ dX11_set_77
          · skip
            exact absurd c_15 (by decide)
        · skip
          refine lv_aload_n G.1 G.2.1 dX11_set_36 rfl (lv_at hl 0 rfl) ?_
          refine py_get (C := RX11) (T := TX11) (N := 16) (k := 10) (v := .ref se) G hw in_X11_set_X11 rfl hh (by decide) (by decide +kernel) rfl dX11_set_37 ?_
          refine lv_iload_n G.1 G.2.1 dX11_set_40 rfl (lv_at hl 2 rfl) ?_
          refine lv_iconst (v := 1) G.1 G.2.1 dX11_set_41 (by decide) ?_
          refine lv_icmp_ne (tgt := 49) G.1 G.2.1 dX11_set_42 (by decide) (fun c_16 => ?_) (fun c_16 => ?_)
          · skip
            refine lv_iconst (v := 0) G.1 G.2.1 dX11_set_49 (by decide) ?_
            refine py_put (C := RX7) (T := TX7) (N := 5) (k := 4) (v := .int 0) (fs' := xs.set 4 (.int 0)) (ty0 := tyX7) G hw tyX7_ok nmX7 in_X11_set_X7 rfl hse (by decide) (by decide +kernel) rfl rfl rfl rfl (py_len hxs (by decide)) rfl dX11_set_50 (fun f_17 H_18 locs h_19 x_20 hw => ?_)
            obtain ⟨xs_21, exs_21⟩ : ∃ y, y = xs.set 4 (.int 0) := ⟨_, rfl⟩
            rw [← exs_21] at h_19
            have hl_22 : xs_21.length = 5 := by rw [exs_21, List.length_set]; exact hxs
            have hp_23 : xs_21[4]? = some (.int 0) := by rw [exs_21, List.getElem?_set_self (by rw [hxs]; decide)]
            have hMp : ∀ m, fr_M E L f m → fr_M E L f_17 m := fun m h => fr_M_obj (hMp m h) hse (by decide) x_20
            have hh := hh.ext x_20 (py_ne_kind hh hse (by decide))
            have htape := htape.ext x_20 (py_ne_kind htape hse (by decide))
            have hbyt := hbyt.ext x_20 (Ne.symm (py_ne_arr hse hbyt))
            have hvr := hvr.ext x_20 (py_ne_kind hvr hse (by decide))
            have hdr := hdr.ext x_20 (py_ne_kind hdr hse (by decide))
            have hlr := hlr.ext x_20 (py_ne_kind hlr hse (by decide))
            have hdl := hdl.ext x_20 (py_ne_kind hdl hse (by decide))
            have hfo := hfo.ext x_20 (py_ne_kind hfo hse (by decide))
            have hva := hva.ext x_20 (py_ne_kind hva hse (by decide))
            have hdi := hdi.ext x_20 (py_ne_kind hdi hse (by decide))
            have hbu := hbu.ext x_20 (py_ne_kind hbu hse (by decide))
            refine lv_iconst (v := 1) G.1 G.2.1 dX11_set_53 (by decide) ?_
            exact py_iret G hr rfl hlk hw ⟨by first | decide | exact absurd rfl c_1 | exact absurd rfl c_2 | exact absurd rfl c_14 | exact absurd rfl c_16 | (have h9 := Int32.not_lt.mp c_1; simp [sp_set, h9, c_1, c_2, c_14, c_16]; done) | (have h9 := Int32.not_lt.mp c_2; simp [sp_set, h9, c_1, c_2, c_14, c_16]; done) | (have h9 := Int32.not_lt.mp c_14; simp [sp_set, h9, c_1, c_2, c_14, c_16]; done) | (have h9 := Int32.not_lt.mp c_16; simp [sp_set, h9, c_1, c_2, c_14, c_16]; done) | (have z0 : (0 : Int32).toInt = 0 := rfl; have z1 : (1 : Int32).toInt = 1 := rfl; have z2 : (2 : Int32).toInt = 2 := rfl; have z3 : (99 : Int32).toInt = 99 := rfl; have z4 : (100 : Int32).toInt = 100 := rfl; simp only [sp_set, Int32.lt_iff_toInt_lt, Int32.le_iff_toInt_le, ← Int32.toInt_inj] at c_1 c_2 c_14 c_16 ⊢; split <;> first | rfl | omega), hMp⟩ dX11_set_54
          · skip
            subst c_16
            refine lv_iconst (v := 1) G.1 G.2.1 dX11_set_45 (by decide) ?_
            refine lv_goto (tgt := 50) G.1 G.2.1 dX11_set_46 (by decide) ?_
            refine py_put (C := RX7) (T := TX7) (N := 5) (k := 4) (v := .int 1) (fs' := xs.set 4 (.int 1)) (ty0 := tyX7) G hw tyX7_ok nmX7 in_X11_set_X7 rfl hse (by decide) (by decide +kernel) rfl rfl rfl rfl (py_len hxs (by decide)) rfl dX11_set_50 (fun f_24 H_25 locs h_26 x_27 hw => ?_)
            obtain ⟨xs_28, exs_28⟩ : ∃ y, y = xs.set 4 (.int 1) := ⟨_, rfl⟩
            rw [← exs_28] at h_26
            have hl_29 : xs_28.length = 5 := by rw [exs_28, List.length_set]; exact hxs
            have hp_30 : xs_28[4]? = some (.int 1) := by rw [exs_28, List.getElem?_set_self (by rw [hxs]; decide)]
            have hMp : ∀ m, fr_M E L f m → fr_M E L f_24 m := fun m h => fr_M_obj (hMp m h) hse (by decide) x_27
            have hh := hh.ext x_27 (py_ne_kind hh hse (by decide))
            have htape := htape.ext x_27 (py_ne_kind htape hse (by decide))
            have hbyt := hbyt.ext x_27 (Ne.symm (py_ne_arr hse hbyt))
            have hvr := hvr.ext x_27 (py_ne_kind hvr hse (by decide))
            have hdr := hdr.ext x_27 (py_ne_kind hdr hse (by decide))
            have hlr := hlr.ext x_27 (py_ne_kind hlr hse (by decide))
            have hdl := hdl.ext x_27 (py_ne_kind hdl hse (by decide))
            have hfo := hfo.ext x_27 (py_ne_kind hfo hse (by decide))
            have hva := hva.ext x_27 (py_ne_kind hva hse (by decide))
            have hdi := hdi.ext x_27 (py_ne_kind hdi hse (by decide))
            have hbu := hbu.ext x_27 (py_ne_kind hbu hse (by decide))
            refine lv_iconst (v := 1) G.1 G.2.1 dX11_set_53 (by decide) ?_
            exact py_iret G hr rfl hlk hw ⟨by first | decide | exact absurd rfl c_1 | exact absurd rfl c_2 | exact absurd rfl c_14 | (have h9 := Int32.not_lt.mp c_1; simp [sp_set, h9, c_1, c_2, c_14]; done) | (have h9 := Int32.not_lt.mp c_2; simp [sp_set, h9, c_1, c_2, c_14]; done) | (have h9 := Int32.not_lt.mp c_14; simp [sp_set, h9, c_1, c_2, c_14]; done) | (have z0 : (0 : Int32).toInt = 0 := rfl; have z1 : (1 : Int32).toInt = 1 := rfl; have z2 : (2 : Int32).toInt = 2 := rfl; have z3 : (99 : Int32).toInt = 99 := rfl; have z4 : (100 : Int32).toInt = 100 := rfl; simp only [sp_set, Int32.lt_iff_toInt_lt, Int32.le_iff_toInt_le, ← Int32.toInt_inj] at c_1 c_2 c_14 ⊢; split <;> first | rfl | omega), hMp⟩ dX11_set_54
    · skip
      subst c_2
      refine lv_iload_n G.1 G.2.1 dX11_set_10 rfl (lv_at hl 2 rfl) ?_
      refine lv_bipush (v := 100) G.1 G.2.1 dX11_set_11 (by decide) ?_
      refine lv_icmp_gt (tgt := 26) G.1 G.2.1 dX11_set_13 (by decide) (fun c_31 => ?_) (fun c_31 => ?_)
      · skip
        refine lv_iload_n G.1 G.2.1 dX11_set_26 rfl (lv_at hl 1 rfl) ?_
        refine lv_iconst (v := 1) G.1 G.2.1 dX11_set_27 (by decide) ?_
        refine lv_icmp_ne (tgt := 55) G.1 G.2.1 dX11_set_28 (by decide) (fun c_32 => ?_) (fun c_32 => ?_)
        · skip
          refine lv_iload_n G.1 G.2.1 dX11_set_55 rfl (lv_at hl 1 rfl) ?_
          refine lv_iconst (v := 2) G.1 G.2.1 dX11_set_56 (by decide) ?_
          refine lv_icmp_ne (tgt := 76) G.1 G.2.1 dX11_set_57 (by decide) (fun c_33 => ?_) (fun c_33 => ?_)
          · skip
            refine lv_iconst (v := 0) G.1 G.2.1 dX11_set_76 (by decide) ?_
            exact py_iret G hr rfl hlk hw ⟨by first | decide | exact absurd rfl c_1 | exact absurd rfl c_31 | exact absurd rfl c_32 | exact absurd rfl c_33 | (have h9 := Int32.not_lt.mp c_1; simp [sp_set, h9, c_1, c_31, c_32, c_33]; done) | (have h9 := Int32.not_lt.mp c_31; simp [sp_set, h9, c_1, c_31, c_32, c_33]; done) | (have h9 := Int32.not_lt.mp c_32; simp [sp_set, h9, c_1, c_31, c_32, c_33]; done) | (have h9 := Int32.not_lt.mp c_33; simp [sp_set, h9, c_1, c_31, c_32, c_33]; done) | (have z0 : (0 : Int32).toInt = 0 := rfl; have z1 : (1 : Int32).toInt = 1 := rfl; have z2 : (2 : Int32).toInt = 2 := rfl; have z3 : (99 : Int32).toInt = 99 := rfl; have z4 : (100 : Int32).toInt = 100 := rfl; simp only [sp_set, Int32.lt_iff_toInt_lt, Int32.le_iff_toInt_le, ← Int32.toInt_inj] at c_1 c_31 c_32 c_33 ⊢; split <;> first | rfl | omega), hMp⟩ dX11_set_77
          · skip
            exact absurd c_33 (by decide)
        · skip
          exact absurd c_32 (by decide)
      · skip
        refine lv_aload_n G.1 G.2.1 dX11_set_16 rfl (lv_at hl 0 rfl) ?_
        refine py_get (C := RX11) (T := TX11) (N := 16) (k := 10) (v := .ref se) G hw in_X11_set_X11 rfl hh (by decide) (by decide +kernel) rfl dX11_set_17 ?_
        refine lv_iload_n G.1 G.2.1 dX11_set_20 rfl (lv_at hl 2 rfl) ?_
        refine py_put (C := RX7) (T := TX7) (N := 5) (k := 3) (v := .int b) (fs' := xs.set 3 (.int b)) (ty0 := tyX7) G hw tyX7_ok nmX7 in_X11_set_X7 rfl hse (by decide) (by decide +kernel) rfl rfl rfl rfl (py_len hxs (by decide)) rfl dX11_set_21 (fun f_34 H_35 locs h_36 x_37 hw => ?_)
        obtain ⟨xs_38, exs_38⟩ : ∃ y, y = xs.set 3 (.int b) := ⟨_, rfl⟩
        rw [← exs_38] at h_36
        have hl_39 : xs_38.length = 5 := by rw [exs_38, List.length_set]; exact hxs
        have hp_40 : xs_38[3]? = some (.int b) := by rw [exs_38, List.getElem?_set_self (by rw [hxs]; decide)]
        have hMp : ∀ m, fr_M E L f m → fr_M E L f_34 m := fun m h => fr_M_obj (hMp m h) hse (by decide) x_37
        have hh := hh.ext x_37 (py_ne_kind hh hse (by decide))
        have htape := htape.ext x_37 (py_ne_kind htape hse (by decide))
        have hbyt := hbyt.ext x_37 (Ne.symm (py_ne_arr hse hbyt))
        have hvr := hvr.ext x_37 (py_ne_kind hvr hse (by decide))
        have hdr := hdr.ext x_37 (py_ne_kind hdr hse (by decide))
        have hlr := hlr.ext x_37 (py_ne_kind hlr hse (by decide))
        have hdl := hdl.ext x_37 (py_ne_kind hdl hse (by decide))
        have hfo := hfo.ext x_37 (py_ne_kind hfo hse (by decide))
        have hva := hva.ext x_37 (py_ne_kind hva hse (by decide))
        have hdi := hdi.ext x_37 (py_ne_kind hdi hse (by decide))
        have hbu := hbu.ext x_37 (py_ne_kind hbu hse (by decide))
        refine lv_iconst (v := 1) G.1 G.2.1 dX11_set_24 (by decide) ?_
        exact py_iret G hr rfl hlk hw ⟨by first | decide | exact absurd rfl c_1 | exact absurd rfl c_31 | (have h9 := Int32.not_lt.mp c_1; simp [sp_set, h9, c_1, c_31]; done) | (have h9 := Int32.not_lt.mp c_31; simp [sp_set, h9, c_1, c_31]; done) | (have z0 : (0 : Int32).toInt = 0 := rfl; have z1 : (1 : Int32).toInt = 1 := rfl; have z2 : (2 : Int32).toInt = 2 := rfl; have z3 : (99 : Int32).toInt = 99 := rfl; have z4 : (100 : Int32).toInt = 100 := rfl; simp only [sp_set, Int32.lt_iff_toInt_lt, Int32.le_iff_toInt_le, ← Int32.toInt_inj] at c_1 c_31 ⊢; split <;> first | rfl | omega), hMp⟩ dX11_set_25
  · skip
    refine lv_iconst (v := 0) G.1 G.2.1 dX11_set_4 (by decide) ?_
    exact py_iret G hr rfl hlk hw ⟨by first | decide | exact absurd rfl c_1 | (have h9 := Int32.not_lt.mp c_1; simp [sp_set, h9, c_1]; done) | (have z0 : (0 : Int32).toInt = 0 := rfl; have z1 : (1 : Int32).toInt = 1 := rfl; have z2 : (2 : Int32).toInt = 2 := rfl; have z3 : (99 : Int32).toInt = 99 := rfl; have z4 : (100 : Int32).toInt = 100 := rfl; simp only [sp_set, Int32.lt_iff_toInt_lt, Int32.le_iff_toInt_le, ← Int32.toInt_inj] at c_1 ⊢; split <;> first | rfl | omega), hMp⟩ dX11_set_5
