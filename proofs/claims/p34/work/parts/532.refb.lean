theorem dX12_copy_0 : decode cX12_copy 0 = .ok (.iconst 0, 1) := by decide +kernel
theorem dX12_copy_1 : decode cX12_copy 1 = .ok (.istore_n 2, 1) := by decide +kernel
theorem dX12_copy_2 : decode cX12_copy 2 = .ok (.iload_n 2, 1) := by decide +kernel
theorem dX12_copy_3 : decode cX12_copy 3 = .ok (.bipush 90, 2) := by decide +kernel
theorem dX12_copy_5 : decode cX12_copy 5 = .ok (.if_icmp .ge 15, 3) := by decide +kernel
theorem dX12_copy_8 : decode cX12_copy 8 = .ok (.aload_n 1, 1) := by decide +kernel
theorem dX12_copy_9 : decode cX12_copy 9 = .ok (.iload_n 2, 1) := by decide +kernel
theorem dX12_copy_10 : decode cX12_copy 10 = .ok (.aload_n 0, 1) := by decide +kernel
theorem dX12_copy_11 : decode cX12_copy 11 = .ok (.iload_n 2, 1) := by decide +kernel
theorem dX12_copy_12 : decode cX12_copy 12 = .ok (.iaload, 1) := by decide +kernel
theorem dX12_copy_13 : decode cX12_copy 13 = .ok (.iastore, 1) := by decide +kernel
theorem dX12_copy_14 : decode cX12_copy 14 = .ok (.iinc 2 1, 3) := by decide +kernel
theorem dX12_copy_17 : decode cX12_copy 17 = .ok (.goto (-15), 3) := by decide +kernel
theorem dX12_copy_20 : decode cX12_copy 20 = .ok (.return_, 1) := by decide +kernel
theorem dX12_empties_0 : decode cX12_empties 0 = .ok (.iconst 0, 1) := by decide +kernel
theorem dX12_empties_1 : decode cX12_empties 1 = .ok (.istore_n 2, 1) := by decide +kernel
theorem dX12_empties_2 : decode cX12_empties 2 = .ok (.aload_n 0, 1) := by decide +kernel
theorem dX12_empties_3 : decode cX12_empties 3 = .ok (.iload_n 1, 1) := by decide +kernel
theorem dX12_empties_4 : decode cX12_empties 4 = .ok (.iload_n 2, 1) := by decide +kernel
theorem dX12_empties_5 : decode cX12_empties 5 = .ok (.invokevirtual 299, 3) := by decide +kernel
theorem dX12_empties_8 : decode cX12_empties 8 = .ok (.iconst (-1), 1) := by decide +kernel
theorem dX12_empties_9 : decode cX12_empties 9 = .ok (.if_icmp .eq 9, 3) := by decide +kernel
theorem dX12_empties_12 : decode cX12_empties 12 = .ok (.iinc 2 1, 3) := by decide +kernel
theorem dX12_empties_15 : decode cX12_empties 15 = .ok (.goto (-13), 3) := by decide +kernel
theorem dX12_empties_18 : decode cX12_empties 18 = .ok (.iload_n 2, 1) := by decide +kernel
theorem dX12_empties_19 : decode cX12_empties 19 = .ok (.ireturn, 1) := by decide +kernel
theorem dX12_emptyHut_0 : decode cX12_emptyHut 0 = .ok (.iconst 0, 1) := by decide +kernel
theorem dX12_emptyHut_1 : decode cX12_emptyHut 1 = .ok (.istore_n 3, 1) := by decide +kernel
theorem dX12_emptyHut_2 : decode cX12_emptyHut 2 = .ok (.iconst 0, 1) := by decide +kernel
theorem dX12_emptyHut_3 : decode cX12_emptyHut 3 = .ok (.istore 4, 2) := by decide +kernel
theorem dX12_emptyHut_5 : decode cX12_emptyHut 5 = .ok (.iload 4, 2) := by decide +kernel
theorem dX12_emptyHut_7 : decode cX12_emptyHut 7 = .ok (.aload_n 0, 1) := by decide +kernel
theorem dX12_emptyHut_8 : decode cX12_emptyHut 8 = .ok (.iload_n 1, 1) := by decide +kernel
theorem dX12_emptyHut_9 : decode cX12_emptyHut 9 = .ok (.iconst 0, 1) := by decide +kernel
theorem dX12_emptyHut_10 : decode cX12_emptyHut 10 = .ok (.invokevirtual 293, 3) := by decide +kernel
theorem dX12_emptyHut_13 : decode cX12_emptyHut 13 = .ok (.if_icmp .ge 31, 3) := by decide +kernel
theorem dX12_emptyHut_16 : decode cX12_emptyHut 16 = .ok (.aload_n 0, 1) := by decide +kernel
theorem dX12_emptyHut_17 : decode cX12_emptyHut 17 = .ok (.iload_n 1, 1) := by decide +kernel
theorem dX12_emptyHut_18 : decode cX12_emptyHut 18 = .ok (.iload 4, 2) := by decide +kernel
theorem dX12_emptyHut_20 : decode cX12_emptyHut 20 = .ok (.invokevirtual 296, 3) := by decide +kernel
theorem dX12_emptyHut_23 : decode cX12_emptyHut 23 = .ok (.iconst (-1), 1) := by decide +kernel
theorem dX12_emptyHut_24 : decode cX12_emptyHut 24 = .ok (.if_icmp .ne 14, 3) := by decide +kernel
theorem dX12_emptyHut_27 : decode cX12_emptyHut 27 = .ok (.iload_n 3, 1) := by decide +kernel
theorem dX12_emptyHut_28 : decode cX12_emptyHut 28 = .ok (.iload_n 2, 1) := by decide +kernel
theorem dX12_emptyHut_29 : decode cX12_emptyHut 29 = .ok (.if_icmp .ne 6, 3) := by decide +kernel
theorem dX12_emptyHut_32 : decode cX12_emptyHut 32 = .ok (.iload 4, 2) := by decide +kernel
theorem dX12_emptyHut_34 : decode cX12_emptyHut 34 = .ok (.ireturn, 1) := by decide +kernel
theorem dX12_emptyHut_35 : decode cX12_emptyHut 35 = .ok (.iinc 3 1, 3) := by decide +kernel
theorem dX12_emptyHut_38 : decode cX12_emptyHut 38 = .ok (.iinc 4 1, 3) := by decide +kernel
theorem dX12_emptyHut_41 : decode cX12_emptyHut 41 = .ok (.goto (-36), 3) := by decide +kernel
theorem dX12_emptyHut_44 : decode cX12_emptyHut 44 = .ok (.iconst (-1), 1) := by decide +kernel
theorem dX12_emptyHut_45 : decode cX12_emptyHut 45 = .ok (.ireturn, 1) := by decide +kernel
theorem dX12_goer_0 : decode cX12_goer 0 = .ok (.iconst 0, 1) := by decide +kernel
theorem dX12_goer_1 : decode cX12_goer 1 = .ok (.istore_n 1, 1) := by decide +kernel
theorem dX12_goer_2 : decode cX12_goer 2 = .ok (.iload_n 1, 1) := by decide +kernel
theorem dX12_goer_3 : decode cX12_goer 3 = .ok (.aload_n 0, 1) := by decide +kernel
theorem dX12_goer_4 : decode cX12_goer 4 = .ok (.getfield 290, 3) := by decide +kernel
theorem dX12_goer_7 : decode cX12_goer 7 = .ok (.if_icmp .ge 31, 3) := by decide +kernel
theorem dX12_goer_10 : decode cX12_goer 10 = .ok (.aload_n 0, 1) := by decide +kernel
theorem dX12_goer_11 : decode cX12_goer 11 = .ok (.iload_n 1, 1) := by decide +kernel
theorem dX12_goer_12 : decode cX12_goer 12 = .ok (.invokevirtual 382, 3) := by decide +kernel
theorem dX12_goer_15 : decode cX12_goer 15 = .ok (.ifCond .eq 17, 3) := by decide +kernel
theorem dX12_goer_18 : decode cX12_goer 18 = .ok (.aload_n 0, 1) := by decide +kernel
theorem dX12_goer_19 : decode cX12_goer 19 = .ok (.aload_n 0, 1) := by decide +kernel
theorem dX12_goer_20 : decode cX12_goer 20 = .ok (.iload_n 1, 1) := by decide +kernel
theorem dX12_goer_21 : decode cX12_goer 21 = .ok (.invokevirtual 351, 3) := by decide +kernel
theorem dX12_goer_24 : decode cX12_goer 24 = .ok (.invokevirtual 333, 3) := by decide +kernel
theorem dX12_goer_27 : decode cX12_goer 27 = .ok (.ifCond .le 5, 3) := by decide +kernel
theorem dX12_goer_30 : decode cX12_goer 30 = .ok (.iload_n 1, 1) := by decide +kernel
theorem dX12_goer_31 : decode cX12_goer 31 = .ok (.ireturn, 1) := by decide +kernel
theorem dX12_goer_32 : decode cX12_goer 32 = .ok (.iinc 1 1, 3) := by decide +kernel
theorem dX12_goer_35 : decode cX12_goer 35 = .ok (.goto (-33), 3) := by decide +kernel
theorem dX12_goer_38 : decode cX12_goer 38 = .ok (.iconst (-1), 1) := by decide +kernel
theorem dX12_goer_39 : decode cX12_goer 39 = .ok (.ireturn, 1) := by decide +kernel
theorem dX12_gones_0 : decode cX12_gones 0 = .ok (.iconst 0, 1) := by decide +kernel
theorem dX12_gones_1 : decode cX12_gones 1 = .ok (.istore_n 1, 1) := by decide +kernel
theorem dX12_gones_2 : decode cX12_gones 2 = .ok (.iconst 0, 1) := by decide +kernel
theorem dX12_gones_3 : decode cX12_gones 3 = .ok (.istore_n 2, 1) := by decide +kernel
theorem dX12_gones_4 : decode cX12_gones 4 = .ok (.iload_n 2, 1) := by decide +kernel
theorem dX12_gones_5 : decode cX12_gones 5 = .ok (.aload_n 0, 1) := by decide +kernel
theorem dX12_gones_6 : decode cX12_gones 6 = .ok (.getfield 290, 3) := by decide +kernel
theorem dX12_gones_9 : decode cX12_gones 9 = .ok (.if_icmp .ge 25, 3) := by decide +kernel
theorem dX12_gones_12 : decode cX12_gones 12 = .ok (.iload_n 1, 1) := by decide +kernel
theorem dX12_gones_13 : decode cX12_gones 13 = .ok (.aload_n 0, 1) := by decide +kernel
theorem dX12_gones_14 : decode cX12_gones 14 = .ok (.iload_n 2, 1) := by decide +kernel
theorem dX12_gones_15 : decode cX12_gones 15 = .ok (.invokevirtual 341, 3) := by decide +kernel
theorem dX12_gones_18 : decode cX12_gones 18 = .ok (.ifCond .eq 7, 3) := by decide +kernel
theorem dX12_gones_21 : decode cX12_gones 21 = .ok (.iconst 1, 1) := by decide +kernel
theorem dX12_gones_22 : decode cX12_gones 22 = .ok (.goto 4, 3) := by decide +kernel
theorem dX12_gones_25 : decode cX12_gones 25 = .ok (.iconst 0, 1) := by decide +kernel
theorem dX12_gones_26 : decode cX12_gones 26 = .ok (.iadd, 1) := by decide +kernel
theorem dX12_gones_27 : decode cX12_gones 27 = .ok (.istore_n 1, 1) := by decide +kernel
theorem dX12_gones_28 : decode cX12_gones 28 = .ok (.iinc 2 1, 3) := by decide +kernel
theorem dX12_gones_31 : decode cX12_gones 31 = .ok (.goto (-27), 3) := by decide +kernel
theorem dX12_gones_34 : decode cX12_gones 34 = .ok (.iload_n 1, 1) := by decide +kernel
theorem dX12_gones_35 : decode cX12_gones 35 = .ok (.ireturn, 1) := by decide +kernel
theorem dX12_headsAt_0 : decode cX12_headsAt 0 = .ok (.iconst 0, 1) := by decide +kernel
theorem dX12_headsAt_1 : decode cX12_headsAt 1 = .ok (.istore_n 2, 1) := by decide +kernel
theorem dX12_headsAt_2 : decode cX12_headsAt 2 = .ok (.iconst 0, 1) := by decide +kernel
theorem dX12_headsAt_3 : decode cX12_headsAt 3 = .ok (.istore_n 3, 1) := by decide +kernel
theorem dX12_headsAt_4 : decode cX12_headsAt 4 = .ok (.iload_n 3, 1) := by decide +kernel
theorem dX12_headsAt_5 : decode cX12_headsAt 5 = .ok (.aload_n 0, 1) := by decide +kernel
theorem dX12_headsAt_6 : decode cX12_headsAt 6 = .ok (.getfield 290, 3) := by decide +kernel
theorem dX12_headsAt_9 : decode cX12_headsAt 9 = .ok (.if_icmp .ge 32, 3) := by decide +kernel
theorem dX12_headsAt_12 : decode cX12_headsAt 12 = .ok (.iload_n 2, 1) := by decide +kernel
theorem dX12_headsAt_13 : decode cX12_headsAt 13 = .ok (.aload_n 0, 1) := by decide +kernel
theorem dX12_headsAt_14 : decode cX12_headsAt 14 = .ok (.iload_n 3, 1) := by decide +kernel
theorem dX12_headsAt_15 : decode cX12_headsAt 15 = .ok (.iconst 1, 1) := by decide +kernel
theorem dX12_headsAt_16 : decode cX12_headsAt 16 = .ok (.invokevirtual 287, 3) := by decide +kernel
theorem dX12_headsAt_19 : decode cX12_headsAt 19 = .ok (.iload_n 1, 1) := by decide +kernel
theorem dX12_headsAt_20 : decode cX12_headsAt 20 = .ok (.if_icmp .ne 12, 3) := by decide +kernel
theorem dX12_headsAt_23 : decode cX12_headsAt 23 = .ok (.aload_n 0, 1) := by decide +kernel
theorem dX12_headsAt_24 : decode cX12_headsAt 24 = .ok (.iload_n 3, 1) := by decide +kernel
theorem dX12_headsAt_25 : decode cX12_headsAt 25 = .ok (.iconst 0, 1) := by decide +kernel
theorem dX12_headsAt_26 : decode cX12_headsAt 26 = .ok (.invokevirtual 287, 3) := by decide +kernel
theorem dX12_headsAt_29 : decode cX12_headsAt 29 = .ok (.goto 4, 3) := by decide +kernel
theorem dX12_headsAt_32 : decode cX12_headsAt 32 = .ok (.iconst 0, 1) := by decide +kernel
theorem dX12_headsAt_33 : decode cX12_headsAt 33 = .ok (.iadd, 1) := by decide +kernel
theorem dX12_headsAt_34 : decode cX12_headsAt 34 = .ok (.istore_n 2, 1) := by decide +kernel
theorem dX12_headsAt_35 : decode cX12_headsAt 35 = .ok (.iinc 3 1, 3) := by decide +kernel
theorem dX12_headsAt_38 : decode cX12_headsAt 38 = .ok (.goto (-34), 3) := by decide +kernel
theorem dX12_headsAt_41 : decode cX12_headsAt 41 = .ok (.iload_n 2, 1) := by decide +kernel
theorem dX12_headsAt_42 : decode cX12_headsAt 42 = .ok (.ireturn, 1) := by decide +kernel
theorem dX12_headsIn_0 : decode cX12_headsIn 0 = .ok (.iconst 0, 1) := by decide +kernel
theorem dX12_headsIn_1 : decode cX12_headsIn 1 = .ok (.istore_n 2, 1) := by decide +kernel
theorem dX12_headsIn_2 : decode cX12_headsIn 2 = .ok (.iconst 0, 1) := by decide +kernel
theorem dX12_headsIn_3 : decode cX12_headsIn 3 = .ok (.istore_n 3, 1) := by decide +kernel
theorem dX12_headsIn_4 : decode cX12_headsIn 4 = .ok (.iload_n 3, 1) := by decide +kernel
theorem dX12_headsIn_5 : decode cX12_headsIn 5 = .ok (.aload_n 0, 1) := by decide +kernel
theorem dX12_headsIn_6 : decode cX12_headsIn 6 = .ok (.getfield 290, 3) := by decide +kernel
theorem dX12_headsIn_9 : decode cX12_headsIn 9 = .ok (.if_icmp .ge 23, 3) := by decide +kernel
theorem dX12_headsIn_12 : decode cX12_headsIn 12 = .ok (.iload_n 2, 1) := by decide +kernel
theorem dX12_headsIn_13 : decode cX12_headsIn 13 = .ok (.aload_n 0, 1) := by decide +kernel
theorem dX12_headsIn_14 : decode cX12_headsIn 14 = .ok (.getfield 86, 3) := by decide +kernel
theorem dX12_headsIn_17 : decode cX12_headsIn 17 = .ok (.bipush 10, 2) := by decide +kernel
theorem dX12_headsIn_19 : decode cX12_headsIn 19 = .ok (.iload_n 1, 1) := by decide +kernel
theorem dX12_headsIn_20 : decode cX12_headsIn 20 = .ok (.imul, 1) := by decide +kernel
theorem dX12_headsIn_21 : decode cX12_headsIn 21 = .ok (.iload_n 3, 1) := by decide +kernel
theorem dX12_headsIn_22 : decode cX12_headsIn 22 = .ok (.iadd, 1) := by decide +kernel
theorem dX12_headsIn_23 : decode cX12_headsIn 23 = .ok (.iaload, 1) := by decide +kernel
theorem dX12_headsIn_24 : decode cX12_headsIn 24 = .ok (.iadd, 1) := by decide +kernel
theorem dX12_headsIn_25 : decode cX12_headsIn 25 = .ok (.istore_n 2, 1) := by decide +kernel
theorem dX12_headsIn_26 : decode cX12_headsIn 26 = .ok (.iinc 3 1, 3) := by decide +kernel
theorem dX12_headsIn_29 : decode cX12_headsIn 29 = .ok (.goto (-25), 3) := by decide +kernel
theorem dX12_headsIn_32 : decode cX12_headsIn 32 = .ok (.iload_n 2, 1) := by decide +kernel
theorem dX12_headsIn_33 : decode cX12_headsIn 33 = .ok (.ireturn, 1) := by decide +kernel
theorem dX12_headsOfAll_0 : decode cX12_headsOfAll 0 = .ok (.iconst 0, 1) := by decide +kernel
theorem dX12_headsOfAll_1 : decode cX12_headsOfAll 1 = .ok (.istore_n 1, 1) := by decide +kernel
theorem dX12_headsOfAll_2 : decode cX12_headsOfAll 2 = .ok (.iconst 0, 1) := by decide +kernel
theorem dX12_headsOfAll_3 : decode cX12_headsOfAll 3 = .ok (.istore_n 2, 1) := by decide +kernel
theorem dX12_headsOfAll_4 : decode cX12_headsOfAll 4 = .ok (.iload_n 2, 1) := by decide +kernel
theorem dX12_headsOfAll_5 : decode cX12_headsOfAll 5 = .ok (.aload_n 0, 1) := by decide +kernel
theorem dX12_headsOfAll_6 : decode cX12_headsOfAll 6 = .ok (.getfield 290, 3) := by decide +kernel
theorem dX12_headsOfAll_9 : decode cX12_headsOfAll 9 = .ok (.if_icmp .ge 18, 3) := by decide +kernel
theorem dX12_headsOfAll_12 : decode cX12_headsOfAll 12 = .ok (.iload_n 1, 1) := by decide +kernel
theorem dX12_headsOfAll_13 : decode cX12_headsOfAll 13 = .ok (.aload_n 0, 1) := by decide +kernel
theorem dX12_headsOfAll_14 : decode cX12_headsOfAll 14 = .ok (.iload_n 2, 1) := by decide +kernel
theorem dX12_headsOfAll_15 : decode cX12_headsOfAll 15 = .ok (.iconst 0, 1) := by decide +kernel
theorem dX12_headsOfAll_16 : decode cX12_headsOfAll 16 = .ok (.invokevirtual 287, 3) := by decide +kernel
theorem dX12_headsOfAll_19 : decode cX12_headsOfAll 19 = .ok (.iadd, 1) := by decide +kernel
theorem dX12_headsOfAll_20 : decode cX12_headsOfAll 20 = .ok (.istore_n 1, 1) := by decide +kernel
theorem dX12_headsOfAll_21 : decode cX12_headsOfAll 21 = .ok (.iinc 2 1, 3) := by decide +kernel
theorem dX12_headsOfAll_24 : decode cX12_headsOfAll 24 = .ok (.goto (-20), 3) := by decide +kernel
theorem dX12_headsOfAll_27 : decode cX12_headsOfAll 27 = .ok (.iload_n 1, 1) := by decide +kernel
theorem dX12_headsOfAll_28 : decode cX12_headsOfAll 28 = .ok (.ireturn, 1) := by decide +kernel
theorem dX12_inHut_0 : decode cX12_inHut 0 = .ok (.iconst 0, 1) := by decide +kernel
theorem dX12_inHut_1 : decode cX12_inHut 1 = .ok (.istore_n 3, 1) := by decide +kernel
theorem dX12_inHut_2 : decode cX12_inHut 2 = .ok (.iload_n 3, 1) := by decide +kernel
theorem dX12_inHut_3 : decode cX12_inHut 3 = .ok (.aload_n 0, 1) := by decide +kernel
theorem dX12_inHut_4 : decode cX12_inHut 4 = .ok (.getfield 290, 3) := by decide +kernel
theorem dX12_inHut_7 : decode cX12_inHut 7 = .ok (.if_icmp .ge 31, 3) := by decide +kernel
theorem dX12_inHut_10 : decode cX12_inHut 10 = .ok (.aload_n 0, 1) := by decide +kernel
theorem dX12_inHut_11 : decode cX12_inHut 11 = .ok (.iload_n 3, 1) := by decide +kernel
theorem dX12_inHut_12 : decode cX12_inHut 12 = .ok (.iconst 1, 1) := by decide +kernel
theorem dX12_inHut_13 : decode cX12_inHut 13 = .ok (.invokevirtual 287, 3) := by decide +kernel
theorem dX12_inHut_16 : decode cX12_inHut 16 = .ok (.iload_n 1, 1) := by decide +kernel
theorem dX12_inHut_17 : decode cX12_inHut 17 = .ok (.if_icmp .ne 15, 3) := by decide +kernel
theorem dX12_inHut_20 : decode cX12_inHut 20 = .ok (.aload_n 0, 1) := by decide +kernel
theorem dX12_inHut_21 : decode cX12_inHut 21 = .ok (.iload_n 3, 1) := by decide +kernel
theorem dX12_inHut_22 : decode cX12_inHut 22 = .ok (.iconst 2, 1) := by decide +kernel
theorem dX12_inHut_23 : decode cX12_inHut 23 = .ok (.invokevirtual 287, 3) := by decide +kernel
theorem dX12_inHut_26 : decode cX12_inHut 26 = .ok (.iload_n 2, 1) := by decide +kernel
theorem dX12_inHut_27 : decode cX12_inHut 27 = .ok (.if_icmp .ne 5, 3) := by decide +kernel
theorem dX12_inHut_30 : decode cX12_inHut 30 = .ok (.iload_n 3, 1) := by decide +kernel
theorem dX12_inHut_31 : decode cX12_inHut 31 = .ok (.ireturn, 1) := by decide +kernel
theorem dX12_inHut_32 : decode cX12_inHut 32 = .ok (.iinc 3 1, 3) := by decide +kernel
theorem dX12_inHut_35 : decode cX12_inHut 35 = .ok (.goto (-33), 3) := by decide +kernel
theorem dX12_inHut_38 : decode cX12_inHut 38 = .ok (.iconst (-1), 1) := by decide +kernel
theorem dX12_inHut_39 : decode cX12_inHut 39 = .ok (.ireturn, 1) := by decide +kernel
theorem dX12_isFamily_0 : decode cX12_isFamily 0 = .ok (.iload_n 1, 1) := by decide +kernel
theorem dX12_isFamily_1 : decode cX12_isFamily 1 = .ok (.iconst 0, 1) := by decide +kernel
theorem dX12_isFamily_2 : decode cX12_isFamily 2 = .ok (.aload_n 0, 1) := by decide +kernel
theorem dX12_isFamily_3 : decode cX12_isFamily 3 = .ok (.getfield 290, 3) := by decide +kernel
theorem dX12_isFamily_6 : decode cX12_isFamily 6 = .ok (.iconst 1, 1) := by decide +kernel
theorem dX12_isFamily_7 : decode cX12_isFamily 7 = .ok (.isub, 1) := by decide +kernel
theorem dX12_isFamily_8 : decode cX12_isFamily 8 = .ok (.invokestatic 232, 3) := by decide +kernel
theorem dX12_isFamily_11 : decode cX12_isFamily 11 = .ok (.ireturn, 1) := by decide +kernel
theorem dX12_isGone_0 : decode cX12_isGone 0 = .ok (.aload_n 0, 1) := by decide +kernel
theorem dX12_isGone_1 : decode cX12_isGone 1 = .ok (.iload_n 1, 1) := by decide +kernel
theorem dX12_isGone_2 : decode cX12_isGone 2 = .ok (.iconst 1, 1) := by decide +kernel
theorem dX12_isGone_3 : decode cX12_isGone 3 = .ok (.invokevirtual 287, 3) := by decide +kernel
theorem dX12_isGone_6 : decode cX12_isGone 6 = .ok (.iconst (-1), 1) := by decide +kernel
theorem dX12_isGone_7 : decode cX12_isGone 7 = .ok (.if_icmp .ne 7, 3) := by decide +kernel
theorem dX12_isGone_10 : decode cX12_isGone 10 = .ok (.iconst 1, 1) := by decide +kernel
theorem dX12_isGone_11 : decode cX12_isGone 11 = .ok (.goto 4, 3) := by decide +kernel
theorem dX12_isGone_14 : decode cX12_isGone 14 = .ok (.iconst 0, 1) := by decide +kernel
theorem dX12_isGone_15 : decode cX12_isGone 15 = .ok (.ireturn, 1) := by decide +kernel
theorem dX12_isLevel_0 : decode cX12_isLevel 0 = .ok (.iload_n 1, 1) := by decide +kernel
theorem dX12_isLevel_1 : decode cX12_isLevel 1 = .ok (.iconst 0, 1) := by decide +kernel
theorem dX12_isLevel_2 : decode cX12_isLevel 2 = .ok (.aload_n 0, 1) := by decide +kernel
theorem dX12_isLevel_3 : decode cX12_isLevel 3 = .ok (.getfield 302, 3) := by decide +kernel
theorem dX12_isLevel_6 : decode cX12_isLevel 6 = .ok (.iconst 1, 1) := by decide +kernel
theorem dX12_isLevel_7 : decode cX12_isLevel 7 = .ok (.isub, 1) := by decide +kernel
theorem dX12_isLevel_8 : decode cX12_isLevel 8 = .ok (.invokestatic 232, 3) := by decide +kernel
theorem dX12_isLevel_11 : decode cX12_isLevel 11 = .ok (.ireturn, 1) := by decide +kernel
theorem dX12_isTrial_0 : decode cX12_isTrial 0 = .ok (.aload_n 0, 1) := by decide +kernel
theorem dX12_isTrial_1 : decode cX12_isTrial 1 = .ok (.getfield 290, 3) := by decide +kernel
theorem dX12_isTrial_4 : decode cX12_isTrial 4 = .ok (.ifCond .le 27, 3) := by decide +kernel
theorem dX12_isTrial_7 : decode cX12_isTrial 7 = .ok (.iload_n 1, 1) := by decide +kernel
theorem dX12_isTrial_8 : decode cX12_isTrial 8 = .ok (.iconst 1, 1) := by decide +kernel
theorem dX12_isTrial_9 : decode cX12_isTrial 9 = .ok (.bipush 20, 2) := by decide +kernel
theorem dX12_isTrial_11 : decode cX12_isTrial 11 = .ok (.invokestatic 232, 3) := by decide +kernel
theorem dX12_isTrial_14 : decode cX12_isTrial 14 = .ok (.ifCond .eq 17, 3) := by decide +kernel
theorem dX12_isTrial_17 : decode cX12_isTrial 17 = .ok (.iload_n 2, 1) := by decide +kernel
theorem dX12_isTrial_18 : decode cX12_isTrial 18 = .ok (.iconst 1, 1) := by decide +kernel
theorem dX12_isTrial_19 : decode cX12_isTrial 19 = .ok (.bipush 10, 2) := by decide +kernel
theorem dX12_isTrial_21 : decode cX12_isTrial 21 = .ok (.invokestatic 232, 3) := by decide +kernel
theorem dX12_isTrial_24 : decode cX12_isTrial 24 = .ok (.ifCond .eq 7, 3) := by decide +kernel
theorem dX12_isTrial_27 : decode cX12_isTrial 27 = .ok (.iconst 1, 1) := by decide +kernel
theorem dX12_isTrial_28 : decode cX12_isTrial 28 = .ok (.goto 4, 3) := by decide +kernel
theorem dX12_isTrial_31 : decode cX12_isTrial 31 = .ok (.iconst 0, 1) := by decide +kernel
theorem dX12_isTrial_32 : decode cX12_isTrial 32 = .ok (.ireturn, 1) := by decide +kernel
theorem dX12_lackAt_0 : decode cX12_lackAt 0 = .ok (.iconst 0, 1) := by decide +kernel
theorem dX12_lackAt_1 : decode cX12_lackAt 1 = .ok (.aload_n 0, 1) := by decide +kernel
theorem dX12_lackAt_2 : decode cX12_lackAt 2 = .ok (.iload_n 1, 1) := by decide +kernel
theorem dX12_lackAt_3 : decode cX12_lackAt 3 = .ok (.invokevirtual 325, 3) := by decide +kernel
theorem dX12_lackAt_6 : decode cX12_lackAt 6 = .ok (.aload_n 0, 1) := by decide +kernel
theorem dX12_lackAt_7 : decode cX12_lackAt 7 = .ok (.iload_n 1, 1) := by decide +kernel
theorem dX12_lackAt_8 : decode cX12_lackAt 8 = .ok (.iconst 1, 1) := by decide +kernel
theorem dX12_lackAt_9 : decode cX12_lackAt 9 = .ok (.invokevirtual 293, 3) := by decide +kernel
theorem dX12_lackAt_12 : decode cX12_lackAt 12 = .ok (.isub, 1) := by decide +kernel
theorem dX12_lackAt_13 : decode cX12_lackAt 13 = .ok (.invokestatic 328, 3) := by decide +kernel
theorem dX12_lackAt_16 : decode cX12_lackAt 16 = .ok (.ireturn, 1) := by decide +kernel
theorem dX12_levelOf_0 : decode cX12_levelOf 0 = .ok (.aload_n 0, 1) := by decide +kernel
theorem dX12_levelOf_1 : decode cX12_levelOf 1 = .ok (.getfield 46, 3) := by decide +kernel
theorem dX12_levelOf_4 : decode cX12_levelOf 4 = .ok (.iconst 4, 1) := by decide +kernel
theorem dX12_levelOf_5 : decode cX12_levelOf 5 = .ok (.iload_n 1, 1) := by decide +kernel
theorem dX12_levelOf_6 : decode cX12_levelOf 6 = .ok (.imul, 1) := by decide +kernel
theorem dX12_levelOf_7 : decode cX12_levelOf 7 = .ok (.iload_n 2, 1) := by decide +kernel
theorem dX12_levelOf_8 : decode cX12_levelOf 8 = .ok (.iadd, 1) := by decide +kernel
theorem dX12_levelOf_9 : decode cX12_levelOf 9 = .ok (.iaload, 1) := by decide +kernel
theorem dX12_levelOf_10 : decode cX12_levelOf 10 = .ok (.ireturn, 1) := by decide +kernel
theorem dX12_nextOf_0 : decode cX12_nextOf 0 = .ok (.iconst 0, 1) := by decide +kernel
theorem dX12_nextOf_1 : decode cX12_nextOf 1 = .ok (.istore_n 2, 1) := by decide +kernel
theorem dX12_nextOf_2 : decode cX12_nextOf 2 = .ok (.iload_n 2, 1) := by decide +kernel
theorem dX12_nextOf_3 : decode cX12_nextOf 3 = .ok (.aload_n 0, 1) := by decide +kernel
theorem dX12_nextOf_4 : decode cX12_nextOf 4 = .ok (.getfield 290, 3) := by decide +kernel
theorem dX12_nextOf_7 : decode cX12_nextOf 7 = .ok (.if_icmp .ge 33, 3) := by decide +kernel
theorem dX12_nextOf_10 : decode cX12_nextOf 10 = .ok (.aload_n 0, 1) := by decide +kernel
theorem dX12_nextOf_11 : decode cX12_nextOf 11 = .ok (.iload_n 2, 1) := by decide +kernel
theorem dX12_nextOf_12 : decode cX12_nextOf 12 = .ok (.invokevirtual 382, 3) := by decide +kernel
theorem dX12_nextOf_15 : decode cX12_nextOf 15 = .ok (.ifCond .eq 19, 3) := by decide +kernel
theorem dX12_nextOf_18 : decode cX12_nextOf 18 = .ok (.aload_n 0, 1) := by decide +kernel
theorem dX12_nextOf_19 : decode cX12_nextOf 19 = .ok (.iload_n 2, 1) := by decide +kernel
theorem dX12_nextOf_20 : decode cX12_nextOf 20 = .ok (.iconst 1, 1) := by decide +kernel
theorem dX12_nextOf_21 : decode cX12_nextOf 21 = .ok (.invokevirtual 287, 3) := by decide +kernel
theorem dX12_nextOf_24 : decode cX12_nextOf 24 = .ok (.aload_n 0, 1) := by decide +kernel
theorem dX12_nextOf_25 : decode cX12_nextOf 25 = .ok (.iload_n 1, 1) := by decide +kernel
theorem dX12_nextOf_26 : decode cX12_nextOf 26 = .ok (.invokevirtual 351, 3) := by decide +kernel
theorem dX12_nextOf_29 : decode cX12_nextOf 29 = .ok (.if_icmp .ne 5, 3) := by decide +kernel
theorem dX12_nextOf_32 : decode cX12_nextOf 32 = .ok (.iload_n 2, 1) := by decide +kernel
theorem dX12_nextOf_33 : decode cX12_nextOf 33 = .ok (.ireturn, 1) := by decide +kernel
theorem dX12_nextOf_34 : decode cX12_nextOf 34 = .ok (.iinc 2 1, 3) := by decide +kernel
theorem dX12_nextOf_37 : decode cX12_nextOf 37 = .ok (.goto (-35), 3) := by decide +kernel
theorem dX12_nextOf_40 : decode cX12_nextOf 40 = .ok (.iconst (-1), 1) := by decide +kernel
theorem dX12_nextOf_41 : decode cX12_nextOf 41 = .ok (.ireturn, 1) := by decide +kernel
theorem dX12_of_0 : decode cX12_of 0 = .ok (.aload_n 0, 1) := by decide +kernel
theorem dX12_of_1 : decode cX12_of 1 = .ok (.getfield 55, 3) := by decide +kernel
theorem dX12_of_4 : decode cX12_of 4 = .ok (.bipush 9, 2) := by decide +kernel
theorem dX12_of_6 : decode cX12_of 6 = .ok (.iload_n 1, 1) := by decide +kernel
theorem dX12_of_7 : decode cX12_of 7 = .ok (.imul, 1) := by decide +kernel
theorem dX12_of_8 : decode cX12_of 8 = .ok (.iload_n 2, 1) := by decide +kernel
theorem dX12_of_9 : decode cX12_of 9 = .ok (.iadd, 1) := by decide +kernel
theorem dX12_of_10 : decode cX12_of 10 = .ok (.iaload, 1) := by decide +kernel
theorem dX12_of_11 : decode cX12_of 11 = .ok (.ireturn, 1) := by decide +kernel
theorem dX12_tell_0 : decode cX12_tell 0 = .ok (.aload_n 0, 1) := by decide +kernel
theorem dX12_tell_1 : decode cX12_tell 1 = .ok (.getfield 55, 3) := by decide +kernel
theorem dX12_tell_4 : decode cX12_tell 4 = .ok (.bipush 9, 2) := by decide +kernel
theorem dX12_tell_6 : decode cX12_tell 6 = .ok (.iload_n 1, 1) := by decide +kernel
theorem dX12_tell_7 : decode cX12_tell 7 = .ok (.imul, 1) := by decide +kernel
theorem dX12_tell_8 : decode cX12_tell 8 = .ok (.iload_n 2, 1) := by decide +kernel
theorem dX12_tell_9 : decode cX12_tell 9 = .ok (.iadd, 1) := by decide +kernel
theorem dX12_tell_10 : decode cX12_tell 10 = .ok (.iload_n 3, 1) := by decide +kernel
theorem dX12_tell_11 : decode cX12_tell 11 = .ok (.iastore, 1) := by decide +kernel
theorem dX12_tell_12 : decode cX12_tell 12 = .ok (.return_, 1) := by decide +kernel
theorem dX12_waiters_0 : decode cX12_waiters 0 = .ok (.iconst 0, 1) := by decide +kernel
theorem dX12_waiters_1 : decode cX12_waiters 1 = .ok (.istore_n 1, 1) := by decide +kernel
theorem dX12_waiters_2 : decode cX12_waiters 2 = .ok (.iconst 0, 1) := by decide +kernel
theorem dX12_waiters_3 : decode cX12_waiters 3 = .ok (.istore_n 2, 1) := by decide +kernel
theorem dX12_waiters_4 : decode cX12_waiters 4 = .ok (.iload_n 2, 1) := by decide +kernel
theorem dX12_waiters_5 : decode cX12_waiters 5 = .ok (.aload_n 0, 1) := by decide +kernel
theorem dX12_waiters_6 : decode cX12_waiters 6 = .ok (.getfield 290, 3) := by decide +kernel
theorem dX12_waiters_9 : decode cX12_waiters 9 = .ok (.if_icmp .ge 27, 3) := by decide +kernel
theorem dX12_waiters_12 : decode cX12_waiters 12 = .ok (.iload_n 1, 1) := by decide +kernel
theorem dX12_waiters_13 : decode cX12_waiters 13 = .ok (.aload_n 0, 1) := by decide +kernel
theorem dX12_waiters_14 : decode cX12_waiters 14 = .ok (.iload_n 2, 1) := by decide +kernel
theorem dX12_waiters_15 : decode cX12_waiters 15 = .ok (.invokevirtual 382, 3) := by decide +kernel
theorem dX12_waiters_18 : decode cX12_waiters 18 = .ok (.ifCond .eq 9, 3) := by decide +kernel
theorem dX12_waiters_21 : decode cX12_waiters 21 = .ok (.iconst 1, 1) := by decide +kernel
theorem dX12_waiters_22 : decode cX12_waiters 22 = .ok (.iload_n 2, 1) := by decide +kernel
theorem dX12_waiters_23 : decode cX12_waiters 23 = .ok (.ishl, 1) := by decide +kernel
theorem dX12_waiters_24 : decode cX12_waiters 24 = .ok (.goto 4, 3) := by decide +kernel
theorem dX12_waiters_27 : decode cX12_waiters 27 = .ok (.iconst 0, 1) := by decide +kernel
theorem dX12_waiters_28 : decode cX12_waiters 28 = .ok (.ior, 1) := by decide +kernel
theorem dX12_waiters_29 : decode cX12_waiters 29 = .ok (.istore_n 1, 1) := by decide +kernel
theorem dX12_waiters_30 : decode cX12_waiters 30 = .ok (.iinc 2 1, 3) := by decide +kernel
theorem dX12_waiters_33 : decode cX12_waiters 33 = .ok (.goto (-29), 3) := by decide +kernel
theorem dX12_waiters_36 : decode cX12_waiters 36 = .ok (.iload_n 1, 1) := by decide +kernel
theorem dX12_waiters_37 : decode cX12_waiters 37 = .ok (.ireturn, 1) := by decide +kernel
theorem dX12_want_0 : decode cX12_want 0 = .ok (.aload_n 0, 1) := by decide +kernel
theorem dX12_want_1 : decode cX12_want 1 = .ok (.iload_n 1, 1) := by decide +kernel
theorem dX12_want_2 : decode cX12_want 2 = .ok (.invokevirtual 341, 3) := by decide +kernel
theorem dX12_want_5 : decode cX12_want 5 = .ok (.ifCond .eq 7, 3) := by decide +kernel
theorem dX12_want_8 : decode cX12_want 8 = .ok (.iconst (-1), 1) := by decide +kernel
theorem dX12_want_9 : decode cX12_want 9 = .ok (.goto 19, 3) := by decide +kernel
theorem dX12_want_12 : decode cX12_want 12 = .ok (.aload_n 0, 1) := by decide +kernel
theorem dX12_want_13 : decode cX12_want 13 = .ok (.aload_n 0, 1) := by decide +kernel
theorem dX12_want_14 : decode cX12_want 14 = .ok (.iload_n 1, 1) := by decide +kernel
theorem dX12_want_15 : decode cX12_want 15 = .ok (.iconst 1, 1) := by decide +kernel
theorem dX12_want_16 : decode cX12_want 16 = .ok (.invokevirtual 287, 3) := by decide +kernel
theorem dX12_want_19 : decode cX12_want 19 = .ok (.aload_n 0, 1) := by decide +kernel
theorem dX12_want_20 : decode cX12_want 20 = .ok (.iload_n 1, 1) := by decide +kernel
theorem dX12_want_21 : decode cX12_want 21 = .ok (.iconst 3, 1) := by decide +kernel
theorem dX12_want_22 : decode cX12_want 22 = .ok (.invokevirtual 287, 3) := by decide +kernel
theorem dX12_want_25 : decode cX12_want 25 = .ok (.invokevirtual 344, 3) := by decide +kernel
theorem dX12_want_28 : decode cX12_want 28 = .ok (.ireturn, 1) := by decide +kernel
theorem dX12_wantBy_0 : decode cX12_wantBy 0 = .ok (.aload_n 0, 1) := by decide +kernel
theorem dX12_wantBy_1 : decode cX12_wantBy 1 = .ok (.iload_n 1, 1) := by decide +kernel
theorem dX12_wantBy_2 : decode cX12_wantBy 2 = .ok (.iconst 3, 1) := by decide +kernel
theorem dX12_wantBy_3 : decode cX12_wantBy 3 = .ok (.invokevirtual 293, 3) := by decide +kernel
theorem dX12_wantBy_6 : decode cX12_wantBy 6 = .ok (.iconst 1, 1) := by decide +kernel
theorem dX12_wantBy_7 : decode cX12_wantBy 7 = .ok (.if_icmp .ne 7, 3) := by decide +kernel
theorem dX12_wantBy_10 : decode cX12_wantBy 10 = .ok (.iload_n 1, 1) := by decide +kernel
theorem dX12_wantBy_11 : decode cX12_wantBy 11 = .ok (.goto 19, 3) := by decide +kernel
theorem dX12_wantBy_14 : decode cX12_wantBy 14 = .ok (.iconst 0, 1) := by decide +kernel
theorem dX12_wantBy_15 : decode cX12_wantBy 15 = .ok (.aload_n 0, 1) := by decide +kernel
theorem dX12_wantBy_16 : decode cX12_wantBy 16 = .ok (.getfield 302, 3) := by decide +kernel
theorem dX12_wantBy_19 : decode cX12_wantBy 19 = .ok (.iconst 1, 1) := by decide +kernel
theorem dX12_wantBy_20 : decode cX12_wantBy 20 = .ok (.isub, 1) := by decide +kernel
theorem dX12_wantBy_21 : decode cX12_wantBy 21 = .ok (.iload_n 1, 1) := by decide +kernel
theorem dX12_wantBy_22 : decode cX12_wantBy 22 = .ok (.iload_n 2, 1) := by decide +kernel
theorem dX12_wantBy_23 : decode cX12_wantBy 23 = .ok (.iadd, 1) := by decide +kernel
theorem dX12_wantBy_24 : decode cX12_wantBy 24 = .ok (.invokestatic 339, 3) := by decide +kernel
theorem dX12_wantBy_27 : decode cX12_wantBy 27 = .ok (.invokestatic 328, 3) := by decide +kernel
theorem dX12_wantBy_30 : decode cX12_wantBy 30 = .ok (.ireturn, 1) := by decide +kernel
theorem dX12_wants_0 : decode cX12_wants 0 = .ok (.aload_n 0, 1) := by decide +kernel
theorem dX12_wants_1 : decode cX12_wants 1 = .ok (.iload_n 1, 1) := by decide +kernel
theorem dX12_wants_2 : decode cX12_wants 2 = .ok (.invokevirtual 341, 3) := by decide +kernel
theorem dX12_wants_5 : decode cX12_wants 5 = .ok (.ifCond .ne 21, 3) := by decide +kernel
theorem dX12_wants_8 : decode cX12_wants 8 = .ok (.aload_n 0, 1) := by decide +kernel
theorem dX12_wants_9 : decode cX12_wants 9 = .ok (.iload_n 1, 1) := by decide +kernel
theorem dX12_wants_10 : decode cX12_wants 10 = .ok (.invokevirtual 351, 3) := by decide +kernel
theorem dX12_wants_13 : decode cX12_wants 13 = .ok (.aload_n 0, 1) := by decide +kernel
theorem dX12_wants_14 : decode cX12_wants 14 = .ok (.iload_n 1, 1) := by decide +kernel
theorem dX12_wants_15 : decode cX12_wants 15 = .ok (.iconst 1, 1) := by decide +kernel
theorem dX12_wants_16 : decode cX12_wants 16 = .ok (.invokevirtual 287, 3) := by decide +kernel
theorem dX12_wants_19 : decode cX12_wants 19 = .ok (.if_icmp .eq 7, 3) := by decide +kernel
theorem dX12_wants_22 : decode cX12_wants 22 = .ok (.iconst 1, 1) := by decide +kernel
theorem dX12_wants_23 : decode cX12_wants 23 = .ok (.goto 4, 3) := by decide +kernel
theorem dX12_wants_26 : decode cX12_wants 26 = .ok (.iconst 0, 1) := by decide +kernel
theorem dX12_wants_27 : decode cX12_wants 27 = .ok (.ireturn, 1) := by decide +kernel
def w_X12_isLevel : List Cond := .code yX12_isLevel cX12_isLevel 2 (some .boolean) :: ([Cond.fieldLink RX12 302 "HeadYearModel" "levels" "I", Cond.methodLink RX12 232 yX12_in, Cond.static yX12_in, Cond.initialized RX12] ++ (u_ws RX12 TX12 54 ++ (w_X12_in ++ ([]))))
theorem in_X12_isLevel_X12 : ∀ w ∈ u_ws RX12 TX12 54, w ∈ w_X12_isLevel := fun _ h => List.mem_cons_of_mem _ (List.mem_append_right _ (List.mem_append_left _ h))
theorem gg_X12_isLevel_X12_in : GoodIn w_X12_isLevel w_X12_in := goodIn_sub (fun _ h => List.mem_cons_of_mem _ (List.mem_append_right _ (List.mem_append_right _ (List.mem_append_left _ h)))) (by decide +kernel)
theorem g_X12_isLevel_X12_in_232 : GoodIn w_X12_isLevel (va_wsS RX12 232 yX12_in w_X12_in) := goodIn_app (goodIn_of _ (by decide +kernel)) gg_X12_isLevel_X12_in
set_option maxHeartbeats 4000000 in
set_option maxRecDepth 100000 in
theorem c_X12_isLevel (l : Launch) (E : py_E) (G : wf_G) (L : List Nat) (f : py_F) (sz : Nat) (u : Nat) (a : Int32) (hG : GT G) (hWF : WF E G L f) (Tu : G.1 u = 13) : Met l yX12_isLevel w_X12_isLevel ({ frames := 1, cells := 0, slots := 0, locals := 22 }) (py_Pc E [.ref u, .int a] L f sz) (py_Qi E L f sz (fun r L1 f1 => (0 ≤ r.toInt ∧ r.toInt ≤ 1) ∧ (r.toInt ≠ 0 → 0 ≤ a.toInt ∧ a.toInt ≤ 7 ∧ a.toInt < mi f u 24) ∧ L = L1 ∧ f = f1)) 0 0 (va_A (va_pl L f) sz) := by
  refine Met.ofW (cc := cX12_isLevel) (maxL := 2) (ret := (some .boolean)) (by decide) rfl ?_
  intro p e s m args below meth c s₁ B hml hv
  obtain ⟨rfl, rfl, hw⟩ := py_start hv
  have G0 : CallFix p m c cX12_isLevel 2 s _ w_X12_isLevel RX12 := ⟨B.exec, B.bytes, hml, findClass_of_methodNamed B.named, atoms_spec (ws := w_X12_isLevel) B.pre⟩
  have hr := B.returns
  have hlk := B.notSynchronized
  have kcm1 : (-1 : Int32).toInt = -1 := rfl
  have kc0 : (0 : Int32).toInt = 0 := rfl
  have kc1 : (1 : Int32).toInt = 1 := rfl
  have hl := lv_entry ([.ref u, .int a]) (n := 2) (Nat.le_of_ble_eq_true rfl)
  rw [lg_entry_eq]
  generalize (lg_sl ([.ref u, .int a]) ++ List.replicate (2 - (lg_sl ([.ref u, .int a])).length) Slot.unset).toArray = ls at hl ⊢
  have hl : lv_has ls 2 [(0, .ref u), (1, .int a)] := hl
  refine lv_iload_n G0.1 G0.2.1 dX12_isLevel_0 rfl (lv_at hl 1 rfl) ?_
  refine lv_iconst (v := 0) G0.1 G0.2.1 dX12_isLevel_1 (by decide) ?_
  refine lv_aload_n G0.1 G0.2.1 dX12_isLevel_2 rfl (lv_at hl 0 rfl) ?_
  obtain ⟨v_1, v_2, v_3, v_4, v_5, v_6, v_7, v_8, v_9, v_10, v_11, v_12, y_13, v_14, v_15, v_16, v_17, v_18, y_19, v_20, y_21, v_22, hr_35, b_23, b_24, b_25, b_26, b_27, b_28, b_29, b_30, b_31, b_32, b_33, b_34⟩ := wg_12 hWF Tu
  have tq_36 := mi_row hr_35 24 rfl
  refine py_get (C := RX12) (T := TX12) (N := 54) (k := 24) (v := .int v_10) G0 hw in_X12_isLevel_X12 rfl hr_35 (by decide) (by decide +kernel) rfl dX12_isLevel_3 ?_
  refine lv_iconst (v := 1) G0.1 G0.2.1 dX12_isLevel_6 (by decide) ?_
  refine lv_isub G0.1 G0.2.1 dX12_isLevel_7 ?_
  refine lv_topi (fun x_37 ex_37 => ?_)
  first | have tx_37 := ti_sub ex_37 (by omega) (by omega) | skip
  refine py_calli hw (va_runS (As := [.int a, .int 0, .int x_37]) (rest := []) G0 (c_X12_in l E G L f s.heap.size a 0 x_37 hG hWF) (va_cwS 3 G0.2.2.2.2 g_X12_isLevel_X12_in_232 rfl rfl rfl (by decide +kernel) ⟨(Nat.le_of_ble_eq_true rfl), (Nat.le_of_ble_eq_true rfl)⟩) (py_preS hw) rfl rfl hl.1 rfl (lv_room (Nat.le_of_ble_eq_true rfl)) dX12_isLevel_8 ⟨(Nat.le_of_ble_eq_true rfl), (Nat.le_of_ble_eq_true rfl)⟩) (fun r_42 L_38 f_39 H_40 locs hp_41 hw => ?_)
  obtain ⟨b_45, en_43, en_44, rfl, rfl⟩ := hp_41
  have en_43 : r_42.toInt ≠ 0 → (0 : Int) ≤ a.toInt ∧ a.toInt ≤ x_37.toInt := en_43
  have en_44 : r_42.toInt = 0 → a.toInt < (0 : Int) ∨ x_37.toInt < a.toInt := en_44
  exact py_iret G0 hr (ti_bool (by omega) (by omega)) hlk hw ⟨⟨by omega, by omega⟩, (by first | omega | (intro q; omega)), rfl, rfl⟩ dX12_isLevel_11

def w_X12_isFamily : List Cond := .code yX12_isFamily cX12_isFamily 2 (some .boolean) :: ([Cond.fieldLink RX12 290 "HeadYearModel" "families" "I", Cond.methodLink RX12 232 yX12_in, Cond.static yX12_in, Cond.initialized RX12] ++ (u_ws RX12 TX12 54 ++ (w_X12_in ++ ([]))))
theorem in_X12_isFamily_X12 : ∀ w ∈ u_ws RX12 TX12 54, w ∈ w_X12_isFamily := fun _ h => List.mem_cons_of_mem _ (List.mem_append_right _ (List.mem_append_left _ h))
theorem gg_X12_isFamily_X12_in : GoodIn w_X12_isFamily w_X12_in := goodIn_sub (fun _ h => List.mem_cons_of_mem _ (List.mem_append_right _ (List.mem_append_right _ (List.mem_append_left _ h)))) (by decide +kernel)
theorem g_X12_isFamily_X12_in_232 : GoodIn w_X12_isFamily (va_wsS RX12 232 yX12_in w_X12_in) := goodIn_app (goodIn_of _ (by decide +kernel)) gg_X12_isFamily_X12_in
set_option maxHeartbeats 4000000 in
set_option maxRecDepth 100000 in
theorem c_X12_isFamily (l : Launch) (E : py_E) (G : wf_G) (L : List Nat) (f : py_F) (sz : Nat) (u : Nat) (a : Int32) (hG : GT G) (hWF : WF E G L f) (Tu : G.1 u = 13) : Met l yX12_isFamily w_X12_isFamily ({ frames := 1, cells := 0, slots := 0, locals := 22 }) (py_Pc E [.ref u, .int a] L f sz) (py_Qi E L f sz (fun r L1 f1 => (0 ≤ r.toInt ∧ r.toInt ≤ 1) ∧ (r.toInt ≠ 0 → 0 ≤ a.toInt ∧ a.toInt ≤ 9 ∧ a.toInt < mi f u 25) ∧ L = L1 ∧ f = f1)) 0 0 (va_A (va_pl L f) sz) := by
  refine Met.ofW (cc := cX12_isFamily) (maxL := 2) (ret := (some .boolean)) (by decide) rfl ?_
  intro p e s m args below meth c s₁ B hml hv
  obtain ⟨rfl, rfl, hw⟩ := py_start hv
  have G0 : CallFix p m c cX12_isFamily 2 s _ w_X12_isFamily RX12 := ⟨B.exec, B.bytes, hml, findClass_of_methodNamed B.named, atoms_spec (ws := w_X12_isFamily) B.pre⟩
  have hr := B.returns
  have hlk := B.notSynchronized
  have kcm1 : (-1 : Int32).toInt = -1 := rfl
  have kc0 : (0 : Int32).toInt = 0 := rfl
  have kc1 : (1 : Int32).toInt = 1 := rfl
  have hl := lv_entry ([.ref u, .int a]) (n := 2) (Nat.le_of_ble_eq_true rfl)
  rw [lg_entry_eq]
  generalize (lg_sl ([.ref u, .int a]) ++ List.replicate (2 - (lg_sl ([.ref u, .int a])).length) Slot.unset).toArray = ls at hl ⊢
  have hl : lv_has ls 2 [(0, .ref u), (1, .int a)] := hl
  refine lv_iload_n G0.1 G0.2.1 dX12_isFamily_0 rfl (lv_at hl 1 rfl) ?_
  refine lv_iconst (v := 0) G0.1 G0.2.1 dX12_isFamily_1 (by decide) ?_
  refine lv_aload_n G0.1 G0.2.1 dX12_isFamily_2 rfl (lv_at hl 0 rfl) ?_
  obtain ⟨v_1, v_2, v_3, v_4, v_5, v_6, v_7, v_8, v_9, v_10, v_11, v_12, y_13, v_14, v_15, v_16, v_17, v_18, y_19, v_20, y_21, v_22, hr_35, b_23, b_24, b_25, b_26, b_27, b_28, b_29, b_30, b_31, b_32, b_33, b_34⟩ := wg_12 hWF Tu
  have tq_36 := mi_row hr_35 25 rfl
  refine py_get (C := RX12) (T := TX12) (N := 54) (k := 25) (v := .int v_11) G0 hw in_X12_isFamily_X12 rfl hr_35 (by decide) (by decide +kernel) rfl dX12_isFamily_3 ?_
  refine lv_iconst (v := 1) G0.1 G0.2.1 dX12_isFamily_6 (by decide) ?_
  refine lv_isub G0.1 G0.2.1 dX12_isFamily_7 ?_
  refine lv_topi (fun x_37 ex_37 => ?_)
  first | have tx_37 := ti_sub ex_37 (by omega) (by omega) | skip
  refine py_calli hw (va_runS (As := [.int a, .int 0, .int x_37]) (rest := []) G0 (c_X12_in l E G L f s.heap.size a 0 x_37 hG hWF) (va_cwS 3 G0.2.2.2.2 g_X12_isFamily_X12_in_232 rfl rfl rfl (by decide +kernel) ⟨(Nat.le_of_ble_eq_true rfl), (Nat.le_of_ble_eq_true rfl)⟩) (py_preS hw) rfl rfl hl.1 rfl (lv_room (Nat.le_of_ble_eq_true rfl)) dX12_isFamily_8 ⟨(Nat.le_of_ble_eq_true rfl), (Nat.le_of_ble_eq_true rfl)⟩) (fun r_42 L_38 f_39 H_40 locs hp_41 hw => ?_)
  obtain ⟨b_45, en_43, en_44, rfl, rfl⟩ := hp_41
  have en_43 : r_42.toInt ≠ 0 → (0 : Int) ≤ a.toInt ∧ a.toInt ≤ x_37.toInt := en_43
  have en_44 : r_42.toInt = 0 → a.toInt < (0 : Int) ∨ x_37.toInt < a.toInt := en_44
  exact py_iret G0 hr (ti_bool (by omega) (by omega)) hlk hw ⟨⟨by omega, by omega⟩, (by first | omega | (intro q; omega)), rfl, rfl⟩ dX12_isFamily_11

def w_X12_isTrial : List Cond := .code yX12_isTrial cX12_isTrial 3 (some .boolean) :: ([Cond.fieldLink RX12 290 "HeadYearModel" "families" "I", Cond.methodLink RX12 232 yX12_in, Cond.static yX12_in, Cond.initialized RX12] ++ (u_ws RX12 TX12 54 ++ (w_X12_in ++ ([]))))
theorem in_X12_isTrial_X12 : ∀ w ∈ u_ws RX12 TX12 54, w ∈ w_X12_isTrial := fun _ h => List.mem_cons_of_mem _ (List.mem_append_right _ (List.mem_append_left _ h))
theorem gg_X12_isTrial_X12_in : GoodIn w_X12_isTrial w_X12_in := goodIn_sub (fun _ h => List.mem_cons_of_mem _ (List.mem_append_right _ (List.mem_append_right _ (List.mem_append_left _ h)))) (by decide +kernel)
theorem g_X12_isTrial_X12_in_232 : GoodIn w_X12_isTrial (va_wsS RX12 232 yX12_in w_X12_in) := goodIn_app (goodIn_of _ (by decide +kernel)) gg_X12_isTrial_X12_in
set_option maxHeartbeats 4000000 in
set_option maxRecDepth 100000 in
theorem c_X12_isTrial (l : Launch) (E : py_E) (G : wf_G) (L : List Nat) (f : py_F) (sz : Nat) (u : Nat) (a : Int32) (b : Int32) (hG : GT G) (hWF : WF E G L f) (Tu : G.1 u = 13) : Met l yX12_isTrial w_X12_isTrial ({ frames := 1, cells := 0, slots := 0, locals := 22 }) (py_Pc E [.ref u, .int a, .int b] L f sz) (py_Qi E L f sz (fun r L1 f1 => (0 ≤ r.toInt ∧ r.toInt ≤ 1) ∧ (r.toInt ≠ 0 → 1 ≤ mi f u 25 ∧ 1 ≤ a.toInt ∧ a.toInt ≤ 20 ∧ 1 ≤ b.toInt ∧ b.toInt ≤ 10) ∧ L = L1 ∧ f = f1)) 0 0 (va_A (va_pl L f) sz) := by
  refine Met.ofW (cc := cX12_isTrial) (maxL := 3) (ret := (some .boolean)) (by decide) rfl ?_
  intro p e s m args below meth c s₁ B hml hv
  obtain ⟨rfl, rfl, hw⟩ := py_start hv
  have G0 : CallFix p m c cX12_isTrial 3 s _ w_X12_isTrial RX12 := ⟨B.exec, B.bytes, hml, findClass_of_methodNamed B.named, atoms_spec (ws := w_X12_isTrial) B.pre⟩
  have hr := B.returns
  have hlk := B.notSynchronized
  have kcm1 : (-1 : Int32).toInt = -1 := rfl
  have kc0 : (0 : Int32).toInt = 0 := rfl
  have kc1 : (1 : Int32).toInt = 1 := rfl
  have kc10 : (10 : Int32).toInt = 10 := rfl
  have kc20 : (20 : Int32).toInt = 20 := rfl
  have hl := lv_entry ([.ref u, .int a, .int b]) (n := 3) (Nat.le_of_ble_eq_true rfl)
  rw [lg_entry_eq]
  generalize (lg_sl ([.ref u, .int a, .int b]) ++ List.replicate (3 - (lg_sl ([.ref u, .int a, .int b])).length) Slot.unset).toArray = ls at hl ⊢
  have hl : lv_has ls 3 [(0, .ref u), (1, .int a), (2, .int b)] := hl
  refine lv_aload_n G0.1 G0.2.1 dX12_isTrial_0 rfl (lv_at hl 0 rfl) ?_
  obtain ⟨v_1, v_2, v_3, v_4, v_5, v_6, v_7, v_8, v_9, v_10, v_11, v_12, y_13, v_14, v_15, v_16, v_17, v_18, y_19, v_20, y_21, v_22, hr_35, b_23, b_24, b_25, b_26, b_27, b_28, b_29, b_30, b_31, b_32, b_33, b_34⟩ := wg_12 hWF Tu
  have tq_36 := mi_row hr_35 25 rfl
  refine py_get (C := RX12) (T := TX12) (N := 54) (k := 25) (v := .int v_11) G0 hw in_X12_isTrial_X12 rfl hr_35 (by decide) (by decide +kernel) rfl dX12_isTrial_1 ?_
  refine lv_if_le (tgt := 31) G0.1 G0.2.1 dX12_isTrial_4 (by decide) (fun c_37 => ?_) (fun c_37 => ?_)
  · skip
    have tc_37 := ti_le c_37
    refine lv_iconst (v := 0) G0.1 G0.2.1 dX12_isTrial_31 (by decide) ?_
    exact py_iret G0 hr rfl hlk hw ⟨⟨by omega, by omega⟩, (by first | omega | (intro q; omega)), rfl, rfl⟩ dX12_isTrial_32
  · skip
    have tc_37 := ti_nle c_37
    refine lv_iload_n G0.1 G0.2.1 dX12_isTrial_7 rfl (lv_at hl 1 rfl) ?_
    refine lv_iconst (v := 1) G0.1 G0.2.1 dX12_isTrial_8 (by decide) ?_
    refine lv_bipush (v := 20) G0.1 G0.2.1 dX12_isTrial_9 (by decide) ?_
    refine py_calli hw (va_runS (As := [.int a, .int 1, .int 20]) (rest := []) G0 (c_X12_in l E G L f s.heap.size a 1 20 hG hWF) (va_cwS 3 G0.2.2.2.2 g_X12_isTrial_X12_in_232 rfl rfl rfl (by decide +kernel) ⟨(Nat.le_of_ble_eq_true rfl), (Nat.le_of_ble_eq_true rfl)⟩) (py_preS hw) rfl rfl hl.1 rfl (lv_room (Nat.le_of_ble_eq_true rfl)) dX12_isTrial_11 ⟨(Nat.le_of_ble_eq_true rfl), (Nat.le_of_ble_eq_true rfl)⟩) (fun r_42 L_38 f_39 H_40 locs hp_41 hw => ?_)
    obtain ⟨b_45, en_43, en_44, rfl, rfl⟩ := hp_41
    have en_43 : r_42.toInt ≠ 0 → (1 : Int) ≤ a.toInt ∧ a.toInt ≤ (20 : Int) := en_43
    have en_44 : r_42.toInt = 0 → a.toInt < (1 : Int) ∨ (20 : Int) < a.toInt := en_44
    refine lv_if_eq (tgt := 31) G0.1 G0.2.1 dX12_isTrial_14 (by decide) (fun c_46 => ?_) (fun c_46 => ?_)
    · skip
      have tc_46 := ti_eq c_46
      clear en_43
      replace en_44 := en_44 (by omega)
      refine lv_iconst (v := 0) G0.1 G0.2.1 dX12_isTrial_31 (by decide) ?_
      exact py_iret G0 hr rfl hlk hw ⟨⟨by omega, by omega⟩, (by first | omega | (intro q; omega)), rfl, rfl⟩ dX12_isTrial_32
    · skip
      have tc_46 := ti_ne c_46
      replace en_43 := en_43 (by omega)
      clear en_44
      refine lv_iload_n G0.1 G0.2.1 dX12_isTrial_17 rfl (lv_at hl 2 rfl) ?_
      refine lv_iconst (v := 1) G0.1 G0.2.1 dX12_isTrial_18 (by decide) ?_
      refine lv_bipush (v := 10) G0.1 G0.2.1 dX12_isTrial_19 (by decide) ?_
      refine py_calli hw (va_runS (As := [.int b, .int 1, .int 10]) (rest := []) G0 (c_X12_in l E G L f H_40.size b 1 10 hG hWF) (va_cwS 3 G0.2.2.2.2 g_X12_isTrial_X12_in_232 rfl rfl rfl (by decide +kernel) ⟨(Nat.le_of_ble_eq_true rfl), (Nat.le_of_ble_eq_true rfl)⟩) (py_preS hw) rfl rfl hl.1 rfl (lv_room (Nat.le_of_ble_eq_true rfl)) dX12_isTrial_21 ⟨(Nat.le_of_ble_eq_true rfl), (Nat.le_of_ble_eq_true rfl)⟩) (fun r_51 L_47 f_48 H_49 locs hp_50 hw => ?_)
      obtain ⟨b_54, en_52, en_53, rfl, rfl⟩ := hp_50
      have en_52 : r_51.toInt ≠ 0 → (1 : Int) ≤ b.toInt ∧ b.toInt ≤ (10 : Int) := en_52
      have en_53 : r_51.toInt = 0 → b.toInt < (1 : Int) ∨ (10 : Int) < b.toInt := en_53
      refine lv_if_eq (tgt := 31) G0.1 G0.2.1 dX12_isTrial_24 (by decide) (fun c_55 => ?_) (fun c_55 => ?_)
      · skip
        have tc_55 := ti_eq c_55
        clear en_52
        replace en_53 := en_53 (by omega)
        refine lv_iconst (v := 0) G0.1 G0.2.1 dX12_isTrial_31 (by decide) ?_
        exact py_iret G0 hr rfl hlk hw ⟨⟨by omega, by omega⟩, (by first | omega | (intro q; omega)), rfl, rfl⟩ dX12_isTrial_32
      · skip
        have tc_55 := ti_ne c_55
        replace en_52 := en_52 (by omega)
        clear en_53
        refine lv_iconst (v := 1) G0.1 G0.2.1 dX12_isTrial_27 (by decide) ?_
        refine lv_goto (tgt := 32) G0.1 G0.2.1 dX12_isTrial_28 (by decide) ?_
        exact py_iret G0 hr rfl hlk hw ⟨⟨by omega, by omega⟩, (by first | omega | (intro q; omega)), rfl, rfl⟩ dX12_isTrial_32

def w_X12_of : List Cond := .code yX12_of cX12_of 3 (some .int) :: ([Cond.fieldLink RX12 55 "HeadYearModel" "now" "[I"] ++ (u_ws RX12 TX12 54 ++ ([])))
theorem in_X12_of_X12 : ∀ w ∈ u_ws RX12 TX12 54, w ∈ w_X12_of := fun _ h => List.mem_cons_of_mem _ (List.mem_append_right _ (List.mem_append_left _ h))
set_option maxHeartbeats 4000000 in
set_option maxRecDepth 100000 in
theorem c_X12_of (l : Launch) (E : py_E) (G : wf_G) (L : List Nat) (f : py_F) (sz : Nat) (u : Nat) (a : Int32) (b : Int32) (hG : GT G) (hWF : WF E G L f) (Tu : G.1 u = 13) (Ba : (0 ≤ a.toInt ∧ a.toInt ≤ 9)) (Bb : (0 ≤ b.toInt ∧ b.toInt ≤ 8)) : Met l yX12_of w_X12_of ({ frames := 0, cells := 0, slots := 0, locals := 0 }) (py_Pc E [.ref u, .int a, .int b] L f sz) (py_Qi E L f sz (fun r L1 f1 => (r.toInt = nw f G u a.toInt b.toInt) ∧ ((b.toInt = 0 → 0 ≤ r.toInt ∧ r.toInt ≤ 20) ∧ (b.toInt = 1 → -1 ≤ r.toInt ∧ r.toInt ≤ 7)) ∧ L = L1 ∧ f = f1)) 0 0 (va_A (va_pl L f) sz) := by
  refine Met.ofW (cc := cX12_of) (maxL := 3) (ret := (some .int)) (by decide) rfl ?_
  intro p e s m args below meth c s₁ B hml hv
  obtain ⟨rfl, rfl, hw⟩ := py_start hv
  have G0 : CallFix p m c cX12_of 3 s _ w_X12_of RX12 := ⟨B.exec, B.bytes, hml, findClass_of_methodNamed B.named, atoms_spec (ws := w_X12_of) B.pre⟩
  have hr := B.returns
  have hlk := B.notSynchronized
  have kcm1 : (-1 : Int32).toInt = -1 := rfl
  have kc0 : (0 : Int32).toInt = 0 := rfl
  have kc1 : (1 : Int32).toInt = 1 := rfl
  have kc9 : (9 : Int32).toInt = 9 := rfl
  have hl := lv_entry ([.ref u, .int a, .int b]) (n := 3) (Nat.le_of_ble_eq_true rfl)
  rw [lg_entry_eq]
  generalize (lg_sl ([.ref u, .int a, .int b]) ++ List.replicate (3 - (lg_sl ([.ref u, .int a, .int b])).length) Slot.unset).toArray = ls at hl ⊢
  have hl : lv_has ls 3 [(0, .ref u), (1, .int a), (2, .int b)] := hl
  refine lv_aload_n G0.1 G0.2.1 dX12_of_0 rfl (lv_at hl 0 rfl) ?_
  obtain ⟨v_1, v_2, v_3, v_4, v_5, v_6, v_7, v_8, v_9, v_10, v_11, v_12, y_13, v_14, v_15, v_16, v_17, v_18, y_19, v_20, y_21, v_22, hr_35, b_23, b_24, b_25, b_26, b_27, b_28, b_29, b_30, b_31, b_32, b_33, b_34⟩ := wg_12 hWF Tu
  refine py_get (C := RX12) (T := TX12) (N := 54) (k := 26) (v := .ref (G.2 u 26)) G0 hw in_X12_of_X12 rfl hr_35 (by decide) (by decide +kernel) rfl dX12_of_1 ?_
  refine lv_bipush (v := 9) G0.1 G0.2.1 dX12_of_4 (by decide) ?_
  refine lv_iload_n G0.1 G0.2.1 dX12_of_6 rfl (lv_at hl 1 rfl) ?_
  refine lv_imul G0.1 G0.2.1 dX12_of_7 ?_
  refine lv_topi (fun x_36 ex_36 => ?_)
  first | have tx_36 := ti_muld ex_36 kc9 (by omega) (by omega) | skip
  refine lv_iload_n G0.1 G0.2.1 dX12_of_8 rfl (lv_at hl 2 rfl) ?_
  refine lv_iadd G0.1 G0.2.1 dX12_of_9 ?_
  refine lv_topi (fun x_37 ex_37 => ?_)
  first | have tx_37 := ti_add ex_37 (by omega) (by omega) | skip
  obtain ⟨g_38, ha_39, hi_40⟩ := wf_n55 hWF (wt12_26 hG Tu)
  have rg_41 : vp_in x_37 90 := ti_in (by omega) (by omega)
  refine py_iald G0 hw ha_39 rg_41 dX12_of_10 ?_
  refine lv_topi (fun x_42 ex_42 => ?_)
  have bx_42 := wf_free x_42
  exact py_iret G0 hr rfl hlk hw ⟨(by unfold nw; rw [show 9 * a.toInt + b.toInt = x_37.toInt by omega]; exact (arz_ld ha_39 ex_42).symm), (nw_rng (a := a) (b := b) hi_40 (by omega) (by omega) (by omega) ex_42), rfl, rfl⟩ dX12_of_11

def w_X12_tell : List Cond := .code yX12_tell cX12_tell 4 none :: ([Cond.fieldLink RX12 55 "HeadYearModel" "now" "[I"] ++ (u_ws RX12 TX12 54 ++ ([])))
theorem in_X12_tell_X12 : ∀ w ∈ u_ws RX12 TX12 54, w ∈ w_X12_tell := fun _ h => List.mem_cons_of_mem _ (List.mem_append_right _ (List.mem_append_left _ h))
set_option maxHeartbeats 4000000 in
set_option maxRecDepth 100000 in
theorem c_X12_tell (l : Launch) (E : py_E) (G : wf_G) (L : List Nat) (f : py_F) (sz : Nat) (u : Nat) (a : Int32) (b : Int32) (v : Int32) (hG : GT G) (hWF : WF E G L f) (Tu : G.1 u = 13) (Ba : (0 ≤ a.toInt ∧ a.toInt ≤ 9)) (Bb : (0 ≤ b.toInt ∧ b.toInt ≤ 8)) (hp0 : (b.toInt = 0 → 0 ≤ v.toInt ∧ v.toInt ≤ 20) ∧ (b.toInt = 1 → -1 ≤ v.toInt ∧ v.toInt ≤ 7)) : Met l yX12_tell w_X12_tell ({ frames := 0, cells := 0, slots := 0, locals := 0 }) (py_Pc E [.ref u, .int a, .int b, .int v] L f sz) (py_Qv E L f sz (fun L1 f1 => (TL f f1 G u a.toInt b.toInt v.toInt) ∧ WF E G L1 f1 ∧ KP G [55] false f f1 ∧ FK [] f f1 u)) 0 0 (va_A (va_pl L f) sz) := by
  refine Met.ofW (cc := cX12_tell) (maxL := 4) (ret := none) (by decide) rfl ?_
  intro p e s m args below meth c s₁ B hml hv
  obtain ⟨rfl, rfl, hw⟩ := py_start hv
  have G0 : CallFix p m c cX12_tell 4 s _ w_X12_tell RX12 := ⟨B.exec, B.bytes, hml, findClass_of_methodNamed B.named, atoms_spec (ws := w_X12_tell) B.pre⟩
  have hr := B.returns
  have hlk := B.notSynchronized
  have kcm1 : (-1 : Int32).toInt = -1 := rfl
  have kc0 : (0 : Int32).toInt = 0 := rfl
  have kc1 : (1 : Int32).toInt = 1 := rfl
  have kc9 : (9 : Int32).toInt = 9 := rfl
  have hl := lv_entry ([.ref u, .int a, .int b, .int v]) (n := 4) (Nat.le_of_ble_eq_true rfl)
  rw [lg_entry_eq]
  generalize (lg_sl ([.ref u, .int a, .int b, .int v]) ++ List.replicate (4 - (lg_sl ([.ref u, .int a, .int b, .int v])).length) Slot.unset).toArray = ls at hl ⊢
  have hl : lv_has ls 4 [(0, .ref u), (1, .int a), (2, .int b), (3, .int v)] := hl
  have hFK : FK [] f f u := FK.refl
  have hKP : KP G [55] false f f := KP.refl
  refine lv_aload_n G0.1 G0.2.1 dX12_tell_0 rfl (lv_at hl 0 rfl) ?_
  obtain ⟨v_1, v_2, v_3, v_4, v_5, v_6, v_7, v_8, v_9, v_10, v_11, v_12, y_13, v_14, v_15, v_16, v_17, v_18, y_19, v_20, y_21, v_22, hr_35, b_23, b_24, b_25, b_26, b_27, b_28, b_29, b_30, b_31, b_32, b_33, b_34⟩ := wg_12 hWF Tu
  refine py_get (C := RX12) (T := TX12) (N := 54) (k := 26) (v := .ref (G.2 u 26)) G0 hw in_X12_tell_X12 rfl hr_35 (by decide) (by decide +kernel) rfl dX12_tell_1 ?_
  refine lv_bipush (v := 9) G0.1 G0.2.1 dX12_tell_4 (by decide) ?_
  refine lv_iload_n G0.1 G0.2.1 dX12_tell_6 rfl (lv_at hl 1 rfl) ?_
  refine lv_imul G0.1 G0.2.1 dX12_tell_7 ?_
  refine lv_topi (fun x_36 ex_36 => ?_)
  first | have tx_36 := ti_muld ex_36 kc9 (by omega) (by omega) | skip
  refine lv_iload_n G0.1 G0.2.1 dX12_tell_8 rfl (lv_at hl 2 rfl) ?_
  refine lv_iadd G0.1 G0.2.1 dX12_tell_9 ?_
  refine lv_topi (fun x_37 ex_37 => ?_)
  first | have tx_37 := ti_add ex_37 (by omega) (by omega) | skip
  refine lv_iload_n G0.1 G0.2.1 dX12_tell_10 rfl (lv_at hl 3 rfl) ?_
  obtain ⟨g_38, ha_39, hi_40⟩ := wf_n55 hWF (wt12_26 hG Tu)
  have rg_41 : vp_in x_37 90 := ti_in (by omega) (by omega)
  refine py_iast G0 hw ha_39 rg_41 dX12_tell_11 (fun f_42 H_43 locs h_44 x_45 hw => ?_)
  have hkw : KP G [55] false f f_42 := KP.refl.upd hWF x_45 (wt12_26 hG Tu) (Or.inl (by decide))
  have hFK := hFK.same ((x_45 _ (hWF _ (by rw [Tu]; decide)).1 (wf_ne Tu (wt12_26 hG Tu) (by decide))).2)
  have hKP := hKP.upd hWF x_45 (wt12_26 hG Tu) (Or.inl (by decide))
  have hi_46 : wf_nw (upd g_38 (x_37 : Int32).toNatClampNeg v) := (nw_upd (a := a) (b := b) hi_40 (by omega) (by omega) (by omega) (by omega) (by omega) (by omega) (by omega))
  have hWF := wf_upd hWF h_44 x_45 (by rw [(wt12_26 hG Tu)]; exact ⟨_, rfl, hi_46⟩)
  have hr_35 := hr_35.ext x_45 (py_ne_arr hr_35 ha_39)
  have hTL : TL f f_42 G u a.toInt b.toInt v.toInt := tl_of (a := a) (b := b) ha_39 h_44 (by omega) (by omega) (by omega) (by omega)
  exact py_vret G0 hr hlk hw ⟨hTL, hWF, hKP, hFK⟩ dX12_tell_12

def w_X12_copy : List Cond := .code yX12_copy cX12_copy 3 none :: ([] ++ ([]))
set_option maxHeartbeats 4000000 in
set_option maxRecDepth 100000 in
theorem c_X12_copy55_56 (l : Launch) (E : py_E) (G : wf_G) (L : List Nat) (f : py_F) (sz : Nat) (a : Nat) (b : Nat) (hG : GT G) (hWF : WF E G L f) (Ta : G.1 a = 55) (Tb : G.1 b = 56) : Met l yX12_copy w_X12_copy ({ frames := 0, cells := 0, slots := 0, locals := 0 }) (py_Pc E [.ref a, .ref b] L f sz) (py_Qv E L f sz (fun L1 f1 => WF E G L1 f1 ∧ KP G [56] false f f1)) 0 0 (va_A (va_pl L f) sz) := by
  refine Met.ofW (cc := cX12_copy) (maxL := 3) (ret := none) (by decide) rfl ?_
  intro p e s m args below meth c s₁ B hml hv
  obtain ⟨rfl, rfl, hw⟩ := py_start hv
  have G0 : CallFix p m c cX12_copy 3 s _ w_X12_copy RX12 := ⟨B.exec, B.bytes, hml, findClass_of_methodNamed B.named, atoms_spec (ws := w_X12_copy) B.pre⟩
  have hr := B.returns
  have hlk := B.notSynchronized
  have kcm1 : (-1 : Int32).toInt = -1 := rfl
  have kc0 : (0 : Int32).toInt = 0 := rfl
  have kc1 : (1 : Int32).toInt = 1 := rfl
  have kc90 : (90 : Int32).toInt = 90 := rfl
  have hl := lv_entry ([.ref a, .ref b]) (n := 3) (Nat.le_of_ble_eq_true rfl)
  rw [lg_entry_eq]
  generalize (lg_sl ([.ref a, .ref b]) ++ List.replicate (3 - (lg_sl ([.ref a, .ref b])).length) Slot.unset).toArray = ls at hl ⊢
  have hl : lv_has ls 3 [(0, .ref a), (1, .ref b)] := hl
  have hKP : KP G [56] false f f := KP.refl
  refine lv_iconst (v := 0) G0.1 G0.2.1 dX12_copy_0 (by decide) ?_
  refine lv_istore_n (lv' := [(2, .int 0), (0, .ref a), (1, .ref b)]) G0.1 G0.2.1 dX12_copy_1 rfl hl (by decide) rfl (fun ls hl => ?_)
  have lo_2 : ∀ n_2 : Nat, ∀ (v_1 : Int32) (L_j2 : List Nat) (f_j2 : py_F) (H_j2 : Heap) (locs : List Loc) (ls : Array Slot), (2147483647 - v_1.toInt).toNat = n_2 → (0 ≤ v_1.toInt ∧ v_1.toInt ≤ 90) → WF E G L_j2 f_j2 → KP G [56] false f f_j2 → py_W E (va_A (va_pl L f) s.heap.size) s L_j2 f_j2 H_j2 locs → lv_has ls 3 [(2, .int v_1), (0, .ref a), (1, .ref b)] → W p l e (headSpec w_X12_copy ({ frames := 0, cells := 0, slots := 0, locals := 0 })).room s m ([.ref a, .ref b] : List Value).toArray below meth c H_j2 locs 0 0 (MQ below (py_Qv E L f s.heap.size (fun L1 f1 => WF E G L1 f1 ∧ KP G [56] false f f1)) ([.ref a, .ref b] : List Value).toArray s 0 0 (va_A (va_pl L f) s.heap.size)) (F0 m 2 ls []) := by
    intro n_2
    induction n_2 using Nat.strongRecOn with
    | _ n_2 ih_2 =>
      intro v_1 L_j2 f_j2 H_j2 locs ls hn_2 bv_1 hWF hKP hw hl
      refine lv_iload_n G0.1 G0.2.1 dX12_copy_2 rfl (lv_at hl 0 rfl) ?_
      refine lv_bipush (v := 90) G0.1 G0.2.1 dX12_copy_3 (by decide) ?_
      refine lv_icmp_ge (tgt := 20) G0.1 G0.2.1 dX12_copy_5 (by decide) (fun c_2 => ?_) (fun c_2 => ?_)
      · skip
        have tc_2 := ti_le c_2
        exact py_vret G0 hr hlk hw ⟨hWF, hKP⟩ dX12_copy_20
      · skip
        have tc_2 := ti_nle c_2
        refine lv_aload_n G0.1 G0.2.1 dX12_copy_8 rfl (lv_at hl 2 rfl) ?_
        refine lv_iload_n G0.1 G0.2.1 dX12_copy_9 rfl (lv_at hl 0 rfl) ?_
        refine lv_aload_n G0.1 G0.2.1 dX12_copy_10 rfl (lv_at hl 1 rfl) ?_
        refine lv_iload_n G0.1 G0.2.1 dX12_copy_11 rfl (lv_at hl 0 rfl) ?_
        obtain ⟨g_3, ha_4, hi_5⟩ := wf_n55 hWF Ta
        have rg_6 : vp_in v_1 90 := ti_in (by omega) (by omega)
        refine py_iald G0 hw ha_4 rg_6 dX12_copy_12 ?_
        refine lv_topi (fun x_7 ex_7 => ?_)
        have bx_7 := wf_free x_7
        obtain ⟨g_8, ha_9, hi_10⟩ := wf_n56 hWF Tb
        have rg_11 : vp_in v_1 90 := ti_in (by omega) (by omega)
        refine py_iast G0 hw ha_9 rg_11 dX12_copy_13 (fun f_12 H_13 locs h_14 x_15 hw => ?_)
        have hKP := hKP.upd hWF x_15 Tb (Or.inl (by decide))
        have hi_16 : wf_nw (upd g_8 (v_1 : Int32).toNatClampNeg x_7) := (nw_cp hi_10 hi_5 (by omega) (by omega) ex_7)
        have hWF := wf_upd hWF h_14 x_15 (by rw [Tb]; exact ⟨_, rfl, hi_16⟩)
        have ha_4 := ha_4.ext x_15 (wf_ne Ta Tb (by decide))
        obtain ⟨x_17, ex_17⟩ : ∃ y : Int32, y = v_1 + 1 := ⟨_, rfl⟩
        first | have tx_17 := ti_add ex_17 (by omega -splitDisjunctions) (by omega -splitDisjunctions) | skip
        refine lv_iinc (v := x_17) (lv' := [(2, .int x_17), (0, .ref a), (1, .ref b)]) G0.1 G0.2.1 dX12_copy_14 hl (k := 0) rfl (show _ + (1 : Int32) = _ from ex_17.symm) (by decide) rfl (fun ls hl => ?_)
        refine lv_goto (tgt := 2) G0.1 G0.2.1 dX12_copy_17 (by decide) ?_
        exact ih_2 ((2147483647 - x_17.toInt).toNat) (by omega) x_17 L_j2 f_12 _ _ ls rfl ⟨by omega, by omega⟩ hWF hKP hw (lv_sub hl [0, 1, 2] rfl)
  exact lo_2 _ 0 L f _ _ ls rfl ⟨by omega, by omega⟩ hWF hKP hw (lv_sub hl [0, 1, 2] rfl)

set_option maxHeartbeats 4000000 in
set_option maxRecDepth 100000 in
theorem c_X12_copy56_55 (l : Launch) (E : py_E) (G : wf_G) (L : List Nat) (f : py_F) (sz : Nat) (a : Nat) (b : Nat) (hG : GT G) (hWF : WF E G L f) (Ta : G.1 a = 56) (Tb : G.1 b = 55) : Met l yX12_copy w_X12_copy ({ frames := 0, cells := 0, slots := 0, locals := 0 }) (py_Pc E [.ref a, .ref b] L f sz) (py_Qv E L f sz (fun L1 f1 => WF E G L1 f1 ∧ KP G [55] false f f1)) 0 0 (va_A (va_pl L f) sz) := by
  refine Met.ofW (cc := cX12_copy) (maxL := 3) (ret := none) (by decide) rfl ?_
  intro p e s m args below meth c s₁ B hml hv
  obtain ⟨rfl, rfl, hw⟩ := py_start hv
  have G0 : CallFix p m c cX12_copy 3 s _ w_X12_copy RX12 := ⟨B.exec, B.bytes, hml, findClass_of_methodNamed B.named, atoms_spec (ws := w_X12_copy) B.pre⟩
  have hr := B.returns
  have hlk := B.notSynchronized
  have kcm1 : (-1 : Int32).toInt = -1 := rfl
  have kc0 : (0 : Int32).toInt = 0 := rfl
  have kc1 : (1 : Int32).toInt = 1 := rfl
  have kc90 : (90 : Int32).toInt = 90 := rfl
  have hl := lv_entry ([.ref a, .ref b]) (n := 3) (Nat.le_of_ble_eq_true rfl)
  rw [lg_entry_eq]
  generalize (lg_sl ([.ref a, .ref b]) ++ List.replicate (3 - (lg_sl ([.ref a, .ref b])).length) Slot.unset).toArray = ls at hl ⊢
  have hl : lv_has ls 3 [(0, .ref a), (1, .ref b)] := hl
  have hKP : KP G [55] false f f := KP.refl
  refine lv_iconst (v := 0) G0.1 G0.2.1 dX12_copy_0 (by decide) ?_
  refine lv_istore_n (lv' := [(2, .int 0), (0, .ref a), (1, .ref b)]) G0.1 G0.2.1 dX12_copy_1 rfl hl (by decide) rfl (fun ls hl => ?_)
  have lo_2 : ∀ n_2 : Nat, ∀ (v_1 : Int32) (L_j2 : List Nat) (f_j2 : py_F) (H_j2 : Heap) (locs : List Loc) (ls : Array Slot), (2147483647 - v_1.toInt).toNat = n_2 → (0 ≤ v_1.toInt ∧ v_1.toInt ≤ 90) → WF E G L_j2 f_j2 → KP G [55] false f f_j2 → py_W E (va_A (va_pl L f) s.heap.size) s L_j2 f_j2 H_j2 locs → lv_has ls 3 [(2, .int v_1), (0, .ref a), (1, .ref b)] → W p l e (headSpec w_X12_copy ({ frames := 0, cells := 0, slots := 0, locals := 0 })).room s m ([.ref a, .ref b] : List Value).toArray below meth c H_j2 locs 0 0 (MQ below (py_Qv E L f s.heap.size (fun L1 f1 => WF E G L1 f1 ∧ KP G [55] false f f1)) ([.ref a, .ref b] : List Value).toArray s 0 0 (va_A (va_pl L f) s.heap.size)) (F0 m 2 ls []) := by
    intro n_2
    induction n_2 using Nat.strongRecOn with
    | _ n_2 ih_2 =>
      intro v_1 L_j2 f_j2 H_j2 locs ls hn_2 bv_1 hWF hKP hw hl
      refine lv_iload_n G0.1 G0.2.1 dX12_copy_2 rfl (lv_at hl 0 rfl) ?_
      refine lv_bipush (v := 90) G0.1 G0.2.1 dX12_copy_3 (by decide) ?_
      refine lv_icmp_ge (tgt := 20) G0.1 G0.2.1 dX12_copy_5 (by decide) (fun c_2 => ?_) (fun c_2 => ?_)
      · skip
        have tc_2 := ti_le c_2
        exact py_vret G0 hr hlk hw ⟨hWF, hKP⟩ dX12_copy_20
      · skip
        have tc_2 := ti_nle c_2
        refine lv_aload_n G0.1 G0.2.1 dX12_copy_8 rfl (lv_at hl 2 rfl) ?_
        refine lv_iload_n G0.1 G0.2.1 dX12_copy_9 rfl (lv_at hl 0 rfl) ?_
        refine lv_aload_n G0.1 G0.2.1 dX12_copy_10 rfl (lv_at hl 1 rfl) ?_
        refine lv_iload_n G0.1 G0.2.1 dX12_copy_11 rfl (lv_at hl 0 rfl) ?_
        obtain ⟨g_3, ha_4, hi_5⟩ := wf_n56 hWF Ta
        have rg_6 : vp_in v_1 90 := ti_in (by omega) (by omega)
        refine py_iald G0 hw ha_4 rg_6 dX12_copy_12 ?_
        refine lv_topi (fun x_7 ex_7 => ?_)
        have bx_7 := wf_free x_7
        obtain ⟨g_8, ha_9, hi_10⟩ := wf_n55 hWF Tb
        have rg_11 : vp_in v_1 90 := ti_in (by omega) (by omega)
        refine py_iast G0 hw ha_9 rg_11 dX12_copy_13 (fun f_12 H_13 locs h_14 x_15 hw => ?_)
        have hKP := hKP.upd hWF x_15 Tb (Or.inl (by decide))
        have hi_16 : wf_nw (upd g_8 (v_1 : Int32).toNatClampNeg x_7) := (nw_cp hi_10 hi_5 (by omega) (by omega) ex_7)
        have hWF := wf_upd hWF h_14 x_15 (by rw [Tb]; exact ⟨_, rfl, hi_16⟩)
        have ha_4 := ha_4.ext x_15 (wf_ne Ta Tb (by decide))
        obtain ⟨x_17, ex_17⟩ : ∃ y : Int32, y = v_1 + 1 := ⟨_, rfl⟩
        first | have tx_17 := ti_add ex_17 (by omega -splitDisjunctions) (by omega -splitDisjunctions) | skip
        refine lv_iinc (v := x_17) (lv' := [(2, .int x_17), (0, .ref a), (1, .ref b)]) G0.1 G0.2.1 dX12_copy_14 hl (k := 0) rfl (show _ + (1 : Int32) = _ from ex_17.symm) (by decide) rfl (fun ls hl => ?_)
        refine lv_goto (tgt := 2) G0.1 G0.2.1 dX12_copy_17 (by decide) ?_
        exact ih_2 ((2147483647 - x_17.toInt).toNat) (by omega) x_17 L_j2 f_12 _ _ ls rfl ⟨by omega, by omega⟩ hWF hKP hw (lv_sub hl [0, 1, 2] rfl)
  exact lo_2 _ 0 L f _ _ ls rfl ⟨by omega, by omega⟩ hWF hKP hw (lv_sub hl [0, 1, 2] rfl)

set_option maxHeartbeats 4000000 in
set_option maxRecDepth 100000 in
theorem c_X12_copy55_57 (l : Launch) (E : py_E) (G : wf_G) (L : List Nat) (f : py_F) (sz : Nat) (a : Nat) (b : Nat) (hG : GT G) (hWF : WF E G L f) (Ta : G.1 a = 55) (Tb : G.1 b = 57) : Met l yX12_copy w_X12_copy ({ frames := 0, cells := 0, slots := 0, locals := 0 }) (py_Pc E [.ref a, .ref b] L f sz) (py_Qv E L f sz (fun L1 f1 => WF E G L1 f1 ∧ KP G [57] false f f1)) 0 0 (va_A (va_pl L f) sz) := by
  refine Met.ofW (cc := cX12_copy) (maxL := 3) (ret := none) (by decide) rfl ?_
  intro p e s m args below meth c s₁ B hml hv
  obtain ⟨rfl, rfl, hw⟩ := py_start hv
  have G0 : CallFix p m c cX12_copy 3 s _ w_X12_copy RX12 := ⟨B.exec, B.bytes, hml, findClass_of_methodNamed B.named, atoms_spec (ws := w_X12_copy) B.pre⟩
  have hr := B.returns
  have hlk := B.notSynchronized
  have kcm1 : (-1 : Int32).toInt = -1 := rfl
  have kc0 : (0 : Int32).toInt = 0 := rfl
  have kc1 : (1 : Int32).toInt = 1 := rfl
  have kc90 : (90 : Int32).toInt = 90 := rfl
  have hl := lv_entry ([.ref a, .ref b]) (n := 3) (Nat.le_of_ble_eq_true rfl)
  rw [lg_entry_eq]
  generalize (lg_sl ([.ref a, .ref b]) ++ List.replicate (3 - (lg_sl ([.ref a, .ref b])).length) Slot.unset).toArray = ls at hl ⊢
  have hl : lv_has ls 3 [(0, .ref a), (1, .ref b)] := hl
  have hKP : KP G [57] false f f := KP.refl
  refine lv_iconst (v := 0) G0.1 G0.2.1 dX12_copy_0 (by decide) ?_
  refine lv_istore_n (lv' := [(2, .int 0), (0, .ref a), (1, .ref b)]) G0.1 G0.2.1 dX12_copy_1 rfl hl (by decide) rfl (fun ls hl => ?_)
  have lo_2 : ∀ n_2 : Nat, ∀ (v_1 : Int32) (L_j2 : List Nat) (f_j2 : py_F) (H_j2 : Heap) (locs : List Loc) (ls : Array Slot), (2147483647 - v_1.toInt).toNat = n_2 → (0 ≤ v_1.toInt ∧ v_1.toInt ≤ 90) → WF E G L_j2 f_j2 → KP G [57] false f f_j2 → py_W E (va_A (va_pl L f) s.heap.size) s L_j2 f_j2 H_j2 locs → lv_has ls 3 [(2, .int v_1), (0, .ref a), (1, .ref b)] → W p l e (headSpec w_X12_copy ({ frames := 0, cells := 0, slots := 0, locals := 0 })).room s m ([.ref a, .ref b] : List Value).toArray below meth c H_j2 locs 0 0 (MQ below (py_Qv E L f s.heap.size (fun L1 f1 => WF E G L1 f1 ∧ KP G [57] false f f1)) ([.ref a, .ref b] : List Value).toArray s 0 0 (va_A (va_pl L f) s.heap.size)) (F0 m 2 ls []) := by
    intro n_2
    induction n_2 using Nat.strongRecOn with
    | _ n_2 ih_2 =>
      intro v_1 L_j2 f_j2 H_j2 locs ls hn_2 bv_1 hWF hKP hw hl
      refine lv_iload_n G0.1 G0.2.1 dX12_copy_2 rfl (lv_at hl 0 rfl) ?_
      refine lv_bipush (v := 90) G0.1 G0.2.1 dX12_copy_3 (by decide) ?_
      refine lv_icmp_ge (tgt := 20) G0.1 G0.2.1 dX12_copy_5 (by decide) (fun c_2 => ?_) (fun c_2 => ?_)
      · skip
        have tc_2 := ti_le c_2
        exact py_vret G0 hr hlk hw ⟨hWF, hKP⟩ dX12_copy_20
      · skip
        have tc_2 := ti_nle c_2
        refine lv_aload_n G0.1 G0.2.1 dX12_copy_8 rfl (lv_at hl 2 rfl) ?_
        refine lv_iload_n G0.1 G0.2.1 dX12_copy_9 rfl (lv_at hl 0 rfl) ?_
        refine lv_aload_n G0.1 G0.2.1 dX12_copy_10 rfl (lv_at hl 1 rfl) ?_
        refine lv_iload_n G0.1 G0.2.1 dX12_copy_11 rfl (lv_at hl 0 rfl) ?_
        obtain ⟨g_3, ha_4, hi_5⟩ := wf_n55 hWF Ta
        have rg_6 : vp_in v_1 90 := ti_in (by omega) (by omega)
        refine py_iald G0 hw ha_4 rg_6 dX12_copy_12 ?_
        refine lv_topi (fun x_7 ex_7 => ?_)
        have bx_7 := wf_free x_7
        obtain ⟨g_8, ha_9, hi_10⟩ := wf_n57 hWF Tb
        have rg_11 : vp_in v_1 90 := ti_in (by omega) (by omega)
        refine py_iast G0 hw ha_9 rg_11 dX12_copy_13 (fun f_12 H_13 locs h_14 x_15 hw => ?_)
        have hKP := hKP.upd hWF x_15 Tb (Or.inl (by decide))
        have hi_16 : wf_nw (upd g_8 (v_1 : Int32).toNatClampNeg x_7) := (nw_cp hi_10 hi_5 (by omega) (by omega) ex_7)
        have hWF := wf_upd hWF h_14 x_15 (by rw [Tb]; exact ⟨_, rfl, hi_16⟩)
        have ha_4 := ha_4.ext x_15 (wf_ne Ta Tb (by decide))
        obtain ⟨x_17, ex_17⟩ : ∃ y : Int32, y = v_1 + 1 := ⟨_, rfl⟩
        first | have tx_17 := ti_add ex_17 (by omega -splitDisjunctions) (by omega -splitDisjunctions) | skip
        refine lv_iinc (v := x_17) (lv' := [(2, .int x_17), (0, .ref a), (1, .ref b)]) G0.1 G0.2.1 dX12_copy_14 hl (k := 0) rfl (show _ + (1 : Int32) = _ from ex_17.symm) (by decide) rfl (fun ls hl => ?_)
        refine lv_goto (tgt := 2) G0.1 G0.2.1 dX12_copy_17 (by decide) ?_
        exact ih_2 ((2147483647 - x_17.toInt).toNat) (by omega) x_17 L_j2 f_12 _ _ ls rfl ⟨by omega, by omega⟩ hWF hKP hw (lv_sub hl [0, 1, 2] rfl)
  exact lo_2 _ 0 L f _ _ ls rfl ⟨by omega, by omega⟩ hWF hKP hw (lv_sub hl [0, 1, 2] rfl)

set_option maxHeartbeats 4000000 in
set_option maxRecDepth 100000 in
theorem c_X12_copy57_55 (l : Launch) (E : py_E) (G : wf_G) (L : List Nat) (f : py_F) (sz : Nat) (a : Nat) (b : Nat) (hG : GT G) (hWF : WF E G L f) (Ta : G.1 a = 57) (Tb : G.1 b = 55) : Met l yX12_copy w_X12_copy ({ frames := 0, cells := 0, slots := 0, locals := 0 }) (py_Pc E [.ref a, .ref b] L f sz) (py_Qv E L f sz (fun L1 f1 => WF E G L1 f1 ∧ KP G [55] false f f1)) 0 0 (va_A (va_pl L f) sz) := by
  refine Met.ofW (cc := cX12_copy) (maxL := 3) (ret := none) (by decide) rfl ?_
  intro p e s m args below meth c s₁ B hml hv
  obtain ⟨rfl, rfl, hw⟩ := py_start hv
  have G0 : CallFix p m c cX12_copy 3 s _ w_X12_copy RX12 := ⟨B.exec, B.bytes, hml, findClass_of_methodNamed B.named, atoms_spec (ws := w_X12_copy) B.pre⟩
  have hr := B.returns
  have hlk := B.notSynchronized
  have kcm1 : (-1 : Int32).toInt = -1 := rfl
  have kc0 : (0 : Int32).toInt = 0 := rfl
  have kc1 : (1 : Int32).toInt = 1 := rfl
  have kc90 : (90 : Int32).toInt = 90 := rfl
  have hl := lv_entry ([.ref a, .ref b]) (n := 3) (Nat.le_of_ble_eq_true rfl)
  rw [lg_entry_eq]
  generalize (lg_sl ([.ref a, .ref b]) ++ List.replicate (3 - (lg_sl ([.ref a, .ref b])).length) Slot.unset).toArray = ls at hl ⊢
  have hl : lv_has ls 3 [(0, .ref a), (1, .ref b)] := hl
  have hKP : KP G [55] false f f := KP.refl
  refine lv_iconst (v := 0) G0.1 G0.2.1 dX12_copy_0 (by decide) ?_
  refine lv_istore_n (lv' := [(2, .int 0), (0, .ref a), (1, .ref b)]) G0.1 G0.2.1 dX12_copy_1 rfl hl (by decide) rfl (fun ls hl => ?_)
  have lo_2 : ∀ n_2 : Nat, ∀ (v_1 : Int32) (L_j2 : List Nat) (f_j2 : py_F) (H_j2 : Heap) (locs : List Loc) (ls : Array Slot), (2147483647 - v_1.toInt).toNat = n_2 → (0 ≤ v_1.toInt ∧ v_1.toInt ≤ 90) → WF E G L_j2 f_j2 → KP G [55] false f f_j2 → py_W E (va_A (va_pl L f) s.heap.size) s L_j2 f_j2 H_j2 locs → lv_has ls 3 [(2, .int v_1), (0, .ref a), (1, .ref b)] → W p l e (headSpec w_X12_copy ({ frames := 0, cells := 0, slots := 0, locals := 0 })).room s m ([.ref a, .ref b] : List Value).toArray below meth c H_j2 locs 0 0 (MQ below (py_Qv E L f s.heap.size (fun L1 f1 => WF E G L1 f1 ∧ KP G [55] false f f1)) ([.ref a, .ref b] : List Value).toArray s 0 0 (va_A (va_pl L f) s.heap.size)) (F0 m 2 ls []) := by
    intro n_2
    induction n_2 using Nat.strongRecOn with
    | _ n_2 ih_2 =>
      intro v_1 L_j2 f_j2 H_j2 locs ls hn_2 bv_1 hWF hKP hw hl
      refine lv_iload_n G0.1 G0.2.1 dX12_copy_2 rfl (lv_at hl 0 rfl) ?_
      refine lv_bipush (v := 90) G0.1 G0.2.1 dX12_copy_3 (by decide) ?_
      refine lv_icmp_ge (tgt := 20) G0.1 G0.2.1 dX12_copy_5 (by decide) (fun c_2 => ?_) (fun c_2 => ?_)
      · skip
        have tc_2 := ti_le c_2
        exact py_vret G0 hr hlk hw ⟨hWF, hKP⟩ dX12_copy_20
      · skip
        have tc_2 := ti_nle c_2
        refine lv_aload_n G0.1 G0.2.1 dX12_copy_8 rfl (lv_at hl 2 rfl) ?_
        refine lv_iload_n G0.1 G0.2.1 dX12_copy_9 rfl (lv_at hl 0 rfl) ?_
        refine lv_aload_n G0.1 G0.2.1 dX12_copy_10 rfl (lv_at hl 1 rfl) ?_
        refine lv_iload_n G0.1 G0.2.1 dX12_copy_11 rfl (lv_at hl 0 rfl) ?_
        obtain ⟨g_3, ha_4, hi_5⟩ := wf_n57 hWF Ta
        have rg_6 : vp_in v_1 90 := ti_in (by omega) (by omega)
        refine py_iald G0 hw ha_4 rg_6 dX12_copy_12 ?_
        refine lv_topi (fun x_7 ex_7 => ?_)
        have bx_7 := wf_free x_7
        obtain ⟨g_8, ha_9, hi_10⟩ := wf_n55 hWF Tb
        have rg_11 : vp_in v_1 90 := ti_in (by omega) (by omega)
        refine py_iast G0 hw ha_9 rg_11 dX12_copy_13 (fun f_12 H_13 locs h_14 x_15 hw => ?_)
        have hKP := hKP.upd hWF x_15 Tb (Or.inl (by decide))
        have hi_16 : wf_nw (upd g_8 (v_1 : Int32).toNatClampNeg x_7) := (nw_cp hi_10 hi_5 (by omega) (by omega) ex_7)
        have hWF := wf_upd hWF h_14 x_15 (by rw [Tb]; exact ⟨_, rfl, hi_16⟩)
        have ha_4 := ha_4.ext x_15 (wf_ne Ta Tb (by decide))
        obtain ⟨x_17, ex_17⟩ : ∃ y : Int32, y = v_1 + 1 := ⟨_, rfl⟩
        first | have tx_17 := ti_add ex_17 (by omega -splitDisjunctions) (by omega -splitDisjunctions) | skip
        refine lv_iinc (v := x_17) (lv' := [(2, .int x_17), (0, .ref a), (1, .ref b)]) G0.1 G0.2.1 dX12_copy_14 hl (k := 0) rfl (show _ + (1 : Int32) = _ from ex_17.symm) (by decide) rfl (fun ls hl => ?_)
        refine lv_goto (tgt := 2) G0.1 G0.2.1 dX12_copy_17 (by decide) ?_
        exact ih_2 ((2147483647 - x_17.toInt).toNat) (by omega) x_17 L_j2 f_12 _ _ ls rfl ⟨by omega, by omega⟩ hWF hKP hw (lv_sub hl [0, 1, 2] rfl)
  exact lo_2 _ 0 L f _ _ ls rfl ⟨by omega, by omega⟩ hWF hKP hw (lv_sub hl [0, 1, 2] rfl)

def w_X12_levelOf : List Cond := .code yX12_levelOf cX12_levelOf 3 (some .int) :: ([Cond.fieldLink RX12 46 "HeadYearModel" "levelRow" "[I"] ++ (u_ws RX12 TX12 54 ++ ([])))
theorem in_X12_levelOf_X12 : ∀ w ∈ u_ws RX12 TX12 54, w ∈ w_X12_levelOf := fun _ h => List.mem_cons_of_mem _ (List.mem_append_right _ (List.mem_append_left _ h))
set_option maxHeartbeats 4000000 in
set_option maxRecDepth 100000 in
theorem c_X12_levelOf (l : Launch) (E : py_E) (G : wf_G) (L : List Nat) (f : py_F) (sz : Nat) (u : Nat) (a : Int32) (b : Int32) (hG : GT G) (hWF : WF E G L f) (Tu : G.1 u = 13) (Ba : (0 ≤ a.toInt ∧ a.toInt ≤ 7)) (Bb : (0 ≤ b.toInt ∧ b.toInt ≤ 3)) : Met l yX12_levelOf w_X12_levelOf ({ frames := 0, cells := 0, slots := 0, locals := 0 }) (py_Pc E [.ref u, .int a, .int b] L f sz) (py_Qi E L f sz (fun r L1 f1 => (r.toInt = lr f G u a.toInt b.toInt) ∧ L = L1 ∧ f = f1)) 0 0 (va_A (va_pl L f) sz) := by
  refine Met.ofW (cc := cX12_levelOf) (maxL := 3) (ret := (some .int)) (by decide) rfl ?_
  intro p e s m args below meth c s₁ B hml hv
  obtain ⟨rfl, rfl, hw⟩ := py_start hv
  have G0 : CallFix p m c cX12_levelOf 3 s _ w_X12_levelOf RX12 := ⟨B.exec, B.bytes, hml, findClass_of_methodNamed B.named, atoms_spec (ws := w_X12_levelOf) B.pre⟩
  have hr := B.returns
  have hlk := B.notSynchronized
  have kcm1 : (-1 : Int32).toInt = -1 := rfl
  have kc0 : (0 : Int32).toInt = 0 := rfl
  have kc1 : (1 : Int32).toInt = 1 := rfl
  have kc4 : (4 : Int32).toInt = 4 := rfl
  have hl := lv_entry ([.ref u, .int a, .int b]) (n := 3) (Nat.le_of_ble_eq_true rfl)
  rw [lg_entry_eq]
  generalize (lg_sl ([.ref u, .int a, .int b]) ++ List.replicate (3 - (lg_sl ([.ref u, .int a, .int b])).length) Slot.unset).toArray = ls at hl ⊢
  have hl : lv_has ls 3 [(0, .ref u), (1, .int a), (2, .int b)] := hl
  refine lv_aload_n G0.1 G0.2.1 dX12_levelOf_0 rfl (lv_at hl 0 rfl) ?_
  obtain ⟨v_1, v_2, v_3, v_4, v_5, v_6, v_7, v_8, v_9, v_10, v_11, v_12, y_13, v_14, v_15, v_16, v_17, v_18, y_19, v_20, y_21, v_22, hr_35, b_23, b_24, b_25, b_26, b_27, b_28, b_29, b_30, b_31, b_32, b_33, b_34⟩ := wg_12 hWF Tu
  refine py_get (C := RX12) (T := TX12) (N := 54) (k := 21) (v := .ref (G.2 u 21)) G0 hw in_X12_levelOf_X12 rfl hr_35 (by decide) (by decide +kernel) rfl dX12_levelOf_1 ?_
  refine lv_iconst (v := 4) G0.1 G0.2.1 dX12_levelOf_4 (by decide) ?_
  refine lv_iload_n G0.1 G0.2.1 dX12_levelOf_5 rfl (lv_at hl 1 rfl) ?_
  refine lv_imul G0.1 G0.2.1 dX12_levelOf_6 ?_
  refine lv_topi (fun x_36 ex_36 => ?_)
  first | have tx_36 := ti_muld ex_36 kc4 (by omega) (by omega) | skip
  refine lv_iload_n G0.1 G0.2.1 dX12_levelOf_7 rfl (lv_at hl 2 rfl) ?_
  refine lv_iadd G0.1 G0.2.1 dX12_levelOf_8 ?_
  refine lv_topi (fun x_37 ex_37 => ?_)
  first | have tx_37 := ti_add ex_37 (by omega) (by omega) | skip
  obtain ⟨g_38, ha_39, hi_40⟩ := wf_arr (n := 32) (lo := (-2147483648)) (hi := 2147483647) hWF (wt12_21 hG Tu) (by decide) (fun _ => rfl)
  have rg_41 : vp_in x_37 32 := ti_in (by omega) (by omega)
  refine py_iald G0 hw ha_39 rg_41 dX12_levelOf_9 ?_
  refine lv_topi (fun x_42 ex_42 => ?_)
  have bx_42 := wf_free x_42
  exact py_iret G0 hr rfl hlk hw ⟨(by unfold lr; rw [show 4 * a.toInt + b.toInt = x_37.toInt by omega]; exact (arz_ld ha_39 ex_42).symm), rfl, rfl⟩ dX12_levelOf_10

def w_X12_isGone : List Cond := .code yX12_isGone cX12_isGone 2 (some .boolean) :: ([Cond.methodLink RX12 287 yX12_of, Cond.instanceMethod yX12_of, Cond.selects RX12 yX12_of yX12_of, Cond.initialized RX12] ++ (w_X12_of ++ ([])))
theorem gg_X12_isGone_X12_of : GoodIn w_X12_isGone w_X12_of := goodIn_sub (fun _ h => List.mem_cons_of_mem _ (List.mem_append_right _ (List.mem_append_left _ h))) (by decide +kernel)
theorem g_X12_isGone_X12_of_287 : GoodIn w_X12_isGone (wsV RX12 287 RX12 yX12_of w_X12_of) := goodIn_app (goodIn_of _ (by decide +kernel)) gg_X12_isGone_X12_of
set_option maxHeartbeats 4000000 in
set_option maxRecDepth 100000 in
theorem c_X12_isGone (l : Launch) (E : py_E) (G : wf_G) (L : List Nat) (f : py_F) (sz : Nat) (u : Nat) (a : Int32) (hG : GT G) (hWF : WF E G L f) (Tu : G.1 u = 13) (Ba : (0 ≤ a.toInt ∧ a.toInt ≤ 9)) : Met l yX12_isGone w_X12_isGone ({ frames := 1, cells := 0, slots := 0, locals := 22 }) (py_Pc E [.ref u, .int a] L f sz) (py_Qi E L f sz (fun r L1 f1 => (0 ≤ r.toInt ∧ r.toInt ≤ 1) ∧ (r.toInt ≠ 0 → nw f G u a.toInt 1 = -1) ∧ (r.toInt = 0 → 0 ≤ nw f G u a.toInt 1 ∧ nw f G u a.toInt 1 ≤ 7) ∧ L = L1 ∧ f = f1)) 0 0 (va_A (va_pl L f) sz) := by
  refine Met.ofW (cc := cX12_isGone) (maxL := 2) (ret := (some .boolean)) (by decide) rfl ?_
  intro p e s m args below meth c s₁ B hml hv
  obtain ⟨rfl, rfl, hw⟩ := py_start hv
  have G0 : CallFix p m c cX12_isGone 2 s _ w_X12_isGone RX12 := ⟨B.exec, B.bytes, hml, findClass_of_methodNamed B.named, atoms_spec (ws := w_X12_isGone) B.pre⟩
  have hr := B.returns
  have hlk := B.notSynchronized
  have kcm1 : (-1 : Int32).toInt = -1 := rfl
  have kc0 : (0 : Int32).toInt = 0 := rfl
  have kc1 : (1 : Int32).toInt = 1 := rfl
  have hl := lv_entry ([.ref u, .int a]) (n := 2) (Nat.le_of_ble_eq_true rfl)
  rw [lg_entry_eq]
  generalize (lg_sl ([.ref u, .int a]) ++ List.replicate (2 - (lg_sl ([.ref u, .int a])).length) Slot.unset).toArray = ls at hl ⊢
  have hl : lv_has ls 2 [(0, .ref u), (1, .int a)] := hl
  refine lv_aload_n G0.1 G0.2.1 dX12_isGone_0 rfl (lv_at hl 0 rfl) ?_
  refine lv_iload_n G0.1 G0.2.1 dX12_isGone_1 rfl (lv_at hl 1 rfl) ?_
  refine lv_iconst (v := 1) G0.1 G0.2.1 dX12_isGone_2 (by decide) ?_
  obtain ⟨v_1, v_2, v_3, v_4, v_5, v_6, v_7, v_8, v_9, v_10, v_11, v_12, y_13, v_14, v_15, v_16, v_17, v_18, y_19, v_20, y_21, v_22, hr_35, b_23, b_24, b_25, b_26, b_27, b_28, b_29, b_30, b_31, b_32, b_33, b_34⟩ := wg_12 hWF Tu
  refine py_calli hw (va_runV (As := [.int a, .int 1]) (rest := []) G0 (c_X12_of l E G L f s.heap.size u a 1 hG hWF Tu ⟨by omega, by omega⟩ ⟨by omega, by omega⟩) (cwV 2 G0.2.2.2.2 g_X12_isGone_X12_of_287 rfl rfl rfl (by decide +kernel) ⟨(Nat.le_of_ble_eq_true rfl), (Nat.le_of_ble_eq_true rfl)⟩) (py_preV hw (C := RX12) (T := TX12) (N := 54) rfl hr_35) rfl rfl hl.1 rfl (lv_room (Nat.le_of_ble_eq_true rfl)) dX12_isGone_3 ⟨(Nat.le_of_ble_eq_true rfl), (Nat.le_of_ble_eq_true rfl)⟩) (fun r_40 L_36 f_37 H_38 locs hp_39 hw => ?_)
  obtain ⟨en_41, en_42, rfl, rfl⟩ := hp_39
  have en_41 : r_40.toInt = nw f G u a.toInt (1 : Int) := en_41
  have en_42 : ((1 : Int) = 0 → 0 ≤ r_40.toInt ∧ r_40.toInt ≤ 20) ∧ ((1 : Int) = 1 → -1 ≤ r_40.toInt ∧ r_40.toInt ≤ 7) := en_42
  have br_40 := wf_free r_40
  refine lv_iconst (v := (-1)) G0.1 G0.2.1 dX12_isGone_6 (by decide) ?_
  refine lv_icmp_ne (tgt := 14) G0.1 G0.2.1 dX12_isGone_7 (by decide) (fun c_43 => ?_) (fun c_43 => ?_)
  · skip
    have tc_43 := ti_ne c_43
    refine lv_iconst (v := 0) G0.1 G0.2.1 dX12_isGone_14 (by decide) ?_
    exact py_iret G0 hr rfl hlk hw ⟨⟨by omega, by omega⟩, (by first | omega | (intro q; omega)), (by first | omega | (intro q; omega)), rfl, rfl⟩ dX12_isGone_15
  · skip
    have tc_43 := ti_eq c_43
    refine lv_iconst (v := 1) G0.1 G0.2.1 dX12_isGone_10 (by decide) ?_
    refine lv_goto (tgt := 15) G0.1 G0.2.1 dX12_isGone_11 (by decide) ?_
    exact py_iret G0 hr rfl hlk hw ⟨⟨by omega, by omega⟩, (by first | omega | (intro q; omega)), (by first | omega | (intro q; omega)), rfl, rfl⟩ dX12_isGone_15

def w_X12_inHut : List Cond := .code yX12_inHut cX12_inHut 4 (some .int) :: ([Cond.fieldLink RX12 290 "HeadYearModel" "families" "I", Cond.methodLink RX12 287 yX12_of, Cond.instanceMethod yX12_of, Cond.selects RX12 yX12_of yX12_of, Cond.initialized RX12] ++ (u_ws RX12 TX12 54 ++ (w_X12_of ++ ([]))))
theorem in_X12_inHut_X12 : ∀ w ∈ u_ws RX12 TX12 54, w ∈ w_X12_inHut := fun _ h => List.mem_cons_of_mem _ (List.mem_append_right _ (List.mem_append_left _ h))
theorem gg_X12_inHut_X12_of : GoodIn w_X12_inHut w_X12_of := goodIn_sub (fun _ h => List.mem_cons_of_mem _ (List.mem_append_right _ (List.mem_append_right _ (List.mem_append_left _ h)))) (by decide +kernel)
theorem g_X12_inHut_X12_of_287 : GoodIn w_X12_inHut (wsV RX12 287 RX12 yX12_of w_X12_of) := goodIn_app (goodIn_of _ (by decide +kernel)) gg_X12_inHut_X12_of
set_option maxHeartbeats 4000000 in
set_option maxRecDepth 100000 in
theorem c_X12_inHut (l : Launch) (E : py_E) (G : wf_G) (L : List Nat) (f : py_F) (sz : Nat) (u : Nat) (a : Int32) (b : Int32) (hG : GT G) (hWF : WF E G L f) (Tu : G.1 u = 13) : Met l yX12_inHut w_X12_inHut ({ frames := 1, cells := 0, slots := 0, locals := 22 }) (py_Pc E [.ref u, .int a, .int b] L f sz) (py_Qi E L f sz (fun r L1 f1 => ((-1) ≤ r.toInt ∧ r.toInt ≤ 9) ∧ (r.toInt = -1 → ¬ IH f G u a.toInt b.toInt) ∧ (r.toInt ≠ -1 → IH f G u a.toInt b.toInt) ∧ L = L1 ∧ f = f1)) 0 0 (va_A (va_pl L f) sz) := by
  refine Met.ofW (cc := cX12_inHut) (maxL := 4) (ret := (some .int)) (by decide) rfl ?_
  intro p e s m args below meth c s₁ B hml hv
  obtain ⟨rfl, rfl, hw⟩ := py_start hv
  have G0 : CallFix p m c cX12_inHut 4 s _ w_X12_inHut RX12 := ⟨B.exec, B.bytes, hml, findClass_of_methodNamed B.named, atoms_spec (ws := w_X12_inHut) B.pre⟩
  have hr := B.returns
  have hlk := B.notSynchronized
  have kcm1 : (-1 : Int32).toInt = -1 := rfl
  have kc0 : (0 : Int32).toInt = 0 := rfl
  have kc1 : (1 : Int32).toInt = 1 := rfl
  have kc2 : (2 : Int32).toInt = 2 := rfl
  have hl := lv_entry ([.ref u, .int a, .int b]) (n := 4) (Nat.le_of_ble_eq_true rfl)
  rw [lg_entry_eq]
  generalize (lg_sl ([.ref u, .int a, .int b]) ++ List.replicate (4 - (lg_sl ([.ref u, .int a, .int b])).length) Slot.unset).toArray = ls at hl ⊢
  have hl : lv_has ls 4 [(0, .ref u), (1, .int a), (2, .int b)] := hl
  refine lv_iconst (v := 0) G0.1 G0.2.1 dX12_inHut_0 (by decide) ?_
  refine lv_istore_n (lv' := [(3, .int 0), (0, .ref u), (1, .int a), (2, .int b)]) G0.1 G0.2.1 dX12_inHut_1 rfl hl (by decide) rfl (fun ls hl => ?_)
  have lo_2 : ∀ n_2 : Nat, ∀ (v_1 : Int32) (H_j2 : Heap) (locs : List Loc) (ls : Array Slot), (2147483647 - v_1.toInt).toNat = n_2 → (0 ≤ v_1.toInt ∧ v_1.toInt ≤ 2147483647) → (∀ i : Int, 0 ≤ i → i < v_1.toInt → ¬ (nw f G u i 1 = a.toInt ∧ nw f G u i 2 = b.toInt)) → py_W E (va_A (va_pl L f) s.heap.size) s L f H_j2 locs → lv_has ls 4 [(3, .int v_1), (0, .ref u), (1, .int a), (2, .int b)] → W p l e (headSpec w_X12_inHut ({ frames := 1, cells := 0, slots := 0, locals := 22 })).room s m ([.ref u, .int a, .int b] : List Value).toArray below meth c H_j2 locs 0 0 (MQ below (py_Qi E L f s.heap.size (fun r L1 f1 => ((-1) ≤ r.toInt ∧ r.toInt ≤ 9) ∧ (r.toInt = -1 → ¬ IH f G u a.toInt b.toInt) ∧ (r.toInt ≠ -1 → IH f G u a.toInt b.toInt) ∧ L = L1 ∧ f = f1)) ([.ref u, .int a, .int b] : List Value).toArray s 0 0 (va_A (va_pl L f) s.heap.size)) (F0 m 2 ls []) := by
    intro n_2
    induction n_2 using Nat.strongRecOn with
    | _ n_2 ih_2 =>
      intro v_1 H_j2 locs ls hn_2 bv_1 iv0 hw hl
      refine lv_iload_n G0.1 G0.2.1 dX12_inHut_2 rfl (lv_at hl 0 rfl) ?_
      refine lv_aload_n G0.1 G0.2.1 dX12_inHut_3 rfl (lv_at hl 1 rfl) ?_
      obtain ⟨v_2, v_3, v_4, v_5, v_6, v_7, v_8, v_9, v_10, v_11, v_12, v_13, y_14, v_15, v_16, v_17, v_18, v_19, y_20, v_21, y_22, v_23, hr_36, b_24, b_25, b_26, b_27, b_28, b_29, b_30, b_31, b_32, b_33, b_34, b_35⟩ := wg_12 hWF Tu
      have tq_37 := mi_row hr_36 25 rfl
      refine py_get (C := RX12) (T := TX12) (N := 54) (k := 25) (v := .int v_12) G0 hw in_X12_inHut_X12 rfl hr_36 (by decide) (by decide +kernel) rfl dX12_inHut_4 ?_
      refine lv_icmp_ge (tgt := 38) G0.1 G0.2.1 dX12_inHut_7 (by decide) (fun c_38 => ?_) (fun c_38 => ?_)
      · skip
        have tc_38 := ti_le c_38
        refine lv_iconst (v := (-1)) G0.1 G0.2.1 dX12_inHut_38 (by decide) ?_
        exact py_iret G0 hr rfl hlk hw ⟨⟨by omega, by omega⟩, (fun _ hq => by obtain ⟨i, h0, h1, h2, h3⟩ := hq; exact iv0 i h0 (by omega) ⟨h2, h3⟩), (fun hq => absurd kcm1 hq), rfl, rfl⟩ dX12_inHut_39
      · skip
        have tc_38 := ti_nle c_38
        refine lv_aload_n G0.1 G0.2.1 dX12_inHut_10 rfl (lv_at hl 1 rfl) ?_
        refine lv_iload_n G0.1 G0.2.1 dX12_inHut_11 rfl (lv_at hl 0 rfl) ?_
        refine lv_iconst (v := 1) G0.1 G0.2.1 dX12_inHut_12 (by decide) ?_
        refine py_calli hw (va_runV (As := [.int v_1, .int 1]) (rest := []) G0 (c_X12_of l E G L f H_j2.size u v_1 1 hG hWF Tu ⟨by omega, by omega⟩ ⟨by omega, by omega⟩) (cwV 2 G0.2.2.2.2 g_X12_inHut_X12_of_287 rfl rfl rfl (by decide +kernel) ⟨(Nat.le_of_ble_eq_true rfl), (Nat.le_of_ble_eq_true rfl)⟩) (py_preV hw (C := RX12) (T := TX12) (N := 54) rfl hr_36) rfl rfl hl.1 rfl (lv_room (Nat.le_of_ble_eq_true rfl)) dX12_inHut_13 ⟨(Nat.le_of_ble_eq_true rfl), (Nat.le_of_ble_eq_true rfl)⟩) (fun r_43 L_39 f_40 H_41 locs hp_42 hw => ?_)
        obtain ⟨en_44, en_45, rfl, rfl⟩ := hp_42
        have en_44 : r_43.toInt = nw f G u v_1.toInt (1 : Int) := en_44
        have en_45 : ((1 : Int) = 0 → 0 ≤ r_43.toInt ∧ r_43.toInt ≤ 20) ∧ ((1 : Int) = 1 → -1 ≤ r_43.toInt ∧ r_43.toInt ≤ 7) := en_45
        have br_43 := wf_free r_43
        refine lv_iload_n G0.1 G0.2.1 dX12_inHut_16 rfl (lv_at hl 2 rfl) ?_
        refine lv_icmp_ne (tgt := 32) G0.1 G0.2.1 dX12_inHut_17 (by decide) (fun c_46 => ?_) (fun c_46 => ?_)
        · skip
          have tc_46 := ti_ne c_46
          obtain ⟨x_47, ex_47⟩ : ∃ y : Int32, y = v_1 + 1 := ⟨_, rfl⟩
          first | have tx_47 := ti_add ex_47 (by omega) (by omega) | skip
          refine lv_iinc (v := x_47) (lv' := [(3, .int x_47), (0, .ref u), (1, .int a), (2, .int b)]) G0.1 G0.2.1 dX12_inHut_32 hl (k := 0) rfl (show _ + (1 : Int32) = _ from ex_47.symm) (by decide) rfl (fun ls hl => ?_)
          refine lv_goto (tgt := 2) G0.1 G0.2.1 dX12_inHut_35 (by decide) ?_
          exact ih_2 ((2147483647 - x_47.toInt).toNat) (by omega) x_47 _ _ ls rfl ⟨by omega, by omega⟩ (fun i h0 h1 => if hz : i < v_1.toInt then iv0 i h0 hz else by obtain rfl : i = v_1.toInt := (by omega); (intro hc; omega)) hw (lv_sub hl [0, 1, 2, 3] rfl)
        · skip
          have tc_46 := ti_eq c_46
          refine lv_aload_n G0.1 G0.2.1 dX12_inHut_20 rfl (lv_at hl 1 rfl) ?_
          refine lv_iload_n G0.1 G0.2.1 dX12_inHut_21 rfl (lv_at hl 0 rfl) ?_
          refine lv_iconst (v := 2) G0.1 G0.2.1 dX12_inHut_22 (by decide) ?_
          refine py_calli hw (va_runV (As := [.int v_1, .int 2]) (rest := []) G0 (c_X12_of l E G L f H_41.size u v_1 2 hG hWF Tu ⟨by omega, by omega⟩ ⟨by omega, by omega⟩) (cwV 2 G0.2.2.2.2 g_X12_inHut_X12_of_287 rfl rfl rfl (by decide +kernel) ⟨(Nat.le_of_ble_eq_true rfl), (Nat.le_of_ble_eq_true rfl)⟩) (py_preV hw (C := RX12) (T := TX12) (N := 54) rfl hr_36) rfl rfl hl.1 rfl (lv_room (Nat.le_of_ble_eq_true rfl)) dX12_inHut_23 ⟨(Nat.le_of_ble_eq_true rfl), (Nat.le_of_ble_eq_true rfl)⟩) (fun r_52 L_48 f_49 H_50 locs hp_51 hw => ?_)
          obtain ⟨en_53, en_54, rfl, rfl⟩ := hp_51
          have en_53 : r_52.toInt = nw f G u v_1.toInt (2 : Int) := en_53
          have en_54 : ((2 : Int) = 0 → 0 ≤ r_52.toInt ∧ r_52.toInt ≤ 20) ∧ ((2 : Int) = 1 → -1 ≤ r_52.toInt ∧ r_52.toInt ≤ 7) := en_54
          have br_52 := wf_free r_52
          refine lv_iload_n G0.1 G0.2.1 dX12_inHut_26 rfl (lv_at hl 3 rfl) ?_
          refine lv_icmp_ne (tgt := 32) G0.1 G0.2.1 dX12_inHut_27 (by decide) (fun c_55 => ?_) (fun c_55 => ?_)
          · skip
            have tc_55 := ti_ne c_55
            obtain ⟨x_56, ex_56⟩ : ∃ y : Int32, y = v_1 + 1 := ⟨_, rfl⟩
            first | have tx_56 := ti_add ex_56 (by omega) (by omega) | skip
            refine lv_iinc (v := x_56) (lv' := [(3, .int x_56), (0, .ref u), (1, .int a), (2, .int b)]) G0.1 G0.2.1 dX12_inHut_32 hl (k := 0) rfl (show _ + (1 : Int32) = _ from ex_56.symm) (by decide) rfl (fun ls hl => ?_)
            refine lv_goto (tgt := 2) G0.1 G0.2.1 dX12_inHut_35 (by decide) ?_
            exact ih_2 ((2147483647 - x_56.toInt).toNat) (by omega) x_56 _ _ ls rfl ⟨by omega, by omega⟩ (fun i h0 h1 => if hz : i < v_1.toInt then iv0 i h0 hz else by obtain rfl : i = v_1.toInt := (by omega); (intro hc; omega)) hw (lv_sub hl [0, 1, 2, 3] rfl)
          · skip
            have tc_55 := ti_eq c_55
            refine lv_iload_n G0.1 G0.2.1 dX12_inHut_30 rfl (lv_at hl 0 rfl) ?_
            exact py_iret G0 hr rfl hlk hw ⟨⟨by omega, by omega⟩, (fun hq => absurd hq (by omega)), (fun _ => ⟨v_1.toInt, by omega, by omega, by omega, by omega⟩), rfl, rfl⟩ dX12_inHut_31
  exact lo_2 _ 0 _ _ ls rfl ⟨by omega, by omega⟩ (fun i h0 h1 => absurd h1 (by omega)) hw (lv_sub hl [0, 1, 2, 3] rfl)

def w_X12_emptyHut : List Cond := .code yX12_emptyHut cX12_emptyHut 5 (some .int) :: ([Cond.methodLink RX12 293 yX12_levelOf, Cond.instanceMethod yX12_levelOf, Cond.selects RX12 yX12_levelOf yX12_levelOf, Cond.initialized RX12, Cond.methodLink RX12 296 yX12_inHut, Cond.instanceMethod yX12_inHut, Cond.selects RX12 yX12_inHut yX12_inHut] ++ (w_X12_levelOf ++ (w_X12_inHut ++ ([]))))
theorem gg_X12_emptyHut_X12_levelOf : GoodIn w_X12_emptyHut w_X12_levelOf := goodIn_sub (fun _ h => List.mem_cons_of_mem _ (List.mem_append_right _ (List.mem_append_left _ h))) (by decide +kernel)
theorem gg_X12_emptyHut_X12_inHut : GoodIn w_X12_emptyHut w_X12_inHut := goodIn_sub (fun _ h => List.mem_cons_of_mem _ (List.mem_append_right _ (List.mem_append_right _ (List.mem_append_left _ h)))) (by decide +kernel)
theorem g_X12_emptyHut_X12_inHut_296 : GoodIn w_X12_emptyHut (wsV RX12 296 RX12 yX12_inHut w_X12_inHut) := goodIn_app (goodIn_of _ (by decide +kernel)) gg_X12_emptyHut_X12_inHut
theorem g_X12_emptyHut_X12_levelOf_293 : GoodIn w_X12_emptyHut (wsV RX12 293 RX12 yX12_levelOf w_X12_levelOf) := goodIn_app (goodIn_of _ (by decide +kernel)) gg_X12_emptyHut_X12_levelOf
set_option maxHeartbeats 4000000 in
set_option maxRecDepth 100000 in
theorem c_X12_emptyHut (l : Launch) (E : py_E) (G : wf_G) (L : List Nat) (f : py_F) (sz : Nat) (u : Nat) (a : Int32) (b : Int32) (hG : GT G) (hWF : WF E G L f) (Tu : G.1 u = 13) (Ba : (0 ≤ a.toInt ∧ a.toInt ≤ 7)) : Met l yX12_emptyHut w_X12_emptyHut ({ frames := 2, cells := 0, slots := 0, locals := 45 }) (py_Pc E [.ref u, .int a, .int b] L f sz) (py_Qi E L f sz (fun r L1 f1 => (r.toInt = -1 → b.toInt = 0 → ¬ EH f G u a.toInt) ∧ (r.toInt ≠ -1 → EH f G u a.toInt ∧ b.toInt ≤ r.toInt ∧ r.toInt < lr f G u a.toInt 0 ∧ r.toInt < 2147483647) ∧ L = L1 ∧ f = f1)) 0 0 (va_A (va_pl L f) sz) := by
  refine Met.ofW (cc := cX12_emptyHut) (maxL := 5) (ret := (some .int)) (by decide) rfl ?_
  intro p e s m args below meth c s₁ B hml hv
  obtain ⟨rfl, rfl, hw⟩ := py_start hv
  have G0 : CallFix p m c cX12_emptyHut 5 s _ w_X12_emptyHut RX12 := ⟨B.exec, B.bytes, hml, findClass_of_methodNamed B.named, atoms_spec (ws := w_X12_emptyHut) B.pre⟩
  have hr := B.returns
  have hlk := B.notSynchronized
  have kcm1 : (-1 : Int32).toInt = -1 := rfl
  have kc0 : (0 : Int32).toInt = 0 := rfl
  have kc1 : (1 : Int32).toInt = 1 := rfl
  have hl := lv_entry ([.ref u, .int a, .int b]) (n := 5) (Nat.le_of_ble_eq_true rfl)
  rw [lg_entry_eq]
  generalize (lg_sl ([.ref u, .int a, .int b]) ++ List.replicate (5 - (lg_sl ([.ref u, .int a, .int b])).length) Slot.unset).toArray = ls at hl ⊢
  have hl : lv_has ls 5 [(0, .ref u), (1, .int a), (2, .int b)] := hl
  refine lv_iconst (v := 0) G0.1 G0.2.1 dX12_emptyHut_0 (by decide) ?_
  refine lv_istore_n (lv' := [(3, .int 0), (0, .ref u), (1, .int a), (2, .int b)]) G0.1 G0.2.1 dX12_emptyHut_1 rfl hl (by decide) rfl (fun ls hl => ?_)
  refine lv_iconst (v := 0) G0.1 G0.2.1 dX12_emptyHut_2 (by decide) ?_
  refine lv_istore (lv' := [(4, .int 0), (3, .int 0), (0, .ref u), (1, .int a), (2, .int b)]) G0.1 G0.2.1 dX12_emptyHut_3 hl (by decide) rfl (fun ls hl => ?_)
  have lo_5 : ∀ n_5 : Nat, ∀ (v_1 : Int32) (v_2 : Int32) (H_j5 : Heap) (locs : List Loc) (ls : Array Slot), (2147483647 - v_1.toInt).toNat = n_5 → (0 ≤ v_1.toInt ∧ v_1.toInt ≤ 2147483647) → (0 ≤ v_2.toInt ∧ v_2.toInt ≤ 2147483647) → (0 ≤ v_2.toInt ∧ v_2.toInt ≤ v_1.toInt) → (b.toInt = 0 → v_2.toInt = 0) → (b.toInt = 0 → ∀ h : Int, 0 ≤ h → h < v_1.toInt → IH f G u a.toInt h) → py_W E (va_A (va_pl L f) s.heap.size) s L f H_j5 locs → lv_has ls 5 [(4, .int v_1), (3, .int v_2), (0, .ref u), (1, .int a), (2, .int b)] → W p l e (headSpec w_X12_emptyHut ({ frames := 2, cells := 0, slots := 0, locals := 45 })).room s m ([.ref u, .int a, .int b] : List Value).toArray below meth c H_j5 locs 0 0 (MQ below (py_Qi E L f s.heap.size (fun r L1 f1 => (r.toInt = -1 → b.toInt = 0 → ¬ EH f G u a.toInt) ∧ (r.toInt ≠ -1 → EH f G u a.toInt ∧ b.toInt ≤ r.toInt ∧ r.toInt < lr f G u a.toInt 0 ∧ r.toInt < 2147483647) ∧ L = L1 ∧ f = f1)) ([.ref u, .int a, .int b] : List Value).toArray s 0 0 (va_A (va_pl L f) s.heap.size)) (F0 m 5 ls []) := by
    intro n_5
    induction n_5 using Nat.strongRecOn with
    | _ n_5 ih_5 =>
      intro v_1 v_2 H_j5 locs ls hn_5 bv_1 bv_2 iv0 iv1 iv2 hw hl
      refine lv_iload G0.1 G0.2.1 dX12_emptyHut_5 (lv_at hl 0 rfl) ?_
      refine lv_aload_n G0.1 G0.2.1 dX12_emptyHut_7 rfl (lv_at hl 2 rfl) ?_
      refine lv_iload_n G0.1 G0.2.1 dX12_emptyHut_8 rfl (lv_at hl 3 rfl) ?_
      refine lv_iconst (v := 0) G0.1 G0.2.1 dX12_emptyHut_9 (by decide) ?_
      obtain ⟨v_3, v_4, v_5, v_6, v_7, v_8, v_9, v_10, v_11, v_12, v_13, v_14, y_15, v_16, v_17, v_18, v_19, v_20, y_21, v_22, y_23, v_24, hr_37, b_25, b_26, b_27, b_28, b_29, b_30, b_31, b_32, b_33, b_34, b_35, b_36⟩ := wg_12 hWF Tu
      refine py_calli hw (va_runV (As := [.int a, .int 0]) (rest := [.int v_1]) G0 (c_X12_levelOf l E G L f H_j5.size u a 0 hG hWF Tu ⟨by omega, by omega⟩ ⟨by omega, by omega⟩) (cwV 2 G0.2.2.2.2 g_X12_emptyHut_X12_levelOf_293 rfl rfl rfl (by decide +kernel) ⟨(Nat.le_of_ble_eq_true rfl), (Nat.le_of_ble_eq_true rfl)⟩) (py_preV hw (C := RX12) (T := TX12) (N := 54) rfl hr_37) rfl rfl hl.1 rfl (lv_room (Nat.le_of_ble_eq_true rfl)) dX12_emptyHut_10 ⟨(Nat.le_of_ble_eq_true rfl), (Nat.le_of_ble_eq_true rfl)⟩) (fun r_42 L_38 f_39 H_40 locs hp_41 hw => ?_)
      obtain ⟨en_43, rfl, rfl⟩ := hp_41
      have en_43 : r_42.toInt = lr f G u a.toInt (0 : Int) := en_43
      have br_42 := wf_free r_42
      refine lv_icmp_ge (tgt := 44) G0.1 G0.2.1 dX12_emptyHut_13 (by decide) (fun c_44 => ?_) (fun c_44 => ?_)
      · skip
        have tc_44 := ti_le c_44
        refine lv_iconst (v := (-1)) G0.1 G0.2.1 dX12_emptyHut_44 (by decide) ?_
        exact py_iret G0 hr rfl hlk hw ⟨(fun _ hb hq => by obtain ⟨h, h0, h1, h2⟩ := hq; exact h2 (iv2 hb h h0 (by omega))), (fun hq => absurd kcm1 hq), rfl, rfl⟩ dX12_emptyHut_45
      · skip
        have tc_44 := ti_nle c_44
        refine lv_aload_n G0.1 G0.2.1 dX12_emptyHut_16 rfl (lv_at hl 2 rfl) ?_
        refine lv_iload_n G0.1 G0.2.1 dX12_emptyHut_17 rfl (lv_at hl 3 rfl) ?_
        refine lv_iload G0.1 G0.2.1 dX12_emptyHut_18 (lv_at hl 0 rfl) ?_
        refine py_calli hw (va_runV (As := [.int a, .int v_1]) (rest := []) G0 (c_X12_inHut l E G L f H_40.size u a v_1 hG hWF Tu) (cwV 2 G0.2.2.2.2 g_X12_emptyHut_X12_inHut_296 rfl rfl rfl (by decide +kernel) ⟨(Nat.le_of_ble_eq_true rfl), (Nat.le_of_ble_eq_true rfl)⟩) (py_preV hw (C := RX12) (T := TX12) (N := 54) rfl hr_37) rfl rfl hl.1 rfl (lv_room (Nat.le_of_ble_eq_true rfl)) dX12_emptyHut_20 ⟨(Nat.le_of_ble_eq_true rfl), (Nat.le_of_ble_eq_true rfl)⟩) (fun r_49 L_45 f_46 H_47 locs hp_48 hw => ?_)
        obtain ⟨b_52, en_50, en_51, rfl, rfl⟩ := hp_48
        refine lv_iconst (v := (-1)) G0.1 G0.2.1 dX12_emptyHut_23 (by decide) ?_
        refine lv_icmp_ne (tgt := 38) G0.1 G0.2.1 dX12_emptyHut_24 (by decide) (fun c_53 => ?_) (fun c_53 => ?_)
        · skip
          have tc_53 := ti_ne c_53
          obtain ⟨x_54, ex_54⟩ : ∃ y : Int32, y = v_1 + 1 := ⟨_, rfl⟩
          first | have tx_54 := ti_add ex_54 (by omega) (by omega) | skip
          refine lv_iinc (v := x_54) (lv' := [(4, .int x_54), (3, .int v_2), (0, .ref u), (1, .int a), (2, .int b)]) G0.1 G0.2.1 dX12_emptyHut_38 hl (k := 0) rfl (show _ + (1 : Int32) = _ from ex_54.symm) (by decide) rfl (fun ls hl => ?_)
          refine lv_goto (tgt := 5) G0.1 G0.2.1 dX12_emptyHut_41 (by decide) ?_
          exact ih_5 ((2147483647 - x_54.toInt).toNat) (by omega) x_54 v_2 _ _ ls rfl ⟨by omega, by omega⟩ ⟨by omega, by omega⟩ (by first | omega | (intros; omega)) (by first | omega | (intros; omega)) (fun hb i h0 h1 => if hz : i < v_1.toInt then iv2 hb i h0 hz else by obtain rfl : i = v_1.toInt := (by omega); (first | exact en_51 (by omega) | (exfalso; omega))) hw (lv_sub hl [0, 1, 2, 3, 4] rfl)
        · skip
          have tc_53 := ti_eq c_53
          refine lv_iload_n G0.1 G0.2.1 dX12_emptyHut_27 rfl (lv_at hl 1 rfl) ?_
          refine lv_iload_n G0.1 G0.2.1 dX12_emptyHut_28 rfl (lv_at hl 4 rfl) ?_
          refine lv_icmp_ne (tgt := 35) G0.1 G0.2.1 dX12_emptyHut_29 (by decide) (fun c_55 => ?_) (fun c_55 => ?_)
          · skip
            have tc_55 := ti_ne c_55
            obtain ⟨x_56, ex_56⟩ : ∃ y : Int32, y = v_2 + 1 := ⟨_, rfl⟩
            first | have tx_56 := ti_add ex_56 (by omega) (by omega) | skip
            refine lv_iinc (v := x_56) (lv' := [(3, .int x_56), (4, .int v_1), (0, .ref u), (1, .int a), (2, .int b)]) G0.1 G0.2.1 dX12_emptyHut_35 hl (k := 1) rfl (show _ + (1 : Int32) = _ from ex_56.symm) (by decide) rfl (fun ls hl => ?_)
            obtain ⟨x_57, ex_57⟩ : ∃ y : Int32, y = v_1 + 1 := ⟨_, rfl⟩
            first | have tx_57 := ti_add ex_57 (by omega) (by omega) | skip
            refine lv_iinc (v := x_57) (lv' := [(4, .int x_57), (3, .int x_56), (0, .ref u), (1, .int a), (2, .int b)]) G0.1 G0.2.1 dX12_emptyHut_38 hl (k := 1) rfl (show _ + (1 : Int32) = _ from ex_57.symm) (by decide) rfl (fun ls hl => ?_)
            refine lv_goto (tgt := 5) G0.1 G0.2.1 dX12_emptyHut_41 (by decide) ?_
            exact ih_5 ((2147483647 - x_57.toInt).toNat) (by omega) x_57 x_56 _ _ ls rfl ⟨by omega, by omega⟩ ⟨by omega, by omega⟩ (by first | omega | (intros; omega)) (by first | omega | (intros; omega)) (fun hb i h0 h1 => if hz : i < v_1.toInt then iv2 hb i h0 hz else by obtain rfl : i = v_1.toInt := (by omega); (first | exact en_51 (by omega) | (exfalso; omega))) hw (lv_sub hl [0, 1, 2, 3, 4] rfl)
          · skip
            have tc_55 := ti_eq c_55
            refine lv_iload G0.1 G0.2.1 dX12_emptyHut_32 (lv_at hl 0 rfl) ?_
            exact py_iret G0 hr rfl hlk hw ⟨(fun hq => absurd hq (by omega)), (fun _ => ⟨⟨v_1.toInt, by omega, by omega, en_50 (by omega)⟩, by omega, by omega, by omega⟩), rfl, rfl⟩ dX12_emptyHut_34
  exact lo_5 _ 0 0 _ _ ls rfl ⟨by omega, by omega⟩ ⟨by omega, by omega⟩ (by first | omega | (intros; omega)) (by first | omega | (intros; omega)) (fun hb i h0 h1 => absurd h1 (by omega)) hw (lv_sub hl [0, 1, 2, 3, 4] rfl)

def w_X12_empties : List Cond := .code yX12_empties cX12_empties 3 (some .int) :: ([Cond.methodLink RX12 299 yX12_emptyHut, Cond.instanceMethod yX12_emptyHut, Cond.selects RX12 yX12_emptyHut yX12_emptyHut, Cond.initialized RX12] ++ (w_X12_emptyHut ++ ([])))
theorem gg_X12_empties_X12_emptyHut : GoodIn w_X12_empties w_X12_emptyHut := goodIn_sub (fun _ h => List.mem_cons_of_mem _ (List.mem_append_right _ (List.mem_append_left _ h))) (by decide +kernel)
theorem g_X12_empties_X12_emptyHut_299 : GoodIn w_X12_empties (wsV RX12 299 RX12 yX12_emptyHut w_X12_emptyHut) := goodIn_app (goodIn_of _ (by decide +kernel)) gg_X12_empties_X12_emptyHut
set_option maxHeartbeats 4000000 in
set_option maxRecDepth 100000 in
theorem c_X12_empties (l : Launch) (E : py_E) (G : wf_G) (L : List Nat) (f : py_F) (sz : Nat) (u : Nat) (a : Int32) (hG : GT G) (hWF : WF E G L f) (Tu : G.1 u = 13) (Ba : (0 ≤ a.toInt ∧ a.toInt ≤ 7)) : Met l yX12_empties w_X12_empties ({ frames := 3, cells := 0, slots := 0, locals := 69 }) (py_Pc E [.ref u, .int a] L f sz) (py_Qi E L f sz (fun r L1 f1 => (r.toInt = 0 → ¬ EH f G u a.toInt) ∧ (r.toInt ≠ 0 → EH f G u a.toInt) ∧ (0 ≤ r.toInt) ∧ L = L1 ∧ f = f1)) 0 0 (va_A (va_pl L f) sz) := by
  refine Met.ofW (cc := cX12_empties) (maxL := 3) (ret := (some .int)) (by decide) rfl ?_
  intro p e s m args below meth c s₁ B hml hv
  obtain ⟨rfl, rfl, hw⟩ := py_start hv
  have G0 : CallFix p m c cX12_empties 3 s _ w_X12_empties RX12 := ⟨B.exec, B.bytes, hml, findClass_of_methodNamed B.named, atoms_spec (ws := w_X12_empties) B.pre⟩
  have hr := B.returns
  have hlk := B.notSynchronized
  have kcm1 : (-1 : Int32).toInt = -1 := rfl
  have kc0 : (0 : Int32).toInt = 0 := rfl
  have kc1 : (1 : Int32).toInt = 1 := rfl
  have hl := lv_entry ([.ref u, .int a]) (n := 3) (Nat.le_of_ble_eq_true rfl)
  rw [lg_entry_eq]
  generalize (lg_sl ([.ref u, .int a]) ++ List.replicate (3 - (lg_sl ([.ref u, .int a])).length) Slot.unset).toArray = ls at hl ⊢
  have hl : lv_has ls 3 [(0, .ref u), (1, .int a)] := hl
  refine lv_iconst (v := 0) G0.1 G0.2.1 dX12_empties_0 (by decide) ?_
  refine lv_istore_n (lv' := [(2, .int 0), (0, .ref u), (1, .int a)]) G0.1 G0.2.1 dX12_empties_1 rfl hl (by decide) rfl (fun ls hl => ?_)
  have lo_2 : ∀ n_2 : Nat, ∀ (v_1 : Int32) (H_j2 : Heap) (locs : List Loc) (ls : Array Slot), (lr f G u a.toInt 0 - v_1.toInt).toNat = n_2 → (0 ≤ v_1.toInt ∧ v_1.toInt ≤ 2147483647) → (0 ≤ v_1.toInt) → (v_1.toInt ≠ 0 → EH f G u a.toInt) → py_W E (va_A (va_pl L f) s.heap.size) s L f H_j2 locs → lv_has ls 3 [(2, .int v_1), (0, .ref u), (1, .int a)] → W p l e (headSpec w_X12_empties ({ frames := 3, cells := 0, slots := 0, locals := 69 })).room s m ([.ref u, .int a] : List Value).toArray below meth c H_j2 locs 0 0 (MQ below (py_Qi E L f s.heap.size (fun r L1 f1 => (r.toInt = 0 → ¬ EH f G u a.toInt) ∧ (r.toInt ≠ 0 → EH f G u a.toInt) ∧ (0 ≤ r.toInt) ∧ L = L1 ∧ f = f1)) ([.ref u, .int a] : List Value).toArray s 0 0 (va_A (va_pl L f) s.heap.size)) (F0 m 2 ls []) := by
    intro n_2
    induction n_2 using Nat.strongRecOn with
    | _ n_2 ih_2 =>
      intro v_1 H_j2 locs ls hn_2 bv_1 iv0 iv1 hw hl
      refine lv_aload_n G0.1 G0.2.1 dX12_empties_2 rfl (lv_at hl 1 rfl) ?_
      refine lv_iload_n G0.1 G0.2.1 dX12_empties_3 rfl (lv_at hl 2 rfl) ?_
      refine lv_iload_n G0.1 G0.2.1 dX12_empties_4 rfl (lv_at hl 0 rfl) ?_
      obtain ⟨v_2, v_3, v_4, v_5, v_6, v_7, v_8, v_9, v_10, v_11, v_12, v_13, y_14, v_15, v_16, v_17, v_18, v_19, y_20, v_21, y_22, v_23, hr_36, b_24, b_25, b_26, b_27, b_28, b_29, b_30, b_31, b_32, b_33, b_34, b_35⟩ := wg_12 hWF Tu
      refine py_calli hw (va_runV (As := [.int a, .int v_1]) (rest := []) G0 (c_X12_emptyHut l E G L f H_j2.size u a v_1 hG hWF Tu ⟨by omega, by omega⟩) (cwV 2 G0.2.2.2.2 g_X12_empties_X12_emptyHut_299 rfl rfl rfl (by decide +kernel) ⟨(Nat.le_of_ble_eq_true rfl), (Nat.le_of_ble_eq_true rfl)⟩) (py_preV hw (C := RX12) (T := TX12) (N := 54) rfl hr_36) rfl rfl hl.1 rfl (lv_room (Nat.le_of_ble_eq_true rfl)) dX12_empties_5 ⟨(Nat.le_of_ble_eq_true rfl), (Nat.le_of_ble_eq_true rfl)⟩) (fun r_41 L_37 f_38 H_39 locs hp_40 hw => ?_)
      obtain ⟨en_42, en_43, rfl, rfl⟩ := hp_40
      have br_41 := wf_free r_41
      refine lv_iconst (v := (-1)) G0.1 G0.2.1 dX12_empties_8 (by decide) ?_
      refine lv_icmp_eq (tgt := 18) G0.1 G0.2.1 dX12_empties_9 (by decide) (fun c_44 => ?_) (fun c_44 => ?_)
      · skip
        have tc_44 := ti_eq c_44
        refine lv_iload_n G0.1 G0.2.1 dX12_empties_18 rfl (lv_at hl 0 rfl) ?_
        exact py_iret G0 hr rfl hlk hw ⟨(fun hq => en_42 (by omega) (by omega)), iv1, (by first | omega | (intro q; omega)), rfl, rfl⟩ dX12_empties_19
      · skip
        have tc_44 := ti_ne c_44
        have hen := en_43 (by omega)
        have hen2 := hen.2
        obtain ⟨x_45, ex_45⟩ : ∃ y : Int32, y = v_1 + 1 := ⟨_, rfl⟩
        first | have tx_45 := ti_add ex_45 (by omega) (by omega) | skip
        refine lv_iinc (v := x_45) (lv' := [(2, .int x_45), (0, .ref u), (1, .int a)]) G0.1 G0.2.1 dX12_empties_12 hl (k := 0) rfl (show _ + (1 : Int32) = _ from ex_45.symm) (by decide) rfl (fun ls hl => ?_)
        refine lv_goto (tgt := 2) G0.1 G0.2.1 dX12_empties_15 (by decide) ?_
        exact ih_2 ((lr f G u a.toInt 0 - x_45.toInt).toNat) (by omega) x_45 _ _ ls rfl ⟨by omega, by omega⟩ (by first | omega | (intros; omega)) (fun _ => hen.1) hw (lv_sub hl [0, 1, 2] rfl)
  exact lo_2 _ 0 _ _ ls rfl ⟨by omega, by omega⟩ (by first | omega | (intros; omega)) (fun hq => absurd kc0 hq) hw (lv_sub hl [0, 1, 2] rfl)

def w_X12_headsAt : List Cond := .code yX12_headsAt cX12_headsAt 4 (some .int) :: ([Cond.fieldLink RX12 290 "HeadYearModel" "families" "I", Cond.methodLink RX12 287 yX12_of, Cond.instanceMethod yX12_of, Cond.selects RX12 yX12_of yX12_of, Cond.initialized RX12] ++ (u_ws RX12 TX12 54 ++ (w_X12_of ++ ([]))))
theorem in_X12_headsAt_X12 : ∀ w ∈ u_ws RX12 TX12 54, w ∈ w_X12_headsAt := fun _ h => List.mem_cons_of_mem _ (List.mem_append_right _ (List.mem_append_left _ h))
theorem gg_X12_headsAt_X12_of : GoodIn w_X12_headsAt w_X12_of := goodIn_sub (fun _ h => List.mem_cons_of_mem _ (List.mem_append_right _ (List.mem_append_right _ (List.mem_append_left _ h)))) (by decide +kernel)
theorem g_X12_headsAt_X12_of_287 : GoodIn w_X12_headsAt (wsV RX12 287 RX12 yX12_of w_X12_of) := goodIn_app (goodIn_of _ (by decide +kernel)) gg_X12_headsAt_X12_of
set_option maxHeartbeats 4000000 in
set_option maxRecDepth 100000 in
theorem c_X12_headsAt (l : Launch) (E : py_E) (G : wf_G) (L : List Nat) (f : py_F) (sz : Nat) (u : Nat) (a : Int32) (hG : GT G) (hWF : WF E G L f) (Tu : G.1 u = 13) : Met l yX12_headsAt w_X12_headsAt ({ frames := 1, cells := 0, slots := 0, locals := 22 }) (py_Pc E [.ref u, .int a] L f sz) (py_Qi E L f sz (fun _ L1 f1 => L = L1 ∧ f = f1)) 0 0 (va_A (va_pl L f) sz) := by
  refine Met.ofW (cc := cX12_headsAt) (maxL := 4) (ret := (some .int)) (by decide) rfl ?_
  intro p e s m args below meth c s₁ B hml hv
  obtain ⟨rfl, rfl, hw⟩ := py_start hv
  have G0 : CallFix p m c cX12_headsAt 4 s _ w_X12_headsAt RX12 := ⟨B.exec, B.bytes, hml, findClass_of_methodNamed B.named, atoms_spec (ws := w_X12_headsAt) B.pre⟩
  have hr := B.returns
  have hlk := B.notSynchronized
  have kcm1 : (-1 : Int32).toInt = -1 := rfl
  have kc0 : (0 : Int32).toInt = 0 := rfl
  have kc1 : (1 : Int32).toInt = 1 := rfl
  have hl := lv_entry ([.ref u, .int a]) (n := 4) (Nat.le_of_ble_eq_true rfl)
  rw [lg_entry_eq]
  generalize (lg_sl ([.ref u, .int a]) ++ List.replicate (4 - (lg_sl ([.ref u, .int a])).length) Slot.unset).toArray = ls at hl ⊢
  have hl : lv_has ls 4 [(0, .ref u), (1, .int a)] := hl
  refine lv_iconst (v := 0) G0.1 G0.2.1 dX12_headsAt_0 (by decide) ?_
  refine lv_istore_n (lv' := [(2, .int 0), (0, .ref u), (1, .int a)]) G0.1 G0.2.1 dX12_headsAt_1 rfl hl (by decide) rfl (fun ls hl => ?_)
  refine lv_iconst (v := 0) G0.1 G0.2.1 dX12_headsAt_2 (by decide) ?_
  refine lv_istore_n (lv' := [(3, .int 0), (2, .int 0), (0, .ref u), (1, .int a)]) G0.1 G0.2.1 dX12_headsAt_3 rfl hl (by decide) rfl (fun ls hl => ?_)
  have lo_4 : ∀ n_4 : Nat, ∀ (v_1 : Int32) (v_2 : Int32) (H_j4 : Heap) (locs : List Loc) (ls : Array Slot), (2147483647 - v_1.toInt).toNat = n_4 → (0 ≤ v_1.toInt ∧ v_1.toInt ≤ 2147483647) → py_W E (va_A (va_pl L f) s.heap.size) s L f H_j4 locs → lv_has ls 4 [(3, .int v_1), (2, .int v_2), (0, .ref u), (1, .int a)] → W p l e (headSpec w_X12_headsAt ({ frames := 1, cells := 0, slots := 0, locals := 22 })).room s m ([.ref u, .int a] : List Value).toArray below meth c H_j4 locs 0 0 (MQ below (py_Qi E L f s.heap.size (fun _ L1 f1 => L = L1 ∧ f = f1)) ([.ref u, .int a] : List Value).toArray s 0 0 (va_A (va_pl L f) s.heap.size)) (F0 m 4 ls []) := by
    intro n_4
    induction n_4 using Nat.strongRecOn with
    | _ n_4 ih_4 =>
      intro v_1 v_2 H_j4 locs ls hn_4 bv_1 hw hl
      refine lv_iload_n G0.1 G0.2.1 dX12_headsAt_4 rfl (lv_at hl 0 rfl) ?_
      refine lv_aload_n G0.1 G0.2.1 dX12_headsAt_5 rfl (lv_at hl 2 rfl) ?_
      obtain ⟨v_3, v_4, v_5, v_6, v_7, v_8, v_9, v_10, v_11, v_12, v_13, v_14, y_15, v_16, v_17, v_18, v_19, v_20, y_21, v_22, y_23, v_24, hr_37, b_25, b_26, b_27, b_28, b_29, b_30, b_31, b_32, b_33, b_34, b_35, b_36⟩ := wg_12 hWF Tu
      refine py_get (C := RX12) (T := TX12) (N := 54) (k := 25) (v := .int v_13) G0 hw in_X12_headsAt_X12 rfl hr_37 (by decide) (by decide +kernel) rfl dX12_headsAt_6 ?_
      refine lv_icmp_ge (tgt := 41) G0.1 G0.2.1 dX12_headsAt_9 (by decide) (fun c_38 => ?_) (fun c_38 => ?_)
      · skip
        have tc_38 := ti_le c_38
        refine lv_iload_n G0.1 G0.2.1 dX12_headsAt_41 rfl (lv_at hl 1 rfl) ?_
        exact py_iret G0 hr rfl hlk hw ⟨rfl, rfl⟩ dX12_headsAt_42
      · skip
        have tc_38 := ti_nle c_38
        refine lv_iload_n G0.1 G0.2.1 dX12_headsAt_12 rfl (lv_at hl 1 rfl) ?_
        refine lv_aload_n G0.1 G0.2.1 dX12_headsAt_13 rfl (lv_at hl 2 rfl) ?_
        refine lv_iload_n G0.1 G0.2.1 dX12_headsAt_14 rfl (lv_at hl 0 rfl) ?_
        refine lv_iconst (v := 1) G0.1 G0.2.1 dX12_headsAt_15 (by decide) ?_
        refine py_calli hw (va_runV (As := [.int v_1, .int 1]) (rest := [.int v_2]) G0 (c_X12_of l E G L f H_j4.size u v_1 1 hG hWF Tu ⟨by omega, by omega⟩ ⟨by omega, by omega⟩) (cwV 2 G0.2.2.2.2 g_X12_headsAt_X12_of_287 rfl rfl rfl (by decide +kernel) ⟨(Nat.le_of_ble_eq_true rfl), (Nat.le_of_ble_eq_true rfl)⟩) (py_preV hw (C := RX12) (T := TX12) (N := 54) rfl hr_37) rfl rfl hl.1 rfl (lv_room (Nat.le_of_ble_eq_true rfl)) dX12_headsAt_16 ⟨(Nat.le_of_ble_eq_true rfl), (Nat.le_of_ble_eq_true rfl)⟩) (fun r_43 L_39 f_40 H_41 locs hp_42 hw => ?_)
        obtain ⟨en_44, en_45, rfl, rfl⟩ := hp_42
        have en_44 : r_43.toInt = nw f G u v_1.toInt (1 : Int) := en_44
        have en_45 : ((1 : Int) = 0 → 0 ≤ r_43.toInt ∧ r_43.toInt ≤ 20) ∧ ((1 : Int) = 1 → -1 ≤ r_43.toInt ∧ r_43.toInt ≤ 7) := en_45
        have br_43 := wf_free r_43
        refine lv_iload_n G0.1 G0.2.1 dX12_headsAt_19 rfl (lv_at hl 3 rfl) ?_
        have jn_33 : ∀ (v_46 : Int32) (H_j33 : Heap) (locs : List Loc) (ls : Array Slot), py_W E (va_A (va_pl L f) s.heap.size) s L f H_j33 locs → lv_has ls 4 [(3, .int v_1), (2, .int v_2), (0, .ref u), (1, .int a)] → W p l e (headSpec w_X12_headsAt ({ frames := 1, cells := 0, slots := 0, locals := 22 })).room s m ([.ref u, .int a] : List Value).toArray below meth c H_j33 locs 0 0 (MQ below (py_Qi E L f s.heap.size (fun _ L1 f1 => L = L1 ∧ f = f1)) ([.ref u, .int a] : List Value).toArray s 0 0 (va_A (va_pl L f) s.heap.size)) (F0 m 33 ls [.int v_46, .int v_2]) := by
          intro v_46 H_j33 locs ls hw hl
          refine lv_iadd G0.1 G0.2.1 dX12_headsAt_33 ?_
          refine lv_topi (fun x_47 ex_47 => ?_)
          first | have tx_47 := ti_add ex_47 (by omega) (by omega) | skip
          refine lv_istore_n (lv' := [(2, .int x_47), (3, .int v_1), (0, .ref u), (1, .int a)]) G0.1 G0.2.1 dX12_headsAt_34 rfl hl (by decide) rfl (fun ls hl => ?_)
          obtain ⟨x_48, ex_48⟩ : ∃ y : Int32, y = v_1 + 1 := ⟨_, rfl⟩
          first | have tx_48 := ti_add ex_48 (by omega) (by omega) | skip
          refine lv_iinc (v := x_48) (lv' := [(3, .int x_48), (2, .int x_47), (0, .ref u), (1, .int a)]) G0.1 G0.2.1 dX12_headsAt_35 hl (k := 1) rfl (show _ + (1 : Int32) = _ from ex_48.symm) (by decide) rfl (fun ls hl => ?_)
          refine lv_goto (tgt := 4) G0.1 G0.2.1 dX12_headsAt_38 (by decide) ?_
          exact ih_4 ((2147483647 - x_48.toInt).toNat) (by omega) x_48 x_47 _ _ ls rfl ⟨by omega, by omega⟩ hw (lv_sub hl [0, 1, 2, 3] rfl)
        refine lv_icmp_ne (tgt := 32) G0.1 G0.2.1 dX12_headsAt_20 (by decide) (fun c_49 => ?_) (fun c_49 => ?_)
        · skip
          have tc_49 := ti_ne c_49
          refine lv_iconst (v := 0) G0.1 G0.2.1 dX12_headsAt_32 (by decide) ?_
          exact jn_33 0 _ _ ls hw (lv_sub hl [0, 1, 2, 3] rfl)
        · skip
          have tc_49 := ti_eq c_49
          refine lv_aload_n G0.1 G0.2.1 dX12_headsAt_23 rfl (lv_at hl 2 rfl) ?_
          refine lv_iload_n G0.1 G0.2.1 dX12_headsAt_24 rfl (lv_at hl 0 rfl) ?_
          refine lv_iconst (v := 0) G0.1 G0.2.1 dX12_headsAt_25 (by decide) ?_
          refine py_calli hw (va_runV (As := [.int v_1, .int 0]) (rest := [.int v_2]) G0 (c_X12_of l E G L f H_41.size u v_1 0 hG hWF Tu ⟨by omega, by omega⟩ ⟨by omega, by omega⟩) (cwV 2 G0.2.2.2.2 g_X12_headsAt_X12_of_287 rfl rfl rfl (by decide +kernel) ⟨(Nat.le_of_ble_eq_true rfl), (Nat.le_of_ble_eq_true rfl)⟩) (py_preV hw (C := RX12) (T := TX12) (N := 54) rfl hr_37) rfl rfl hl.1 rfl (lv_room (Nat.le_of_ble_eq_true rfl)) dX12_headsAt_26 ⟨(Nat.le_of_ble_eq_true rfl), (Nat.le_of_ble_eq_true rfl)⟩) (fun r_54 L_50 f_51 H_52 locs hp_53 hw => ?_)
          obtain ⟨en_55, en_56, rfl, rfl⟩ := hp_53
          have en_55 : r_54.toInt = nw f G u v_1.toInt (0 : Int) := en_55
          have en_56 : ((0 : Int) = 0 → 0 ≤ r_54.toInt ∧ r_54.toInt ≤ 20) ∧ ((0 : Int) = 1 → -1 ≤ r_54.toInt ∧ r_54.toInt ≤ 7) := en_56
          have br_54 := wf_free r_54
          refine lv_goto (tgt := 33) G0.1 G0.2.1 dX12_headsAt_29 (by decide) ?_
          exact jn_33 r_54 _ _ ls hw (lv_sub hl [0, 1, 2, 3] rfl)
  exact lo_4 _ 0 0 _ _ ls rfl ⟨by omega, by omega⟩ hw (lv_sub hl [0, 1, 2, 3] rfl)

def w_X12_lackAt : List Cond := .code yX12_lackAt cX12_lackAt 2 (some .int) :: ([Cond.methodLink RX12 325 yX12_headsAt, Cond.instanceMethod yX12_headsAt, Cond.selects RX12 yX12_headsAt yX12_headsAt, Cond.initialized RX12, Cond.methodLink RX12 293 yX12_levelOf, Cond.instanceMethod yX12_levelOf, Cond.selects RX12 yX12_levelOf yX12_levelOf, Cond.methodLink RX12 328 Lib.Math.max.name, Cond.static Lib.Math.max.name, Cond.initialized "java/lang/Math", Cond.code Lib.Math.max.name Lib.Math.max.code 2 (some .int)] ++ (w_X12_headsAt ++ (w_X12_levelOf ++ ([]))))
theorem gg_X12_lackAt_X12_headsAt : GoodIn w_X12_lackAt w_X12_headsAt := goodIn_sub (fun _ h => List.mem_cons_of_mem _ (List.mem_append_right _ (List.mem_append_left _ h))) (by decide +kernel)
theorem gg_X12_lackAt_X12_levelOf : GoodIn w_X12_lackAt w_X12_levelOf := goodIn_sub (fun _ h => List.mem_cons_of_mem _ (List.mem_append_right _ (List.mem_append_right _ (List.mem_append_left _ h)))) (by decide +kernel)
theorem g_X12_lackAt_X12_headsAt_325 : GoodIn w_X12_lackAt (wsV RX12 325 RX12 yX12_headsAt w_X12_headsAt) := goodIn_app (goodIn_of _ (by decide +kernel)) gg_X12_lackAt_X12_headsAt
theorem g_X12_lackAt_X12_levelOf_293 : GoodIn w_X12_lackAt (wsV RX12 293 RX12 yX12_levelOf w_X12_levelOf) := goodIn_app (goodIn_of _ (by decide +kernel)) gg_X12_lackAt_X12_levelOf
set_option maxHeartbeats 4000000 in
set_option maxRecDepth 100000 in
theorem c_X12_lackAt (l : Launch) (E : py_E) (G : wf_G) (L : List Nat) (f : py_F) (sz : Nat) (u : Nat) (a : Int32) (hG : GT G) (hWF : WF E G L f) (Tu : G.1 u = 13) (Ba : (0 ≤ a.toInt ∧ a.toInt ≤ 7)) : Met l yX12_lackAt w_X12_lackAt ({ frames := 2, cells := 0, slots := 0, locals := 45 }) (py_Pc E [.ref u, .int a] L f sz) (py_Qi E L f sz (fun _ L1 f1 => L = L1 ∧ f = f1)) 0 0 (va_A (va_pl L f) sz) := by
  refine Met.ofW (cc := cX12_lackAt) (maxL := 2) (ret := (some .int)) (by decide) rfl ?_
  intro p e s m args below meth c s₁ B hml hv
  obtain ⟨rfl, rfl, hw⟩ := py_start hv
  have G0 : CallFix p m c cX12_lackAt 2 s _ w_X12_lackAt RX12 := ⟨B.exec, B.bytes, hml, findClass_of_methodNamed B.named, atoms_spec (ws := w_X12_lackAt) B.pre⟩
  have hr := B.returns
  have hlk := B.notSynchronized
  have kcm1 : (-1 : Int32).toInt = -1 := rfl
  have kc0 : (0 : Int32).toInt = 0 := rfl
  have kc1 : (1 : Int32).toInt = 1 := rfl
  have hl := lv_entry ([.ref u, .int a]) (n := 2) (Nat.le_of_ble_eq_true rfl)
  rw [lg_entry_eq]
  generalize (lg_sl ([.ref u, .int a]) ++ List.replicate (2 - (lg_sl ([.ref u, .int a])).length) Slot.unset).toArray = ls at hl ⊢
  have hl : lv_has ls 2 [(0, .ref u), (1, .int a)] := hl
  refine lv_iconst (v := 0) G0.1 G0.2.1 dX12_lackAt_0 (by decide) ?_
  refine lv_aload_n G0.1 G0.2.1 dX12_lackAt_1 rfl (lv_at hl 0 rfl) ?_
  refine lv_iload_n G0.1 G0.2.1 dX12_lackAt_2 rfl (lv_at hl 1 rfl) ?_
  obtain ⟨v_1, v_2, v_3, v_4, v_5, v_6, v_7, v_8, v_9, v_10, v_11, v_12, y_13, v_14, v_15, v_16, v_17, v_18, y_19, v_20, y_21, v_22, hr_35, b_23, b_24, b_25, b_26, b_27, b_28, b_29, b_30, b_31, b_32, b_33, b_34⟩ := wg_12 hWF Tu
  refine py_calli hw (va_runV (As := [.int a]) (rest := [.int 0]) G0 (c_X12_headsAt l E G L f s.heap.size u a hG hWF Tu) (cwV 1 G0.2.2.2.2 g_X12_lackAt_X12_headsAt_325 rfl rfl rfl (by decide +kernel) ⟨(Nat.le_of_ble_eq_true rfl), (Nat.le_of_ble_eq_true rfl)⟩) (py_preV hw (C := RX12) (T := TX12) (N := 54) rfl hr_35) rfl rfl hl.1 rfl (lv_room (Nat.le_of_ble_eq_true rfl)) dX12_lackAt_3 ⟨(Nat.le_of_ble_eq_true rfl), (Nat.le_of_ble_eq_true rfl)⟩) (fun r_40 L_36 f_37 H_38 locs hp_39 hw => ?_)
  obtain ⟨rfl, rfl⟩ := hp_39
  have br_40 := wf_free r_40
  refine lv_aload_n G0.1 G0.2.1 dX12_lackAt_6 rfl (lv_at hl 0 rfl) ?_
  refine lv_iload_n G0.1 G0.2.1 dX12_lackAt_7 rfl (lv_at hl 1 rfl) ?_
  refine lv_iconst (v := 1) G0.1 G0.2.1 dX12_lackAt_8 (by decide) ?_
  refine py_calli hw (va_runV (As := [.int a, .int 1]) (rest := [.int r_40, .int 0]) G0 (c_X12_levelOf l E G L f H_38.size u a 1 hG hWF Tu ⟨by omega, by omega⟩ ⟨by omega, by omega⟩) (cwV 2 G0.2.2.2.2 g_X12_lackAt_X12_levelOf_293 rfl rfl rfl (by decide +kernel) ⟨(Nat.le_of_ble_eq_true rfl), (Nat.le_of_ble_eq_true rfl)⟩) (py_preV hw (C := RX12) (T := TX12) (N := 54) rfl hr_35) rfl rfl hl.1 rfl (lv_room (Nat.le_of_ble_eq_true rfl)) dX12_lackAt_9 ⟨(Nat.le_of_ble_eq_true rfl), (Nat.le_of_ble_eq_true rfl)⟩) (fun r_45 L_41 f_42 H_43 locs hp_44 hw => ?_)
  obtain ⟨en_46, rfl, rfl⟩ := hp_44
  have en_46 : r_45.toInt = lr f G u a.toInt (1 : Int) := en_46
  have br_45 := wf_free r_45
  refine lv_isub G0.1 G0.2.1 dX12_lackAt_12 ?_
  refine lv_topi (fun x_47 ex_47 => ?_)
  first | have tx_47 := ti_sub ex_47 (by omega) (by omega) | skip
  refine va_mmax G0.1 G0.2.1 (by rw [G0.2.2.1, hl.1]) G0.2.2.2.1 (G0.2.2.2.2 (Cond.methodLink RX12 328 Lib.Math.max.name) (by decide +kernel)) (G0.2.2.2.2 (Cond.static Lib.Math.max.name) (by decide +kernel)) (G0.2.2.2.2 (Cond.initialized "java/lang/Math") (by decide +kernel)) (G0.2.2.2.2 (Cond.code Lib.Math.max.name Lib.Math.max.code 2 (some .int)) (by decide +kernel)) (Nat.le_of_ble_eq_true rfl) (Nat.le_of_ble_eq_true rfl) (Nat.le_of_ble_eq_true rfl) (Nat.le_of_ble_eq_true rfl) dX12_lackAt_13 ?_
  refine lv_topi (fun x_48 ex_48 => ?_)
  have tx_48 := ti_max ex_48
  exact py_iret G0 hr rfl hlk hw ⟨rfl, rfl⟩ dX12_lackAt_16

def w_X12_wantBy : List Cond := .code yX12_wantBy cX12_wantBy 3 (some .int) :: ([Cond.methodLink RX12 293 yX12_levelOf, Cond.instanceMethod yX12_levelOf, Cond.selects RX12 yX12_levelOf yX12_levelOf, Cond.initialized RX12, Cond.fieldLink RX12 302 "HeadYearModel" "levels" "I", Cond.methodLink RX12 339 Lib.Math.min.name, Cond.static Lib.Math.min.name, Cond.initialized "java/lang/Math", Cond.code Lib.Math.min.name Lib.Math.min.code 2 (some .int), Cond.methodLink RX12 328 Lib.Math.max.name, Cond.static Lib.Math.max.name, Cond.code Lib.Math.max.name Lib.Math.max.code 2 (some .int)] ++ (u_ws RX12 TX12 54 ++ (w_X12_levelOf ++ ([]))))
theorem in_X12_wantBy_X12 : ∀ w ∈ u_ws RX12 TX12 54, w ∈ w_X12_wantBy := fun _ h => List.mem_cons_of_mem _ (List.mem_append_right _ (List.mem_append_left _ h))
theorem gg_X12_wantBy_X12_levelOf : GoodIn w_X12_wantBy w_X12_levelOf := goodIn_sub (fun _ h => List.mem_cons_of_mem _ (List.mem_append_right _ (List.mem_append_right _ (List.mem_append_left _ h)))) (by decide +kernel)
theorem g_X12_wantBy_X12_levelOf_293 : GoodIn w_X12_wantBy (wsV RX12 293 RX12 yX12_levelOf w_X12_levelOf) := goodIn_app (goodIn_of _ (by decide +kernel)) gg_X12_wantBy_X12_levelOf
set_option maxHeartbeats 4000000 in
set_option maxRecDepth 100000 in
theorem c_X12_wantBy (l : Launch) (E : py_E) (G : wf_G) (L : List Nat) (f : py_F) (sz : Nat) (u : Nat) (a : Int32) (b : Int32) (hG : GT G) (hWF : WF E G L f) (Tu : G.1 u = 13) (Ba : (0 ≤ a.toInt ∧ a.toInt ≤ 7)) : Met l yX12_wantBy w_X12_wantBy ({ frames := 1, cells := 0, slots := 0, locals := 24 }) (py_Pc E [.ref u, .int a, .int b] L f sz) (py_Qi E L f sz (fun r L1 f1 => (0 ≤ r.toInt ∧ r.toInt ≤ 7) ∧ (r.toInt = WB f G u a b) ∧ L = L1 ∧ f = f1)) 0 0 (va_A (va_pl L f) sz) := by
  refine Met.ofW (cc := cX12_wantBy) (maxL := 3) (ret := (some .int)) (by decide) rfl ?_
  intro p e s m args below meth c s₁ B hml hv
  obtain ⟨rfl, rfl, hw⟩ := py_start hv
  have G0 : CallFix p m c cX12_wantBy 3 s _ w_X12_wantBy RX12 := ⟨B.exec, B.bytes, hml, findClass_of_methodNamed B.named, atoms_spec (ws := w_X12_wantBy) B.pre⟩
  have hr := B.returns
  have hlk := B.notSynchronized
  have kcm1 : (-1 : Int32).toInt = -1 := rfl
  have kc0 : (0 : Int32).toInt = 0 := rfl
  have kc1 : (1 : Int32).toInt = 1 := rfl
  have kc3 : (3 : Int32).toInt = 3 := rfl
  have hl := lv_entry ([.ref u, .int a, .int b]) (n := 3) (Nat.le_of_ble_eq_true rfl)
  rw [lg_entry_eq]
  generalize (lg_sl ([.ref u, .int a, .int b]) ++ List.replicate (3 - (lg_sl ([.ref u, .int a, .int b])).length) Slot.unset).toArray = ls at hl ⊢
  have hl : lv_has ls 3 [(0, .ref u), (1, .int a), (2, .int b)] := hl
  refine lv_aload_n G0.1 G0.2.1 dX12_wantBy_0 rfl (lv_at hl 0 rfl) ?_
  refine lv_iload_n G0.1 G0.2.1 dX12_wantBy_1 rfl (lv_at hl 1 rfl) ?_
  refine lv_iconst (v := 3) G0.1 G0.2.1 dX12_wantBy_2 (by decide) ?_
  obtain ⟨v_1, v_2, v_3, v_4, v_5, v_6, v_7, v_8, v_9, v_10, v_11, v_12, y_13, v_14, v_15, v_16, v_17, v_18, y_19, v_20, y_21, v_22, hr_35, b_23, b_24, b_25, b_26, b_27, b_28, b_29, b_30, b_31, b_32, b_33, b_34⟩ := wg_12 hWF Tu
  have tq_36 := mi_row hr_35 24 rfl
  refine py_calli hw (va_runV (As := [.int a, .int 3]) (rest := []) G0 (c_X12_levelOf l E G L f s.heap.size u a 3 hG hWF Tu ⟨by omega, by omega⟩ ⟨by omega, by omega⟩) (cwV 2 G0.2.2.2.2 g_X12_wantBy_X12_levelOf_293 rfl rfl rfl (by decide +kernel) ⟨(Nat.le_of_ble_eq_true rfl), (Nat.le_of_ble_eq_true rfl)⟩) (py_preV hw (C := RX12) (T := TX12) (N := 54) rfl hr_35) rfl rfl hl.1 rfl (lv_room (Nat.le_of_ble_eq_true rfl)) dX12_wantBy_3 ⟨(Nat.le_of_ble_eq_true rfl), (Nat.le_of_ble_eq_true rfl)⟩) (fun r_41 L_37 f_38 H_39 locs hp_40 hw => ?_)
  obtain ⟨en_42, rfl, rfl⟩ := hp_40
  have en_42 : r_41.toInt = lr f G u a.toInt (3 : Int) := en_42
  have br_41 := wf_free r_41
  refine lv_iconst (v := 1) G0.1 G0.2.1 dX12_wantBy_6 (by decide) ?_
  refine lv_icmp_ne (tgt := 14) G0.1 G0.2.1 dX12_wantBy_7 (by decide) (fun c_43 => ?_) (fun c_43 => ?_)
  · skip
    have tc_43 := ti_ne c_43
    refine lv_iconst (v := 0) G0.1 G0.2.1 dX12_wantBy_14 (by decide) ?_
    refine lv_aload_n G0.1 G0.2.1 dX12_wantBy_15 rfl (lv_at hl 0 rfl) ?_
    refine py_get (C := RX12) (T := TX12) (N := 54) (k := 24) (v := .int v_10) G0 hw in_X12_wantBy_X12 rfl hr_35 (by decide) (by decide +kernel) rfl dX12_wantBy_16 ?_
    refine lv_iconst (v := 1) G0.1 G0.2.1 dX12_wantBy_19 (by decide) ?_
    refine lv_isub G0.1 G0.2.1 dX12_wantBy_20 ?_
    refine lv_topi (fun x_44 ex_44 => ?_)
    first | have tx_44 := ti_sub ex_44 (by omega) (by omega) | skip
    refine lv_iload_n G0.1 G0.2.1 dX12_wantBy_21 rfl (lv_at hl 1 rfl) ?_
    refine lv_iload_n G0.1 G0.2.1 dX12_wantBy_22 rfl (lv_at hl 2 rfl) ?_
    refine lv_iadd G0.1 G0.2.1 dX12_wantBy_23 ?_
    refine lv_topi (fun x_45 ex_45 => ?_)
    first | have tx_45 := ti_add ex_45 (by omega) (by omega) | skip
    refine va_mmin G0.1 G0.2.1 (by rw [G0.2.2.1, hl.1]) G0.2.2.2.1 (G0.2.2.2.2 (Cond.methodLink RX12 339 Lib.Math.min.name) (by decide +kernel)) (G0.2.2.2.2 (Cond.static Lib.Math.min.name) (by decide +kernel)) (G0.2.2.2.2 (Cond.initialized "java/lang/Math") (by decide +kernel)) (G0.2.2.2.2 (Cond.code Lib.Math.min.name Lib.Math.min.code 2 (some .int)) (by decide +kernel)) (Nat.le_of_ble_eq_true rfl) (Nat.le_of_ble_eq_true rfl) (Nat.le_of_ble_eq_true rfl) (Nat.le_of_ble_eq_true rfl) dX12_wantBy_24 ?_
    refine lv_topi (fun x_46 ex_46 => ?_)
    have tx_46 := ti_min ex_46
    refine va_mmax G0.1 G0.2.1 (by rw [G0.2.2.1, hl.1]) G0.2.2.2.1 (G0.2.2.2.2 (Cond.methodLink RX12 328 Lib.Math.max.name) (by decide +kernel)) (G0.2.2.2.2 (Cond.static Lib.Math.max.name) (by decide +kernel)) (G0.2.2.2.2 (Cond.initialized "java/lang/Math") (by decide +kernel)) (G0.2.2.2.2 (Cond.code Lib.Math.max.name Lib.Math.max.code 2 (some .int)) (by decide +kernel)) (Nat.le_of_ble_eq_true rfl) (Nat.le_of_ble_eq_true rfl) (Nat.le_of_ble_eq_true rfl) (Nat.le_of_ble_eq_true rfl) dX12_wantBy_27 ?_
    refine lv_topi (fun x_47 ex_47 => ?_)
    have tx_47 := ti_max ex_47
    exact py_iret G0 hr rfl hlk hw ⟨⟨by omega, by omega⟩, (by unfold WB; rw [if_neg (by omega), ← ex_45]; omega), rfl, rfl⟩ dX12_wantBy_30
  · skip
    have tc_43 := ti_eq c_43
    refine lv_iload_n G0.1 G0.2.1 dX12_wantBy_10 rfl (lv_at hl 1 rfl) ?_
    refine lv_goto (tgt := 30) G0.1 G0.2.1 dX12_wantBy_11 (by decide) ?_
    exact py_iret G0 hr rfl hlk hw ⟨⟨by omega, by omega⟩, (by unfold WB; rw [if_pos (by omega)]), rfl, rfl⟩ dX12_wantBy_30

def w_X12_want : List Cond := .code yX12_want cX12_want 2 (some .int) :: ([Cond.methodLink RX12 341 yX12_isGone, Cond.instanceMethod yX12_isGone, Cond.selects RX12 yX12_isGone yX12_isGone, Cond.initialized RX12, Cond.methodLink RX12 287 yX12_of, Cond.instanceMethod yX12_of, Cond.selects RX12 yX12_of yX12_of, Cond.methodLink RX12 344 yX12_wantBy, Cond.instanceMethod yX12_wantBy, Cond.selects RX12 yX12_wantBy yX12_wantBy] ++ (w_X12_isGone ++ (w_X12_of ++ (w_X12_wantBy ++ ([])))))
theorem gg_X12_want_X12_isGone : GoodIn w_X12_want w_X12_isGone := goodIn_sub (fun _ h => List.mem_cons_of_mem _ (List.mem_append_right _ (List.mem_append_left _ h))) (by decide +kernel)
theorem gg_X12_want_X12_of : GoodIn w_X12_want w_X12_of := goodIn_sub (fun _ h => List.mem_cons_of_mem _ (List.mem_append_right _ (List.mem_append_right _ (List.mem_append_left _ h)))) (by decide +kernel)
theorem gg_X12_want_X12_wantBy : GoodIn w_X12_want w_X12_wantBy := goodIn_sub (fun _ h => List.mem_cons_of_mem _ (List.mem_append_right _ (List.mem_append_right _ (List.mem_append_right _ (List.mem_append_left _ h))))) (by decide +kernel)
theorem g_X12_want_X12_isGone_341 : GoodIn w_X12_want (wsV RX12 341 RX12 yX12_isGone w_X12_isGone) := goodIn_app (goodIn_of _ (by decide +kernel)) gg_X12_want_X12_isGone
theorem g_X12_want_X12_of_287 : GoodIn w_X12_want (wsV RX12 287 RX12 yX12_of w_X12_of) := goodIn_app (goodIn_of _ (by decide +kernel)) gg_X12_want_X12_of
theorem g_X12_want_X12_wantBy_344 : GoodIn w_X12_want (wsV RX12 344 RX12 yX12_wantBy w_X12_wantBy) := goodIn_app (goodIn_of _ (by decide +kernel)) gg_X12_want_X12_wantBy
set_option maxHeartbeats 4000000 in
set_option maxRecDepth 100000 in
theorem c_X12_want (l : Launch) (E : py_E) (G : wf_G) (L : List Nat) (f : py_F) (sz : Nat) (u : Nat) (a : Int32) (hG : GT G) (hWF : WF E G L f) (Tu : G.1 u = 13) (Ba : (0 ≤ a.toInt ∧ a.toInt ≤ 9)) : Met l yX12_want w_X12_want ({ frames := 2, cells := 0, slots := 0, locals := 46 }) (py_Pc E [.ref u, .int a] L f sz) (py_Qi E L f sz (fun r L1 f1 => ((-1) ≤ r.toInt ∧ r.toInt ≤ 7) ∧ (r.toInt = WT f G u a.toInt) ∧ (0 ≤ nw f G u a.toInt 1 → 0 ≤ r.toInt) ∧ L = L1 ∧ f = f1)) 0 0 (va_A (va_pl L f) sz) := by
  refine Met.ofW (cc := cX12_want) (maxL := 2) (ret := (some .int)) (by decide) rfl ?_
  intro p e s m args below meth c s₁ B hml hv
  obtain ⟨rfl, rfl, hw⟩ := py_start hv
  have G0 : CallFix p m c cX12_want 2 s _ w_X12_want RX12 := ⟨B.exec, B.bytes, hml, findClass_of_methodNamed B.named, atoms_spec (ws := w_X12_want) B.pre⟩
  have hr := B.returns
  have hlk := B.notSynchronized
  have kcm1 : (-1 : Int32).toInt = -1 := rfl
  have kc0 : (0 : Int32).toInt = 0 := rfl
  have kc1 : (1 : Int32).toInt = 1 := rfl
  have kc3 : (3 : Int32).toInt = 3 := rfl
  have hl := lv_entry ([.ref u, .int a]) (n := 2) (Nat.le_of_ble_eq_true rfl)
  rw [lg_entry_eq]
  generalize (lg_sl ([.ref u, .int a]) ++ List.replicate (2 - (lg_sl ([.ref u, .int a])).length) Slot.unset).toArray = ls at hl ⊢
  have hl : lv_has ls 2 [(0, .ref u), (1, .int a)] := hl
  refine lv_aload_n G0.1 G0.2.1 dX12_want_0 rfl (lv_at hl 0 rfl) ?_
  refine lv_iload_n G0.1 G0.2.1 dX12_want_1 rfl (lv_at hl 1 rfl) ?_
  obtain ⟨v_1, v_2, v_3, v_4, v_5, v_6, v_7, v_8, v_9, v_10, v_11, v_12, y_13, v_14, v_15, v_16, v_17, v_18, y_19, v_20, y_21, v_22, hr_35, b_23, b_24, b_25, b_26, b_27, b_28, b_29, b_30, b_31, b_32, b_33, b_34⟩ := wg_12 hWF Tu
  refine py_calli hw (va_runV (As := [.int a]) (rest := []) G0 (c_X12_isGone l E G L f s.heap.size u a hG hWF Tu ⟨by omega, by omega⟩) (cwV 1 G0.2.2.2.2 g_X12_want_X12_isGone_341 rfl rfl rfl (by decide +kernel) ⟨(Nat.le_of_ble_eq_true rfl), (Nat.le_of_ble_eq_true rfl)⟩) (py_preV hw (C := RX12) (T := TX12) (N := 54) rfl hr_35) rfl rfl hl.1 rfl (lv_room (Nat.le_of_ble_eq_true rfl)) dX12_want_2 ⟨(Nat.le_of_ble_eq_true rfl), (Nat.le_of_ble_eq_true rfl)⟩) (fun r_40 L_36 f_37 H_38 locs hp_39 hw => ?_)
  obtain ⟨b_43, en_41, en_42, rfl, rfl⟩ := hp_39
  refine lv_if_eq (tgt := 12) G0.1 G0.2.1 dX12_want_5 (by decide) (fun c_44 => ?_) (fun c_44 => ?_)
  · skip
    have tc_44 := ti_eq c_44
    clear en_41
    replace en_42 := en_42 (by omega)
    refine lv_aload_n G0.1 G0.2.1 dX12_want_12 rfl (lv_at hl 0 rfl) ?_
    refine lv_aload_n G0.1 G0.2.1 dX12_want_13 rfl (lv_at hl 0 rfl) ?_
    refine lv_iload_n G0.1 G0.2.1 dX12_want_14 rfl (lv_at hl 1 rfl) ?_
    refine lv_iconst (v := 1) G0.1 G0.2.1 dX12_want_15 (by decide) ?_
    refine py_calli hw (va_runV (As := [.int a, .int 1]) (rest := [.ref u]) G0 (c_X12_of l E G L f H_38.size u a 1 hG hWF Tu ⟨by omega, by omega⟩ ⟨by omega, by omega⟩) (cwV 2 G0.2.2.2.2 g_X12_want_X12_of_287 rfl rfl rfl (by decide +kernel) ⟨(Nat.le_of_ble_eq_true rfl), (Nat.le_of_ble_eq_true rfl)⟩) (py_preV hw (C := RX12) (T := TX12) (N := 54) rfl hr_35) rfl rfl hl.1 rfl (lv_room (Nat.le_of_ble_eq_true rfl)) dX12_want_16 ⟨(Nat.le_of_ble_eq_true rfl), (Nat.le_of_ble_eq_true rfl)⟩) (fun r_49 L_45 f_46 H_47 locs hp_48 hw => ?_)
    obtain ⟨en_50, en_51, rfl, rfl⟩ := hp_48
    have en_50 : r_49.toInt = nw f G u a.toInt (1 : Int) := en_50
    have en_51 : ((1 : Int) = 0 → 0 ≤ r_49.toInt ∧ r_49.toInt ≤ 20) ∧ ((1 : Int) = 1 → -1 ≤ r_49.toInt ∧ r_49.toInt ≤ 7) := en_51
    have br_49 := wf_free r_49
    refine lv_aload_n G0.1 G0.2.1 dX12_want_19 rfl (lv_at hl 0 rfl) ?_
    refine lv_iload_n G0.1 G0.2.1 dX12_want_20 rfl (lv_at hl 1 rfl) ?_
    refine lv_iconst (v := 3) G0.1 G0.2.1 dX12_want_21 (by decide) ?_
    refine py_calli hw (va_runV (As := [.int a, .int 3]) (rest := [.int r_49, .ref u]) G0 (c_X12_of l E G L f H_47.size u a 3 hG hWF Tu ⟨by omega, by omega⟩ ⟨by omega, by omega⟩) (cwV 2 G0.2.2.2.2 g_X12_want_X12_of_287 rfl rfl rfl (by decide +kernel) ⟨(Nat.le_of_ble_eq_true rfl), (Nat.le_of_ble_eq_true rfl)⟩) (py_preV hw (C := RX12) (T := TX12) (N := 54) rfl hr_35) rfl rfl hl.1 rfl (lv_room (Nat.le_of_ble_eq_true rfl)) dX12_want_22 ⟨(Nat.le_of_ble_eq_true rfl), (Nat.le_of_ble_eq_true rfl)⟩) (fun r_56 L_52 f_53 H_54 locs hp_55 hw => ?_)
    obtain ⟨en_57, en_58, rfl, rfl⟩ := hp_55
    have en_57 : r_56.toInt = nw f G u a.toInt (3 : Int) := en_57
    have en_58 : ((3 : Int) = 0 → 0 ≤ r_56.toInt ∧ r_56.toInt ≤ 20) ∧ ((3 : Int) = 1 → -1 ≤ r_56.toInt ∧ r_56.toInt ≤ 7) := en_58
    have br_56 := wf_free r_56
    refine py_calli hw (va_runV (As := [.int r_49, .int r_56]) (rest := []) G0 (c_X12_wantBy l E G L f H_54.size u r_49 r_56 hG hWF Tu ⟨by omega, by omega⟩) (cwV 2 G0.2.2.2.2 g_X12_want_X12_wantBy_344 rfl rfl rfl (by decide +kernel) ⟨(Nat.le_of_ble_eq_true rfl), (Nat.le_of_ble_eq_true rfl)⟩) (py_preV hw (C := RX12) (T := TX12) (N := 54) rfl hr_35) rfl rfl hl.1 rfl (lv_room (Nat.le_of_ble_eq_true rfl)) dX12_want_25 ⟨(Nat.le_of_ble_eq_true rfl), (Nat.le_of_ble_eq_true rfl)⟩) (fun r_63 L_59 f_60 H_61 locs hp_62 hw => ?_)
    obtain ⟨b_65, en_64, rfl, rfl⟩ := hp_62
    exact py_iret G0 hr rfl hlk hw ⟨⟨by omega, by omega⟩, (by unfold WT; rw [if_neg (by omega), ← en_50, ← en_57, Int32.ofInt_toInt, Int32.ofInt_toInt]; exact en_64), (by first | omega | (intro q; omega)), rfl, rfl⟩ dX12_want_28
  · skip
    have tc_44 := ti_ne c_44
    replace en_41 := en_41 (by omega)
    clear en_42
    refine lv_iconst (v := (-1)) G0.1 G0.2.1 dX12_want_8 (by decide) ?_
    refine lv_goto (tgt := 28) G0.1 G0.2.1 dX12_want_9 (by decide) ?_
    exact py_iret G0 hr rfl hlk hw ⟨⟨by omega, by omega⟩, (by unfold WT; rw [if_pos (by first | exact en_41 | exact en_41 (by omega))]; rfl), (by first | omega | (intro q; omega)), rfl, rfl⟩ dX12_want_28

def w_X12_wants : List Cond := .code yX12_wants cX12_wants 2 (some .boolean) :: ([Cond.methodLink RX12 341 yX12_isGone, Cond.instanceMethod yX12_isGone, Cond.selects RX12 yX12_isGone yX12_isGone, Cond.initialized RX12, Cond.methodLink RX12 351 yX12_want, Cond.instanceMethod yX12_want, Cond.selects RX12 yX12_want yX12_want, Cond.methodLink RX12 287 yX12_of, Cond.instanceMethod yX12_of, Cond.selects RX12 yX12_of yX12_of] ++ (w_X12_isGone ++ (w_X12_want ++ (w_X12_of ++ ([])))))
theorem gg_X12_wants_X12_isGone : GoodIn w_X12_wants w_X12_isGone := goodIn_sub (fun _ h => List.mem_cons_of_mem _ (List.mem_append_right _ (List.mem_append_left _ h))) (by decide +kernel)
theorem gg_X12_wants_X12_want : GoodIn w_X12_wants w_X12_want := goodIn_sub (fun _ h => List.mem_cons_of_mem _ (List.mem_append_right _ (List.mem_append_right _ (List.mem_append_left _ h)))) (by decide +kernel)
theorem gg_X12_wants_X12_of : GoodIn w_X12_wants w_X12_of := goodIn_sub (fun _ h => List.mem_cons_of_mem _ (List.mem_append_right _ (List.mem_append_right _ (List.mem_append_right _ (List.mem_append_left _ h))))) (by decide +kernel)
theorem g_X12_wants_X12_isGone_341 : GoodIn w_X12_wants (wsV RX12 341 RX12 yX12_isGone w_X12_isGone) := goodIn_app (goodIn_of _ (by decide +kernel)) gg_X12_wants_X12_isGone
theorem g_X12_wants_X12_of_287 : GoodIn w_X12_wants (wsV RX12 287 RX12 yX12_of w_X12_of) := goodIn_app (goodIn_of _ (by decide +kernel)) gg_X12_wants_X12_of
theorem g_X12_wants_X12_want_351 : GoodIn w_X12_wants (wsV RX12 351 RX12 yX12_want w_X12_want) := goodIn_app (goodIn_of _ (by decide +kernel)) gg_X12_wants_X12_want
set_option maxHeartbeats 4000000 in
set_option maxRecDepth 100000 in
theorem c_X12_wants (l : Launch) (E : py_E) (G : wf_G) (L : List Nat) (f : py_F) (sz : Nat) (u : Nat) (a : Int32) (hG : GT G) (hWF : WF E G L f) (Tu : G.1 u = 13) (Ba : (0 ≤ a.toInt ∧ a.toInt ≤ 9)) : Met l yX12_wants w_X12_wants ({ frames := 3, cells := 0, slots := 0, locals := 67 }) (py_Pc E [.ref u, .int a] L f sz) (py_Qi E L f sz (fun r L1 f1 => (0 ≤ r.toInt ∧ r.toInt ≤ 1) ∧ (r.toInt ≠ 0 → WS f G u a.toInt) ∧ (r.toInt = 0 → ¬ WS f G u a.toInt) ∧ (r.toInt ≠ 0 → 0 ≤ nw f G u a.toInt 1) ∧ L = L1 ∧ f = f1)) 0 0 (va_A (va_pl L f) sz) := by
  refine Met.ofW (cc := cX12_wants) (maxL := 2) (ret := (some .boolean)) (by decide) rfl ?_
  intro p e s m args below meth c s₁ B hml hv
  obtain ⟨rfl, rfl, hw⟩ := py_start hv
  have G0 : CallFix p m c cX12_wants 2 s _ w_X12_wants RX12 := ⟨B.exec, B.bytes, hml, findClass_of_methodNamed B.named, atoms_spec (ws := w_X12_wants) B.pre⟩
  have hr := B.returns
  have hlk := B.notSynchronized
  have kcm1 : (-1 : Int32).toInt = -1 := rfl
  have kc0 : (0 : Int32).toInt = 0 := rfl
  have kc1 : (1 : Int32).toInt = 1 := rfl
  have hl := lv_entry ([.ref u, .int a]) (n := 2) (Nat.le_of_ble_eq_true rfl)
  rw [lg_entry_eq]
  generalize (lg_sl ([.ref u, .int a]) ++ List.replicate (2 - (lg_sl ([.ref u, .int a])).length) Slot.unset).toArray = ls at hl ⊢
  have hl : lv_has ls 2 [(0, .ref u), (1, .int a)] := hl
  refine lv_aload_n G0.1 G0.2.1 dX12_wants_0 rfl (lv_at hl 0 rfl) ?_
  refine lv_iload_n G0.1 G0.2.1 dX12_wants_1 rfl (lv_at hl 1 rfl) ?_
  obtain ⟨v_1, v_2, v_3, v_4, v_5, v_6, v_7, v_8, v_9, v_10, v_11, v_12, y_13, v_14, v_15, v_16, v_17, v_18, y_19, v_20, y_21, v_22, hr_35, b_23, b_24, b_25, b_26, b_27, b_28, b_29, b_30, b_31, b_32, b_33, b_34⟩ := wg_12 hWF Tu
  refine py_calli hw (va_runV (As := [.int a]) (rest := []) G0 (c_X12_isGone l E G L f s.heap.size u a hG hWF Tu ⟨by omega, by omega⟩) (cwV 1 G0.2.2.2.2 g_X12_wants_X12_isGone_341 rfl rfl rfl (by decide +kernel) ⟨(Nat.le_of_ble_eq_true rfl), (Nat.le_of_ble_eq_true rfl)⟩) (py_preV hw (C := RX12) (T := TX12) (N := 54) rfl hr_35) rfl rfl hl.1 rfl (lv_room (Nat.le_of_ble_eq_true rfl)) dX12_wants_2 ⟨(Nat.le_of_ble_eq_true rfl), (Nat.le_of_ble_eq_true rfl)⟩) (fun r_40 L_36 f_37 H_38 locs hp_39 hw => ?_)
  obtain ⟨b_43, en_41, en_42, rfl, rfl⟩ := hp_39
  refine lv_if_ne (tgt := 26) G0.1 G0.2.1 dX12_wants_5 (by decide) (fun c_44 => ?_) (fun c_44 => ?_)
  · skip
    have tc_44 := ti_ne c_44
    replace en_41 := en_41 (by omega)
    clear en_42
    refine lv_iconst (v := 0) G0.1 G0.2.1 dX12_wants_26 (by decide) ?_
    exact py_iret G0 hr rfl hlk hw ⟨⟨by omega, by omega⟩, (by intro q; unfold WS; omega), (by intro q; unfold WS; omega), (by first | omega | (intro q; omega)), rfl, rfl⟩ dX12_wants_27
  · skip
    have tc_44 := ti_eq c_44
    clear en_41
    replace en_42 := en_42 (by omega)
    refine lv_aload_n G0.1 G0.2.1 dX12_wants_8 rfl (lv_at hl 0 rfl) ?_
    refine lv_iload_n G0.1 G0.2.1 dX12_wants_9 rfl (lv_at hl 1 rfl) ?_
    refine py_calli hw (va_runV (As := [.int a]) (rest := []) G0 (c_X12_want l E G L f H_38.size u a hG hWF Tu ⟨by omega, by omega⟩) (cwV 1 G0.2.2.2.2 g_X12_wants_X12_want_351 rfl rfl rfl (by decide +kernel) ⟨(Nat.le_of_ble_eq_true rfl), (Nat.le_of_ble_eq_true rfl)⟩) (py_preV hw (C := RX12) (T := TX12) (N := 54) rfl hr_35) rfl rfl hl.1 rfl (lv_room (Nat.le_of_ble_eq_true rfl)) dX12_wants_10 ⟨(Nat.le_of_ble_eq_true rfl), (Nat.le_of_ble_eq_true rfl)⟩) (fun r_49 L_45 f_46 H_47 locs hp_48 hw => ?_)
    obtain ⟨b_52, en_50, en_51, rfl, rfl⟩ := hp_48
    refine lv_aload_n G0.1 G0.2.1 dX12_wants_13 rfl (lv_at hl 0 rfl) ?_
    refine lv_iload_n G0.1 G0.2.1 dX12_wants_14 rfl (lv_at hl 1 rfl) ?_
    refine lv_iconst (v := 1) G0.1 G0.2.1 dX12_wants_15 (by decide) ?_
    refine py_calli hw (va_runV (As := [.int a, .int 1]) (rest := [.int r_49]) G0 (c_X12_of l E G L f H_47.size u a 1 hG hWF Tu ⟨by omega, by omega⟩ ⟨by omega, by omega⟩) (cwV 2 G0.2.2.2.2 g_X12_wants_X12_of_287 rfl rfl rfl (by decide +kernel) ⟨(Nat.le_of_ble_eq_true rfl), (Nat.le_of_ble_eq_true rfl)⟩) (py_preV hw (C := RX12) (T := TX12) (N := 54) rfl hr_35) rfl rfl hl.1 rfl (lv_room (Nat.le_of_ble_eq_true rfl)) dX12_wants_16 ⟨(Nat.le_of_ble_eq_true rfl), (Nat.le_of_ble_eq_true rfl)⟩) (fun r_57 L_53 f_54 H_55 locs hp_56 hw => ?_)
    obtain ⟨en_58, en_59, rfl, rfl⟩ := hp_56
    have en_58 : r_57.toInt = nw f G u a.toInt (1 : Int) := en_58
    have en_59 : ((1 : Int) = 0 → 0 ≤ r_57.toInt ∧ r_57.toInt ≤ 20) ∧ ((1 : Int) = 1 → -1 ≤ r_57.toInt ∧ r_57.toInt ≤ 7) := en_59
    have br_57 := wf_free r_57
    refine lv_icmp_eq (tgt := 26) G0.1 G0.2.1 dX12_wants_19 (by decide) (fun c_60 => ?_) (fun c_60 => ?_)
    · skip
      have tc_60 := ti_eq c_60
      refine lv_iconst (v := 0) G0.1 G0.2.1 dX12_wants_26 (by decide) ?_
      exact py_iret G0 hr rfl hlk hw ⟨⟨by omega, by omega⟩, (by intro q; unfold WS; omega), (by intro q; unfold WS; omega), (by first | omega | (intro q; omega)), rfl, rfl⟩ dX12_wants_27
    · skip
      have tc_60 := ti_ne c_60
      refine lv_iconst (v := 1) G0.1 G0.2.1 dX12_wants_22 (by decide) ?_
      refine lv_goto (tgt := 27) G0.1 G0.2.1 dX12_wants_23 (by decide) ?_
      exact py_iret G0 hr rfl hlk hw ⟨⟨by omega, by omega⟩, (by intro q; unfold WS; omega), (by intro q; unfold WS; omega), (by first | omega | (intro q; omega)), rfl, rfl⟩ dX12_wants_27

def w_X12_nextOf : List Cond := .code yX12_nextOf cX12_nextOf 3 (some .int) :: ([Cond.fieldLink RX12 290 "HeadYearModel" "families" "I", Cond.methodLink RX12 382 yX12_wants, Cond.instanceMethod yX12_wants, Cond.selects RX12 yX12_wants yX12_wants, Cond.initialized RX12, Cond.methodLink RX12 287 yX12_of, Cond.instanceMethod yX12_of, Cond.selects RX12 yX12_of yX12_of, Cond.methodLink RX12 351 yX12_want, Cond.instanceMethod yX12_want, Cond.selects RX12 yX12_want yX12_want] ++ (u_ws RX12 TX12 54 ++ (w_X12_wants ++ (w_X12_of ++ (w_X12_want ++ ([]))))))
theorem in_X12_nextOf_X12 : ∀ w ∈ u_ws RX12 TX12 54, w ∈ w_X12_nextOf := fun _ h => List.mem_cons_of_mem _ (List.mem_append_right _ (List.mem_append_left _ h))
theorem gg_X12_nextOf_X12_wants : GoodIn w_X12_nextOf w_X12_wants := goodIn_sub (fun _ h => List.mem_cons_of_mem _ (List.mem_append_right _ (List.mem_append_right _ (List.mem_append_left _ h)))) (by decide +kernel)
theorem gg_X12_nextOf_X12_of : GoodIn w_X12_nextOf w_X12_of := goodIn_sub (fun _ h => List.mem_cons_of_mem _ (List.mem_append_right _ (List.mem_append_right _ (List.mem_append_right _ (List.mem_append_left _ h))))) (by decide +kernel)
theorem gg_X12_nextOf_X12_want : GoodIn w_X12_nextOf w_X12_want := goodIn_sub (fun _ h => List.mem_cons_of_mem _ (List.mem_append_right _ (List.mem_append_right _ (List.mem_append_right _ (List.mem_append_right _ (List.mem_append_left _ h)))))) (by decide +kernel)
theorem g_X12_nextOf_X12_of_287 : GoodIn w_X12_nextOf (wsV RX12 287 RX12 yX12_of w_X12_of) := goodIn_app (goodIn_of _ (by decide +kernel)) gg_X12_nextOf_X12_of
theorem g_X12_nextOf_X12_want_351 : GoodIn w_X12_nextOf (wsV RX12 351 RX12 yX12_want w_X12_want) := goodIn_app (goodIn_of _ (by decide +kernel)) gg_X12_nextOf_X12_want
theorem g_X12_nextOf_X12_wants_382 : GoodIn w_X12_nextOf (wsV RX12 382 RX12 yX12_wants w_X12_wants) := goodIn_app (goodIn_of _ (by decide +kernel)) gg_X12_nextOf_X12_wants
set_option maxHeartbeats 4000000 in
set_option maxRecDepth 100000 in
theorem c_X12_nextOf (l : Launch) (E : py_E) (G : wf_G) (L : List Nat) (f : py_F) (sz : Nat) (u : Nat) (a : Int32) (hG : GT G) (hWF : WF E G L f) (Tu : G.1 u = 13) (Ba : (0 ≤ a.toInt ∧ a.toInt ≤ 9)) : Met l yX12_nextOf w_X12_nextOf ({ frames := 4, cells := 0, slots := 0, locals := 88 }) (py_Pc E [.ref u, .int a] L f sz) (py_Qi E L f sz (fun r L1 f1 => ((-1) ≤ r.toInt ∧ r.toInt ≤ 9) ∧ (NX f G u a.toInt r.toInt) ∧ L = L1 ∧ f = f1)) 0 0 (va_A (va_pl L f) sz) := by
  refine Met.ofW (cc := cX12_nextOf) (maxL := 3) (ret := (some .int)) (by decide) rfl ?_
  intro p e s m args below meth c s₁ B hml hv
  obtain ⟨rfl, rfl, hw⟩ := py_start hv
  have G0 : CallFix p m c cX12_nextOf 3 s _ w_X12_nextOf RX12 := ⟨B.exec, B.bytes, hml, findClass_of_methodNamed B.named, atoms_spec (ws := w_X12_nextOf) B.pre⟩
  have hr := B.returns
  have hlk := B.notSynchronized
  have kcm1 : (-1 : Int32).toInt = -1 := rfl
  have kc0 : (0 : Int32).toInt = 0 := rfl
  have kc1 : (1 : Int32).toInt = 1 := rfl
  have hl := lv_entry ([.ref u, .int a]) (n := 3) (Nat.le_of_ble_eq_true rfl)
  rw [lg_entry_eq]
  generalize (lg_sl ([.ref u, .int a]) ++ List.replicate (3 - (lg_sl ([.ref u, .int a])).length) Slot.unset).toArray = ls at hl ⊢
  have hl : lv_has ls 3 [(0, .ref u), (1, .int a)] := hl
  refine lv_iconst (v := 0) G0.1 G0.2.1 dX12_nextOf_0 (by decide) ?_
  refine lv_istore_n (lv' := [(2, .int 0), (0, .ref u), (1, .int a)]) G0.1 G0.2.1 dX12_nextOf_1 rfl hl (by decide) rfl (fun ls hl => ?_)
  have lo_2 : ∀ n_2 : Nat, ∀ (v_1 : Int32) (H_j2 : Heap) (locs : List Loc) (ls : Array Slot), (2147483647 - v_1.toInt).toNat = n_2 → (0 ≤ v_1.toInt ∧ v_1.toInt ≤ 2147483647) → (∀ o : Int, 0 ≤ o → o < v_1.toInt → ¬ (WS f G u o ∧ nw f G u o 1 = WT f G u a.toInt)) → py_W E (va_A (va_pl L f) s.heap.size) s L f H_j2 locs → lv_has ls 3 [(2, .int v_1), (0, .ref u), (1, .int a)] → W p l e (headSpec w_X12_nextOf ({ frames := 4, cells := 0, slots := 0, locals := 88 })).room s m ([.ref u, .int a] : List Value).toArray below meth c H_j2 locs 0 0 (MQ below (py_Qi E L f s.heap.size (fun r L1 f1 => ((-1) ≤ r.toInt ∧ r.toInt ≤ 9) ∧ (NX f G u a.toInt r.toInt) ∧ L = L1 ∧ f = f1)) ([.ref u, .int a] : List Value).toArray s 0 0 (va_A (va_pl L f) s.heap.size)) (F0 m 2 ls []) := by
    intro n_2
    induction n_2 using Nat.strongRecOn with
    | _ n_2 ih_2 =>
      intro v_1 H_j2 locs ls hn_2 bv_1 iv0 hw hl
      refine lv_iload_n G0.1 G0.2.1 dX12_nextOf_2 rfl (lv_at hl 0 rfl) ?_
      refine lv_aload_n G0.1 G0.2.1 dX12_nextOf_3 rfl (lv_at hl 1 rfl) ?_
      obtain ⟨v_2, v_3, v_4, v_5, v_6, v_7, v_8, v_9, v_10, v_11, v_12, v_13, y_14, v_15, v_16, v_17, v_18, v_19, y_20, v_21, y_22, v_23, hr_36, b_24, b_25, b_26, b_27, b_28, b_29, b_30, b_31, b_32, b_33, b_34, b_35⟩ := wg_12 hWF Tu
      have tq_37 := mi_row hr_36 25 rfl
      refine py_get (C := RX12) (T := TX12) (N := 54) (k := 25) (v := .int v_12) G0 hw in_X12_nextOf_X12 rfl hr_36 (by decide) (by decide +kernel) rfl dX12_nextOf_4 ?_
      refine lv_icmp_ge (tgt := 40) G0.1 G0.2.1 dX12_nextOf_7 (by decide) (fun c_38 => ?_) (fun c_38 => ?_)
      · skip
        have tc_38 := ti_le c_38
        refine lv_iconst (v := (-1)) G0.1 G0.2.1 dX12_nextOf_40 (by decide) ?_
        exact py_iret G0 hr rfl hlk hw ⟨⟨by omega, by omega⟩, (Or.inl ⟨by omega, fun o h0 h1 => iv0 o h0 (by omega)⟩), rfl, rfl⟩ dX12_nextOf_41
      · skip
        have tc_38 := ti_nle c_38
        refine lv_aload_n G0.1 G0.2.1 dX12_nextOf_10 rfl (lv_at hl 1 rfl) ?_
        refine lv_iload_n G0.1 G0.2.1 dX12_nextOf_11 rfl (lv_at hl 0 rfl) ?_
        refine py_calli hw (va_runV (As := [.int v_1]) (rest := []) G0 (c_X12_wants l E G L f H_j2.size u v_1 hG hWF Tu ⟨by omega, by omega⟩) (cwV 1 G0.2.2.2.2 g_X12_nextOf_X12_wants_382 rfl rfl rfl (by decide +kernel) ⟨(Nat.le_of_ble_eq_true rfl), (Nat.le_of_ble_eq_true rfl)⟩) (py_preV hw (C := RX12) (T := TX12) (N := 54) rfl hr_36) rfl rfl hl.1 rfl (lv_room (Nat.le_of_ble_eq_true rfl)) dX12_nextOf_12 ⟨(Nat.le_of_ble_eq_true rfl), (Nat.le_of_ble_eq_true rfl)⟩) (fun r_43 L_39 f_40 H_41 locs hp_42 hw => ?_)
        obtain ⟨b_47, en_44, en_45, en_46, rfl, rfl⟩ := hp_42
        refine lv_if_eq (tgt := 34) G0.1 G0.2.1 dX12_nextOf_15 (by decide) (fun c_48 => ?_) (fun c_48 => ?_)
        · skip
          have tc_48 := ti_eq c_48
          clear en_46
          obtain ⟨x_49, ex_49⟩ : ∃ y : Int32, y = v_1 + 1 := ⟨_, rfl⟩
          first | have tx_49 := ti_add ex_49 (by omega) (by omega) | skip
          refine lv_iinc (v := x_49) (lv' := [(2, .int x_49), (0, .ref u), (1, .int a)]) G0.1 G0.2.1 dX12_nextOf_34 hl (k := 0) rfl (show _ + (1 : Int32) = _ from ex_49.symm) (by decide) rfl (fun ls hl => ?_)
          refine lv_goto (tgt := 2) G0.1 G0.2.1 dX12_nextOf_37 (by decide) ?_
          exact ih_2 ((2147483647 - x_49.toInt).toNat) (by omega) x_49 _ _ ls rfl ⟨by omega, by omega⟩ (fun i h0 h1 => if hz : i < v_1.toInt then iv0 i h0 hz else by obtain rfl : i = v_1.toInt := (by omega); (intro hc; first | exact absurd hc.1 (en_45 (by omega)) | (have hc2 := hc.2; omega))) hw (lv_sub hl [0, 1, 2] rfl)
        · skip
          have tc_48 := ti_ne c_48
          replace en_46 := en_46 (by omega)
          refine lv_aload_n G0.1 G0.2.1 dX12_nextOf_18 rfl (lv_at hl 1 rfl) ?_
          refine lv_iload_n G0.1 G0.2.1 dX12_nextOf_19 rfl (lv_at hl 0 rfl) ?_
          refine lv_iconst (v := 1) G0.1 G0.2.1 dX12_nextOf_20 (by decide) ?_
          refine py_calli hw (va_runV (As := [.int v_1, .int 1]) (rest := []) G0 (c_X12_of l E G L f H_41.size u v_1 1 hG hWF Tu ⟨by omega, by omega⟩ ⟨by omega, by omega⟩) (cwV 2 G0.2.2.2.2 g_X12_nextOf_X12_of_287 rfl rfl rfl (by decide +kernel) ⟨(Nat.le_of_ble_eq_true rfl), (Nat.le_of_ble_eq_true rfl)⟩) (py_preV hw (C := RX12) (T := TX12) (N := 54) rfl hr_36) rfl rfl hl.1 rfl (lv_room (Nat.le_of_ble_eq_true rfl)) dX12_nextOf_21 ⟨(Nat.le_of_ble_eq_true rfl), (Nat.le_of_ble_eq_true rfl)⟩) (fun r_54 L_50 f_51 H_52 locs hp_53 hw => ?_)
          obtain ⟨en_55, en_56, rfl, rfl⟩ := hp_53
          have en_55 : r_54.toInt = nw f G u v_1.toInt (1 : Int) := en_55
          have en_56 : ((1 : Int) = 0 → 0 ≤ r_54.toInt ∧ r_54.toInt ≤ 20) ∧ ((1 : Int) = 1 → -1 ≤ r_54.toInt ∧ r_54.toInt ≤ 7) := en_56
          have br_54 := wf_free r_54
          refine lv_aload_n G0.1 G0.2.1 dX12_nextOf_24 rfl (lv_at hl 1 rfl) ?_
          refine lv_iload_n G0.1 G0.2.1 dX12_nextOf_25 rfl (lv_at hl 2 rfl) ?_
          refine py_calli hw (va_runV (As := [.int a]) (rest := [.int r_54]) G0 (c_X12_want l E G L f H_52.size u a hG hWF Tu ⟨by omega, by omega⟩) (cwV 1 G0.2.2.2.2 g_X12_nextOf_X12_want_351 rfl rfl rfl (by decide +kernel) ⟨(Nat.le_of_ble_eq_true rfl), (Nat.le_of_ble_eq_true rfl)⟩) (py_preV hw (C := RX12) (T := TX12) (N := 54) rfl hr_36) rfl rfl hl.1 rfl (lv_room (Nat.le_of_ble_eq_true rfl)) dX12_nextOf_26 ⟨(Nat.le_of_ble_eq_true rfl), (Nat.le_of_ble_eq_true rfl)⟩) (fun r_61 L_57 f_58 H_59 locs hp_60 hw => ?_)
          obtain ⟨b_64, en_62, en_63, rfl, rfl⟩ := hp_60
          refine lv_icmp_ne (tgt := 34) G0.1 G0.2.1 dX12_nextOf_29 (by decide) (fun c_65 => ?_) (fun c_65 => ?_)
          · skip
            have tc_65 := ti_ne c_65
            obtain ⟨x_66, ex_66⟩ : ∃ y : Int32, y = v_1 + 1 := ⟨_, rfl⟩
            first | have tx_66 := ti_add ex_66 (by omega) (by omega) | skip
            refine lv_iinc (v := x_66) (lv' := [(2, .int x_66), (0, .ref u), (1, .int a)]) G0.1 G0.2.1 dX12_nextOf_34 hl (k := 0) rfl (show _ + (1 : Int32) = _ from ex_66.symm) (by decide) rfl (fun ls hl => ?_)
            refine lv_goto (tgt := 2) G0.1 G0.2.1 dX12_nextOf_37 (by decide) ?_
            exact ih_2 ((2147483647 - x_66.toInt).toNat) (by omega) x_66 _ _ ls rfl ⟨by omega, by omega⟩ (fun i h0 h1 => if hz : i < v_1.toInt then iv0 i h0 hz else by obtain rfl : i = v_1.toInt := (by omega); (intro hc; first | exact absurd hc.1 (en_45 (by omega)) | (have hc2 := hc.2; omega))) hw (lv_sub hl [0, 1, 2] rfl)
          · skip
            have tc_65 := ti_eq c_65
            refine lv_iload_n G0.1 G0.2.1 dX12_nextOf_32 rfl (lv_at hl 0 rfl) ?_
            exact py_iret G0 hr rfl hlk hw ⟨⟨by omega, by omega⟩, (Or.inr ⟨by omega, by omega, en_44 (by omega), by omega, iv0⟩), rfl, rfl⟩ dX12_nextOf_33
  exact lo_2 _ 0 _ _ ls rfl ⟨by omega, by omega⟩ (fun i h0 h1 => absurd h1 (by omega)) hw (lv_sub hl [0, 1, 2] rfl)

def w_X12_goer : List Cond := .code yX12_goer cX12_goer 2 (some .int) :: ([Cond.fieldLink RX12 290 "HeadYearModel" "families" "I", Cond.methodLink RX12 382 yX12_wants, Cond.instanceMethod yX12_wants, Cond.selects RX12 yX12_wants yX12_wants, Cond.initialized RX12, Cond.methodLink RX12 351 yX12_want, Cond.instanceMethod yX12_want, Cond.selects RX12 yX12_want yX12_want, Cond.methodLink RX12 333 yX12_empties, Cond.instanceMethod yX12_empties, Cond.selects RX12 yX12_empties yX12_empties] ++ (u_ws RX12 TX12 54 ++ (w_X12_wants ++ (w_X12_want ++ (w_X12_empties ++ ([]))))))
theorem in_X12_goer_X12 : ∀ w ∈ u_ws RX12 TX12 54, w ∈ w_X12_goer := fun _ h => List.mem_cons_of_mem _ (List.mem_append_right _ (List.mem_append_left _ h))
theorem gg_X12_goer_X12_wants : GoodIn w_X12_goer w_X12_wants := goodIn_sub (fun _ h => List.mem_cons_of_mem _ (List.mem_append_right _ (List.mem_append_right _ (List.mem_append_left _ h)))) (by decide +kernel)
theorem gg_X12_goer_X12_want : GoodIn w_X12_goer w_X12_want := goodIn_sub (fun _ h => List.mem_cons_of_mem _ (List.mem_append_right _ (List.mem_append_right _ (List.mem_append_right _ (List.mem_append_left _ h))))) (by decide +kernel)
theorem gg_X12_goer_X12_empties : GoodIn w_X12_goer w_X12_empties := goodIn_sub (fun _ h => List.mem_cons_of_mem _ (List.mem_append_right _ (List.mem_append_right _ (List.mem_append_right _ (List.mem_append_right _ (List.mem_append_left _ h)))))) (by decide +kernel)
theorem g_X12_goer_X12_empties_333 : GoodIn w_X12_goer (wsV RX12 333 RX12 yX12_empties w_X12_empties) := goodIn_app (goodIn_of _ (by decide +kernel)) gg_X12_goer_X12_empties
theorem g_X12_goer_X12_want_351 : GoodIn w_X12_goer (wsV RX12 351 RX12 yX12_want w_X12_want) := goodIn_app (goodIn_of _ (by decide +kernel)) gg_X12_goer_X12_want
theorem g_X12_goer_X12_wants_382 : GoodIn w_X12_goer (wsV RX12 382 RX12 yX12_wants w_X12_wants) := goodIn_app (goodIn_of _ (by decide +kernel)) gg_X12_goer_X12_wants
set_option maxHeartbeats 4000000 in
set_option maxRecDepth 100000 in
theorem c_X12_goer (l : Launch) (E : py_E) (G : wf_G) (L : List Nat) (f : py_F) (sz : Nat) (u : Nat) (hG : GT G) (hWF : WF E G L f) (Tu : G.1 u = 13) : Met l yX12_goer w_X12_goer ({ frames := 4, cells := 0, slots := 0, locals := 91 }) (py_Pc E [.ref u] L f sz) (py_Qi E L f sz (fun r L1 f1 => ((-1) ≤ r.toInt ∧ r.toInt ≤ 9) ∧ (r.toInt ≠ -1 → WS f G u r.toInt ∧ EH f G u (WT f G u r.toInt)) ∧ (r.toInt < mi f u 25) ∧ (r.toInt ≠ -1 → 0 ≤ nw f G u r.toInt 1) ∧ L = L1 ∧ f = f1)) 0 0 (va_A (va_pl L f) sz) := by
  refine Met.ofW (cc := cX12_goer) (maxL := 2) (ret := (some .int)) (by decide) rfl ?_
  intro p e s m args below meth c s₁ B hml hv
  obtain ⟨rfl, rfl, hw⟩ := py_start hv
  have G0 : CallFix p m c cX12_goer 2 s _ w_X12_goer RX12 := ⟨B.exec, B.bytes, hml, findClass_of_methodNamed B.named, atoms_spec (ws := w_X12_goer) B.pre⟩
  have hr := B.returns
  have hlk := B.notSynchronized
  have kcm1 : (-1 : Int32).toInt = -1 := rfl
  have kc0 : (0 : Int32).toInt = 0 := rfl
  have kc1 : (1 : Int32).toInt = 1 := rfl
  have hl := lv_entry ([.ref u]) (n := 2) (Nat.le_of_ble_eq_true rfl)
  rw [lg_entry_eq]
  generalize (lg_sl ([.ref u]) ++ List.replicate (2 - (lg_sl ([.ref u])).length) Slot.unset).toArray = ls at hl ⊢
  have hl : lv_has ls 2 [(0, .ref u)] := hl
  refine lv_iconst (v := 0) G0.1 G0.2.1 dX12_goer_0 (by decide) ?_
  refine lv_istore_n (lv' := [(1, .int 0), (0, .ref u)]) G0.1 G0.2.1 dX12_goer_1 rfl hl (by decide) rfl (fun ls hl => ?_)
  have lo_2 : ∀ n_2 : Nat, ∀ (v_1 : Int32) (H_j2 : Heap) (locs : List Loc) (ls : Array Slot), (2147483647 - v_1.toInt).toNat = n_2 → (0 ≤ v_1.toInt ∧ v_1.toInt ≤ 2147483647) → py_W E (va_A (va_pl L f) s.heap.size) s L f H_j2 locs → lv_has ls 2 [(1, .int v_1), (0, .ref u)] → W p l e (headSpec w_X12_goer ({ frames := 4, cells := 0, slots := 0, locals := 91 })).room s m ([.ref u] : List Value).toArray below meth c H_j2 locs 0 0 (MQ below (py_Qi E L f s.heap.size (fun r L1 f1 => ((-1) ≤ r.toInt ∧ r.toInt ≤ 9) ∧ (r.toInt ≠ -1 → WS f G u r.toInt ∧ EH f G u (WT f G u r.toInt)) ∧ (r.toInt < mi f u 25) ∧ (r.toInt ≠ -1 → 0 ≤ nw f G u r.toInt 1) ∧ L = L1 ∧ f = f1)) ([.ref u] : List Value).toArray s 0 0 (va_A (va_pl L f) s.heap.size)) (F0 m 2 ls []) := by
    intro n_2
    induction n_2 using Nat.strongRecOn with
    | _ n_2 ih_2 =>
      intro v_1 H_j2 locs ls hn_2 bv_1 hw hl
      refine lv_iload_n G0.1 G0.2.1 dX12_goer_2 rfl (lv_at hl 0 rfl) ?_
      refine lv_aload_n G0.1 G0.2.1 dX12_goer_3 rfl (lv_at hl 1 rfl) ?_
      obtain ⟨v_2, v_3, v_4, v_5, v_6, v_7, v_8, v_9, v_10, v_11, v_12, v_13, y_14, v_15, v_16, v_17, v_18, v_19, y_20, v_21, y_22, v_23, hr_36, b_24, b_25, b_26, b_27, b_28, b_29, b_30, b_31, b_32, b_33, b_34, b_35⟩ := wg_12 hWF Tu
      have tq_37 := mi_row hr_36 25 rfl
      refine py_get (C := RX12) (T := TX12) (N := 54) (k := 25) (v := .int v_12) G0 hw in_X12_goer_X12 rfl hr_36 (by decide) (by decide +kernel) rfl dX12_goer_4 ?_
      refine lv_icmp_ge (tgt := 38) G0.1 G0.2.1 dX12_goer_7 (by decide) (fun c_38 => ?_) (fun c_38 => ?_)
      · skip
        have tc_38 := ti_le c_38
        refine lv_iconst (v := (-1)) G0.1 G0.2.1 dX12_goer_38 (by decide) ?_
        exact py_iret G0 hr rfl hlk hw ⟨⟨by omega, by omega⟩, (fun hq => absurd kcm1 hq), (by first | omega | (intro q; omega)), (fun hq => absurd kcm1 hq), rfl, rfl⟩ dX12_goer_39
      · skip
        have tc_38 := ti_nle c_38
        refine lv_aload_n G0.1 G0.2.1 dX12_goer_10 rfl (lv_at hl 1 rfl) ?_
        refine lv_iload_n G0.1 G0.2.1 dX12_goer_11 rfl (lv_at hl 0 rfl) ?_
        refine py_calli hw (va_runV (As := [.int v_1]) (rest := []) G0 (c_X12_wants l E G L f H_j2.size u v_1 hG hWF Tu ⟨by omega, by omega⟩) (cwV 1 G0.2.2.2.2 g_X12_goer_X12_wants_382 rfl rfl rfl (by decide +kernel) ⟨(Nat.le_of_ble_eq_true rfl), (Nat.le_of_ble_eq_true rfl)⟩) (py_preV hw (C := RX12) (T := TX12) (N := 54) rfl hr_36) rfl rfl hl.1 rfl (lv_room (Nat.le_of_ble_eq_true rfl)) dX12_goer_12 ⟨(Nat.le_of_ble_eq_true rfl), (Nat.le_of_ble_eq_true rfl)⟩) (fun r_43 L_39 f_40 H_41 locs hp_42 hw => ?_)
        obtain ⟨b_47, en_44, en_45, en_46, rfl, rfl⟩ := hp_42
        refine lv_if_eq (tgt := 32) G0.1 G0.2.1 dX12_goer_15 (by decide) (fun c_48 => ?_) (fun c_48 => ?_)
        · skip
          have tc_48 := ti_eq c_48
          clear en_46
          obtain ⟨x_49, ex_49⟩ : ∃ y : Int32, y = v_1 + 1 := ⟨_, rfl⟩
          first | have tx_49 := ti_add ex_49 (by omega) (by omega) | skip
          refine lv_iinc (v := x_49) (lv' := [(1, .int x_49), (0, .ref u)]) G0.1 G0.2.1 dX12_goer_32 hl (k := 0) rfl (show _ + (1 : Int32) = _ from ex_49.symm) (by decide) rfl (fun ls hl => ?_)
          refine lv_goto (tgt := 2) G0.1 G0.2.1 dX12_goer_35 (by decide) ?_
          exact ih_2 ((2147483647 - x_49.toInt).toNat) (by omega) x_49 _ _ ls rfl ⟨by omega, by omega⟩ hw (lv_sub hl [0, 1] rfl)
        · skip
          have tc_48 := ti_ne c_48
          replace en_46 := en_46 (by omega)
          refine lv_aload_n G0.1 G0.2.1 dX12_goer_18 rfl (lv_at hl 1 rfl) ?_
          refine lv_aload_n G0.1 G0.2.1 dX12_goer_19 rfl (lv_at hl 1 rfl) ?_
          refine lv_iload_n G0.1 G0.2.1 dX12_goer_20 rfl (lv_at hl 0 rfl) ?_
          refine py_calli hw (va_runV (As := [.int v_1]) (rest := [.ref u]) G0 (c_X12_want l E G L f H_41.size u v_1 hG hWF Tu ⟨by omega, by omega⟩) (cwV 1 G0.2.2.2.2 g_X12_goer_X12_want_351 rfl rfl rfl (by decide +kernel) ⟨(Nat.le_of_ble_eq_true rfl), (Nat.le_of_ble_eq_true rfl)⟩) (py_preV hw (C := RX12) (T := TX12) (N := 54) rfl hr_36) rfl rfl hl.1 rfl (lv_room (Nat.le_of_ble_eq_true rfl)) dX12_goer_21 ⟨(Nat.le_of_ble_eq_true rfl), (Nat.le_of_ble_eq_true rfl)⟩) (fun r_54 L_50 f_51 H_52 locs hp_53 hw => ?_)
          obtain ⟨b_57, en_55, en_56, rfl, rfl⟩ := hp_53
          refine py_calli hw (va_runV (As := [.int r_54]) (rest := []) G0 (c_X12_empties l E G L f H_52.size u r_54 hG hWF Tu ⟨by omega, by omega⟩) (cwV 1 G0.2.2.2.2 g_X12_goer_X12_empties_333 rfl rfl rfl (by decide +kernel) ⟨(Nat.le_of_ble_eq_true rfl), (Nat.le_of_ble_eq_true rfl)⟩) (py_preV hw (C := RX12) (T := TX12) (N := 54) rfl hr_36) rfl rfl hl.1 rfl (lv_room (Nat.le_of_ble_eq_true rfl)) dX12_goer_24 ⟨(Nat.le_of_ble_eq_true rfl), (Nat.le_of_ble_eq_true rfl)⟩) (fun r_62 L_58 f_59 H_60 locs hp_61 hw => ?_)
          obtain ⟨en_63, en_64, en_65, rfl, rfl⟩ := hp_61
          have br_62 := wf_free r_62
          refine lv_if_le (tgt := 32) G0.1 G0.2.1 dX12_goer_27 (by decide) (fun c_66 => ?_) (fun c_66 => ?_)
          · skip
            have tc_66 := ti_le c_66
            obtain ⟨x_67, ex_67⟩ : ∃ y : Int32, y = v_1 + 1 := ⟨_, rfl⟩
            first | have tx_67 := ti_add ex_67 (by omega) (by omega) | skip
            refine lv_iinc (v := x_67) (lv' := [(1, .int x_67), (0, .ref u)]) G0.1 G0.2.1 dX12_goer_32 hl (k := 0) rfl (show _ + (1 : Int32) = _ from ex_67.symm) (by decide) rfl (fun ls hl => ?_)
            refine lv_goto (tgt := 2) G0.1 G0.2.1 dX12_goer_35 (by decide) ?_
            exact ih_2 ((2147483647 - x_67.toInt).toNat) (by omega) x_67 _ _ ls rfl ⟨by omega, by omega⟩ hw (lv_sub hl [0, 1] rfl)
          · skip
            have tc_66 := ti_nle c_66
            refine lv_iload_n G0.1 G0.2.1 dX12_goer_30 rfl (lv_at hl 0 rfl) ?_
            exact py_iret G0 hr rfl hlk hw ⟨⟨by omega, by omega⟩, (fun _ => ⟨en_44 (by omega), by rw [← en_55]; exact en_64 (by omega)⟩), (by first | omega | (intro q; omega)), (fun _ => by first | exact en_46 | exact en_46 (by omega)), rfl, rfl⟩ dX12_goer_31
  exact lo_2 _ 0 _ _ ls rfl ⟨by omega, by omega⟩ hw (lv_sub hl [0, 1] rfl)

def w_X12_headsOfAll : List Cond := .code yX12_headsOfAll cX12_headsOfAll 3 (some .int) :: ([Cond.fieldLink RX12 290 "HeadYearModel" "families" "I", Cond.methodLink RX12 287 yX12_of, Cond.instanceMethod yX12_of, Cond.selects RX12 yX12_of yX12_of, Cond.initialized RX12] ++ (u_ws RX12 TX12 54 ++ (w_X12_of ++ ([]))))
theorem in_X12_headsOfAll_X12 : ∀ w ∈ u_ws RX12 TX12 54, w ∈ w_X12_headsOfAll := fun _ h => List.mem_cons_of_mem _ (List.mem_append_right _ (List.mem_append_left _ h))
theorem gg_X12_headsOfAll_X12_of : GoodIn w_X12_headsOfAll w_X12_of := goodIn_sub (fun _ h => List.mem_cons_of_mem _ (List.mem_append_right _ (List.mem_append_right _ (List.mem_append_left _ h)))) (by decide +kernel)
theorem g_X12_headsOfAll_X12_of_287 : GoodIn w_X12_headsOfAll (wsV RX12 287 RX12 yX12_of w_X12_of) := goodIn_app (goodIn_of _ (by decide +kernel)) gg_X12_headsOfAll_X12_of
set_option maxHeartbeats 4000000 in
set_option maxRecDepth 100000 in
theorem c_X12_headsOfAll (l : Launch) (E : py_E) (G : wf_G) (L : List Nat) (f : py_F) (sz : Nat) (u : Nat) (hG : GT G) (hWF : WF E G L f) (Tu : G.1 u = 13) : Met l yX12_headsOfAll w_X12_headsOfAll ({ frames := 1, cells := 0, slots := 0, locals := 22 }) (py_Pc E [.ref u] L f sz) (py_Qi E L f sz (fun _ L1 f1 => L = L1 ∧ f = f1)) 0 0 (va_A (va_pl L f) sz) := by
  refine Met.ofW (cc := cX12_headsOfAll) (maxL := 3) (ret := (some .int)) (by decide) rfl ?_
  intro p e s m args below meth c s₁ B hml hv
  obtain ⟨rfl, rfl, hw⟩ := py_start hv
  have G0 : CallFix p m c cX12_headsOfAll 3 s _ w_X12_headsOfAll RX12 := ⟨B.exec, B.bytes, hml, findClass_of_methodNamed B.named, atoms_spec (ws := w_X12_headsOfAll) B.pre⟩
  have hr := B.returns
  have hlk := B.notSynchronized
  have kcm1 : (-1 : Int32).toInt = -1 := rfl
  have kc0 : (0 : Int32).toInt = 0 := rfl
  have kc1 : (1 : Int32).toInt = 1 := rfl
  have hl := lv_entry ([.ref u]) (n := 3) (Nat.le_of_ble_eq_true rfl)
  rw [lg_entry_eq]
  generalize (lg_sl ([.ref u]) ++ List.replicate (3 - (lg_sl ([.ref u])).length) Slot.unset).toArray = ls at hl ⊢
  have hl : lv_has ls 3 [(0, .ref u)] := hl
  refine lv_iconst (v := 0) G0.1 G0.2.1 dX12_headsOfAll_0 (by decide) ?_
  refine lv_istore_n (lv' := [(1, .int 0), (0, .ref u)]) G0.1 G0.2.1 dX12_headsOfAll_1 rfl hl (by decide) rfl (fun ls hl => ?_)
  refine lv_iconst (v := 0) G0.1 G0.2.1 dX12_headsOfAll_2 (by decide) ?_
  refine lv_istore_n (lv' := [(2, .int 0), (1, .int 0), (0, .ref u)]) G0.1 G0.2.1 dX12_headsOfAll_3 rfl hl (by decide) rfl (fun ls hl => ?_)
  have lo_4 : ∀ n_4 : Nat, ∀ (v_1 : Int32) (v_2 : Int32) (H_j4 : Heap) (locs : List Loc) (ls : Array Slot), (2147483647 - v_1.toInt).toNat = n_4 → (0 ≤ v_1.toInt ∧ v_1.toInt ≤ 2147483647) → py_W E (va_A (va_pl L f) s.heap.size) s L f H_j4 locs → lv_has ls 3 [(2, .int v_1), (1, .int v_2), (0, .ref u)] → W p l e (headSpec w_X12_headsOfAll ({ frames := 1, cells := 0, slots := 0, locals := 22 })).room s m ([.ref u] : List Value).toArray below meth c H_j4 locs 0 0 (MQ below (py_Qi E L f s.heap.size (fun _ L1 f1 => L = L1 ∧ f = f1)) ([.ref u] : List Value).toArray s 0 0 (va_A (va_pl L f) s.heap.size)) (F0 m 4 ls []) := by
    intro n_4
    induction n_4 using Nat.strongRecOn with
    | _ n_4 ih_4 =>
      intro v_1 v_2 H_j4 locs ls hn_4 bv_1 hw hl
      refine lv_iload_n G0.1 G0.2.1 dX12_headsOfAll_4 rfl (lv_at hl 0 rfl) ?_
      refine lv_aload_n G0.1 G0.2.1 dX12_headsOfAll_5 rfl (lv_at hl 2 rfl) ?_
      obtain ⟨v_3, v_4, v_5, v_6, v_7, v_8, v_9, v_10, v_11, v_12, v_13, v_14, y_15, v_16, v_17, v_18, v_19, v_20, y_21, v_22, y_23, v_24, hr_37, b_25, b_26, b_27, b_28, b_29, b_30, b_31, b_32, b_33, b_34, b_35, b_36⟩ := wg_12 hWF Tu
      refine py_get (C := RX12) (T := TX12) (N := 54) (k := 25) (v := .int v_13) G0 hw in_X12_headsOfAll_X12 rfl hr_37 (by decide) (by decide +kernel) rfl dX12_headsOfAll_6 ?_
      refine lv_icmp_ge (tgt := 27) G0.1 G0.2.1 dX12_headsOfAll_9 (by decide) (fun c_38 => ?_) (fun c_38 => ?_)
      · skip
        have tc_38 := ti_le c_38
        refine lv_iload_n G0.1 G0.2.1 dX12_headsOfAll_27 rfl (lv_at hl 1 rfl) ?_
        exact py_iret G0 hr rfl hlk hw ⟨rfl, rfl⟩ dX12_headsOfAll_28
      · skip
        have tc_38 := ti_nle c_38
        refine lv_iload_n G0.1 G0.2.1 dX12_headsOfAll_12 rfl (lv_at hl 1 rfl) ?_
        refine lv_aload_n G0.1 G0.2.1 dX12_headsOfAll_13 rfl (lv_at hl 2 rfl) ?_
        refine lv_iload_n G0.1 G0.2.1 dX12_headsOfAll_14 rfl (lv_at hl 0 rfl) ?_
        refine lv_iconst (v := 0) G0.1 G0.2.1 dX12_headsOfAll_15 (by decide) ?_
        refine py_calli hw (va_runV (As := [.int v_1, .int 0]) (rest := [.int v_2]) G0 (c_X12_of l E G L f H_j4.size u v_1 0 hG hWF Tu ⟨by omega, by omega⟩ ⟨by omega, by omega⟩) (cwV 2 G0.2.2.2.2 g_X12_headsOfAll_X12_of_287 rfl rfl rfl (by decide +kernel) ⟨(Nat.le_of_ble_eq_true rfl), (Nat.le_of_ble_eq_true rfl)⟩) (py_preV hw (C := RX12) (T := TX12) (N := 54) rfl hr_37) rfl rfl hl.1 rfl (lv_room (Nat.le_of_ble_eq_true rfl)) dX12_headsOfAll_16 ⟨(Nat.le_of_ble_eq_true rfl), (Nat.le_of_ble_eq_true rfl)⟩) (fun r_43 L_39 f_40 H_41 locs hp_42 hw => ?_)
        obtain ⟨en_44, en_45, rfl, rfl⟩ := hp_42
        have en_44 : r_43.toInt = nw f G u v_1.toInt (0 : Int) := en_44
        have en_45 : ((0 : Int) = 0 → 0 ≤ r_43.toInt ∧ r_43.toInt ≤ 20) ∧ ((0 : Int) = 1 → -1 ≤ r_43.toInt ∧ r_43.toInt ≤ 7) := en_45
        have br_43 := wf_free r_43
        refine lv_iadd G0.1 G0.2.1 dX12_headsOfAll_19 ?_
        refine lv_topi (fun x_46 ex_46 => ?_)
        first | have tx_46 := ti_add ex_46 (by omega) (by omega) | skip
        refine lv_istore_n (lv' := [(1, .int x_46), (2, .int v_1), (0, .ref u)]) G0.1 G0.2.1 dX12_headsOfAll_20 rfl hl (by decide) rfl (fun ls hl => ?_)
        obtain ⟨x_47, ex_47⟩ : ∃ y : Int32, y = v_1 + 1 := ⟨_, rfl⟩
        first | have tx_47 := ti_add ex_47 (by omega) (by omega) | skip
        refine lv_iinc (v := x_47) (lv' := [(2, .int x_47), (1, .int x_46), (0, .ref u)]) G0.1 G0.2.1 dX12_headsOfAll_21 hl (k := 1) rfl (show _ + (1 : Int32) = _ from ex_47.symm) (by decide) rfl (fun ls hl => ?_)
        refine lv_goto (tgt := 4) G0.1 G0.2.1 dX12_headsOfAll_24 (by decide) ?_
        exact ih_4 ((2147483647 - x_47.toInt).toNat) (by omega) x_47 x_46 _ _ ls rfl ⟨by omega, by omega⟩ hw (lv_sub hl [0, 1, 2] rfl)
  exact lo_4 _ 0 0 _ _ ls rfl ⟨by omega, by omega⟩ hw (lv_sub hl [0, 1, 2] rfl)

def w_X12_waiters : List Cond := .code yX12_waiters cX12_waiters 3 (some .int) :: ([Cond.fieldLink RX12 290 "HeadYearModel" "families" "I", Cond.methodLink RX12 382 yX12_wants, Cond.instanceMethod yX12_wants, Cond.selects RX12 yX12_wants yX12_wants, Cond.initialized RX12] ++ (u_ws RX12 TX12 54 ++ (w_X12_wants ++ ([]))))
theorem in_X12_waiters_X12 : ∀ w ∈ u_ws RX12 TX12 54, w ∈ w_X12_waiters := fun _ h => List.mem_cons_of_mem _ (List.mem_append_right _ (List.mem_append_left _ h))
theorem gg_X12_waiters_X12_wants : GoodIn w_X12_waiters w_X12_wants := goodIn_sub (fun _ h => List.mem_cons_of_mem _ (List.mem_append_right _ (List.mem_append_right _ (List.mem_append_left _ h)))) (by decide +kernel)
theorem g_X12_waiters_X12_wants_382 : GoodIn w_X12_waiters (wsV RX12 382 RX12 yX12_wants w_X12_wants) := goodIn_app (goodIn_of _ (by decide +kernel)) gg_X12_waiters_X12_wants
set_option maxHeartbeats 4000000 in
set_option maxRecDepth 100000 in
theorem c_X12_waiters (l : Launch) (E : py_E) (G : wf_G) (L : List Nat) (f : py_F) (sz : Nat) (u : Nat) (hG : GT G) (hWF : WF E G L f) (Tu : G.1 u = 13) : Met l yX12_waiters w_X12_waiters ({ frames := 4, cells := 0, slots := 0, locals := 88 }) (py_Pc E [.ref u] L f sz) (py_Qi E L f sz (fun r L1 f1 => (0 ≤ r.toInt ∧ r.toInt ≤ 1023) ∧ L = L1 ∧ f = f1)) 0 0 (va_A (va_pl L f) sz) := by
  refine Met.ofW (cc := cX12_waiters) (maxL := 3) (ret := (some .int)) (by decide) rfl ?_
  intro p e s m args below meth c s₁ B hml hv
  obtain ⟨rfl, rfl, hw⟩ := py_start hv
  have G0 : CallFix p m c cX12_waiters 3 s _ w_X12_waiters RX12 := ⟨B.exec, B.bytes, hml, findClass_of_methodNamed B.named, atoms_spec (ws := w_X12_waiters) B.pre⟩
  have hr := B.returns
  have hlk := B.notSynchronized
  have kcm1 : (-1 : Int32).toInt = -1 := rfl
  have kc0 : (0 : Int32).toInt = 0 := rfl
  have kc1 : (1 : Int32).toInt = 1 := rfl
  have hl := lv_entry ([.ref u]) (n := 3) (Nat.le_of_ble_eq_true rfl)
  rw [lg_entry_eq]
  generalize (lg_sl ([.ref u]) ++ List.replicate (3 - (lg_sl ([.ref u])).length) Slot.unset).toArray = ls at hl ⊢
  have hl : lv_has ls 3 [(0, .ref u)] := hl
  refine lv_iconst (v := 0) G0.1 G0.2.1 dX12_waiters_0 (by decide) ?_
  refine lv_istore_n (lv' := [(1, .int 0), (0, .ref u)]) G0.1 G0.2.1 dX12_waiters_1 rfl hl (by decide) rfl (fun ls hl => ?_)
  refine lv_iconst (v := 0) G0.1 G0.2.1 dX12_waiters_2 (by decide) ?_
  refine lv_istore_n (lv' := [(2, .int 0), (1, .int 0), (0, .ref u)]) G0.1 G0.2.1 dX12_waiters_3 rfl hl (by decide) rfl (fun ls hl => ?_)
  have lo_4 : ∀ n_4 : Nat, ∀ (v_1 : Int32) (v_2 : Int32) (H_j4 : Heap) (locs : List Loc) (ls : Array Slot), (2147483647 - v_1.toInt).toNat = n_4 → (0 ≤ v_1.toInt ∧ v_1.toInt ≤ 2147483647) → (0 ≤ v_2.toInt ∧ v_2.toInt ≤ 1023) → py_W E (va_A (va_pl L f) s.heap.size) s L f H_j4 locs → lv_has ls 3 [(2, .int v_1), (1, .int v_2), (0, .ref u)] → W p l e (headSpec w_X12_waiters ({ frames := 4, cells := 0, slots := 0, locals := 88 })).room s m ([.ref u] : List Value).toArray below meth c H_j4 locs 0 0 (MQ below (py_Qi E L f s.heap.size (fun r L1 f1 => (0 ≤ r.toInt ∧ r.toInt ≤ 1023) ∧ L = L1 ∧ f = f1)) ([.ref u] : List Value).toArray s 0 0 (va_A (va_pl L f) s.heap.size)) (F0 m 4 ls []) := by
    intro n_4
    induction n_4 using Nat.strongRecOn with
    | _ n_4 ih_4 =>
      intro v_1 v_2 H_j4 locs ls hn_4 bv_1 bv_2 hw hl
      refine lv_iload_n G0.1 G0.2.1 dX12_waiters_4 rfl (lv_at hl 0 rfl) ?_
      refine lv_aload_n G0.1 G0.2.1 dX12_waiters_5 rfl (lv_at hl 2 rfl) ?_
      obtain ⟨v_3, v_4, v_5, v_6, v_7, v_8, v_9, v_10, v_11, v_12, v_13, v_14, y_15, v_16, v_17, v_18, v_19, v_20, y_21, v_22, y_23, v_24, hr_37, b_25, b_26, b_27, b_28, b_29, b_30, b_31, b_32, b_33, b_34, b_35, b_36⟩ := wg_12 hWF Tu
      refine py_get (C := RX12) (T := TX12) (N := 54) (k := 25) (v := .int v_13) G0 hw in_X12_waiters_X12 rfl hr_37 (by decide) (by decide +kernel) rfl dX12_waiters_6 ?_
      refine lv_icmp_ge (tgt := 36) G0.1 G0.2.1 dX12_waiters_9 (by decide) (fun c_38 => ?_) (fun c_38 => ?_)
      · skip
        have tc_38 := ti_le c_38
        refine lv_iload_n G0.1 G0.2.1 dX12_waiters_36 rfl (lv_at hl 1 rfl) ?_
        exact py_iret G0 hr rfl hlk hw ⟨⟨by omega, by omega⟩, rfl, rfl⟩ dX12_waiters_37
      · skip
        have tc_38 := ti_nle c_38
        refine lv_iload_n G0.1 G0.2.1 dX12_waiters_12 rfl (lv_at hl 1 rfl) ?_
        refine lv_aload_n G0.1 G0.2.1 dX12_waiters_13 rfl (lv_at hl 2 rfl) ?_
        refine lv_iload_n G0.1 G0.2.1 dX12_waiters_14 rfl (lv_at hl 0 rfl) ?_
        refine py_calli hw (va_runV (As := [.int v_1]) (rest := [.int v_2]) G0 (c_X12_wants l E G L f H_j4.size u v_1 hG hWF Tu ⟨by omega, by omega⟩) (cwV 1 G0.2.2.2.2 g_X12_waiters_X12_wants_382 rfl rfl rfl (by decide +kernel) ⟨(Nat.le_of_ble_eq_true rfl), (Nat.le_of_ble_eq_true rfl)⟩) (py_preV hw (C := RX12) (T := TX12) (N := 54) rfl hr_37) rfl rfl hl.1 rfl (lv_room (Nat.le_of_ble_eq_true rfl)) dX12_waiters_15 ⟨(Nat.le_of_ble_eq_true rfl), (Nat.le_of_ble_eq_true rfl)⟩) (fun r_43 L_39 f_40 H_41 locs hp_42 hw => ?_)
        obtain ⟨b_47, en_44, en_45, en_46, rfl, rfl⟩ := hp_42
        have jn_28 : ∀ (v_48 : Int32) (H_j28 : Heap) (locs : List Loc) (ls : Array Slot), (0 ≤ v_48.toInt ∧ v_48.toInt ≤ 512) → py_W E (va_A (va_pl L f) s.heap.size) s L f H_j28 locs → lv_has ls 3 [(2, .int v_1), (1, .int v_2), (0, .ref u)] → W p l e (headSpec w_X12_waiters ({ frames := 4, cells := 0, slots := 0, locals := 88 })).room s m ([.ref u] : List Value).toArray below meth c H_j28 locs 0 0 (MQ below (py_Qi E L f s.heap.size (fun r L1 f1 => (0 ≤ r.toInt ∧ r.toInt ≤ 1023) ∧ L = L1 ∧ f = f1)) ([.ref u] : List Value).toArray s 0 0 (va_A (va_pl L f) s.heap.size)) (F0 m 28 ls [.int v_48, .int v_2]) := by
          intro v_48 H_j28 locs ls bv_48 hw hl
          refine lv_ior G0.1 G0.2.1 dX12_waiters_28 ?_
          refine lv_topi (fun x_49 ex_49 => ?_)
          first | have bx_49 := ti_or ex_49 ⟨by omega, by omega⟩ ⟨by omega, by omega⟩ | skip
          refine lv_istore_n (lv' := [(1, .int x_49), (2, .int v_1), (0, .ref u)]) G0.1 G0.2.1 dX12_waiters_29 rfl hl (by decide) rfl (fun ls hl => ?_)
          obtain ⟨x_50, ex_50⟩ : ∃ y : Int32, y = v_1 + 1 := ⟨_, rfl⟩
          first | have tx_50 := ti_add ex_50 (by omega) (by omega) | skip
          refine lv_iinc (v := x_50) (lv' := [(2, .int x_50), (1, .int x_49), (0, .ref u)]) G0.1 G0.2.1 dX12_waiters_30 hl (k := 1) rfl (show _ + (1 : Int32) = _ from ex_50.symm) (by decide) rfl (fun ls hl => ?_)
          refine lv_goto (tgt := 4) G0.1 G0.2.1 dX12_waiters_33 (by decide) ?_
          exact ih_4 ((2147483647 - x_50.toInt).toNat) (by omega) x_50 x_49 _ _ ls rfl ⟨by omega, by omega⟩ ⟨by omega, by omega⟩ hw (lv_sub hl [0, 1, 2] rfl)
        refine lv_if_eq (tgt := 27) G0.1 G0.2.1 dX12_waiters_18 (by decide) (fun c_51 => ?_) (fun c_51 => ?_)
        · skip
          have tc_51 := ti_eq c_51
          clear en_46
          refine lv_iconst (v := 0) G0.1 G0.2.1 dX12_waiters_27 (by decide) ?_
          exact jn_28 0 _ _ ls ⟨by omega, by omega⟩ hw (lv_sub hl [0, 1, 2] rfl)
        · skip
          have tc_51 := ti_ne c_51
          replace en_46 := en_46 (by omega)
          refine lv_iconst (v := 1) G0.1 G0.2.1 dX12_waiters_21 (by decide) ?_
          refine lv_iload_n G0.1 G0.2.1 dX12_waiters_22 rfl (lv_at hl 0 rfl) ?_
          refine lv_ishl G0.1 G0.2.1 dX12_waiters_23 ?_
          refine lv_topi (fun x_52 ex_52 => ?_)
          first | have bx_52 : 0 ≤ x_52.toInt ∧ x_52.toInt ≤ 512 := (by rcases ti_ten v_1 (by omega) (by omega) with h | h | h | h | h | h | h | h | h | h <;> (rw [ex_52, h]; decide +kernel)) | skip
          refine lv_goto (tgt := 28) G0.1 G0.2.1 dX12_waiters_24 (by decide) ?_
          exact jn_28 x_52 _ _ ls ⟨by omega, by omega⟩ hw (lv_sub hl [0, 1, 2] rfl)
  exact lo_4 _ 0 0 _ _ ls rfl ⟨by omega, by omega⟩ ⟨by omega, by omega⟩ hw (lv_sub hl [0, 1, 2] rfl)

def w_X12_gones : List Cond := .code yX12_gones cX12_gones 3 (some .int) :: ([Cond.fieldLink RX12 290 "HeadYearModel" "families" "I", Cond.methodLink RX12 341 yX12_isGone, Cond.instanceMethod yX12_isGone, Cond.selects RX12 yX12_isGone yX12_isGone, Cond.initialized RX12] ++ (u_ws RX12 TX12 54 ++ (w_X12_isGone ++ ([]))))
theorem in_X12_gones_X12 : ∀ w ∈ u_ws RX12 TX12 54, w ∈ w_X12_gones := fun _ h => List.mem_cons_of_mem _ (List.mem_append_right _ (List.mem_append_left _ h))
theorem gg_X12_gones_X12_isGone : GoodIn w_X12_gones w_X12_isGone := goodIn_sub (fun _ h => List.mem_cons_of_mem _ (List.mem_append_right _ (List.mem_append_right _ (List.mem_append_left _ h)))) (by decide +kernel)
theorem g_X12_gones_X12_isGone_341 : GoodIn w_X12_gones (wsV RX12 341 RX12 yX12_isGone w_X12_isGone) := goodIn_app (goodIn_of _ (by decide +kernel)) gg_X12_gones_X12_isGone
set_option maxHeartbeats 4000000 in
set_option maxRecDepth 100000 in
theorem c_X12_gones (l : Launch) (E : py_E) (G : wf_G) (L : List Nat) (f : py_F) (sz : Nat) (u : Nat) (hG : GT G) (hWF : WF E G L f) (Tu : G.1 u = 13) : Met l yX12_gones w_X12_gones ({ frames := 2, cells := 0, slots := 0, locals := 43 }) (py_Pc E [.ref u] L f sz) (py_Qi E L f sz (fun _ L1 f1 => L = L1 ∧ f = f1)) 0 0 (va_A (va_pl L f) sz) := by
  refine Met.ofW (cc := cX12_gones) (maxL := 3) (ret := (some .int)) (by decide) rfl ?_
  intro p e s m args below meth c s₁ B hml hv
  obtain ⟨rfl, rfl, hw⟩ := py_start hv
  have G0 : CallFix p m c cX12_gones 3 s _ w_X12_gones RX12 := ⟨B.exec, B.bytes, hml, findClass_of_methodNamed B.named, atoms_spec (ws := w_X12_gones) B.pre⟩
  have hr := B.returns
  have hlk := B.notSynchronized
  have kcm1 : (-1 : Int32).toInt = -1 := rfl
  have kc0 : (0 : Int32).toInt = 0 := rfl
  have kc1 : (1 : Int32).toInt = 1 := rfl
  have hl := lv_entry ([.ref u]) (n := 3) (Nat.le_of_ble_eq_true rfl)
  rw [lg_entry_eq]
  generalize (lg_sl ([.ref u]) ++ List.replicate (3 - (lg_sl ([.ref u])).length) Slot.unset).toArray = ls at hl ⊢
  have hl : lv_has ls 3 [(0, .ref u)] := hl
  refine lv_iconst (v := 0) G0.1 G0.2.1 dX12_gones_0 (by decide) ?_
  refine lv_istore_n (lv' := [(1, .int 0), (0, .ref u)]) G0.1 G0.2.1 dX12_gones_1 rfl hl (by decide) rfl (fun ls hl => ?_)
  refine lv_iconst (v := 0) G0.1 G0.2.1 dX12_gones_2 (by decide) ?_
  refine lv_istore_n (lv' := [(2, .int 0), (1, .int 0), (0, .ref u)]) G0.1 G0.2.1 dX12_gones_3 rfl hl (by decide) rfl (fun ls hl => ?_)
  have lo_4 : ∀ n_4 : Nat, ∀ (v_1 : Int32) (v_2 : Int32) (H_j4 : Heap) (locs : List Loc) (ls : Array Slot), (2147483647 - v_1.toInt).toNat = n_4 → (0 ≤ v_1.toInt ∧ v_1.toInt ≤ 2147483647) → py_W E (va_A (va_pl L f) s.heap.size) s L f H_j4 locs → lv_has ls 3 [(2, .int v_1), (1, .int v_2), (0, .ref u)] → W p l e (headSpec w_X12_gones ({ frames := 2, cells := 0, slots := 0, locals := 43 })).room s m ([.ref u] : List Value).toArray below meth c H_j4 locs 0 0 (MQ below (py_Qi E L f s.heap.size (fun _ L1 f1 => L = L1 ∧ f = f1)) ([.ref u] : List Value).toArray s 0 0 (va_A (va_pl L f) s.heap.size)) (F0 m 4 ls []) := by
    intro n_4
    induction n_4 using Nat.strongRecOn with
    | _ n_4 ih_4 =>
      intro v_1 v_2 H_j4 locs ls hn_4 bv_1 hw hl
      refine lv_iload_n G0.1 G0.2.1 dX12_gones_4 rfl (lv_at hl 0 rfl) ?_
      refine lv_aload_n G0.1 G0.2.1 dX12_gones_5 rfl (lv_at hl 2 rfl) ?_
      obtain ⟨v_3, v_4, v_5, v_6, v_7, v_8, v_9, v_10, v_11, v_12, v_13, v_14, y_15, v_16, v_17, v_18, v_19, v_20, y_21, v_22, y_23, v_24, hr_37, b_25, b_26, b_27, b_28, b_29, b_30, b_31, b_32, b_33, b_34, b_35, b_36⟩ := wg_12 hWF Tu
      refine py_get (C := RX12) (T := TX12) (N := 54) (k := 25) (v := .int v_13) G0 hw in_X12_gones_X12 rfl hr_37 (by decide) (by decide +kernel) rfl dX12_gones_6 ?_
      refine lv_icmp_ge (tgt := 34) G0.1 G0.2.1 dX12_gones_9 (by decide) (fun c_38 => ?_) (fun c_38 => ?_)
      · skip
        have tc_38 := ti_le c_38
        refine lv_iload_n G0.1 G0.2.1 dX12_gones_34 rfl (lv_at hl 1 rfl) ?_
        exact py_iret G0 hr rfl hlk hw ⟨rfl, rfl⟩ dX12_gones_35
      · skip
        have tc_38 := ti_nle c_38
        refine lv_iload_n G0.1 G0.2.1 dX12_gones_12 rfl (lv_at hl 1 rfl) ?_
        refine lv_aload_n G0.1 G0.2.1 dX12_gones_13 rfl (lv_at hl 2 rfl) ?_
        refine lv_iload_n G0.1 G0.2.1 dX12_gones_14 rfl (lv_at hl 0 rfl) ?_
        refine py_calli hw (va_runV (As := [.int v_1]) (rest := [.int v_2]) G0 (c_X12_isGone l E G L f H_j4.size u v_1 hG hWF Tu ⟨by omega, by omega⟩) (cwV 1 G0.2.2.2.2 g_X12_gones_X12_isGone_341 rfl rfl rfl (by decide +kernel) ⟨(Nat.le_of_ble_eq_true rfl), (Nat.le_of_ble_eq_true rfl)⟩) (py_preV hw (C := RX12) (T := TX12) (N := 54) rfl hr_37) rfl rfl hl.1 rfl (lv_room (Nat.le_of_ble_eq_true rfl)) dX12_gones_15 ⟨(Nat.le_of_ble_eq_true rfl), (Nat.le_of_ble_eq_true rfl)⟩) (fun r_43 L_39 f_40 H_41 locs hp_42 hw => ?_)
        obtain ⟨b_46, en_44, en_45, rfl, rfl⟩ := hp_42
        have jn_26 : ∀ (v_47 : Int32) (H_j26 : Heap) (locs : List Loc) (ls : Array Slot), (0 ≤ v_47.toInt ∧ v_47.toInt ≤ 1) → py_W E (va_A (va_pl L f) s.heap.size) s L f H_j26 locs → lv_has ls 3 [(2, .int v_1), (1, .int v_2), (0, .ref u)] → W p l e (headSpec w_X12_gones ({ frames := 2, cells := 0, slots := 0, locals := 43 })).room s m ([.ref u] : List Value).toArray below meth c H_j26 locs 0 0 (MQ below (py_Qi E L f s.heap.size (fun _ L1 f1 => L = L1 ∧ f = f1)) ([.ref u] : List Value).toArray s 0 0 (va_A (va_pl L f) s.heap.size)) (F0 m 26 ls [.int v_47, .int v_2]) := by
          intro v_47 H_j26 locs ls bv_47 hw hl
          refine lv_iadd G0.1 G0.2.1 dX12_gones_26 ?_
          refine lv_topi (fun x_48 ex_48 => ?_)
          first | have tx_48 := ti_add ex_48 (by omega) (by omega) | skip
          refine lv_istore_n (lv' := [(1, .int x_48), (2, .int v_1), (0, .ref u)]) G0.1 G0.2.1 dX12_gones_27 rfl hl (by decide) rfl (fun ls hl => ?_)
          obtain ⟨x_49, ex_49⟩ : ∃ y : Int32, y = v_1 + 1 := ⟨_, rfl⟩
          first | have tx_49 := ti_add ex_49 (by omega) (by omega) | skip
          refine lv_iinc (v := x_49) (lv' := [(2, .int x_49), (1, .int x_48), (0, .ref u)]) G0.1 G0.2.1 dX12_gones_28 hl (k := 1) rfl (show _ + (1 : Int32) = _ from ex_49.symm) (by decide) rfl (fun ls hl => ?_)
          refine lv_goto (tgt := 4) G0.1 G0.2.1 dX12_gones_31 (by decide) ?_
          exact ih_4 ((2147483647 - x_49.toInt).toNat) (by omega) x_49 x_48 _ _ ls rfl ⟨by omega, by omega⟩ hw (lv_sub hl [0, 1, 2] rfl)
        refine lv_if_eq (tgt := 25) G0.1 G0.2.1 dX12_gones_18 (by decide) (fun c_50 => ?_) (fun c_50 => ?_)
        · skip
          have tc_50 := ti_eq c_50
          clear en_44
          replace en_45 := en_45 (by omega)
          refine lv_iconst (v := 0) G0.1 G0.2.1 dX12_gones_25 (by decide) ?_
          exact jn_26 0 _ _ ls ⟨by omega, by omega⟩ hw (lv_sub hl [0, 1, 2] rfl)
        · skip
          have tc_50 := ti_ne c_50
          replace en_44 := en_44 (by omega)
          clear en_45
          refine lv_iconst (v := 1) G0.1 G0.2.1 dX12_gones_21 (by decide) ?_
          refine lv_goto (tgt := 26) G0.1 G0.2.1 dX12_gones_22 (by decide) ?_
          exact jn_26 1 _ _ ls ⟨by omega, by omega⟩ hw (lv_sub hl [0, 1, 2] rfl)
  exact lo_4 _ 0 0 _ _ ls rfl ⟨by omega, by omega⟩ hw (lv_sub hl [0, 1, 2] rfl)

def w_X12_headsIn : List Cond := .code yX12_headsIn cX12_headsIn 4 (some .int) :: ([Cond.fieldLink RX12 290 "HeadYearModel" "families" "I", Cond.fieldLink RX12 86 "HeadYearModel" "diaryHeads" "[I"] ++ (u_ws RX12 TX12 54 ++ ([])))
theorem in_X12_headsIn_X12 : ∀ w ∈ u_ws RX12 TX12 54, w ∈ w_X12_headsIn := fun _ h => List.mem_cons_of_mem _ (List.mem_append_right _ (List.mem_append_left _ h))
set_option maxHeartbeats 4000000 in
set_option maxRecDepth 100000 in
theorem c_X12_headsIn (l : Launch) (E : py_E) (G : wf_G) (L : List Nat) (f : py_F) (sz : Nat) (u : Nat) (a : Int32) (hG : GT G) (hWF : WF E G L f) (Tu : G.1 u = 13) (Ba : (0 ≤ a.toInt ∧ a.toInt ≤ 59)) : Met l yX12_headsIn w_X12_headsIn ({ frames := 0, cells := 0, slots := 0, locals := 0 }) (py_Pc E [.ref u, .int a] L f sz) (py_Qi E L f sz (fun _ L1 f1 => L = L1 ∧ f = f1)) 0 0 (va_A (va_pl L f) sz) := by
  refine Met.ofW (cc := cX12_headsIn) (maxL := 4) (ret := (some .int)) (by decide) rfl ?_
  intro p e s m args below meth c s₁ B hml hv
  obtain ⟨rfl, rfl, hw⟩ := py_start hv
  have G0 : CallFix p m c cX12_headsIn 4 s _ w_X12_headsIn RX12 := ⟨B.exec, B.bytes, hml, findClass_of_methodNamed B.named, atoms_spec (ws := w_X12_headsIn) B.pre⟩
  have hr := B.returns
  have hlk := B.notSynchronized
  have kcm1 : (-1 : Int32).toInt = -1 := rfl
  have kc0 : (0 : Int32).toInt = 0 := rfl
  have kc1 : (1 : Int32).toInt = 1 := rfl
  have kc10 : (10 : Int32).toInt = 10 := rfl
  have hl := lv_entry ([.ref u, .int a]) (n := 4) (Nat.le_of_ble_eq_true rfl)
  rw [lg_entry_eq]
  generalize (lg_sl ([.ref u, .int a]) ++ List.replicate (4 - (lg_sl ([.ref u, .int a])).length) Slot.unset).toArray = ls at hl ⊢
  have hl : lv_has ls 4 [(0, .ref u), (1, .int a)] := hl
  refine lv_iconst (v := 0) G0.1 G0.2.1 dX12_headsIn_0 (by decide) ?_
  refine lv_istore_n (lv' := [(2, .int 0), (0, .ref u), (1, .int a)]) G0.1 G0.2.1 dX12_headsIn_1 rfl hl (by decide) rfl (fun ls hl => ?_)
  refine lv_iconst (v := 0) G0.1 G0.2.1 dX12_headsIn_2 (by decide) ?_
  refine lv_istore_n (lv' := [(3, .int 0), (2, .int 0), (0, .ref u), (1, .int a)]) G0.1 G0.2.1 dX12_headsIn_3 rfl hl (by decide) rfl (fun ls hl => ?_)
  have lo_4 : ∀ n_4 : Nat, ∀ (v_1 : Int32) (v_2 : Int32) (H_j4 : Heap) (locs : List Loc) (ls : Array Slot), (2147483647 - v_1.toInt).toNat = n_4 → (0 ≤ v_1.toInt ∧ v_1.toInt ≤ 2147483647) → py_W E (va_A (va_pl L f) s.heap.size) s L f H_j4 locs → lv_has ls 4 [(3, .int v_1), (2, .int v_2), (0, .ref u), (1, .int a)] → W p l e (headSpec w_X12_headsIn ({ frames := 0, cells := 0, slots := 0, locals := 0 })).room s m ([.ref u, .int a] : List Value).toArray below meth c H_j4 locs 0 0 (MQ below (py_Qi E L f s.heap.size (fun _ L1 f1 => L = L1 ∧ f = f1)) ([.ref u, .int a] : List Value).toArray s 0 0 (va_A (va_pl L f) s.heap.size)) (F0 m 4 ls []) := by
    intro n_4
    induction n_4 using Nat.strongRecOn with
    | _ n_4 ih_4 =>
      intro v_1 v_2 H_j4 locs ls hn_4 bv_1 hw hl
      refine lv_iload_n G0.1 G0.2.1 dX12_headsIn_4 rfl (lv_at hl 0 rfl) ?_
      refine lv_aload_n G0.1 G0.2.1 dX12_headsIn_5 rfl (lv_at hl 2 rfl) ?_
      obtain ⟨v_3, v_4, v_5, v_6, v_7, v_8, v_9, v_10, v_11, v_12, v_13, v_14, y_15, v_16, v_17, v_18, v_19, v_20, y_21, v_22, y_23, v_24, hr_37, b_25, b_26, b_27, b_28, b_29, b_30, b_31, b_32, b_33, b_34, b_35, b_36⟩ := wg_12 hWF Tu
      refine py_get (C := RX12) (T := TX12) (N := 54) (k := 25) (v := .int v_13) G0 hw in_X12_headsIn_X12 rfl hr_37 (by decide) (by decide +kernel) rfl dX12_headsIn_6 ?_
      refine lv_icmp_ge (tgt := 32) G0.1 G0.2.1 dX12_headsIn_9 (by decide) (fun c_38 => ?_) (fun c_38 => ?_)
      · skip
        have tc_38 := ti_le c_38
        refine lv_iload_n G0.1 G0.2.1 dX12_headsIn_32 rfl (lv_at hl 1 rfl) ?_
        exact py_iret G0 hr rfl hlk hw ⟨rfl, rfl⟩ dX12_headsIn_33
      · skip
        have tc_38 := ti_nle c_38
        refine lv_iload_n G0.1 G0.2.1 dX12_headsIn_12 rfl (lv_at hl 1 rfl) ?_
        refine lv_aload_n G0.1 G0.2.1 dX12_headsIn_13 rfl (lv_at hl 2 rfl) ?_
        refine py_get (C := RX12) (T := TX12) (N := 54) (k := 39) (v := .ref (G.2 u 39)) G0 hw in_X12_headsIn_X12 rfl hr_37 (by decide) (by decide +kernel) rfl dX12_headsIn_14 ?_
        refine lv_bipush (v := 10) G0.1 G0.2.1 dX12_headsIn_17 (by decide) ?_
        refine lv_iload_n G0.1 G0.2.1 dX12_headsIn_19 rfl (lv_at hl 3 rfl) ?_
        refine lv_imul G0.1 G0.2.1 dX12_headsIn_20 ?_
        refine lv_topi (fun x_39 ex_39 => ?_)
        first | have tx_39 := ti_muld ex_39 kc10 (by omega) (by omega) | skip
        refine lv_iload_n G0.1 G0.2.1 dX12_headsIn_21 rfl (lv_at hl 0 rfl) ?_
        refine lv_iadd G0.1 G0.2.1 dX12_headsIn_22 ?_
        refine lv_topi (fun x_40 ex_40 => ?_)
        first | have tx_40 := ti_add ex_40 (by omega) (by omega) | skip
        obtain ⟨g_41, ha_42, hi_43⟩ := wf_arr (n := 600) (lo := (-2147483648)) (hi := 2147483647) hWF (wt12_39 hG Tu) (by decide) (fun _ => rfl)
        have rg_44 : vp_in x_40 600 := ti_in (by omega) (by omega)
        refine py_iald G0 hw ha_42 rg_44 dX12_headsIn_23 ?_
        refine lv_topi (fun x_45 ex_45 => ?_)
        have bx_45 := wf_free x_45
        refine lv_iadd G0.1 G0.2.1 dX12_headsIn_24 ?_
        refine lv_topi (fun x_46 ex_46 => ?_)
        first | have tx_46 := ti_add ex_46 (by omega) (by omega) | skip
        refine lv_istore_n (lv' := [(2, .int x_46), (3, .int v_1), (0, .ref u), (1, .int a)]) G0.1 G0.2.1 dX12_headsIn_25 rfl hl (by decide) rfl (fun ls hl => ?_)
        obtain ⟨x_47, ex_47⟩ : ∃ y : Int32, y = v_1 + 1 := ⟨_, rfl⟩
        first | have tx_47 := ti_add ex_47 (by omega) (by omega) | skip
        refine lv_iinc (v := x_47) (lv' := [(3, .int x_47), (2, .int x_46), (0, .ref u), (1, .int a)]) G0.1 G0.2.1 dX12_headsIn_26 hl (k := 1) rfl (show _ + (1 : Int32) = _ from ex_47.symm) (by decide) rfl (fun ls hl => ?_)
        refine lv_goto (tgt := 4) G0.1 G0.2.1 dX12_headsIn_29 (by decide) ?_
        exact ih_4 ((2147483647 - x_47.toInt).toNat) (by omega) x_47 x_46 _ _ ls rfl ⟨by omega, by omega⟩ hw (lv_sub hl [0, 1, 2, 3] rfl)
  exact lo_4 _ 0 0 _ _ ls rfl ⟨by omega, by omega⟩ hw (lv_sub hl [0, 1, 2, 3] rfl)
