theorem dX2_draw_0 : decode cX2_draw 0 = .ok (.aload_n 0, 1) := by decide +kernel
theorem dX2_draw_1 : decode cX2_draw 1 = .ok (.aload_n 0, 1) := by decide +kernel
theorem dX2_draw_2 : decode cX2_draw 2 = .ok (.getfield 47, 3) := by decide +kernel
theorem dX2_draw_5 : decode cX2_draw 5 = .ok (.ldc2_w 72, 3) := by decide +kernel
theorem dX2_draw_8 : decode cX2_draw 8 = .ok (.lmul, 1) := by decide +kernel
theorem dX2_draw_9 : decode cX2_draw 9 = .ok (.ldc2_w 74, 3) := by decide +kernel
theorem dX2_draw_12 : decode cX2_draw 12 = .ok (.ladd, 1) := by decide +kernel
theorem dX2_draw_13 : decode cX2_draw 13 = .ok (.putfield 47, 3) := by decide +kernel
theorem dX2_draw_16 : decode cX2_draw 16 = .ok (.iload_n 1, 1) := by decide +kernel
theorem dX2_draw_17 : decode cX2_draw 17 = .ok (.ifCond .le 17, 3) := by decide +kernel
theorem dX2_draw_20 : decode cX2_draw 20 = .ok (.aload_n 0, 1) := by decide +kernel
theorem dX2_draw_21 : decode cX2_draw 21 = .ok (.getfield 47, 3) := by decide +kernel
theorem dX2_draw_24 : decode cX2_draw 24 = .ok (.bipush 33, 2) := by decide +kernel
theorem dX2_draw_26 : decode cX2_draw 26 = .ok (.lushr, 1) := by decide +kernel
theorem dX2_draw_27 : decode cX2_draw 27 = .ok (.iload_n 1, 1) := by decide +kernel
theorem dX2_draw_28 : decode cX2_draw 28 = .ok (.i2l, 1) := by decide +kernel
theorem dX2_draw_29 : decode cX2_draw 29 = .ok (.lrem, 1) := by decide +kernel
theorem dX2_draw_30 : decode cX2_draw 30 = .ok (.l2i, 1) := by decide +kernel
theorem dX2_draw_31 : decode cX2_draw 31 = .ok (.goto 4, 3) := by decide +kernel
theorem dX2_draw_34 : decode cX2_draw 34 = .ok (.iconst 0, 1) := by decide +kernel
theorem dX2_draw_35 : decode cX2_draw 35 = .ok (.ireturn, 1) := by decide +kernel
theorem dX2_dweller_0 : decode cX2_dweller 0 = .ok (.iconst 0, 1) := by decide +kernel
theorem dX2_dweller_1 : decode cX2_dweller 1 = .ok (.istore_n 3, 1) := by decide +kernel
theorem dX2_dweller_2 : decode cX2_dweller 2 = .ok (.iload_n 3, 1) := by decide +kernel
theorem dX2_dweller_3 : decode cX2_dweller 3 = .ok (.aload_n 0, 1) := by decide +kernel
theorem dX2_dweller_4 : decode cX2_dweller 4 = .ok (.getfield 43, 3) := by decide +kernel
theorem dX2_dweller_7 : decode cX2_dweller 7 = .ok (.getfield 55, 3) := by decide +kernel
theorem dX2_dweller_10 : decode cX2_dweller 10 = .ok (.if_icmp .ge 31, 3) := by decide +kernel
theorem dX2_dweller_13 : decode cX2_dweller 13 = .ok (.aload_n 0, 1) := by decide +kernel
theorem dX2_dweller_14 : decode cX2_dweller 14 = .ok (.getfield 17, 3) := by decide +kernel
theorem dX2_dweller_17 : decode cX2_dweller 17 = .ok (.iload_n 3, 1) := by decide +kernel
theorem dX2_dweller_18 : decode cX2_dweller 18 = .ok (.iaload, 1) := by decide +kernel
theorem dX2_dweller_19 : decode cX2_dweller 19 = .ok (.iload_n 1, 1) := by decide +kernel
theorem dX2_dweller_20 : decode cX2_dweller 20 = .ok (.if_icmp .ne 15, 3) := by decide +kernel
theorem dX2_dweller_23 : decode cX2_dweller 23 = .ok (.aload_n 0, 1) := by decide +kernel
theorem dX2_dweller_24 : decode cX2_dweller 24 = .ok (.getfield 20, 3) := by decide +kernel
theorem dX2_dweller_27 : decode cX2_dweller 27 = .ok (.iload_n 3, 1) := by decide +kernel
theorem dX2_dweller_28 : decode cX2_dweller 28 = .ok (.iaload, 1) := by decide +kernel
theorem dX2_dweller_29 : decode cX2_dweller 29 = .ok (.iload_n 2, 1) := by decide +kernel
theorem dX2_dweller_30 : decode cX2_dweller 30 = .ok (.if_icmp .ne 5, 3) := by decide +kernel
theorem dX2_dweller_33 : decode cX2_dweller 33 = .ok (.iload_n 3, 1) := by decide +kernel
theorem dX2_dweller_34 : decode cX2_dweller 34 = .ok (.ireturn, 1) := by decide +kernel
theorem dX2_dweller_35 : decode cX2_dweller 35 = .ok (.iinc 3 1, 3) := by decide +kernel
theorem dX2_dweller_38 : decode cX2_dweller 38 = .ok (.goto (-36), 3) := by decide +kernel
theorem dX2_dweller_41 : decode cX2_dweller 41 = .ok (.iconst (-1), 1) := by decide +kernel
theorem dX2_dweller_42 : decode cX2_dweller 42 = .ok (.ireturn, 1) := by decide +kernel
theorem dX2_empty_0 : decode cX2_empty 0 = .ok (.aload_n 0, 1) := by decide +kernel
theorem dX2_empty_1 : decode cX2_empty 1 = .ok (.getfield 11, 3) := by decide +kernel
theorem dX2_empty_4 : decode cX2_empty 4 = .ok (.iload_n 1, 1) := by decide +kernel
theorem dX2_empty_5 : decode cX2_empty 5 = .ok (.iconst 0, 1) := by decide +kernel
theorem dX2_empty_6 : decode cX2_empty 6 = .ok (.iastore, 1) := by decide +kernel
theorem dX2_empty_7 : decode cX2_empty 7 = .ok (.aload_n 0, 1) := by decide +kernel
theorem dX2_empty_8 : decode cX2_empty 8 = .ok (.getfield 17, 3) := by decide +kernel
theorem dX2_empty_11 : decode cX2_empty 11 = .ok (.iload_n 1, 1) := by decide +kernel
theorem dX2_empty_12 : decode cX2_empty 12 = .ok (.iconst (-1), 1) := by decide +kernel
theorem dX2_empty_13 : decode cX2_empty 13 = .ok (.iastore, 1) := by decide +kernel
theorem dX2_empty_14 : decode cX2_empty 14 = .ok (.aload_n 0, 1) := by decide +kernel
theorem dX2_empty_15 : decode cX2_empty 15 = .ok (.getfield 20, 3) := by decide +kernel
theorem dX2_empty_18 : decode cX2_empty 18 = .ok (.iload_n 1, 1) := by decide +kernel
theorem dX2_empty_19 : decode cX2_empty 19 = .ok (.iconst (-1), 1) := by decide +kernel
theorem dX2_empty_20 : decode cX2_empty 20 = .ok (.iastore, 1) := by decide +kernel
theorem dX2_empty_21 : decode cX2_empty 21 = .ok (.aload_n 0, 1) := by decide +kernel
theorem dX2_empty_22 : decode cX2_empty 22 = .ok (.getfield 23, 3) := by decide +kernel
theorem dX2_empty_25 : decode cX2_empty 25 = .ok (.iload_n 1, 1) := by decide +kernel
theorem dX2_empty_26 : decode cX2_empty 26 = .ok (.iconst 0, 1) := by decide +kernel
theorem dX2_empty_27 : decode cX2_empty 27 = .ok (.iastore, 1) := by decide +kernel
theorem dX2_empty_28 : decode cX2_empty 28 = .ok (.aload_n 0, 1) := by decide +kernel
theorem dX2_empty_29 : decode cX2_empty 29 = .ok (.getfield 32, 3) := by decide +kernel
theorem dX2_empty_32 : decode cX2_empty 32 = .ok (.iload_n 1, 1) := by decide +kernel
theorem dX2_empty_33 : decode cX2_empty 33 = .ok (.iconst 0, 1) := by decide +kernel
theorem dX2_empty_34 : decode cX2_empty 34 = .ok (.iastore, 1) := by decide +kernel
theorem dX2_empty_35 : decode cX2_empty 35 = .ok (.aload_n 0, 1) := by decide +kernel
theorem dX2_empty_36 : decode cX2_empty 36 = .ok (.getfield 38, 3) := by decide +kernel
theorem dX2_empty_39 : decode cX2_empty 39 = .ok (.iload_n 1, 1) := by decide +kernel
theorem dX2_empty_40 : decode cX2_empty 40 = .ok (.iconst 0, 1) := by decide +kernel
theorem dX2_empty_41 : decode cX2_empty 41 = .ok (.bastore, 1) := by decide +kernel
theorem dX2_empty_42 : decode cX2_empty 42 = .ok (.return_, 1) := by decide +kernel
theorem dX2_emptyHut_0 : decode cX2_emptyHut 0 = .ok (.iload_n 2, 1) := by decide +kernel
theorem dX2_emptyHut_1 : decode cX2_emptyHut 1 = .ok (.istore_n 3, 1) := by decide +kernel
theorem dX2_emptyHut_2 : decode cX2_emptyHut 2 = .ok (.iconst 0, 1) := by decide +kernel
theorem dX2_emptyHut_3 : decode cX2_emptyHut 3 = .ok (.istore 4, 2) := by decide +kernel
theorem dX2_emptyHut_5 : decode cX2_emptyHut 5 = .ok (.iload 4, 2) := by decide +kernel
theorem dX2_emptyHut_7 : decode cX2_emptyHut 7 = .ok (.aload_n 0, 1) := by decide +kernel
theorem dX2_emptyHut_8 : decode cX2_emptyHut 8 = .ok (.getfield 43, 3) := by decide +kernel
theorem dX2_emptyHut_11 : decode cX2_emptyHut 11 = .ok (.getfield 91, 3) := by decide +kernel
theorem dX2_emptyHut_14 : decode cX2_emptyHut 14 = .ok (.iload_n 1, 1) := by decide +kernel
theorem dX2_emptyHut_15 : decode cX2_emptyHut 15 = .ok (.iaload, 1) := by decide +kernel
theorem dX2_emptyHut_16 : decode cX2_emptyHut 16 = .ok (.if_icmp .ge 30, 3) := by decide +kernel
theorem dX2_emptyHut_19 : decode cX2_emptyHut 19 = .ok (.aload_n 0, 1) := by decide +kernel
theorem dX2_emptyHut_20 : decode cX2_emptyHut 20 = .ok (.iload_n 1, 1) := by decide +kernel
theorem dX2_emptyHut_21 : decode cX2_emptyHut 21 = .ok (.iload 4, 2) := by decide +kernel
theorem dX2_emptyHut_23 : decode cX2_emptyHut 23 = .ok (.invokevirtual 94, 3) := by decide +kernel
theorem dX2_emptyHut_26 : decode cX2_emptyHut 26 = .ok (.iconst (-1), 1) := by decide +kernel
theorem dX2_emptyHut_27 : decode cX2_emptyHut 27 = .ok (.if_icmp .ne 13, 3) := by decide +kernel
theorem dX2_emptyHut_30 : decode cX2_emptyHut 30 = .ok (.iload_n 3, 1) := by decide +kernel
theorem dX2_emptyHut_31 : decode cX2_emptyHut 31 = .ok (.ifCond .ne 6, 3) := by decide +kernel
theorem dX2_emptyHut_34 : decode cX2_emptyHut 34 = .ok (.iload 4, 2) := by decide +kernel
theorem dX2_emptyHut_36 : decode cX2_emptyHut 36 = .ok (.ireturn, 1) := by decide +kernel
theorem dX2_emptyHut_37 : decode cX2_emptyHut 37 = .ok (.iinc 3 (-1), 3) := by decide +kernel
theorem dX2_emptyHut_40 : decode cX2_emptyHut 40 = .ok (.iinc 4 1, 3) := by decide +kernel
theorem dX2_emptyHut_43 : decode cX2_emptyHut 43 = .ok (.goto (-38), 3) := by decide +kernel
theorem dX2_emptyHut_46 : decode cX2_emptyHut 46 = .ok (.iconst (-1), 1) := by decide +kernel
theorem dX2_emptyHut_47 : decode cX2_emptyHut 47 = .ok (.ireturn, 1) := by decide +kernel
theorem dX2_emptyHuts_0 : decode cX2_emptyHuts 0 = .ok (.aload_n 0, 1) := by decide +kernel
theorem dX2_emptyHuts_1 : decode cX2_emptyHuts 1 = .ok (.getfield 43, 3) := by decide +kernel
theorem dX2_emptyHuts_4 : decode cX2_emptyHuts 4 = .ok (.getfield 91, 3) := by decide +kernel
theorem dX2_emptyHuts_7 : decode cX2_emptyHuts 7 = .ok (.iload_n 1, 1) := by decide +kernel
theorem dX2_emptyHuts_8 : decode cX2_emptyHuts 8 = .ok (.iaload, 1) := by decide +kernel
theorem dX2_emptyHuts_9 : decode cX2_emptyHuts 9 = .ok (.aload_n 0, 1) := by decide +kernel
theorem dX2_emptyHuts_10 : decode cX2_emptyHuts 10 = .ok (.iload_n 1, 1) := by decide +kernel
theorem dX2_emptyHuts_11 : decode cX2_emptyHuts 11 = .ok (.invokevirtual 88, 3) := by decide +kernel
theorem dX2_emptyHuts_14 : decode cX2_emptyHuts 14 = .ok (.isub, 1) := by decide +kernel
theorem dX2_emptyHuts_15 : decode cX2_emptyHuts 15 = .ok (.ireturn, 1) := by decide +kernel
theorem dX2_familiesAhead_0 : decode cX2_familiesAhead 0 = .ok (.iconst 0, 1) := by decide +kernel
theorem dX2_familiesAhead_1 : decode cX2_familiesAhead 1 = .ok (.istore_n 2, 1) := by decide +kernel
theorem dX2_familiesAhead_2 : decode cX2_familiesAhead 2 = .ok (.iconst 0, 1) := by decide +kernel
theorem dX2_familiesAhead_3 : decode cX2_familiesAhead 3 = .ok (.istore_n 3, 1) := by decide +kernel
theorem dX2_familiesAhead_4 : decode cX2_familiesAhead 4 = .ok (.iload_n 3, 1) := by decide +kernel
theorem dX2_familiesAhead_5 : decode cX2_familiesAhead 5 = .ok (.aload_n 0, 1) := by decide +kernel
theorem dX2_familiesAhead_6 : decode cX2_familiesAhead 6 = .ok (.getfield 43, 3) := by decide +kernel
theorem dX2_familiesAhead_9 : decode cX2_familiesAhead 9 = .ok (.getfield 55, 3) := by decide +kernel
theorem dX2_familiesAhead_12 : decode cX2_familiesAhead 12 = .ok (.if_icmp .ge 64, 3) := by decide +kernel
theorem dX2_familiesAhead_15 : decode cX2_familiesAhead 15 = .ok (.aload_n 0, 1) := by decide +kernel
theorem dX2_familiesAhead_16 : decode cX2_familiesAhead 16 = .ok (.getfield 11, 3) := by decide +kernel
theorem dX2_familiesAhead_19 : decode cX2_familiesAhead 19 = .ok (.iload_n 3, 1) := by decide +kernel
theorem dX2_familiesAhead_20 : decode cX2_familiesAhead 20 = .ok (.iaload, 1) := by decide +kernel
theorem dX2_familiesAhead_21 : decode cX2_familiesAhead 21 = .ok (.aload_n 0, 1) := by decide +kernel
theorem dX2_familiesAhead_22 : decode cX2_familiesAhead 22 = .ok (.getfield 11, 3) := by decide +kernel
theorem dX2_familiesAhead_25 : decode cX2_familiesAhead 25 = .ok (.iload_n 1, 1) := by decide +kernel
theorem dX2_familiesAhead_26 : decode cX2_familiesAhead 26 = .ok (.iaload, 1) := by decide +kernel
theorem dX2_familiesAhead_27 : decode cX2_familiesAhead 27 = .ok (.if_icmp .ne 12, 3) := by decide +kernel
theorem dX2_familiesAhead_30 : decode cX2_familiesAhead 30 = .ok (.iload_n 3, 1) := by decide +kernel
theorem dX2_familiesAhead_31 : decode cX2_familiesAhead 31 = .ok (.iload_n 1, 1) := by decide +kernel
theorem dX2_familiesAhead_32 : decode cX2_familiesAhead 32 = .ok (.if_icmp .ge 7, 3) := by decide +kernel
theorem dX2_familiesAhead_35 : decode cX2_familiesAhead 35 = .ok (.iconst 1, 1) := by decide +kernel
theorem dX2_familiesAhead_36 : decode cX2_familiesAhead 36 = .ok (.goto 4, 3) := by decide +kernel
theorem dX2_familiesAhead_39 : decode cX2_familiesAhead 39 = .ok (.iconst 0, 1) := by decide +kernel
theorem dX2_familiesAhead_40 : decode cX2_familiesAhead 40 = .ok (.istore 4, 2) := by decide +kernel
theorem dX2_familiesAhead_42 : decode cX2_familiesAhead 42 = .ok (.iload_n 2, 1) := by decide +kernel
theorem dX2_familiesAhead_43 : decode cX2_familiesAhead 43 = .ok (.aload_n 0, 1) := by decide +kernel
theorem dX2_familiesAhead_44 : decode cX2_familiesAhead 44 = .ok (.getfield 11, 3) := by decide +kernel
theorem dX2_familiesAhead_47 : decode cX2_familiesAhead 47 = .ok (.iload_n 3, 1) := by decide +kernel
theorem dX2_familiesAhead_48 : decode cX2_familiesAhead 48 = .ok (.iaload, 1) := by decide +kernel
theorem dX2_familiesAhead_49 : decode cX2_familiesAhead 49 = .ok (.aload_n 0, 1) := by decide +kernel
theorem dX2_familiesAhead_50 : decode cX2_familiesAhead 50 = .ok (.getfield 11, 3) := by decide +kernel
theorem dX2_familiesAhead_53 : decode cX2_familiesAhead 53 = .ok (.iload_n 1, 1) := by decide +kernel
theorem dX2_familiesAhead_54 : decode cX2_familiesAhead 54 = .ok (.iaload, 1) := by decide +kernel
theorem dX2_familiesAhead_55 : decode cX2_familiesAhead 55 = .ok (.if_icmp .gt 8, 3) := by decide +kernel
theorem dX2_familiesAhead_58 : decode cX2_familiesAhead 58 = .ok (.iload 4, 2) := by decide +kernel
theorem dX2_familiesAhead_60 : decode cX2_familiesAhead 60 = .ok (.ifCond .eq 7, 3) := by decide +kernel
theorem dX2_familiesAhead_63 : decode cX2_familiesAhead 63 = .ok (.iconst 1, 1) := by decide +kernel
theorem dX2_familiesAhead_64 : decode cX2_familiesAhead 64 = .ok (.goto 4, 3) := by decide +kernel
theorem dX2_familiesAhead_67 : decode cX2_familiesAhead 67 = .ok (.iconst 0, 1) := by decide +kernel
theorem dX2_familiesAhead_68 : decode cX2_familiesAhead 68 = .ok (.iadd, 1) := by decide +kernel
theorem dX2_familiesAhead_69 : decode cX2_familiesAhead 69 = .ok (.istore_n 2, 1) := by decide +kernel
theorem dX2_familiesAhead_70 : decode cX2_familiesAhead 70 = .ok (.iinc 3 1, 3) := by decide +kernel
theorem dX2_familiesAhead_73 : decode cX2_familiesAhead 73 = .ok (.goto (-69), 3) := by decide +kernel
theorem dX2_familiesAhead_76 : decode cX2_familiesAhead 76 = .ok (.iload_n 2, 1) := by decide +kernel
theorem dX2_familiesAhead_77 : decode cX2_familiesAhead 77 = .ok (.ireturn, 1) := by decide +kernel
theorem dX2_familiesAt_0 : decode cX2_familiesAt 0 = .ok (.iconst 0, 1) := by decide +kernel
theorem dX2_familiesAt_1 : decode cX2_familiesAt 1 = .ok (.istore_n 2, 1) := by decide +kernel
theorem dX2_familiesAt_2 : decode cX2_familiesAt 2 = .ok (.iconst 0, 1) := by decide +kernel
theorem dX2_familiesAt_3 : decode cX2_familiesAt 3 = .ok (.istore_n 3, 1) := by decide +kernel
theorem dX2_familiesAt_4 : decode cX2_familiesAt 4 = .ok (.iload_n 3, 1) := by decide +kernel
theorem dX2_familiesAt_5 : decode cX2_familiesAt 5 = .ok (.aload_n 0, 1) := by decide +kernel
theorem dX2_familiesAt_6 : decode cX2_familiesAt 6 = .ok (.getfield 43, 3) := by decide +kernel
theorem dX2_familiesAt_9 : decode cX2_familiesAt 9 = .ok (.getfield 55, 3) := by decide +kernel
theorem dX2_familiesAt_12 : decode cX2_familiesAt 12 = .ok (.if_icmp .ge 27, 3) := by decide +kernel
theorem dX2_familiesAt_15 : decode cX2_familiesAt 15 = .ok (.iload_n 2, 1) := by decide +kernel
theorem dX2_familiesAt_16 : decode cX2_familiesAt 16 = .ok (.aload_n 0, 1) := by decide +kernel
theorem dX2_familiesAt_17 : decode cX2_familiesAt 17 = .ok (.getfield 17, 3) := by decide +kernel
theorem dX2_familiesAt_20 : decode cX2_familiesAt 20 = .ok (.iload_n 3, 1) := by decide +kernel
theorem dX2_familiesAt_21 : decode cX2_familiesAt 21 = .ok (.iaload, 1) := by decide +kernel
theorem dX2_familiesAt_22 : decode cX2_familiesAt 22 = .ok (.iload_n 1, 1) := by decide +kernel
theorem dX2_familiesAt_23 : decode cX2_familiesAt 23 = .ok (.if_icmp .ne 7, 3) := by decide +kernel
theorem dX2_familiesAt_26 : decode cX2_familiesAt 26 = .ok (.iconst 1, 1) := by decide +kernel
theorem dX2_familiesAt_27 : decode cX2_familiesAt 27 = .ok (.goto 4, 3) := by decide +kernel
theorem dX2_familiesAt_30 : decode cX2_familiesAt 30 = .ok (.iconst 0, 1) := by decide +kernel
theorem dX2_familiesAt_31 : decode cX2_familiesAt 31 = .ok (.iadd, 1) := by decide +kernel
theorem dX2_familiesAt_32 : decode cX2_familiesAt 32 = .ok (.istore_n 2, 1) := by decide +kernel
theorem dX2_familiesAt_33 : decode cX2_familiesAt 33 = .ok (.iinc 3 1, 3) := by decide +kernel
theorem dX2_familiesAt_36 : decode cX2_familiesAt 36 = .ok (.goto (-32), 3) := by decide +kernel
theorem dX2_familiesAt_39 : decode cX2_familiesAt 39 = .ok (.iload_n 2, 1) := by decide +kernel
theorem dX2_familiesAt_40 : decode cX2_familiesAt 40 = .ok (.ireturn, 1) := by decide +kernel
theorem dX2_fullBits_0 : decode cX2_fullBits 0 = .ok (.iconst 0, 1) := by decide +kernel
theorem dX2_fullBits_1 : decode cX2_fullBits 1 = .ok (.istore_n 1, 1) := by decide +kernel
theorem dX2_fullBits_2 : decode cX2_fullBits 2 = .ok (.iconst 0, 1) := by decide +kernel
theorem dX2_fullBits_3 : decode cX2_fullBits 3 = .ok (.istore_n 2, 1) := by decide +kernel
theorem dX2_fullBits_4 : decode cX2_fullBits 4 = .ok (.iload_n 2, 1) := by decide +kernel
theorem dX2_fullBits_5 : decode cX2_fullBits 5 = .ok (.aload_n 0, 1) := by decide +kernel
theorem dX2_fullBits_6 : decode cX2_fullBits 6 = .ok (.getfield 43, 3) := by decide +kernel
theorem dX2_fullBits_9 : decode cX2_fullBits 9 = .ok (.getfield 100, 3) := by decide +kernel
theorem dX2_fullBits_12 : decode cX2_fullBits 12 = .ok (.if_icmp .ge 27, 3) := by decide +kernel
theorem dX2_fullBits_15 : decode cX2_fullBits 15 = .ok (.iload_n 1, 1) := by decide +kernel
theorem dX2_fullBits_16 : decode cX2_fullBits 16 = .ok (.aload_n 0, 1) := by decide +kernel
theorem dX2_fullBits_17 : decode cX2_fullBits 17 = .ok (.iload_n 2, 1) := by decide +kernel
theorem dX2_fullBits_18 : decode cX2_fullBits 18 = .ok (.invokevirtual 113, 3) := by decide +kernel
theorem dX2_fullBits_21 : decode cX2_fullBits 21 = .ok (.ifCond .le 7, 3) := by decide +kernel
theorem dX2_fullBits_24 : decode cX2_fullBits 24 = .ok (.iconst 0, 1) := by decide +kernel
theorem dX2_fullBits_25 : decode cX2_fullBits 25 = .ok (.goto 6, 3) := by decide +kernel
theorem dX2_fullBits_28 : decode cX2_fullBits 28 = .ok (.iconst 1, 1) := by decide +kernel
theorem dX2_fullBits_29 : decode cX2_fullBits 29 = .ok (.iload_n 2, 1) := by decide +kernel
theorem dX2_fullBits_30 : decode cX2_fullBits 30 = .ok (.ishl, 1) := by decide +kernel
theorem dX2_fullBits_31 : decode cX2_fullBits 31 = .ok (.ior, 1) := by decide +kernel
theorem dX2_fullBits_32 : decode cX2_fullBits 32 = .ok (.istore_n 1, 1) := by decide +kernel
theorem dX2_fullBits_33 : decode cX2_fullBits 33 = .ok (.iinc 2 1, 3) := by decide +kernel
theorem dX2_fullBits_36 : decode cX2_fullBits 36 = .ok (.goto (-32), 3) := by decide +kernel
theorem dX2_fullBits_39 : decode cX2_fullBits 39 = .ok (.iload_n 1, 1) := by decide +kernel
theorem dX2_fullBits_40 : decode cX2_fullBits 40 = .ok (.ireturn, 1) := by decide +kernel
theorem dX2_goneFamilies_0 : decode cX2_goneFamilies 0 = .ok (.aload_n 0, 1) := by decide +kernel
theorem dX2_goneFamilies_1 : decode cX2_goneFamilies 1 = .ok (.iconst (-1), 1) := by decide +kernel
theorem dX2_goneFamilies_2 : decode cX2_goneFamilies 2 = .ok (.invokevirtual 88, 3) := by decide +kernel
theorem dX2_goneFamilies_5 : decode cX2_goneFamilies 5 = .ok (.ireturn, 1) := by decide +kernel
theorem dX2_headsAt_0 : decode cX2_headsAt 0 = .ok (.iconst 0, 1) := by decide +kernel
theorem dX2_headsAt_1 : decode cX2_headsAt 1 = .ok (.istore_n 2, 1) := by decide +kernel
theorem dX2_headsAt_2 : decode cX2_headsAt 2 = .ok (.iconst 0, 1) := by decide +kernel
theorem dX2_headsAt_3 : decode cX2_headsAt 3 = .ok (.istore_n 3, 1) := by decide +kernel
theorem dX2_headsAt_4 : decode cX2_headsAt 4 = .ok (.iload_n 3, 1) := by decide +kernel
theorem dX2_headsAt_5 : decode cX2_headsAt 5 = .ok (.aload_n 0, 1) := by decide +kernel
theorem dX2_headsAt_6 : decode cX2_headsAt 6 = .ok (.getfield 43, 3) := by decide +kernel
theorem dX2_headsAt_9 : decode cX2_headsAt 9 = .ok (.getfield 55, 3) := by decide +kernel
theorem dX2_headsAt_12 : decode cX2_headsAt 12 = .ok (.if_icmp .ge 32, 3) := by decide +kernel
theorem dX2_headsAt_15 : decode cX2_headsAt 15 = .ok (.iload_n 2, 1) := by decide +kernel
theorem dX2_headsAt_16 : decode cX2_headsAt 16 = .ok (.aload_n 0, 1) := by decide +kernel
theorem dX2_headsAt_17 : decode cX2_headsAt 17 = .ok (.getfield 17, 3) := by decide +kernel
theorem dX2_headsAt_20 : decode cX2_headsAt 20 = .ok (.iload_n 3, 1) := by decide +kernel
theorem dX2_headsAt_21 : decode cX2_headsAt 21 = .ok (.iaload, 1) := by decide +kernel
theorem dX2_headsAt_22 : decode cX2_headsAt 22 = .ok (.iload_n 1, 1) := by decide +kernel
theorem dX2_headsAt_23 : decode cX2_headsAt 23 = .ok (.if_icmp .ne 12, 3) := by decide +kernel
theorem dX2_headsAt_26 : decode cX2_headsAt 26 = .ok (.aload_n 0, 1) := by decide +kernel
theorem dX2_headsAt_27 : decode cX2_headsAt 27 = .ok (.getfield 11, 3) := by decide +kernel
theorem dX2_headsAt_30 : decode cX2_headsAt 30 = .ok (.iload_n 3, 1) := by decide +kernel
theorem dX2_headsAt_31 : decode cX2_headsAt 31 = .ok (.iaload, 1) := by decide +kernel
theorem dX2_headsAt_32 : decode cX2_headsAt 32 = .ok (.goto 4, 3) := by decide +kernel
theorem dX2_headsAt_35 : decode cX2_headsAt 35 = .ok (.iconst 0, 1) := by decide +kernel
theorem dX2_headsAt_36 : decode cX2_headsAt 36 = .ok (.iadd, 1) := by decide +kernel
theorem dX2_headsAt_37 : decode cX2_headsAt 37 = .ok (.istore_n 2, 1) := by decide +kernel
theorem dX2_headsAt_38 : decode cX2_headsAt 38 = .ok (.iinc 3 1, 3) := by decide +kernel
theorem dX2_headsAt_41 : decode cX2_headsAt 41 = .ok (.goto (-37), 3) := by decide +kernel
theorem dX2_headsAt_44 : decode cX2_headsAt 44 = .ok (.iload_n 2, 1) := by decide +kernel
theorem dX2_headsAt_45 : decode cX2_headsAt 45 = .ok (.ireturn, 1) := by decide +kernel
theorem dX2_headsOfAll_0 : decode cX2_headsOfAll 0 = .ok (.iconst 0, 1) := by decide +kernel
theorem dX2_headsOfAll_1 : decode cX2_headsOfAll 1 = .ok (.istore_n 1, 1) := by decide +kernel
theorem dX2_headsOfAll_2 : decode cX2_headsOfAll 2 = .ok (.iconst 0, 1) := by decide +kernel
theorem dX2_headsOfAll_3 : decode cX2_headsOfAll 3 = .ok (.istore_n 2, 1) := by decide +kernel
theorem dX2_headsOfAll_4 : decode cX2_headsOfAll 4 = .ok (.iload_n 2, 1) := by decide +kernel
theorem dX2_headsOfAll_5 : decode cX2_headsOfAll 5 = .ok (.aload_n 0, 1) := by decide +kernel
theorem dX2_headsOfAll_6 : decode cX2_headsOfAll 6 = .ok (.getfield 43, 3) := by decide +kernel
theorem dX2_headsOfAll_9 : decode cX2_headsOfAll 9 = .ok (.getfield 55, 3) := by decide +kernel
theorem dX2_headsOfAll_12 : decode cX2_headsOfAll 12 = .ok (.if_icmp .ge 18, 3) := by decide +kernel
theorem dX2_headsOfAll_15 : decode cX2_headsOfAll 15 = .ok (.iload_n 1, 1) := by decide +kernel
theorem dX2_headsOfAll_16 : decode cX2_headsOfAll 16 = .ok (.aload_n 0, 1) := by decide +kernel
theorem dX2_headsOfAll_17 : decode cX2_headsOfAll 17 = .ok (.getfield 11, 3) := by decide +kernel
theorem dX2_headsOfAll_20 : decode cX2_headsOfAll 20 = .ok (.iload_n 2, 1) := by decide +kernel
theorem dX2_headsOfAll_21 : decode cX2_headsOfAll 21 = .ok (.iaload, 1) := by decide +kernel
theorem dX2_headsOfAll_22 : decode cX2_headsOfAll 22 = .ok (.iadd, 1) := by decide +kernel
theorem dX2_headsOfAll_23 : decode cX2_headsOfAll 23 = .ok (.istore_n 1, 1) := by decide +kernel
theorem dX2_headsOfAll_24 : decode cX2_headsOfAll 24 = .ok (.iinc 2 1, 3) := by decide +kernel
theorem dX2_headsOfAll_27 : decode cX2_headsOfAll 27 = .ok (.goto (-23), 3) := by decide +kernel
theorem dX2_headsOfAll_30 : decode cX2_headsOfAll 30 = .ok (.iload_n 1, 1) := by decide +kernel
theorem dX2_headsOfAll_31 : decode cX2_headsOfAll 31 = .ok (.ireturn, 1) := by decide +kernel
theorem dX2_lackAt_0 : decode cX2_lackAt 0 = .ok (.iconst 0, 1) := by decide +kernel
theorem dX2_lackAt_1 : decode cX2_lackAt 1 = .ok (.aload_n 0, 1) := by decide +kernel
theorem dX2_lackAt_2 : decode cX2_lackAt 2 = .ok (.iload_n 1, 1) := by decide +kernel
theorem dX2_lackAt_3 : decode cX2_lackAt 3 = .ok (.invokevirtual 76, 3) := by decide +kernel
theorem dX2_lackAt_6 : decode cX2_lackAt 6 = .ok (.aload_n 0, 1) := by decide +kernel
theorem dX2_lackAt_7 : decode cX2_lackAt 7 = .ok (.getfield 43, 3) := by decide +kernel
theorem dX2_lackAt_10 : decode cX2_lackAt 10 = .ok (.getfield 80, 3) := by decide +kernel
theorem dX2_lackAt_13 : decode cX2_lackAt 13 = .ok (.iload_n 1, 1) := by decide +kernel
theorem dX2_lackAt_14 : decode cX2_lackAt 14 = .ok (.iaload, 1) := by decide +kernel
theorem dX2_lackAt_15 : decode cX2_lackAt 15 = .ok (.isub, 1) := by decide +kernel
theorem dX2_lackAt_16 : decode cX2_lackAt 16 = .ok (.invokestatic 83, 3) := by decide +kernel
theorem dX2_lackAt_19 : decode cX2_lackAt 19 = .ok (.ireturn, 1) := by decide +kernel
theorem dX2_move_0 : decode cX2_move 0 = .ok (.aload_n 0, 1) := by decide +kernel
theorem dX2_move_1 : decode cX2_move 1 = .ok (.getfield 17, 3) := by decide +kernel
theorem dX2_move_4 : decode cX2_move 4 = .ok (.iload_n 1, 1) := by decide +kernel
theorem dX2_move_5 : decode cX2_move 5 = .ok (.iload_n 2, 1) := by decide +kernel
theorem dX2_move_6 : decode cX2_move 6 = .ok (.iastore, 1) := by decide +kernel
theorem dX2_move_7 : decode cX2_move 7 = .ok (.aload_n 0, 1) := by decide +kernel
theorem dX2_move_8 : decode cX2_move 8 = .ok (.getfield 20, 3) := by decide +kernel
theorem dX2_move_11 : decode cX2_move 11 = .ok (.iload_n 1, 1) := by decide +kernel
theorem dX2_move_12 : decode cX2_move 12 = .ok (.iload_n 3, 1) := by decide +kernel
theorem dX2_move_13 : decode cX2_move 13 = .ok (.iastore, 1) := by decide +kernel
theorem dX2_move_14 : decode cX2_move 14 = .ok (.aload_n 0, 1) := by decide +kernel
theorem dX2_move_15 : decode cX2_move 15 = .ok (.getfield 23, 3) := by decide +kernel
theorem dX2_move_18 : decode cX2_move 18 = .ok (.iload_n 1, 1) := by decide +kernel
theorem dX2_move_19 : decode cX2_move 19 = .ok (.iconst 0, 1) := by decide +kernel
theorem dX2_move_20 : decode cX2_move 20 = .ok (.iastore, 1) := by decide +kernel
theorem dX2_move_21 : decode cX2_move 21 = .ok (.return_, 1) := by decide +kernel
theorem dX2_waitingBits_0 : decode cX2_waitingBits 0 = .ok (.iconst 0, 1) := by decide +kernel
theorem dX2_waitingBits_1 : decode cX2_waitingBits 1 = .ok (.istore_n 1, 1) := by decide +kernel
theorem dX2_waitingBits_2 : decode cX2_waitingBits 2 = .ok (.iconst 0, 1) := by decide +kernel
theorem dX2_waitingBits_3 : decode cX2_waitingBits 3 = .ok (.istore_n 2, 1) := by decide +kernel
theorem dX2_waitingBits_4 : decode cX2_waitingBits 4 = .ok (.iload_n 2, 1) := by decide +kernel
theorem dX2_waitingBits_5 : decode cX2_waitingBits 5 = .ok (.aload_n 0, 1) := by decide +kernel
theorem dX2_waitingBits_6 : decode cX2_waitingBits 6 = .ok (.getfield 43, 3) := by decide +kernel
theorem dX2_waitingBits_9 : decode cX2_waitingBits 9 = .ok (.getfield 55, 3) := by decide +kernel
theorem dX2_waitingBits_12 : decode cX2_waitingBits 12 = .ok (.if_icmp .ge 27, 3) := by decide +kernel
theorem dX2_waitingBits_15 : decode cX2_waitingBits 15 = .ok (.iload_n 1, 1) := by decide +kernel
theorem dX2_waitingBits_16 : decode cX2_waitingBits 16 = .ok (.aload_n 0, 1) := by decide +kernel
theorem dX2_waitingBits_17 : decode cX2_waitingBits 17 = .ok (.iload_n 2, 1) := by decide +kernel
theorem dX2_waitingBits_18 : decode cX2_waitingBits 18 = .ok (.invokevirtual 109, 3) := by decide +kernel
theorem dX2_waitingBits_21 : decode cX2_waitingBits 21 = .ok (.ifCond .eq 9, 3) := by decide +kernel
theorem dX2_waitingBits_24 : decode cX2_waitingBits 24 = .ok (.iconst 1, 1) := by decide +kernel
theorem dX2_waitingBits_25 : decode cX2_waitingBits 25 = .ok (.iload_n 2, 1) := by decide +kernel
theorem dX2_waitingBits_26 : decode cX2_waitingBits 26 = .ok (.ishl, 1) := by decide +kernel
theorem dX2_waitingBits_27 : decode cX2_waitingBits 27 = .ok (.goto 4, 3) := by decide +kernel
theorem dX2_waitingBits_30 : decode cX2_waitingBits 30 = .ok (.iconst 0, 1) := by decide +kernel
theorem dX2_waitingBits_31 : decode cX2_waitingBits 31 = .ok (.ior, 1) := by decide +kernel
theorem dX2_waitingBits_32 : decode cX2_waitingBits 32 = .ok (.istore_n 1, 1) := by decide +kernel
theorem dX2_waitingBits_33 : decode cX2_waitingBits 33 = .ok (.iinc 2 1, 3) := by decide +kernel
theorem dX2_waitingBits_36 : decode cX2_waitingBits 36 = .ok (.goto (-32), 3) := by decide +kernel
theorem dX2_waitingBits_39 : decode cX2_waitingBits 39 = .ok (.iload_n 1, 1) := by decide +kernel
theorem dX2_waitingBits_40 : decode cX2_waitingBits 40 = .ok (.ireturn, 1) := by decide +kernel
theorem dX2_waits_0 : decode cX2_waits 0 = .ok (.aload_n 0, 1) := by decide +kernel
theorem dX2_waits_1 : decode cX2_waits 1 = .ok (.iload_n 1, 1) := by decide +kernel
theorem dX2_waits_2 : decode cX2_waits 2 = .ok (.invokevirtual 106, 3) := by decide +kernel
theorem dX2_waits_5 : decode cX2_waits 5 = .ok (.aload_n 0, 1) := by decide +kernel
theorem dX2_waits_6 : decode cX2_waits 6 = .ok (.getfield 17, 3) := by decide +kernel
theorem dX2_waits_9 : decode cX2_waits 9 = .ok (.iload_n 1, 1) := by decide +kernel
theorem dX2_waits_10 : decode cX2_waits 10 = .ok (.iaload, 1) := by decide +kernel
theorem dX2_waits_11 : decode cX2_waits 11 = .ok (.if_icmp .eq 7, 3) := by decide +kernel
theorem dX2_waits_14 : decode cX2_waits 14 = .ok (.iconst 1, 1) := by decide +kernel
theorem dX2_waits_15 : decode cX2_waits 15 = .ok (.goto 4, 3) := by decide +kernel
theorem dX2_waits_18 : decode cX2_waits 18 = .ok (.iconst 0, 1) := by decide +kernel
theorem dX2_waits_19 : decode cX2_waits 19 = .ok (.ireturn, 1) := by decide +kernel
theorem dX2_want_0 : decode cX2_want 0 = .ok (.aload_n 0, 1) := by decide +kernel
theorem dX2_want_1 : decode cX2_want 1 = .ok (.getfield 17, 3) := by decide +kernel
theorem dX2_want_4 : decode cX2_want 4 = .ok (.iload_n 1, 1) := by decide +kernel
theorem dX2_want_5 : decode cX2_want 5 = .ok (.iaload, 1) := by decide +kernel
theorem dX2_want_6 : decode cX2_want 6 = .ok (.istore_n 2, 1) := by decide +kernel
theorem dX2_want_7 : decode cX2_want 7 = .ok (.iload_n 2, 1) := by decide +kernel
theorem dX2_want_8 : decode cX2_want 8 = .ok (.iconst (-1), 1) := by decide +kernel
theorem dX2_want_9 : decode cX2_want 9 = .ok (.if_icmp .eq 16, 3) := by decide +kernel
theorem dX2_want_12 : decode cX2_want 12 = .ok (.aload_n 0, 1) := by decide +kernel
theorem dX2_want_13 : decode cX2_want 13 = .ok (.getfield 43, 3) := by decide +kernel
theorem dX2_want_16 : decode cX2_want 16 = .ok (.getfield 97, 3) := by decide +kernel
theorem dX2_want_19 : decode cX2_want 19 = .ok (.iload_n 2, 1) := by decide +kernel
theorem dX2_want_20 : decode cX2_want 20 = .ok (.iaload, 1) := by decide +kernel
theorem dX2_want_21 : decode cX2_want 21 = .ok (.iconst 1, 1) := by decide +kernel
theorem dX2_want_22 : decode cX2_want 22 = .ok (.if_icmp .ne 5, 3) := by decide +kernel
theorem dX2_want_25 : decode cX2_want 25 = .ok (.iload_n 2, 1) := by decide +kernel
theorem dX2_want_26 : decode cX2_want 26 = .ok (.ireturn, 1) := by decide +kernel
theorem dX2_want_27 : decode cX2_want 27 = .ok (.aload_n 0, 1) := by decide +kernel
theorem dX2_want_28 : decode cX2_want 28 = .ok (.getfield 43, 3) := by decide +kernel
theorem dX2_want_31 : decode cX2_want 31 = .ok (.getfield 100, 3) := by decide +kernel
theorem dX2_want_34 : decode cX2_want 34 = .ok (.iconst 1, 1) := by decide +kernel
theorem dX2_want_35 : decode cX2_want 35 = .ok (.isub, 1) := by decide +kernel
theorem dX2_want_36 : decode cX2_want 36 = .ok (.iconst 0, 1) := by decide +kernel
theorem dX2_want_37 : decode cX2_want 37 = .ok (.iload_n 2, 1) := by decide +kernel
theorem dX2_want_38 : decode cX2_want 38 = .ok (.aload_n 0, 1) := by decide +kernel
theorem dX2_want_39 : decode cX2_want 39 = .ok (.getfield 23, 3) := by decide +kernel
theorem dX2_want_42 : decode cX2_want 42 = .ok (.iload_n 1, 1) := by decide +kernel
theorem dX2_want_43 : decode cX2_want 43 = .ok (.iaload, 1) := by decide +kernel
theorem dX2_want_44 : decode cX2_want 44 = .ok (.iadd, 1) := by decide +kernel
theorem dX2_want_45 : decode cX2_want 45 = .ok (.invokestatic 83, 3) := by decide +kernel
theorem dX2_want_48 : decode cX2_want 48 = .ok (.invokestatic 103, 3) := by decide +kernel
theorem dX2_want_51 : decode cX2_want 51 = .ok (.ireturn, 1) := by decide +kernel
def w_X2_headsAt : List Cond := .code yX2_headsAt cX2_headsAt 4 (some .int) :: ([Cond.fieldLink RX2 43 "HeadYear$Folk" "valley" "LHeadYear$Valley;", Cond.fieldLink RX2 55 "HeadYear$Valley" "families" "I", Cond.fieldLink RX2 17 "HeadYear$Folk" "level" "[I", Cond.fieldLink RX2 11 "HeadYear$Folk" "heads" "[I"] ++ (u_ws RX2 TX2 12 ++ (u_ws RX9 TX9 10 ++ ([]))))
theorem in_X2_headsAt_X2 : ∀ w ∈ u_ws RX2 TX2 12, w ∈ w_X2_headsAt := fun _ h => List.mem_cons_of_mem _ (List.mem_append_right _ (List.mem_append_left _ h))
theorem in_X2_headsAt_X9 : ∀ w ∈ u_ws RX9 TX9 10, w ∈ w_X2_headsAt := fun _ h => List.mem_cons_of_mem _ (List.mem_append_right _ (List.mem_append_right _ (List.mem_append_left _ h)))
set_option maxHeartbeats 4000000 in
set_option maxRecDepth 100000 in
theorem c_X2_headsAt (l : Launch) (E : py_E) (G : wf_G) (L : List Nat) (f : py_F) (sz : Nat) (h : Nat) (a : Int32) (hG : GT G) (hWF : WF E G L f) (Th : G.1 h = 3) : Met l yX2_headsAt w_X2_headsAt ({ frames := 0, cells := 0, slots := 0, locals := 0 }) (py_Pc E [.ref h, .int a] L f sz) (py_Qi E L f sz (fun _ L1 f1 => L = L1 ∧ f = f1)) 0 0 (va_A (va_pl L f) sz) := by
  refine Met.ofW (cc := cX2_headsAt) (maxL := 4) (ret := (some .int)) (by decide) rfl ?_
  intro p e s m args below meth c s₁ B hml hv
  obtain ⟨rfl, rfl, hw⟩ := py_start hv
  have G0 : CallFix p m c cX2_headsAt 4 s _ w_X2_headsAt RX2 := ⟨B.exec, B.bytes, hml, findClass_of_methodNamed B.named, atoms_spec (ws := w_X2_headsAt) B.pre⟩
  have hr := B.returns
  have hlk := B.notSynchronized
  have kcm1 : (-1 : Int32).toInt = -1 := rfl
  have kc0 : (0 : Int32).toInt = 0 := rfl
  have kc1 : (1 : Int32).toInt = 1 := rfl
  have hl := lv_entry ([.ref h, .int a]) (n := 4) (Nat.le_of_ble_eq_true rfl)
  rw [lg_entry_eq]
  generalize (lg_sl ([.ref h, .int a]) ++ List.replicate (4 - (lg_sl ([.ref h, .int a])).length) Slot.unset).toArray = ls at hl ⊢
  have hl : lv_has ls 4 [(0, .ref h), (1, .int a)] := hl
  have hRP : RP E G f f := RP.refl
  refine lv_iconst (v := 0) G0.1 G0.2.1 dX2_headsAt_0 (by decide) ?_
  refine lv_istore_n (lv' := [(2, .int 0), (0, .ref h), (1, .int a)]) G0.1 G0.2.1 dX2_headsAt_1 rfl hl (by decide) rfl (fun ls hl => ?_)
  refine lv_iconst (v := 0) G0.1 G0.2.1 dX2_headsAt_2 (by decide) ?_
  refine lv_istore_n (lv' := [(3, .int 0), (2, .int 0), (0, .ref h), (1, .int a)]) G0.1 G0.2.1 dX2_headsAt_3 rfl hl (by decide) rfl (fun ls hl => ?_)
  have lo_4 : ∀ n_4 : Nat, ∀ (v_1 : Int32) (v_2 : Int32) (H_j4 : Heap) (locs : List Loc) (ls : Array Slot), (2147483647 - v_1.toInt).toNat = n_4 → (0 ≤ v_1.toInt ∧ v_1.toInt ≤ 2147483647) → py_W E (va_A (va_pl L f) s.heap.size) s L f H_j4 locs → lv_has ls 4 [(3, .int v_1), (2, .int v_2), (0, .ref h), (1, .int a)] → W p l e (headSpec w_X2_headsAt ({ frames := 0, cells := 0, slots := 0, locals := 0 })).room s m ([.ref h, .int a] : List Value).toArray below meth c H_j4 locs 0 0 (MQ below (py_Qi E L f s.heap.size (fun _ L1 f1 => L = L1 ∧ f = f1)) ([.ref h, .int a] : List Value).toArray s 0 0 (va_A (va_pl L f) s.heap.size)) (F0 m 4 ls []) := by
    intro n_4
    induction n_4 using Nat.strongRecOn with
    | _ n_4 ih_4 =>
      intro v_1 v_2 H_j4 locs ls hn_4 bv_1 hw hl
      refine lv_iload_n G0.1 G0.2.1 dX2_headsAt_4 rfl (lv_at hl 0 rfl) ?_
      refine lv_aload_n G0.1 G0.2.1 dX2_headsAt_5 rfl (lv_at hl 2 rfl) ?_
      obtain ⟨t_3, t_4, t_5, t_6, t_7, t_8, t_9, t_10, t_11⟩ := wt_2 hG Th
      obtain ⟨r_12, y_13, v_14, hr_17, ty_15, b_16⟩ := wg_2 hWF Th
      refine py_get (C := RX2) (T := TX2) (N := 12) (k := 9) (v := .ref r_12) G0 hw in_X2_headsAt_X2 rfl hr_17 (by decide) (by decide +kernel) rfl dX2_headsAt_6 ?_
      obtain ⟨t_18, t_19, t_20, t_21, t_22, t_23, t_24, t_25⟩ := wt_9 hG ty_15
      obtain ⟨v_26, v_27, hr_30, b_28, b_29⟩ := wg_9 hWF ty_15
      have tq_31 := va_eq hr_30
      refine py_get (C := RX9) (T := TX9) (N := 10) (k := 9) (v := .int v_27) G0 hw in_X2_headsAt_X9 rfl hr_30 (by decide) (by decide +kernel) rfl dX2_headsAt_9 ?_
      refine lv_icmp_ge (tgt := 44) G0.1 G0.2.1 dX2_headsAt_12 (by decide) (fun c_32 => ?_) (fun c_32 => ?_)
      · skip
        have tc_32 := ti_le c_32
        refine lv_iload_n G0.1 G0.2.1 dX2_headsAt_44 rfl (lv_at hl 1 rfl) ?_
        exact py_iret G0 hr rfl hlk hw ⟨rfl, rfl⟩ dX2_headsAt_45
      · skip
        have tc_32 := ti_nle c_32
        refine lv_iload_n G0.1 G0.2.1 dX2_headsAt_15 rfl (lv_at hl 1 rfl) ?_
        refine lv_aload_n G0.1 G0.2.1 dX2_headsAt_16 rfl (lv_at hl 2 rfl) ?_
        refine py_get (C := RX2) (T := TX2) (N := 12) (k := 1) (v := .ref (G.2 h 1)) G0 hw in_X2_headsAt_X2 rfl hr_17 (by decide) (by decide +kernel) rfl dX2_headsAt_17 ?_
        refine lv_iload_n G0.1 G0.2.1 dX2_headsAt_20 rfl (lv_at hl 0 rfl) ?_
        obtain ⟨g_33, ha_34, hi_35⟩ := wf_arr (n := 10) (lo := (-1)) (hi := 7) hWF t_4 (by omega) (wf_own1 E G _ h)
        have rg_36 : vp_in v_1 10 := ti_in (by omega) (by omega)
        refine py_iald G0 hw ha_34 rg_36 dX2_headsAt_21 ?_
        refine lv_topi (fun x_37 ex_37 => ?_)
        have bx_37 := ti_at hi_35 rg_36 ex_37
        refine lv_iload_n G0.1 G0.2.1 dX2_headsAt_22 rfl (lv_at hl 3 rfl) ?_
        have jn_36 : ∀ (v_38 : Int32) (H_j36 : Heap) (locs : List Loc) (ls : Array Slot), py_W E (va_A (va_pl L f) s.heap.size) s L f H_j36 locs → lv_has ls 4 [(3, .int v_1), (2, .int v_2), (0, .ref h), (1, .int a)] → W p l e (headSpec w_X2_headsAt ({ frames := 0, cells := 0, slots := 0, locals := 0 })).room s m ([.ref h, .int a] : List Value).toArray below meth c H_j36 locs 0 0 (MQ below (py_Qi E L f s.heap.size (fun _ L1 f1 => L = L1 ∧ f = f1)) ([.ref h, .int a] : List Value).toArray s 0 0 (va_A (va_pl L f) s.heap.size)) (F0 m 36 ls [.int v_38, .int v_2]) := by
          intro v_38 H_j36 locs ls hw hl
          refine lv_iadd G0.1 G0.2.1 dX2_headsAt_36 ?_
          refine lv_topi (fun x_39 ex_39 => ?_)
          first | have tx_39 := ti_add ex_39 (by omega) (by omega) | skip
          refine lv_istore_n (lv' := [(2, .int x_39), (3, .int v_1), (0, .ref h), (1, .int a)]) G0.1 G0.2.1 dX2_headsAt_37 rfl hl (by decide) rfl (fun ls hl => ?_)
          obtain ⟨x_40, ex_40⟩ : ∃ y : Int32, y = v_1 + 1 := ⟨_, rfl⟩
          first | have tx_40 := ti_add ex_40 (by omega) (by omega) | skip
          refine lv_iinc (v := x_40) (lv' := [(3, .int x_40), (2, .int x_39), (0, .ref h), (1, .int a)]) G0.1 G0.2.1 dX2_headsAt_38 hl (k := 1) rfl (show _ + (1 : Int32) = _ from ex_40.symm) (by decide) rfl (fun ls hl => ?_)
          refine lv_goto (tgt := 4) G0.1 G0.2.1 dX2_headsAt_41 (by decide) ?_
          exact ih_4 ((2147483647 - x_40.toInt).toNat) (by omega) x_40 x_39 _ _ ls rfl ⟨by omega, by omega⟩ hw (lv_sub hl [0, 1, 2, 3] rfl)
        refine lv_icmp_ne (tgt := 35) G0.1 G0.2.1 dX2_headsAt_23 (by decide) (fun c_41 => ?_) (fun c_41 => ?_)
        · skip
          have tc_41 := ti_ne c_41
          refine lv_iconst (v := 0) G0.1 G0.2.1 dX2_headsAt_35 (by decide) ?_
          exact jn_36 0 _ _ ls hw (lv_sub hl [0, 1, 2, 3] rfl)
        · skip
          have tc_41 := ti_eq c_41
          refine lv_aload_n G0.1 G0.2.1 dX2_headsAt_26 rfl (lv_at hl 2 rfl) ?_
          refine py_get (C := RX2) (T := TX2) (N := 12) (k := 0) (v := .ref (G.2 h 0)) G0 hw in_X2_headsAt_X2 rfl hr_17 (by decide) (by decide +kernel) rfl dX2_headsAt_27 ?_
          refine lv_iload_n G0.1 G0.2.1 dX2_headsAt_30 rfl (lv_at hl 0 rfl) ?_
          obtain ⟨g_42, ha_43, hi_44⟩ := wf_arr (n := 10) (lo := 0) (hi := 20) hWF t_3 (by omega) (wf_own0 E G _ h)
          have rg_45 : vp_in v_1 10 := ti_in (by omega) (by omega)
          refine py_iald G0 hw ha_43 rg_45 dX2_headsAt_31 ?_
          refine lv_topi (fun x_46 ex_46 => ?_)
          have bx_46 := ti_at hi_44 rg_45 ex_46
          refine lv_goto (tgt := 36) G0.1 G0.2.1 dX2_headsAt_32 (by decide) ?_
          exact jn_36 x_46 _ _ ls hw (lv_sub hl [0, 1, 2, 3] rfl)
  exact lo_4 _ 0 0 _ _ ls rfl ⟨by omega, by omega⟩ hw (lv_sub hl [0, 1, 2, 3] rfl)

def w_X2_familiesAt : List Cond := .code yX2_familiesAt cX2_familiesAt 4 (some .int) :: ([Cond.fieldLink RX2 43 "HeadYear$Folk" "valley" "LHeadYear$Valley;", Cond.fieldLink RX2 55 "HeadYear$Valley" "families" "I", Cond.fieldLink RX2 17 "HeadYear$Folk" "level" "[I"] ++ (u_ws RX2 TX2 12 ++ (u_ws RX9 TX9 10 ++ ([]))))
theorem in_X2_familiesAt_X2 : ∀ w ∈ u_ws RX2 TX2 12, w ∈ w_X2_familiesAt := fun _ h => List.mem_cons_of_mem _ (List.mem_append_right _ (List.mem_append_left _ h))
theorem in_X2_familiesAt_X9 : ∀ w ∈ u_ws RX9 TX9 10, w ∈ w_X2_familiesAt := fun _ h => List.mem_cons_of_mem _ (List.mem_append_right _ (List.mem_append_right _ (List.mem_append_left _ h)))
set_option maxHeartbeats 4000000 in
set_option maxRecDepth 100000 in
theorem c_X2_familiesAt (l : Launch) (E : py_E) (G : wf_G) (L : List Nat) (f : py_F) (sz : Nat) (h : Nat) (a : Int32) (hG : GT G) (hWF : WF E G L f) (Th : G.1 h = 3) : Met l yX2_familiesAt w_X2_familiesAt ({ frames := 0, cells := 0, slots := 0, locals := 0 }) (py_Pc E [.ref h, .int a] L f sz) (py_Qi E L f sz (fun _ L1 f1 => L = L1 ∧ f = f1)) 0 0 (va_A (va_pl L f) sz) := by
  refine Met.ofW (cc := cX2_familiesAt) (maxL := 4) (ret := (some .int)) (by decide) rfl ?_
  intro p e s m args below meth c s₁ B hml hv
  obtain ⟨rfl, rfl, hw⟩ := py_start hv
  have G0 : CallFix p m c cX2_familiesAt 4 s _ w_X2_familiesAt RX2 := ⟨B.exec, B.bytes, hml, findClass_of_methodNamed B.named, atoms_spec (ws := w_X2_familiesAt) B.pre⟩
  have hr := B.returns
  have hlk := B.notSynchronized
  have kcm1 : (-1 : Int32).toInt = -1 := rfl
  have kc0 : (0 : Int32).toInt = 0 := rfl
  have kc1 : (1 : Int32).toInt = 1 := rfl
  have hl := lv_entry ([.ref h, .int a]) (n := 4) (Nat.le_of_ble_eq_true rfl)
  rw [lg_entry_eq]
  generalize (lg_sl ([.ref h, .int a]) ++ List.replicate (4 - (lg_sl ([.ref h, .int a])).length) Slot.unset).toArray = ls at hl ⊢
  have hl : lv_has ls 4 [(0, .ref h), (1, .int a)] := hl
  have hRP : RP E G f f := RP.refl
  refine lv_iconst (v := 0) G0.1 G0.2.1 dX2_familiesAt_0 (by decide) ?_
  refine lv_istore_n (lv' := [(2, .int 0), (0, .ref h), (1, .int a)]) G0.1 G0.2.1 dX2_familiesAt_1 rfl hl (by decide) rfl (fun ls hl => ?_)
  refine lv_iconst (v := 0) G0.1 G0.2.1 dX2_familiesAt_2 (by decide) ?_
  refine lv_istore_n (lv' := [(3, .int 0), (2, .int 0), (0, .ref h), (1, .int a)]) G0.1 G0.2.1 dX2_familiesAt_3 rfl hl (by decide) rfl (fun ls hl => ?_)
  have lo_4 : ∀ n_4 : Nat, ∀ (v_1 : Int32) (v_2 : Int32) (H_j4 : Heap) (locs : List Loc) (ls : Array Slot), (2147483647 - v_1.toInt).toNat = n_4 → (0 ≤ v_1.toInt ∧ v_1.toInt ≤ 2147483647) → py_W E (va_A (va_pl L f) s.heap.size) s L f H_j4 locs → lv_has ls 4 [(3, .int v_1), (2, .int v_2), (0, .ref h), (1, .int a)] → W p l e (headSpec w_X2_familiesAt ({ frames := 0, cells := 0, slots := 0, locals := 0 })).room s m ([.ref h, .int a] : List Value).toArray below meth c H_j4 locs 0 0 (MQ below (py_Qi E L f s.heap.size (fun _ L1 f1 => L = L1 ∧ f = f1)) ([.ref h, .int a] : List Value).toArray s 0 0 (va_A (va_pl L f) s.heap.size)) (F0 m 4 ls []) := by
    intro n_4
    induction n_4 using Nat.strongRecOn with
    | _ n_4 ih_4 =>
      intro v_1 v_2 H_j4 locs ls hn_4 bv_1 hw hl
      refine lv_iload_n G0.1 G0.2.1 dX2_familiesAt_4 rfl (lv_at hl 0 rfl) ?_
      refine lv_aload_n G0.1 G0.2.1 dX2_familiesAt_5 rfl (lv_at hl 2 rfl) ?_
      obtain ⟨t_3, t_4, t_5, t_6, t_7, t_8, t_9, t_10, t_11⟩ := wt_2 hG Th
      obtain ⟨r_12, y_13, v_14, hr_17, ty_15, b_16⟩ := wg_2 hWF Th
      refine py_get (C := RX2) (T := TX2) (N := 12) (k := 9) (v := .ref r_12) G0 hw in_X2_familiesAt_X2 rfl hr_17 (by decide) (by decide +kernel) rfl dX2_familiesAt_6 ?_
      obtain ⟨t_18, t_19, t_20, t_21, t_22, t_23, t_24, t_25⟩ := wt_9 hG ty_15
      obtain ⟨v_26, v_27, hr_30, b_28, b_29⟩ := wg_9 hWF ty_15
      have tq_31 := va_eq hr_30
      refine py_get (C := RX9) (T := TX9) (N := 10) (k := 9) (v := .int v_27) G0 hw in_X2_familiesAt_X9 rfl hr_30 (by decide) (by decide +kernel) rfl dX2_familiesAt_9 ?_
      refine lv_icmp_ge (tgt := 39) G0.1 G0.2.1 dX2_familiesAt_12 (by decide) (fun c_32 => ?_) (fun c_32 => ?_)
      · skip
        have tc_32 := ti_le c_32
        refine lv_iload_n G0.1 G0.2.1 dX2_familiesAt_39 rfl (lv_at hl 1 rfl) ?_
        exact py_iret G0 hr rfl hlk hw ⟨rfl, rfl⟩ dX2_familiesAt_40
      · skip
        have tc_32 := ti_nle c_32
        refine lv_iload_n G0.1 G0.2.1 dX2_familiesAt_15 rfl (lv_at hl 1 rfl) ?_
        refine lv_aload_n G0.1 G0.2.1 dX2_familiesAt_16 rfl (lv_at hl 2 rfl) ?_
        refine py_get (C := RX2) (T := TX2) (N := 12) (k := 1) (v := .ref (G.2 h 1)) G0 hw in_X2_familiesAt_X2 rfl hr_17 (by decide) (by decide +kernel) rfl dX2_familiesAt_17 ?_
        refine lv_iload_n G0.1 G0.2.1 dX2_familiesAt_20 rfl (lv_at hl 0 rfl) ?_
        obtain ⟨g_33, ha_34, hi_35⟩ := wf_arr (n := 10) (lo := (-1)) (hi := 7) hWF t_4 (by omega) (wf_own1 E G _ h)
        have rg_36 : vp_in v_1 10 := ti_in (by omega) (by omega)
        refine py_iald G0 hw ha_34 rg_36 dX2_familiesAt_21 ?_
        refine lv_topi (fun x_37 ex_37 => ?_)
        have bx_37 := ti_at hi_35 rg_36 ex_37
        refine lv_iload_n G0.1 G0.2.1 dX2_familiesAt_22 rfl (lv_at hl 3 rfl) ?_
        have jn_31 : ∀ (v_38 : Int32) (H_j31 : Heap) (locs : List Loc) (ls : Array Slot), (0 ≤ v_38.toInt ∧ v_38.toInt ≤ 1) → py_W E (va_A (va_pl L f) s.heap.size) s L f H_j31 locs → lv_has ls 4 [(3, .int v_1), (2, .int v_2), (0, .ref h), (1, .int a)] → W p l e (headSpec w_X2_familiesAt ({ frames := 0, cells := 0, slots := 0, locals := 0 })).room s m ([.ref h, .int a] : List Value).toArray below meth c H_j31 locs 0 0 (MQ below (py_Qi E L f s.heap.size (fun _ L1 f1 => L = L1 ∧ f = f1)) ([.ref h, .int a] : List Value).toArray s 0 0 (va_A (va_pl L f) s.heap.size)) (F0 m 31 ls [.int v_38, .int v_2]) := by
          intro v_38 H_j31 locs ls bv_38 hw hl
          refine lv_iadd G0.1 G0.2.1 dX2_familiesAt_31 ?_
          refine lv_topi (fun x_39 ex_39 => ?_)
          first | have tx_39 := ti_add ex_39 (by omega) (by omega) | skip
          refine lv_istore_n (lv' := [(2, .int x_39), (3, .int v_1), (0, .ref h), (1, .int a)]) G0.1 G0.2.1 dX2_familiesAt_32 rfl hl (by decide) rfl (fun ls hl => ?_)
          obtain ⟨x_40, ex_40⟩ : ∃ y : Int32, y = v_1 + 1 := ⟨_, rfl⟩
          first | have tx_40 := ti_add ex_40 (by omega) (by omega) | skip
          refine lv_iinc (v := x_40) (lv' := [(3, .int x_40), (2, .int x_39), (0, .ref h), (1, .int a)]) G0.1 G0.2.1 dX2_familiesAt_33 hl (k := 1) rfl (show _ + (1 : Int32) = _ from ex_40.symm) (by decide) rfl (fun ls hl => ?_)
          refine lv_goto (tgt := 4) G0.1 G0.2.1 dX2_familiesAt_36 (by decide) ?_
          exact ih_4 ((2147483647 - x_40.toInt).toNat) (by omega) x_40 x_39 _ _ ls rfl ⟨by omega, by omega⟩ hw (lv_sub hl [0, 1, 2, 3] rfl)
        refine lv_icmp_ne (tgt := 30) G0.1 G0.2.1 dX2_familiesAt_23 (by decide) (fun c_41 => ?_) (fun c_41 => ?_)
        · skip
          have tc_41 := ti_ne c_41
          refine lv_iconst (v := 0) G0.1 G0.2.1 dX2_familiesAt_30 (by decide) ?_
          exact jn_31 0 _ _ ls ⟨by omega, by omega⟩ hw (lv_sub hl [0, 1, 2, 3] rfl)
        · skip
          have tc_41 := ti_eq c_41
          refine lv_iconst (v := 1) G0.1 G0.2.1 dX2_familiesAt_26 (by decide) ?_
          refine lv_goto (tgt := 31) G0.1 G0.2.1 dX2_familiesAt_27 (by decide) ?_
          exact jn_31 1 _ _ ls ⟨by omega, by omega⟩ hw (lv_sub hl [0, 1, 2, 3] rfl)
  exact lo_4 _ 0 0 _ _ ls rfl ⟨by omega, by omega⟩ hw (lv_sub hl [0, 1, 2, 3] rfl)

def w_X2_lackAt : List Cond := .code yX2_lackAt cX2_lackAt 2 (some .int) :: ([Cond.methodLink RX2 76 yX2_headsAt, Cond.instanceMethod yX2_headsAt, Cond.selects RX2 yX2_headsAt yX2_headsAt, Cond.initialized RX2, Cond.fieldLink RX2 43 "HeadYear$Folk" "valley" "LHeadYear$Valley;", Cond.fieldLink RX2 80 "HeadYear$Valley" "food" "[I", Cond.methodLink RX2 83 Lib.Math.max.name, Cond.static Lib.Math.max.name, Cond.initialized "java/lang/Math", Cond.code Lib.Math.max.name Lib.Math.max.code 2 (some .int)] ++ (u_ws RX2 TX2 12 ++ (u_ws RX9 TX9 10 ++ (w_X2_headsAt ++ ([])))))
theorem in_X2_lackAt_X2 : ∀ w ∈ u_ws RX2 TX2 12, w ∈ w_X2_lackAt := fun _ h => List.mem_cons_of_mem _ (List.mem_append_right _ (List.mem_append_left _ h))
theorem in_X2_lackAt_X9 : ∀ w ∈ u_ws RX9 TX9 10, w ∈ w_X2_lackAt := fun _ h => List.mem_cons_of_mem _ (List.mem_append_right _ (List.mem_append_right _ (List.mem_append_left _ h)))
theorem gg_X2_lackAt_X2_headsAt : GoodIn w_X2_lackAt w_X2_headsAt := goodIn_sub (fun _ h => List.mem_cons_of_mem _ (List.mem_append_right _ (List.mem_append_right _ (List.mem_append_right _ (List.mem_append_left _ h))))) (by decide +kernel)
theorem g_X2_lackAt_X2_headsAt_76 : GoodIn w_X2_lackAt (wsV RX2 76 RX2 yX2_headsAt w_X2_headsAt) := goodIn_app (goodIn_of _ (by decide +kernel)) gg_X2_lackAt_X2_headsAt
set_option maxHeartbeats 4000000 in
set_option maxRecDepth 100000 in
theorem c_X2_lackAt (l : Launch) (E : py_E) (G : wf_G) (L : List Nat) (f : py_F) (sz : Nat) (h : Nat) (a : Int32) (hG : GT G) (hWF : WF E G L f) (Th : G.1 h = 3) (Ba : (0 ≤ a.toInt ∧ a.toInt ≤ 7)) : Met l yX2_lackAt w_X2_lackAt ({ frames := 1, cells := 0, slots := 0, locals := 24 }) (py_Pc E [.ref h, .int a] L f sz) (py_Qi E L f sz (fun _ L1 f1 => L = L1 ∧ f = f1)) 0 0 (va_A (va_pl L f) sz) := by
  refine Met.ofW (cc := cX2_lackAt) (maxL := 2) (ret := (some .int)) (by decide) rfl ?_
  intro p e s m args below meth c s₁ B hml hv
  obtain ⟨rfl, rfl, hw⟩ := py_start hv
  have G0 : CallFix p m c cX2_lackAt 2 s _ w_X2_lackAt RX2 := ⟨B.exec, B.bytes, hml, findClass_of_methodNamed B.named, atoms_spec (ws := w_X2_lackAt) B.pre⟩
  have hr := B.returns
  have hlk := B.notSynchronized
  have kcm1 : (-1 : Int32).toInt = -1 := rfl
  have kc0 : (0 : Int32).toInt = 0 := rfl
  have kc1 : (1 : Int32).toInt = 1 := rfl
  have hl := lv_entry ([.ref h, .int a]) (n := 2) (Nat.le_of_ble_eq_true rfl)
  rw [lg_entry_eq]
  generalize (lg_sl ([.ref h, .int a]) ++ List.replicate (2 - (lg_sl ([.ref h, .int a])).length) Slot.unset).toArray = ls at hl ⊢
  have hl : lv_has ls 2 [(0, .ref h), (1, .int a)] := hl
  have hRP : RP E G f f := RP.refl
  refine lv_iconst (v := 0) G0.1 G0.2.1 dX2_lackAt_0 (by decide) ?_
  refine lv_aload_n G0.1 G0.2.1 dX2_lackAt_1 rfl (lv_at hl 0 rfl) ?_
  refine lv_iload_n G0.1 G0.2.1 dX2_lackAt_2 rfl (lv_at hl 1 rfl) ?_
  obtain ⟨t_1, t_2, t_3, t_4, t_5, t_6, t_7, t_8, t_9⟩ := wt_2 hG Th
  obtain ⟨r_10, y_11, v_12, hr_15, ty_13, b_14⟩ := wg_2 hWF Th
  refine py_calli hw (va_runV (As := [.int a]) (rest := [.int 0]) G0 (c_X2_headsAt l E G L f s.heap.size h a hG hWF Th) (cwV 1 G0.2.2.2.2 g_X2_lackAt_X2_headsAt_76 rfl rfl rfl (by decide +kernel) ⟨(Nat.le_of_ble_eq_true rfl), (Nat.le_of_ble_eq_true rfl)⟩) (py_preV hw (C := RX2) (T := TX2) (N := 12) rfl hr_15) rfl rfl hl.1 rfl (lv_room (Nat.le_of_ble_eq_true rfl)) dX2_lackAt_3 ⟨(Nat.le_of_ble_eq_true rfl), (Nat.le_of_ble_eq_true rfl)⟩) (fun r_20 L_16 f_17 H_18 locs hp_19 hw => ?_)
  obtain ⟨rfl, rfl⟩ := hp_19
  have br_20 := wf_free r_20
  refine lv_aload_n G0.1 G0.2.1 dX2_lackAt_6 rfl (lv_at hl 0 rfl) ?_
  refine py_get (C := RX2) (T := TX2) (N := 12) (k := 9) (v := .ref r_10) G0 hw in_X2_lackAt_X2 rfl hr_15 (by decide) (by decide +kernel) rfl dX2_lackAt_7 ?_
  obtain ⟨t_21, t_22, t_23, t_24, t_25, t_26, t_27, t_28⟩ := wt_9 hG ty_13
  obtain ⟨v_29, v_30, hr_33, b_31, b_32⟩ := wg_9 hWF ty_13
  have tq_34 := va_eq hr_33
  refine py_get (C := RX9) (T := TX9) (N := 10) (k := 1) (v := .ref (G.2 r_10 1)) G0 hw in_X2_lackAt_X9 rfl hr_33 (by decide) (by decide +kernel) rfl dX2_lackAt_10 ?_
  refine lv_iload_n G0.1 G0.2.1 dX2_lackAt_13 rfl (lv_at hl 1 rfl) ?_
  obtain ⟨g_35, ha_36, hi_37⟩ := wf_arr (n := 8) (lo := (-2147483648)) (hi := 2147483647) hWF t_22 (by decide) (fun _ => rfl)
  have rg_38 : vp_in a 8 := ti_in (by omega) (by omega)
  refine py_iald G0 hw ha_36 rg_38 dX2_lackAt_14 ?_
  refine lv_topi (fun x_39 ex_39 => ?_)
  have bx_39 := wf_free x_39
  refine lv_isub G0.1 G0.2.1 dX2_lackAt_15 ?_
  refine lv_topi (fun x_40 ex_40 => ?_)
  first | have tx_40 := ti_sub ex_40 (by omega) (by omega) | skip
  refine va_mmax G0.1 G0.2.1 (by rw [G0.2.2.1, hl.1]) G0.2.2.2.1 (G0.2.2.2.2 (Cond.methodLink RX2 83 Lib.Math.max.name) (by decide +kernel)) (G0.2.2.2.2 (Cond.static Lib.Math.max.name) (by decide +kernel)) (G0.2.2.2.2 (Cond.initialized "java/lang/Math") (by decide +kernel)) (G0.2.2.2.2 (Cond.code Lib.Math.max.name Lib.Math.max.code 2 (some .int)) (by decide +kernel)) (Nat.le_of_ble_eq_true rfl) (Nat.le_of_ble_eq_true rfl) (Nat.le_of_ble_eq_true rfl) (Nat.le_of_ble_eq_true rfl) dX2_lackAt_16 ?_
  refine lv_topi (fun x_41 ex_41 => ?_)
  have tx_41 := ti_max ex_41
  exact py_iret G0 hr rfl hlk hw ⟨rfl, rfl⟩ dX2_lackAt_19

def w_X2_headsOfAll : List Cond := .code yX2_headsOfAll cX2_headsOfAll 3 (some .int) :: ([Cond.fieldLink RX2 43 "HeadYear$Folk" "valley" "LHeadYear$Valley;", Cond.fieldLink RX2 55 "HeadYear$Valley" "families" "I", Cond.fieldLink RX2 11 "HeadYear$Folk" "heads" "[I"] ++ (u_ws RX2 TX2 12 ++ (u_ws RX9 TX9 10 ++ ([]))))
theorem in_X2_headsOfAll_X2 : ∀ w ∈ u_ws RX2 TX2 12, w ∈ w_X2_headsOfAll := fun _ h => List.mem_cons_of_mem _ (List.mem_append_right _ (List.mem_append_left _ h))
theorem in_X2_headsOfAll_X9 : ∀ w ∈ u_ws RX9 TX9 10, w ∈ w_X2_headsOfAll := fun _ h => List.mem_cons_of_mem _ (List.mem_append_right _ (List.mem_append_right _ (List.mem_append_left _ h)))
set_option maxHeartbeats 4000000 in
set_option maxRecDepth 100000 in
theorem c_X2_headsOfAll (l : Launch) (E : py_E) (G : wf_G) (L : List Nat) (f : py_F) (sz : Nat) (h : Nat) (hG : GT G) (hWF : WF E G L f) (Th : G.1 h = 3) : Met l yX2_headsOfAll w_X2_headsOfAll ({ frames := 0, cells := 0, slots := 0, locals := 0 }) (py_Pc E [.ref h] L f sz) (py_Qi E L f sz (fun _ L1 f1 => L = L1 ∧ f = f1)) 0 0 (va_A (va_pl L f) sz) := by
  refine Met.ofW (cc := cX2_headsOfAll) (maxL := 3) (ret := (some .int)) (by decide) rfl ?_
  intro p e s m args below meth c s₁ B hml hv
  obtain ⟨rfl, rfl, hw⟩ := py_start hv
  have G0 : CallFix p m c cX2_headsOfAll 3 s _ w_X2_headsOfAll RX2 := ⟨B.exec, B.bytes, hml, findClass_of_methodNamed B.named, atoms_spec (ws := w_X2_headsOfAll) B.pre⟩
  have hr := B.returns
  have hlk := B.notSynchronized
  have kcm1 : (-1 : Int32).toInt = -1 := rfl
  have kc0 : (0 : Int32).toInt = 0 := rfl
  have kc1 : (1 : Int32).toInt = 1 := rfl
  have hl := lv_entry ([.ref h]) (n := 3) (Nat.le_of_ble_eq_true rfl)
  rw [lg_entry_eq]
  generalize (lg_sl ([.ref h]) ++ List.replicate (3 - (lg_sl ([.ref h])).length) Slot.unset).toArray = ls at hl ⊢
  have hl : lv_has ls 3 [(0, .ref h)] := hl
  have hRP : RP E G f f := RP.refl
  refine lv_iconst (v := 0) G0.1 G0.2.1 dX2_headsOfAll_0 (by decide) ?_
  refine lv_istore_n (lv' := [(1, .int 0), (0, .ref h)]) G0.1 G0.2.1 dX2_headsOfAll_1 rfl hl (by decide) rfl (fun ls hl => ?_)
  refine lv_iconst (v := 0) G0.1 G0.2.1 dX2_headsOfAll_2 (by decide) ?_
  refine lv_istore_n (lv' := [(2, .int 0), (1, .int 0), (0, .ref h)]) G0.1 G0.2.1 dX2_headsOfAll_3 rfl hl (by decide) rfl (fun ls hl => ?_)
  have lo_4 : ∀ n_4 : Nat, ∀ (v_1 : Int32) (v_2 : Int32) (H_j4 : Heap) (locs : List Loc) (ls : Array Slot), (2147483647 - v_1.toInt).toNat = n_4 → (0 ≤ v_1.toInt ∧ v_1.toInt ≤ 2147483647) → py_W E (va_A (va_pl L f) s.heap.size) s L f H_j4 locs → lv_has ls 3 [(2, .int v_1), (1, .int v_2), (0, .ref h)] → W p l e (headSpec w_X2_headsOfAll ({ frames := 0, cells := 0, slots := 0, locals := 0 })).room s m ([.ref h] : List Value).toArray below meth c H_j4 locs 0 0 (MQ below (py_Qi E L f s.heap.size (fun _ L1 f1 => L = L1 ∧ f = f1)) ([.ref h] : List Value).toArray s 0 0 (va_A (va_pl L f) s.heap.size)) (F0 m 4 ls []) := by
    intro n_4
    induction n_4 using Nat.strongRecOn with
    | _ n_4 ih_4 =>
      intro v_1 v_2 H_j4 locs ls hn_4 bv_1 hw hl
      refine lv_iload_n G0.1 G0.2.1 dX2_headsOfAll_4 rfl (lv_at hl 0 rfl) ?_
      refine lv_aload_n G0.1 G0.2.1 dX2_headsOfAll_5 rfl (lv_at hl 2 rfl) ?_
      obtain ⟨t_3, t_4, t_5, t_6, t_7, t_8, t_9, t_10, t_11⟩ := wt_2 hG Th
      obtain ⟨r_12, y_13, v_14, hr_17, ty_15, b_16⟩ := wg_2 hWF Th
      refine py_get (C := RX2) (T := TX2) (N := 12) (k := 9) (v := .ref r_12) G0 hw in_X2_headsOfAll_X2 rfl hr_17 (by decide) (by decide +kernel) rfl dX2_headsOfAll_6 ?_
      obtain ⟨t_18, t_19, t_20, t_21, t_22, t_23, t_24, t_25⟩ := wt_9 hG ty_15
      obtain ⟨v_26, v_27, hr_30, b_28, b_29⟩ := wg_9 hWF ty_15
      have tq_31 := va_eq hr_30
      refine py_get (C := RX9) (T := TX9) (N := 10) (k := 9) (v := .int v_27) G0 hw in_X2_headsOfAll_X9 rfl hr_30 (by decide) (by decide +kernel) rfl dX2_headsOfAll_9 ?_
      refine lv_icmp_ge (tgt := 30) G0.1 G0.2.1 dX2_headsOfAll_12 (by decide) (fun c_32 => ?_) (fun c_32 => ?_)
      · skip
        have tc_32 := ti_le c_32
        refine lv_iload_n G0.1 G0.2.1 dX2_headsOfAll_30 rfl (lv_at hl 1 rfl) ?_
        exact py_iret G0 hr rfl hlk hw ⟨rfl, rfl⟩ dX2_headsOfAll_31
      · skip
        have tc_32 := ti_nle c_32
        refine lv_iload_n G0.1 G0.2.1 dX2_headsOfAll_15 rfl (lv_at hl 1 rfl) ?_
        refine lv_aload_n G0.1 G0.2.1 dX2_headsOfAll_16 rfl (lv_at hl 2 rfl) ?_
        refine py_get (C := RX2) (T := TX2) (N := 12) (k := 0) (v := .ref (G.2 h 0)) G0 hw in_X2_headsOfAll_X2 rfl hr_17 (by decide) (by decide +kernel) rfl dX2_headsOfAll_17 ?_
        refine lv_iload_n G0.1 G0.2.1 dX2_headsOfAll_20 rfl (lv_at hl 0 rfl) ?_
        obtain ⟨g_33, ha_34, hi_35⟩ := wf_arr (n := 10) (lo := 0) (hi := 20) hWF t_3 (by omega) (wf_own0 E G _ h)
        have rg_36 : vp_in v_1 10 := ti_in (by omega) (by omega)
        refine py_iald G0 hw ha_34 rg_36 dX2_headsOfAll_21 ?_
        refine lv_topi (fun x_37 ex_37 => ?_)
        have bx_37 := ti_at hi_35 rg_36 ex_37
        refine lv_iadd G0.1 G0.2.1 dX2_headsOfAll_22 ?_
        refine lv_topi (fun x_38 ex_38 => ?_)
        first | have tx_38 := ti_add ex_38 (by omega) (by omega) | skip
        refine lv_istore_n (lv' := [(1, .int x_38), (2, .int v_1), (0, .ref h)]) G0.1 G0.2.1 dX2_headsOfAll_23 rfl hl (by decide) rfl (fun ls hl => ?_)
        obtain ⟨x_39, ex_39⟩ : ∃ y : Int32, y = v_1 + 1 := ⟨_, rfl⟩
        first | have tx_39 := ti_add ex_39 (by omega) (by omega) | skip
        refine lv_iinc (v := x_39) (lv' := [(2, .int x_39), (1, .int x_38), (0, .ref h)]) G0.1 G0.2.1 dX2_headsOfAll_24 hl (k := 1) rfl (show _ + (1 : Int32) = _ from ex_39.symm) (by decide) rfl (fun ls hl => ?_)
        refine lv_goto (tgt := 4) G0.1 G0.2.1 dX2_headsOfAll_27 (by decide) ?_
        exact ih_4 ((2147483647 - x_39.toInt).toNat) (by omega) x_39 x_38 _ _ ls rfl ⟨by omega, by omega⟩ hw (lv_sub hl [0, 1, 2] rfl)
  exact lo_4 _ 0 0 _ _ ls rfl ⟨by omega, by omega⟩ hw (lv_sub hl [0, 1, 2] rfl)

def w_X2_goneFamilies : List Cond := .code yX2_goneFamilies cX2_goneFamilies 1 (some .int) :: ([Cond.methodLink RX2 88 yX2_familiesAt, Cond.instanceMethod yX2_familiesAt, Cond.selects RX2 yX2_familiesAt yX2_familiesAt, Cond.initialized RX2] ++ (w_X2_familiesAt ++ ([])))
theorem gg_X2_goneFamilies_X2_familiesAt : GoodIn w_X2_goneFamilies w_X2_familiesAt := goodIn_sub (fun _ h => List.mem_cons_of_mem _ (List.mem_append_right _ (List.mem_append_left _ h))) (by decide +kernel)
theorem g_X2_goneFamilies_X2_familiesAt_88 : GoodIn w_X2_goneFamilies (wsV RX2 88 RX2 yX2_familiesAt w_X2_familiesAt) := goodIn_app (goodIn_of _ (by decide +kernel)) gg_X2_goneFamilies_X2_familiesAt
set_option maxHeartbeats 4000000 in
set_option maxRecDepth 100000 in
theorem c_X2_goneFamilies (l : Launch) (E : py_E) (G : wf_G) (L : List Nat) (f : py_F) (sz : Nat) (h : Nat) (hG : GT G) (hWF : WF E G L f) (Th : G.1 h = 3) : Met l yX2_goneFamilies w_X2_goneFamilies ({ frames := 1, cells := 0, slots := 0, locals := 23 }) (py_Pc E [.ref h] L f sz) (py_Qi E L f sz (fun _ L1 f1 => L = L1 ∧ f = f1)) 0 0 (va_A (va_pl L f) sz) := by
  refine Met.ofW (cc := cX2_goneFamilies) (maxL := 1) (ret := (some .int)) (by decide) rfl ?_
  intro p e s m args below meth c s₁ B hml hv
  obtain ⟨rfl, rfl, hw⟩ := py_start hv
  have G0 : CallFix p m c cX2_goneFamilies 1 s _ w_X2_goneFamilies RX2 := ⟨B.exec, B.bytes, hml, findClass_of_methodNamed B.named, atoms_spec (ws := w_X2_goneFamilies) B.pre⟩
  have hr := B.returns
  have hlk := B.notSynchronized
  have kcm1 : (-1 : Int32).toInt = -1 := rfl
  have kc0 : (0 : Int32).toInt = 0 := rfl
  have kc1 : (1 : Int32).toInt = 1 := rfl
  have hl := lv_entry ([.ref h]) (n := 1) (Nat.le_of_ble_eq_true rfl)
  rw [lg_entry_eq]
  generalize (lg_sl ([.ref h]) ++ List.replicate (1 - (lg_sl ([.ref h])).length) Slot.unset).toArray = ls at hl ⊢
  have hl : lv_has ls 1 [(0, .ref h)] := hl
  have hRP : RP E G f f := RP.refl
  refine lv_aload_n G0.1 G0.2.1 dX2_goneFamilies_0 rfl (lv_at hl 0 rfl) ?_
  refine lv_iconst (v := (-1)) G0.1 G0.2.1 dX2_goneFamilies_1 (by decide) ?_
  obtain ⟨t_1, t_2, t_3, t_4, t_5, t_6, t_7, t_8, t_9⟩ := wt_2 hG Th
  obtain ⟨r_10, y_11, v_12, hr_15, ty_13, b_14⟩ := wg_2 hWF Th
  refine py_calli hw (va_runV (As := [.int (-1)]) (rest := []) G0 (c_X2_familiesAt l E G L f s.heap.size h (-1) hG hWF Th) (cwV 1 G0.2.2.2.2 g_X2_goneFamilies_X2_familiesAt_88 rfl rfl rfl (by decide +kernel) ⟨(Nat.le_of_ble_eq_true rfl), (Nat.le_of_ble_eq_true rfl)⟩) (py_preV hw (C := RX2) (T := TX2) (N := 12) rfl hr_15) rfl rfl hl.1 rfl (lv_room (Nat.le_of_ble_eq_true rfl)) dX2_goneFamilies_2 ⟨(Nat.le_of_ble_eq_true rfl), (Nat.le_of_ble_eq_true rfl)⟩) (fun r_20 L_16 f_17 H_18 locs hp_19 hw => ?_)
  obtain ⟨rfl, rfl⟩ := hp_19
  have br_20 := wf_free r_20
  exact py_iret G0 hr rfl hlk hw ⟨rfl, rfl⟩ dX2_goneFamilies_5

def w_X2_familiesAhead : List Cond := .code yX2_familiesAhead cX2_familiesAhead 5 (some .int) :: ([Cond.fieldLink RX2 43 "HeadYear$Folk" "valley" "LHeadYear$Valley;", Cond.fieldLink RX2 55 "HeadYear$Valley" "families" "I", Cond.fieldLink RX2 11 "HeadYear$Folk" "heads" "[I"] ++ (u_ws RX2 TX2 12 ++ (u_ws RX9 TX9 10 ++ ([]))))
theorem in_X2_familiesAhead_X2 : ∀ w ∈ u_ws RX2 TX2 12, w ∈ w_X2_familiesAhead := fun _ h => List.mem_cons_of_mem _ (List.mem_append_right _ (List.mem_append_left _ h))
theorem in_X2_familiesAhead_X9 : ∀ w ∈ u_ws RX9 TX9 10, w ∈ w_X2_familiesAhead := fun _ h => List.mem_cons_of_mem _ (List.mem_append_right _ (List.mem_append_right _ (List.mem_append_left _ h)))
set_option maxHeartbeats 4000000 in
set_option maxRecDepth 100000 in
theorem c_X2_familiesAhead (l : Launch) (E : py_E) (G : wf_G) (L : List Nat) (f : py_F) (sz : Nat) (h : Nat) (a : Int32) (hG : GT G) (hWF : WF E G L f) (Th : G.1 h = 3) (Ba : (0 ≤ a.toInt ∧ a.toInt ≤ 9)) : Met l yX2_familiesAhead w_X2_familiesAhead ({ frames := 0, cells := 0, slots := 0, locals := 0 }) (py_Pc E [.ref h, .int a] L f sz) (py_Qi E L f sz (fun _ L1 f1 => L = L1 ∧ f = f1)) 0 0 (va_A (va_pl L f) sz) := by
  refine Met.ofW (cc := cX2_familiesAhead) (maxL := 5) (ret := (some .int)) (by decide) rfl ?_
  intro p e s m args below meth c s₁ B hml hv
  obtain ⟨rfl, rfl, hw⟩ := py_start hv
  have G0 : CallFix p m c cX2_familiesAhead 5 s _ w_X2_familiesAhead RX2 := ⟨B.exec, B.bytes, hml, findClass_of_methodNamed B.named, atoms_spec (ws := w_X2_familiesAhead) B.pre⟩
  have hr := B.returns
  have hlk := B.notSynchronized
  have kcm1 : (-1 : Int32).toInt = -1 := rfl
  have kc0 : (0 : Int32).toInt = 0 := rfl
  have kc1 : (1 : Int32).toInt = 1 := rfl
  have hl := lv_entry ([.ref h, .int a]) (n := 5) (Nat.le_of_ble_eq_true rfl)
  rw [lg_entry_eq]
  generalize (lg_sl ([.ref h, .int a]) ++ List.replicate (5 - (lg_sl ([.ref h, .int a])).length) Slot.unset).toArray = ls at hl ⊢
  have hl : lv_has ls 5 [(0, .ref h), (1, .int a)] := hl
  have hRP : RP E G f f := RP.refl
  refine lv_iconst (v := 0) G0.1 G0.2.1 dX2_familiesAhead_0 (by decide) ?_
  refine lv_istore_n (lv' := [(2, .int 0), (0, .ref h), (1, .int a)]) G0.1 G0.2.1 dX2_familiesAhead_1 rfl hl (by decide) rfl (fun ls hl => ?_)
  refine lv_iconst (v := 0) G0.1 G0.2.1 dX2_familiesAhead_2 (by decide) ?_
  refine lv_istore_n (lv' := [(3, .int 0), (2, .int 0), (0, .ref h), (1, .int a)]) G0.1 G0.2.1 dX2_familiesAhead_3 rfl hl (by decide) rfl (fun ls hl => ?_)
  have lo_4 : ∀ n_4 : Nat, ∀ (v_1 : Int32) (v_2 : Int32) (H_j4 : Heap) (locs : List Loc) (ls : Array Slot), (2147483647 - v_1.toInt).toNat = n_4 → (0 ≤ v_1.toInt ∧ v_1.toInt ≤ 2147483647) → py_W E (va_A (va_pl L f) s.heap.size) s L f H_j4 locs → lv_has ls 5 [(3, .int v_1), (2, .int v_2), (0, .ref h), (1, .int a)] → W p l e (headSpec w_X2_familiesAhead ({ frames := 0, cells := 0, slots := 0, locals := 0 })).room s m ([.ref h, .int a] : List Value).toArray below meth c H_j4 locs 0 0 (MQ below (py_Qi E L f s.heap.size (fun _ L1 f1 => L = L1 ∧ f = f1)) ([.ref h, .int a] : List Value).toArray s 0 0 (va_A (va_pl L f) s.heap.size)) (F0 m 4 ls []) := by
    intro n_4
    induction n_4 using Nat.strongRecOn with
    | _ n_4 ih_4 =>
      intro v_1 v_2 H_j4 locs ls hn_4 bv_1 hw hl
      refine lv_iload_n G0.1 G0.2.1 dX2_familiesAhead_4 rfl (lv_at hl 0 rfl) ?_
      refine lv_aload_n G0.1 G0.2.1 dX2_familiesAhead_5 rfl (lv_at hl 2 rfl) ?_
      obtain ⟨t_3, t_4, t_5, t_6, t_7, t_8, t_9, t_10, t_11⟩ := wt_2 hG Th
      obtain ⟨r_12, y_13, v_14, hr_17, ty_15, b_16⟩ := wg_2 hWF Th
      refine py_get (C := RX2) (T := TX2) (N := 12) (k := 9) (v := .ref r_12) G0 hw in_X2_familiesAhead_X2 rfl hr_17 (by decide) (by decide +kernel) rfl dX2_familiesAhead_6 ?_
      obtain ⟨t_18, t_19, t_20, t_21, t_22, t_23, t_24, t_25⟩ := wt_9 hG ty_15
      obtain ⟨v_26, v_27, hr_30, b_28, b_29⟩ := wg_9 hWF ty_15
      have tq_31 := va_eq hr_30
      refine py_get (C := RX9) (T := TX9) (N := 10) (k := 9) (v := .int v_27) G0 hw in_X2_familiesAhead_X9 rfl hr_30 (by decide) (by decide +kernel) rfl dX2_familiesAhead_9 ?_
      refine lv_icmp_ge (tgt := 76) G0.1 G0.2.1 dX2_familiesAhead_12 (by decide) (fun c_32 => ?_) (fun c_32 => ?_)
      · skip
        have tc_32 := ti_le c_32
        refine lv_iload_n G0.1 G0.2.1 dX2_familiesAhead_76 rfl (lv_at hl 1 rfl) ?_
        exact py_iret G0 hr rfl hlk hw ⟨rfl, rfl⟩ dX2_familiesAhead_77
      · skip
        have tc_32 := ti_nle c_32
        refine lv_aload_n G0.1 G0.2.1 dX2_familiesAhead_15 rfl (lv_at hl 2 rfl) ?_
        refine py_get (C := RX2) (T := TX2) (N := 12) (k := 0) (v := .ref (G.2 h 0)) G0 hw in_X2_familiesAhead_X2 rfl hr_17 (by decide) (by decide +kernel) rfl dX2_familiesAhead_16 ?_
        refine lv_iload_n G0.1 G0.2.1 dX2_familiesAhead_19 rfl (lv_at hl 0 rfl) ?_
        obtain ⟨g_33, ha_34, hi_35⟩ := wf_arr (n := 10) (lo := 0) (hi := 20) hWF t_3 (by omega) (wf_own0 E G _ h)
        have rg_36 : vp_in v_1 10 := ti_in (by omega) (by omega)
        refine py_iald G0 hw ha_34 rg_36 dX2_familiesAhead_20 ?_
        refine lv_topi (fun x_37 ex_37 => ?_)
        have bx_37 := ti_at hi_35 rg_36 ex_37
        refine lv_aload_n G0.1 G0.2.1 dX2_familiesAhead_21 rfl (lv_at hl 2 rfl) ?_
        refine py_get (C := RX2) (T := TX2) (N := 12) (k := 0) (v := .ref (G.2 h 0)) G0 hw in_X2_familiesAhead_X2 rfl hr_17 (by decide) (by decide +kernel) rfl dX2_familiesAhead_22 ?_
        refine lv_iload_n G0.1 G0.2.1 dX2_familiesAhead_25 rfl (lv_at hl 3 rfl) ?_
        have rg_38 : vp_in a 10 := ti_in (by omega) (by omega)
        refine py_iald G0 hw ha_34 rg_38 dX2_familiesAhead_26 ?_
        refine lv_topi (fun x_39 ex_39 => ?_)
        have bx_39 := ti_at hi_35 rg_38 ex_39
        have jn_40 : ∀ (v_40 : Int32) (H_j40 : Heap) (locs : List Loc) (ls : Array Slot), (0 ≤ v_40.toInt ∧ v_40.toInt ≤ 1) → py_W E (va_A (va_pl L f) s.heap.size) s L f H_j40 locs → lv_has ls 5 [(3, .int v_1), (2, .int v_2), (0, .ref h), (1, .int a)] → W p l e (headSpec w_X2_familiesAhead ({ frames := 0, cells := 0, slots := 0, locals := 0 })).room s m ([.ref h, .int a] : List Value).toArray below meth c H_j40 locs 0 0 (MQ below (py_Qi E L f s.heap.size (fun _ L1 f1 => L = L1 ∧ f = f1)) ([.ref h, .int a] : List Value).toArray s 0 0 (va_A (va_pl L f) s.heap.size)) (F0 m 40 ls [.int v_40]) := by
          intro v_40 H_j40 locs ls bv_40 hw hl
          refine lv_istore (lv' := [(4, .int v_40), (3, .int v_1), (2, .int v_2), (0, .ref h), (1, .int a)]) G0.1 G0.2.1 dX2_familiesAhead_40 hl (by decide) rfl (fun ls hl => ?_)
          refine lv_iload_n G0.1 G0.2.1 dX2_familiesAhead_42 rfl (lv_at hl 2 rfl) ?_
          refine lv_aload_n G0.1 G0.2.1 dX2_familiesAhead_43 rfl (lv_at hl 3 rfl) ?_
          refine py_get (C := RX2) (T := TX2) (N := 12) (k := 0) (v := .ref (G.2 h 0)) G0 hw in_X2_familiesAhead_X2 rfl hr_17 (by decide) (by decide +kernel) rfl dX2_familiesAhead_44 ?_
          refine lv_iload_n G0.1 G0.2.1 dX2_familiesAhead_47 rfl (lv_at hl 1 rfl) ?_
          have rg_41 : vp_in v_1 10 := ti_in (by omega) (by omega)
          refine py_iald G0 hw ha_34 rg_41 dX2_familiesAhead_48 ?_
          refine lv_topi (fun x_42 ex_42 => ?_)
          have bx_42 := ti_at hi_35 rg_41 ex_42
          refine lv_aload_n G0.1 G0.2.1 dX2_familiesAhead_49 rfl (lv_at hl 3 rfl) ?_
          refine py_get (C := RX2) (T := TX2) (N := 12) (k := 0) (v := .ref (G.2 h 0)) G0 hw in_X2_familiesAhead_X2 rfl hr_17 (by decide) (by decide +kernel) rfl dX2_familiesAhead_50 ?_
          refine lv_iload_n G0.1 G0.2.1 dX2_familiesAhead_53 rfl (lv_at hl 4 rfl) ?_
          have rg_43 : vp_in a 10 := ti_in (by omega) (by omega)
          refine py_iald G0 hw ha_34 rg_43 dX2_familiesAhead_54 ?_
          refine lv_topi (fun x_44 ex_44 => ?_)
          have bx_44 := ti_at hi_35 rg_43 ex_44
          have jn_68 : ∀ (v_45 : Int32) (H_j68 : Heap) (locs : List Loc) (ls : Array Slot), (0 ≤ v_45.toInt ∧ v_45.toInt ≤ 1) → py_W E (va_A (va_pl L f) s.heap.size) s L f H_j68 locs → lv_has ls 5 [(4, .int v_40), (3, .int v_1), (2, .int v_2), (0, .ref h), (1, .int a)] → W p l e (headSpec w_X2_familiesAhead ({ frames := 0, cells := 0, slots := 0, locals := 0 })).room s m ([.ref h, .int a] : List Value).toArray below meth c H_j68 locs 0 0 (MQ below (py_Qi E L f s.heap.size (fun _ L1 f1 => L = L1 ∧ f = f1)) ([.ref h, .int a] : List Value).toArray s 0 0 (va_A (va_pl L f) s.heap.size)) (F0 m 68 ls [.int v_45, .int v_2]) := by
            intro v_45 H_j68 locs ls bv_45 hw hl
            refine lv_iadd G0.1 G0.2.1 dX2_familiesAhead_68 ?_
            refine lv_topi (fun x_46 ex_46 => ?_)
            first | have tx_46 := ti_add ex_46 (by omega) (by omega) | skip
            refine lv_istore_n (lv' := [(2, .int x_46), (4, .int v_40), (3, .int v_1), (0, .ref h), (1, .int a)]) G0.1 G0.2.1 dX2_familiesAhead_69 rfl hl (by decide) rfl (fun ls hl => ?_)
            obtain ⟨x_47, ex_47⟩ : ∃ y : Int32, y = v_1 + 1 := ⟨_, rfl⟩
            first | have tx_47 := ti_add ex_47 (by omega) (by omega) | skip
            refine lv_iinc (v := x_47) (lv' := [(3, .int x_47), (2, .int x_46), (4, .int v_40), (0, .ref h), (1, .int a)]) G0.1 G0.2.1 dX2_familiesAhead_70 hl (k := 2) rfl (show _ + (1 : Int32) = _ from ex_47.symm) (by decide) rfl (fun ls hl => ?_)
            refine lv_goto (tgt := 4) G0.1 G0.2.1 dX2_familiesAhead_73 (by decide) ?_
            exact ih_4 ((2147483647 - x_47.toInt).toNat) (by omega) x_47 x_46 _ _ ls rfl ⟨by omega, by omega⟩ hw (lv_sub hl [0, 1, 3, 4] rfl)
          refine lv_icmp_gt (tgt := 63) G0.1 G0.2.1 dX2_familiesAhead_55 (by decide) (fun c_48 => ?_) (fun c_48 => ?_)
          · skip
            have tc_48 := ti_lt c_48
            refine lv_iconst (v := 1) G0.1 G0.2.1 dX2_familiesAhead_63 (by decide) ?_
            refine lv_goto (tgt := 68) G0.1 G0.2.1 dX2_familiesAhead_64 (by decide) ?_
            exact jn_68 1 _ _ ls ⟨by omega, by omega⟩ hw (lv_sub hl [0, 1, 2, 3, 4] rfl)
          · skip
            have tc_48 := ti_nlt c_48
            refine lv_iload G0.1 G0.2.1 dX2_familiesAhead_58 (lv_at hl 0 rfl) ?_
            refine lv_if_eq (tgt := 67) G0.1 G0.2.1 dX2_familiesAhead_60 (by decide) (fun c_49 => ?_) (fun c_49 => ?_)
            · skip
              have tc_49 := ti_eq c_49
              refine lv_iconst (v := 0) G0.1 G0.2.1 dX2_familiesAhead_67 (by decide) ?_
              exact jn_68 0 _ _ ls ⟨by omega, by omega⟩ hw (lv_sub hl [0, 1, 2, 3, 4] rfl)
            · skip
              have tc_49 := ti_ne c_49
              refine lv_iconst (v := 1) G0.1 G0.2.1 dX2_familiesAhead_63 (by decide) ?_
              refine lv_goto (tgt := 68) G0.1 G0.2.1 dX2_familiesAhead_64 (by decide) ?_
              exact jn_68 1 _ _ ls ⟨by omega, by omega⟩ hw (lv_sub hl [0, 1, 2, 3, 4] rfl)
        refine lv_icmp_ne (tgt := 39) G0.1 G0.2.1 dX2_familiesAhead_27 (by decide) (fun c_50 => ?_) (fun c_50 => ?_)
        · skip
          have tc_50 := ti_ne c_50
          refine lv_iconst (v := 0) G0.1 G0.2.1 dX2_familiesAhead_39 (by decide) ?_
          exact jn_40 0 _ _ ls ⟨by omega, by omega⟩ hw (lv_sub hl [0, 1, 2, 3] rfl)
        · skip
          have tc_50 := ti_eq c_50
          refine lv_iload_n G0.1 G0.2.1 dX2_familiesAhead_30 rfl (lv_at hl 0 rfl) ?_
          refine lv_iload_n G0.1 G0.2.1 dX2_familiesAhead_31 rfl (lv_at hl 3 rfl) ?_
          refine lv_icmp_ge (tgt := 39) G0.1 G0.2.1 dX2_familiesAhead_32 (by decide) (fun c_51 => ?_) (fun c_51 => ?_)
          · skip
            have tc_51 := ti_le c_51
            refine lv_iconst (v := 0) G0.1 G0.2.1 dX2_familiesAhead_39 (by decide) ?_
            exact jn_40 0 _ _ ls ⟨by omega, by omega⟩ hw (lv_sub hl [0, 1, 2, 3] rfl)
          · skip
            have tc_51 := ti_nle c_51
            refine lv_iconst (v := 1) G0.1 G0.2.1 dX2_familiesAhead_35 (by decide) ?_
            refine lv_goto (tgt := 40) G0.1 G0.2.1 dX2_familiesAhead_36 (by decide) ?_
            exact jn_40 1 _ _ ls ⟨by omega, by omega⟩ hw (lv_sub hl [0, 1, 2, 3] rfl)
  exact lo_4 _ 0 0 _ _ ls rfl ⟨by omega, by omega⟩ hw (lv_sub hl [0, 1, 2, 3] rfl)

def w_X2_dweller : List Cond := .code yX2_dweller cX2_dweller 4 (some .int) :: ([Cond.fieldLink RX2 43 "HeadYear$Folk" "valley" "LHeadYear$Valley;", Cond.fieldLink RX2 55 "HeadYear$Valley" "families" "I", Cond.fieldLink RX2 17 "HeadYear$Folk" "level" "[I", Cond.fieldLink RX2 20 "HeadYear$Folk" "hut" "[I"] ++ (u_ws RX2 TX2 12 ++ (u_ws RX9 TX9 10 ++ ([]))))
theorem in_X2_dweller_X2 : ∀ w ∈ u_ws RX2 TX2 12, w ∈ w_X2_dweller := fun _ h => List.mem_cons_of_mem _ (List.mem_append_right _ (List.mem_append_left _ h))
theorem in_X2_dweller_X9 : ∀ w ∈ u_ws RX9 TX9 10, w ∈ w_X2_dweller := fun _ h => List.mem_cons_of_mem _ (List.mem_append_right _ (List.mem_append_right _ (List.mem_append_left _ h)))
set_option maxHeartbeats 4000000 in
set_option maxRecDepth 100000 in
theorem c_X2_dweller (l : Launch) (E : py_E) (G : wf_G) (L : List Nat) (f : py_F) (sz : Nat) (h : Nat) (a : Int32) (b : Int32) (hG : GT G) (hWF : WF E G L f) (Th : G.1 h = 3) : Met l yX2_dweller w_X2_dweller ({ frames := 0, cells := 0, slots := 0, locals := 0 }) (py_Pc E [.ref h, .int a, .int b] L f sz) (py_Qi E L f sz (fun _ L1 f1 => L = L1 ∧ f = f1)) 0 0 (va_A (va_pl L f) sz) := by
  refine Met.ofW (cc := cX2_dweller) (maxL := 4) (ret := (some .int)) (by decide) rfl ?_
  intro p e s m args below meth c s₁ B hml hv
  obtain ⟨rfl, rfl, hw⟩ := py_start hv
  have G0 : CallFix p m c cX2_dweller 4 s _ w_X2_dweller RX2 := ⟨B.exec, B.bytes, hml, findClass_of_methodNamed B.named, atoms_spec (ws := w_X2_dweller) B.pre⟩
  have hr := B.returns
  have hlk := B.notSynchronized
  have kcm1 : (-1 : Int32).toInt = -1 := rfl
  have kc0 : (0 : Int32).toInt = 0 := rfl
  have kc1 : (1 : Int32).toInt = 1 := rfl
  have hl := lv_entry ([.ref h, .int a, .int b]) (n := 4) (Nat.le_of_ble_eq_true rfl)
  rw [lg_entry_eq]
  generalize (lg_sl ([.ref h, .int a, .int b]) ++ List.replicate (4 - (lg_sl ([.ref h, .int a, .int b])).length) Slot.unset).toArray = ls at hl ⊢
  have hl : lv_has ls 4 [(0, .ref h), (1, .int a), (2, .int b)] := hl
  have hRP : RP E G f f := RP.refl
  refine lv_iconst (v := 0) G0.1 G0.2.1 dX2_dweller_0 (by decide) ?_
  refine lv_istore_n (lv' := [(3, .int 0), (0, .ref h), (1, .int a), (2, .int b)]) G0.1 G0.2.1 dX2_dweller_1 rfl hl (by decide) rfl (fun ls hl => ?_)
  have lo_2 : ∀ n_2 : Nat, ∀ (v_1 : Int32) (H_j2 : Heap) (locs : List Loc) (ls : Array Slot), (2147483647 - v_1.toInt).toNat = n_2 → (0 ≤ v_1.toInt ∧ v_1.toInt ≤ 2147483647) → py_W E (va_A (va_pl L f) s.heap.size) s L f H_j2 locs → lv_has ls 4 [(3, .int v_1), (0, .ref h), (1, .int a), (2, .int b)] → W p l e (headSpec w_X2_dweller ({ frames := 0, cells := 0, slots := 0, locals := 0 })).room s m ([.ref h, .int a, .int b] : List Value).toArray below meth c H_j2 locs 0 0 (MQ below (py_Qi E L f s.heap.size (fun _ L1 f1 => L = L1 ∧ f = f1)) ([.ref h, .int a, .int b] : List Value).toArray s 0 0 (va_A (va_pl L f) s.heap.size)) (F0 m 2 ls []) := by
    intro n_2
    induction n_2 using Nat.strongRecOn with
    | _ n_2 ih_2 =>
      intro v_1 H_j2 locs ls hn_2 bv_1 hw hl
      refine lv_iload_n G0.1 G0.2.1 dX2_dweller_2 rfl (lv_at hl 0 rfl) ?_
      refine lv_aload_n G0.1 G0.2.1 dX2_dweller_3 rfl (lv_at hl 1 rfl) ?_
      obtain ⟨t_2, t_3, t_4, t_5, t_6, t_7, t_8, t_9, t_10⟩ := wt_2 hG Th
      obtain ⟨r_11, y_12, v_13, hr_16, ty_14, b_15⟩ := wg_2 hWF Th
      refine py_get (C := RX2) (T := TX2) (N := 12) (k := 9) (v := .ref r_11) G0 hw in_X2_dweller_X2 rfl hr_16 (by decide) (by decide +kernel) rfl dX2_dweller_4 ?_
      obtain ⟨t_17, t_18, t_19, t_20, t_21, t_22, t_23, t_24⟩ := wt_9 hG ty_14
      obtain ⟨v_25, v_26, hr_29, b_27, b_28⟩ := wg_9 hWF ty_14
      have tq_30 := va_eq hr_29
      refine py_get (C := RX9) (T := TX9) (N := 10) (k := 9) (v := .int v_26) G0 hw in_X2_dweller_X9 rfl hr_29 (by decide) (by decide +kernel) rfl dX2_dweller_7 ?_
      refine lv_icmp_ge (tgt := 41) G0.1 G0.2.1 dX2_dweller_10 (by decide) (fun c_31 => ?_) (fun c_31 => ?_)
      · skip
        have tc_31 := ti_le c_31
        refine lv_iconst (v := (-1)) G0.1 G0.2.1 dX2_dweller_41 (by decide) ?_
        exact py_iret G0 hr rfl hlk hw ⟨rfl, rfl⟩ dX2_dweller_42
      · skip
        have tc_31 := ti_nle c_31
        refine lv_aload_n G0.1 G0.2.1 dX2_dweller_13 rfl (lv_at hl 1 rfl) ?_
        refine py_get (C := RX2) (T := TX2) (N := 12) (k := 1) (v := .ref (G.2 h 1)) G0 hw in_X2_dweller_X2 rfl hr_16 (by decide) (by decide +kernel) rfl dX2_dweller_14 ?_
        refine lv_iload_n G0.1 G0.2.1 dX2_dweller_17 rfl (lv_at hl 0 rfl) ?_
        obtain ⟨g_32, ha_33, hi_34⟩ := wf_arr (n := 10) (lo := (-1)) (hi := 7) hWF t_3 (by omega) (wf_own1 E G _ h)
        have rg_35 : vp_in v_1 10 := ti_in (by omega) (by omega)
        refine py_iald G0 hw ha_33 rg_35 dX2_dweller_18 ?_
        refine lv_topi (fun x_36 ex_36 => ?_)
        have bx_36 := ti_at hi_34 rg_35 ex_36
        refine lv_iload_n G0.1 G0.2.1 dX2_dweller_19 rfl (lv_at hl 2 rfl) ?_
        refine lv_icmp_ne (tgt := 35) G0.1 G0.2.1 dX2_dweller_20 (by decide) (fun c_37 => ?_) (fun c_37 => ?_)
        · skip
          have tc_37 := ti_ne c_37
          obtain ⟨x_38, ex_38⟩ : ∃ y : Int32, y = v_1 + 1 := ⟨_, rfl⟩
          first | have tx_38 := ti_add ex_38 (by omega) (by omega) | skip
          refine lv_iinc (v := x_38) (lv' := [(3, .int x_38), (0, .ref h), (1, .int a), (2, .int b)]) G0.1 G0.2.1 dX2_dweller_35 hl (k := 0) rfl (show _ + (1 : Int32) = _ from ex_38.symm) (by decide) rfl (fun ls hl => ?_)
          refine lv_goto (tgt := 2) G0.1 G0.2.1 dX2_dweller_38 (by decide) ?_
          exact ih_2 ((2147483647 - x_38.toInt).toNat) (by omega) x_38 _ _ ls rfl ⟨by omega, by omega⟩ hw (lv_sub hl [0, 1, 2, 3] rfl)
        · skip
          have tc_37 := ti_eq c_37
          refine lv_aload_n G0.1 G0.2.1 dX2_dweller_23 rfl (lv_at hl 1 rfl) ?_
          refine py_get (C := RX2) (T := TX2) (N := 12) (k := 2) (v := .ref (G.2 h 2)) G0 hw in_X2_dweller_X2 rfl hr_16 (by decide) (by decide +kernel) rfl dX2_dweller_24 ?_
          refine lv_iload_n G0.1 G0.2.1 dX2_dweller_27 rfl (lv_at hl 0 rfl) ?_
          obtain ⟨g_39, ha_40, hi_41⟩ := wf_arr (n := 10) (lo := (-2147483648)) (hi := 2147483647) hWF t_4 (by decide) (fun _ => rfl)
          have rg_42 : vp_in v_1 10 := ti_in (by omega) (by omega)
          refine py_iald G0 hw ha_40 rg_42 dX2_dweller_28 ?_
          refine lv_topi (fun x_43 ex_43 => ?_)
          have bx_43 := wf_free x_43
          refine lv_iload_n G0.1 G0.2.1 dX2_dweller_29 rfl (lv_at hl 3 rfl) ?_
          refine lv_icmp_ne (tgt := 35) G0.1 G0.2.1 dX2_dweller_30 (by decide) (fun c_44 => ?_) (fun c_44 => ?_)
          · skip
            have tc_44 := ti_ne c_44
            obtain ⟨x_45, ex_45⟩ : ∃ y : Int32, y = v_1 + 1 := ⟨_, rfl⟩
            first | have tx_45 := ti_add ex_45 (by omega) (by omega) | skip
            refine lv_iinc (v := x_45) (lv' := [(3, .int x_45), (0, .ref h), (1, .int a), (2, .int b)]) G0.1 G0.2.1 dX2_dweller_35 hl (k := 0) rfl (show _ + (1 : Int32) = _ from ex_45.symm) (by decide) rfl (fun ls hl => ?_)
            refine lv_goto (tgt := 2) G0.1 G0.2.1 dX2_dweller_38 (by decide) ?_
            exact ih_2 ((2147483647 - x_45.toInt).toNat) (by omega) x_45 _ _ ls rfl ⟨by omega, by omega⟩ hw (lv_sub hl [0, 1, 2, 3] rfl)
          · skip
            have tc_44 := ti_eq c_44
            refine lv_iload_n G0.1 G0.2.1 dX2_dweller_33 rfl (lv_at hl 0 rfl) ?_
            exact py_iret G0 hr rfl hlk hw ⟨rfl, rfl⟩ dX2_dweller_34
  exact lo_2 _ 0 _ _ ls rfl ⟨by omega, by omega⟩ hw (lv_sub hl [0, 1, 2, 3] rfl)

def w_X2_emptyHuts : List Cond := .code yX2_emptyHuts cX2_emptyHuts 2 (some .int) :: ([Cond.fieldLink RX2 43 "HeadYear$Folk" "valley" "LHeadYear$Valley;", Cond.fieldLink RX2 91 "HeadYear$Valley" "huts" "[I", Cond.methodLink RX2 88 yX2_familiesAt, Cond.instanceMethod yX2_familiesAt, Cond.selects RX2 yX2_familiesAt yX2_familiesAt, Cond.initialized RX2] ++ (u_ws RX2 TX2 12 ++ (u_ws RX9 TX9 10 ++ (w_X2_familiesAt ++ ([])))))
theorem in_X2_emptyHuts_X2 : ∀ w ∈ u_ws RX2 TX2 12, w ∈ w_X2_emptyHuts := fun _ h => List.mem_cons_of_mem _ (List.mem_append_right _ (List.mem_append_left _ h))
theorem in_X2_emptyHuts_X9 : ∀ w ∈ u_ws RX9 TX9 10, w ∈ w_X2_emptyHuts := fun _ h => List.mem_cons_of_mem _ (List.mem_append_right _ (List.mem_append_right _ (List.mem_append_left _ h)))
theorem gg_X2_emptyHuts_X2_familiesAt : GoodIn w_X2_emptyHuts w_X2_familiesAt := goodIn_sub (fun _ h => List.mem_cons_of_mem _ (List.mem_append_right _ (List.mem_append_right _ (List.mem_append_right _ (List.mem_append_left _ h))))) (by decide +kernel)
theorem g_X2_emptyHuts_X2_familiesAt_88 : GoodIn w_X2_emptyHuts (wsV RX2 88 RX2 yX2_familiesAt w_X2_familiesAt) := goodIn_app (goodIn_of _ (by decide +kernel)) gg_X2_emptyHuts_X2_familiesAt
set_option maxHeartbeats 4000000 in
set_option maxRecDepth 100000 in
theorem c_X2_emptyHuts (l : Launch) (E : py_E) (G : wf_G) (L : List Nat) (f : py_F) (sz : Nat) (h : Nat) (a : Int32) (hG : GT G) (hWF : WF E G L f) (Th : G.1 h = 3) (Ba : (0 ≤ a.toInt ∧ a.toInt ≤ 7)) : Met l yX2_emptyHuts w_X2_emptyHuts ({ frames := 1, cells := 0, slots := 0, locals := 23 }) (py_Pc E [.ref h, .int a] L f sz) (py_Qi E L f sz (fun _ L1 f1 => L = L1 ∧ f = f1)) 0 0 (va_A (va_pl L f) sz) := by
  refine Met.ofW (cc := cX2_emptyHuts) (maxL := 2) (ret := (some .int)) (by decide) rfl ?_
  intro p e s m args below meth c s₁ B hml hv
  obtain ⟨rfl, rfl, hw⟩ := py_start hv
  have G0 : CallFix p m c cX2_emptyHuts 2 s _ w_X2_emptyHuts RX2 := ⟨B.exec, B.bytes, hml, findClass_of_methodNamed B.named, atoms_spec (ws := w_X2_emptyHuts) B.pre⟩
  have hr := B.returns
  have hlk := B.notSynchronized
  have kcm1 : (-1 : Int32).toInt = -1 := rfl
  have kc0 : (0 : Int32).toInt = 0 := rfl
  have kc1 : (1 : Int32).toInt = 1 := rfl
  have hl := lv_entry ([.ref h, .int a]) (n := 2) (Nat.le_of_ble_eq_true rfl)
  rw [lg_entry_eq]
  generalize (lg_sl ([.ref h, .int a]) ++ List.replicate (2 - (lg_sl ([.ref h, .int a])).length) Slot.unset).toArray = ls at hl ⊢
  have hl : lv_has ls 2 [(0, .ref h), (1, .int a)] := hl
  have hRP : RP E G f f := RP.refl
  refine lv_aload_n G0.1 G0.2.1 dX2_emptyHuts_0 rfl (lv_at hl 0 rfl) ?_
  obtain ⟨t_1, t_2, t_3, t_4, t_5, t_6, t_7, t_8, t_9⟩ := wt_2 hG Th
  obtain ⟨r_10, y_11, v_12, hr_15, ty_13, b_14⟩ := wg_2 hWF Th
  refine py_get (C := RX2) (T := TX2) (N := 12) (k := 9) (v := .ref r_10) G0 hw in_X2_emptyHuts_X2 rfl hr_15 (by decide) (by decide +kernel) rfl dX2_emptyHuts_1 ?_
  obtain ⟨t_16, t_17, t_18, t_19, t_20, t_21, t_22, t_23⟩ := wt_9 hG ty_13
  obtain ⟨v_24, v_25, hr_28, b_26, b_27⟩ := wg_9 hWF ty_13
  have tq_29 := va_eq hr_28
  refine py_get (C := RX9) (T := TX9) (N := 10) (k := 0) (v := .ref (G.2 r_10 0)) G0 hw in_X2_emptyHuts_X9 rfl hr_28 (by decide) (by decide +kernel) rfl dX2_emptyHuts_4 ?_
  refine lv_iload_n G0.1 G0.2.1 dX2_emptyHuts_7 rfl (lv_at hl 1 rfl) ?_
  obtain ⟨g_30, ha_31, hi_32⟩ := wf_arr (n := 8) (lo := (-2147483648)) (hi := 2147483647) hWF t_16 (by decide) (fun _ => rfl)
  have rg_33 : vp_in a 8 := ti_in (by omega) (by omega)
  refine py_iald G0 hw ha_31 rg_33 dX2_emptyHuts_8 ?_
  refine lv_topi (fun x_34 ex_34 => ?_)
  have bx_34 := wf_free x_34
  refine lv_aload_n G0.1 G0.2.1 dX2_emptyHuts_9 rfl (lv_at hl 0 rfl) ?_
  refine lv_iload_n G0.1 G0.2.1 dX2_emptyHuts_10 rfl (lv_at hl 1 rfl) ?_
  refine py_calli hw (va_runV (As := [.int a]) (rest := [.int x_34]) G0 (c_X2_familiesAt l E G L f s.heap.size h a hG hWF Th) (cwV 1 G0.2.2.2.2 g_X2_emptyHuts_X2_familiesAt_88 rfl rfl rfl (by decide +kernel) ⟨(Nat.le_of_ble_eq_true rfl), (Nat.le_of_ble_eq_true rfl)⟩) (py_preV hw (C := RX2) (T := TX2) (N := 12) rfl hr_15) rfl rfl hl.1 rfl (lv_room (Nat.le_of_ble_eq_true rfl)) dX2_emptyHuts_11 ⟨(Nat.le_of_ble_eq_true rfl), (Nat.le_of_ble_eq_true rfl)⟩) (fun r_39 L_35 f_36 H_37 locs hp_38 hw => ?_)
  obtain ⟨rfl, rfl⟩ := hp_38
  have br_39 := wf_free r_39
  refine lv_isub G0.1 G0.2.1 dX2_emptyHuts_14 ?_
  refine lv_topi (fun x_40 ex_40 => ?_)
  first | have tx_40 := ti_sub ex_40 (by omega) (by omega) | skip
  exact py_iret G0 hr rfl hlk hw ⟨rfl, rfl⟩ dX2_emptyHuts_15

def w_X2_emptyHut : List Cond := .code yX2_emptyHut cX2_emptyHut 5 (some .int) :: ([Cond.fieldLink RX2 43 "HeadYear$Folk" "valley" "LHeadYear$Valley;", Cond.fieldLink RX2 91 "HeadYear$Valley" "huts" "[I", Cond.methodLink RX2 94 yX2_dweller, Cond.instanceMethod yX2_dweller, Cond.selects RX2 yX2_dweller yX2_dweller, Cond.initialized RX2] ++ (u_ws RX2 TX2 12 ++ (u_ws RX9 TX9 10 ++ (w_X2_dweller ++ ([])))))
theorem in_X2_emptyHut_X2 : ∀ w ∈ u_ws RX2 TX2 12, w ∈ w_X2_emptyHut := fun _ h => List.mem_cons_of_mem _ (List.mem_append_right _ (List.mem_append_left _ h))
theorem in_X2_emptyHut_X9 : ∀ w ∈ u_ws RX9 TX9 10, w ∈ w_X2_emptyHut := fun _ h => List.mem_cons_of_mem _ (List.mem_append_right _ (List.mem_append_right _ (List.mem_append_left _ h)))
theorem gg_X2_emptyHut_X2_dweller : GoodIn w_X2_emptyHut w_X2_dweller := goodIn_sub (fun _ h => List.mem_cons_of_mem _ (List.mem_append_right _ (List.mem_append_right _ (List.mem_append_right _ (List.mem_append_left _ h))))) (by decide +kernel)
theorem g_X2_emptyHut_X2_dweller_94 : GoodIn w_X2_emptyHut (wsV RX2 94 RX2 yX2_dweller w_X2_dweller) := goodIn_app (goodIn_of _ (by decide +kernel)) gg_X2_emptyHut_X2_dweller
set_option maxHeartbeats 4000000 in
set_option maxRecDepth 100000 in
theorem c_X2_emptyHut (l : Launch) (E : py_E) (G : wf_G) (L : List Nat) (f : py_F) (sz : Nat) (h : Nat) (a : Int32) (b : Int32) (hG : GT G) (hWF : WF E G L f) (Th : G.1 h = 3) (Ba : (0 ≤ a.toInt ∧ a.toInt ≤ 7)) : Met l yX2_emptyHut w_X2_emptyHut ({ frames := 1, cells := 0, slots := 0, locals := 23 }) (py_Pc E [.ref h, .int a, .int b] L f sz) (py_Qi E L f sz (fun _ L1 f1 => L = L1 ∧ f = f1)) 0 0 (va_A (va_pl L f) sz) := by
  refine Met.ofW (cc := cX2_emptyHut) (maxL := 5) (ret := (some .int)) (by decide) rfl ?_
  intro p e s m args below meth c s₁ B hml hv
  obtain ⟨rfl, rfl, hw⟩ := py_start hv
  have G0 : CallFix p m c cX2_emptyHut 5 s _ w_X2_emptyHut RX2 := ⟨B.exec, B.bytes, hml, findClass_of_methodNamed B.named, atoms_spec (ws := w_X2_emptyHut) B.pre⟩
  have hr := B.returns
  have hlk := B.notSynchronized
  have kcm1 : (-1 : Int32).toInt = -1 := rfl
  have kc0 : (0 : Int32).toInt = 0 := rfl
  have kc1 : (1 : Int32).toInt = 1 := rfl
  have hl := lv_entry ([.ref h, .int a, .int b]) (n := 5) (Nat.le_of_ble_eq_true rfl)
  rw [lg_entry_eq]
  generalize (lg_sl ([.ref h, .int a, .int b]) ++ List.replicate (5 - (lg_sl ([.ref h, .int a, .int b])).length) Slot.unset).toArray = ls at hl ⊢
  have hl : lv_has ls 5 [(0, .ref h), (1, .int a), (2, .int b)] := hl
  have hRP : RP E G f f := RP.refl
  refine lv_iload_n G0.1 G0.2.1 dX2_emptyHut_0 rfl (lv_at hl 2 rfl) ?_
  refine lv_istore_n (lv' := [(3, .int b), (0, .ref h), (1, .int a), (2, .int b)]) G0.1 G0.2.1 dX2_emptyHut_1 rfl hl (by decide) rfl (fun ls hl => ?_)
  refine lv_iconst (v := 0) G0.1 G0.2.1 dX2_emptyHut_2 (by decide) ?_
  refine lv_istore (lv' := [(4, .int 0), (3, .int b), (0, .ref h), (1, .int a), (2, .int b)]) G0.1 G0.2.1 dX2_emptyHut_3 hl (by decide) rfl (fun ls hl => ?_)
  have lo_5 : ∀ n_5 : Nat, ∀ (v_1 : Int32) (v_2 : Int32) (H_j5 : Heap) (locs : List Loc) (ls : Array Slot), (2147483647 - v_1.toInt).toNat = n_5 → (0 ≤ v_1.toInt ∧ v_1.toInt ≤ 2147483647) → py_W E (va_A (va_pl L f) s.heap.size) s L f H_j5 locs → lv_has ls 5 [(4, .int v_1), (3, .int v_2), (0, .ref h), (1, .int a), (2, .int b)] → W p l e (headSpec w_X2_emptyHut ({ frames := 1, cells := 0, slots := 0, locals := 23 })).room s m ([.ref h, .int a, .int b] : List Value).toArray below meth c H_j5 locs 0 0 (MQ below (py_Qi E L f s.heap.size (fun _ L1 f1 => L = L1 ∧ f = f1)) ([.ref h, .int a, .int b] : List Value).toArray s 0 0 (va_A (va_pl L f) s.heap.size)) (F0 m 5 ls []) := by
    intro n_5
    induction n_5 using Nat.strongRecOn with
    | _ n_5 ih_5 =>
      intro v_1 v_2 H_j5 locs ls hn_5 bv_1 hw hl
      refine lv_iload G0.1 G0.2.1 dX2_emptyHut_5 (lv_at hl 0 rfl) ?_
      refine lv_aload_n G0.1 G0.2.1 dX2_emptyHut_7 rfl (lv_at hl 2 rfl) ?_
      obtain ⟨t_3, t_4, t_5, t_6, t_7, t_8, t_9, t_10, t_11⟩ := wt_2 hG Th
      obtain ⟨r_12, y_13, v_14, hr_17, ty_15, b_16⟩ := wg_2 hWF Th
      refine py_get (C := RX2) (T := TX2) (N := 12) (k := 9) (v := .ref r_12) G0 hw in_X2_emptyHut_X2 rfl hr_17 (by decide) (by decide +kernel) rfl dX2_emptyHut_8 ?_
      obtain ⟨t_18, t_19, t_20, t_21, t_22, t_23, t_24, t_25⟩ := wt_9 hG ty_15
      obtain ⟨v_26, v_27, hr_30, b_28, b_29⟩ := wg_9 hWF ty_15
      have tq_31 := va_eq hr_30
      refine py_get (C := RX9) (T := TX9) (N := 10) (k := 0) (v := .ref (G.2 r_12 0)) G0 hw in_X2_emptyHut_X9 rfl hr_30 (by decide) (by decide +kernel) rfl dX2_emptyHut_11 ?_
      refine lv_iload_n G0.1 G0.2.1 dX2_emptyHut_14 rfl (lv_at hl 3 rfl) ?_
      obtain ⟨g_32, ha_33, hi_34⟩ := wf_arr (n := 8) (lo := (-2147483648)) (hi := 2147483647) hWF t_18 (by decide) (fun _ => rfl)
      have rg_35 : vp_in a 8 := ti_in (by omega) (by omega)
      refine py_iald G0 hw ha_33 rg_35 dX2_emptyHut_15 ?_
      refine lv_topi (fun x_36 ex_36 => ?_)
      have bx_36 := wf_free x_36
      refine lv_icmp_ge (tgt := 46) G0.1 G0.2.1 dX2_emptyHut_16 (by decide) (fun c_37 => ?_) (fun c_37 => ?_)
      · skip
        have tc_37 := ti_le c_37
        refine lv_iconst (v := (-1)) G0.1 G0.2.1 dX2_emptyHut_46 (by decide) ?_
        exact py_iret G0 hr rfl hlk hw ⟨rfl, rfl⟩ dX2_emptyHut_47
      · skip
        have tc_37 := ti_nle c_37
        refine lv_aload_n G0.1 G0.2.1 dX2_emptyHut_19 rfl (lv_at hl 2 rfl) ?_
        refine lv_iload_n G0.1 G0.2.1 dX2_emptyHut_20 rfl (lv_at hl 3 rfl) ?_
        refine lv_iload G0.1 G0.2.1 dX2_emptyHut_21 (lv_at hl 0 rfl) ?_
        refine py_calli hw (va_runV (As := [.int a, .int v_1]) (rest := []) G0 (c_X2_dweller l E G L f H_j5.size h a v_1 hG hWF Th) (cwV 2 G0.2.2.2.2 g_X2_emptyHut_X2_dweller_94 rfl rfl rfl (by decide +kernel) ⟨(Nat.le_of_ble_eq_true rfl), (Nat.le_of_ble_eq_true rfl)⟩) (py_preV hw (C := RX2) (T := TX2) (N := 12) rfl hr_17) rfl rfl hl.1 rfl (lv_room (Nat.le_of_ble_eq_true rfl)) dX2_emptyHut_23 ⟨(Nat.le_of_ble_eq_true rfl), (Nat.le_of_ble_eq_true rfl)⟩) (fun r_42 L_38 f_39 H_40 locs hp_41 hw => ?_)
        obtain ⟨rfl, rfl⟩ := hp_41
        have br_42 := wf_free r_42
        refine lv_iconst (v := (-1)) G0.1 G0.2.1 dX2_emptyHut_26 (by decide) ?_
        refine lv_icmp_ne (tgt := 40) G0.1 G0.2.1 dX2_emptyHut_27 (by decide) (fun c_43 => ?_) (fun c_43 => ?_)
        · skip
          have tc_43 := ti_ne c_43
          obtain ⟨x_44, ex_44⟩ : ∃ y : Int32, y = v_1 + 1 := ⟨_, rfl⟩
          first | have tx_44 := ti_add ex_44 (by omega) (by omega) | skip
          refine lv_iinc (v := x_44) (lv' := [(4, .int x_44), (3, .int v_2), (0, .ref h), (1, .int a), (2, .int b)]) G0.1 G0.2.1 dX2_emptyHut_40 hl (k := 0) rfl (show _ + (1 : Int32) = _ from ex_44.symm) (by decide) rfl (fun ls hl => ?_)
          refine lv_goto (tgt := 5) G0.1 G0.2.1 dX2_emptyHut_43 (by decide) ?_
          exact ih_5 ((2147483647 - x_44.toInt).toNat) (by omega) x_44 v_2 _ _ ls rfl ⟨by omega, by omega⟩ hw (lv_sub hl [0, 1, 2, 3, 4] rfl)
        · skip
          have tc_43 := ti_eq c_43
          refine lv_iload_n G0.1 G0.2.1 dX2_emptyHut_30 rfl (lv_at hl 1 rfl) ?_
          refine lv_if_ne (tgt := 37) G0.1 G0.2.1 dX2_emptyHut_31 (by decide) (fun c_45 => ?_) (fun c_45 => ?_)
          · skip
            have tc_45 := ti_ne c_45
            obtain ⟨x_46, ex_46⟩ : ∃ y : Int32, y = v_2 + (-1) := ⟨_, rfl⟩
            first | have tx_46 := ti_add ex_46 (by omega) (by omega) | skip
            refine lv_iinc (v := x_46) (lv' := [(3, .int x_46), (4, .int v_1), (0, .ref h), (1, .int a), (2, .int b)]) G0.1 G0.2.1 dX2_emptyHut_37 hl (k := 1) rfl (show _ + ((-1) : Int32) = _ from ex_46.symm) (by decide) rfl (fun ls hl => ?_)
            obtain ⟨x_47, ex_47⟩ : ∃ y : Int32, y = v_1 + 1 := ⟨_, rfl⟩
            first | have tx_47 := ti_add ex_47 (by omega) (by omega) | skip
            refine lv_iinc (v := x_47) (lv' := [(4, .int x_47), (3, .int x_46), (0, .ref h), (1, .int a), (2, .int b)]) G0.1 G0.2.1 dX2_emptyHut_40 hl (k := 1) rfl (show _ + (1 : Int32) = _ from ex_47.symm) (by decide) rfl (fun ls hl => ?_)
            refine lv_goto (tgt := 5) G0.1 G0.2.1 dX2_emptyHut_43 (by decide) ?_
            exact ih_5 ((2147483647 - x_47.toInt).toNat) (by omega) x_47 x_46 _ _ ls rfl ⟨by omega, by omega⟩ hw (lv_sub hl [0, 1, 2, 3, 4] rfl)
          · skip
            have tc_45 := ti_eq c_45
            refine lv_iload G0.1 G0.2.1 dX2_emptyHut_34 (lv_at hl 0 rfl) ?_
            exact py_iret G0 hr rfl hlk hw ⟨rfl, rfl⟩ dX2_emptyHut_36
  exact lo_5 _ 0 b _ _ ls rfl ⟨by omega, by omega⟩ hw (lv_sub hl [0, 1, 2, 3, 4] rfl)

def w_X2_want : List Cond := .code yX2_want cX2_want 3 (some .int) :: ([Cond.fieldLink RX2 17 "HeadYear$Folk" "level" "[I", Cond.fieldLink RX2 43 "HeadYear$Folk" "valley" "LHeadYear$Valley;", Cond.fieldLink RX2 97 "HeadYear$Valley" "brow" "[I", Cond.fieldLink RX2 100 "HeadYear$Valley" "levels" "I", Cond.fieldLink RX2 23 "HeadYear$Folk" "debt" "[I", Cond.methodLink RX2 83 Lib.Math.max.name, Cond.static Lib.Math.max.name, Cond.initialized "java/lang/Math", Cond.code Lib.Math.max.name Lib.Math.max.code 2 (some .int), Cond.methodLink RX2 103 Lib.Math.min.name, Cond.static Lib.Math.min.name, Cond.code Lib.Math.min.name Lib.Math.min.code 2 (some .int)] ++ (u_ws RX2 TX2 12 ++ (u_ws RX9 TX9 10 ++ ([]))))
theorem in_X2_want_X2 : ∀ w ∈ u_ws RX2 TX2 12, w ∈ w_X2_want := fun _ h => List.mem_cons_of_mem _ (List.mem_append_right _ (List.mem_append_left _ h))
theorem in_X2_want_X9 : ∀ w ∈ u_ws RX9 TX9 10, w ∈ w_X2_want := fun _ h => List.mem_cons_of_mem _ (List.mem_append_right _ (List.mem_append_right _ (List.mem_append_left _ h)))
set_option maxHeartbeats 4000000 in
set_option maxRecDepth 100000 in
theorem c_X2_want (l : Launch) (E : py_E) (G : wf_G) (L : List Nat) (f : py_F) (sz : Nat) (h : Nat) (a : Int32) (hG : GT G) (hWF : WF E G L f) (Th : G.1 h = 3) (Ba : (0 ≤ a.toInt ∧ a.toInt ≤ 9)) : Met l yX2_want w_X2_want ({ frames := 1, cells := 0, slots := 0, locals := 24 }) (py_Pc E [.ref h, .int a] L f sz) (py_Qi E L f sz (fun r L1 f1 => ((-1) ≤ r.toInt ∧ r.toInt ≤ 7) ∧ (1 ≤ fv_l f h → (ari f (G.2 h 1) a = -1 → r.toInt = -1) ∧ (0 ≤ ari f (G.2 h 1) a → 0 ≤ r.toInt)) ∧ L = L1 ∧ f = f1)) 0 0 (va_A (va_pl L f) sz) := by
  refine Met.ofW (cc := cX2_want) (maxL := 3) (ret := (some .int)) (by decide) rfl ?_
  intro p e s m args below meth c s₁ B hml hv
  obtain ⟨rfl, rfl, hw⟩ := py_start hv
  have G0 : CallFix p m c cX2_want 3 s _ w_X2_want RX2 := ⟨B.exec, B.bytes, hml, findClass_of_methodNamed B.named, atoms_spec (ws := w_X2_want) B.pre⟩
  have hr := B.returns
  have hlk := B.notSynchronized
  have kcm1 : (-1 : Int32).toInt = -1 := rfl
  have kc0 : (0 : Int32).toInt = 0 := rfl
  have kc1 : (1 : Int32).toInt = 1 := rfl
  have hl := lv_entry ([.ref h, .int a]) (n := 3) (Nat.le_of_ble_eq_true rfl)
  rw [lg_entry_eq]
  generalize (lg_sl ([.ref h, .int a]) ++ List.replicate (3 - (lg_sl ([.ref h, .int a])).length) Slot.unset).toArray = ls at hl ⊢
  have hl : lv_has ls 3 [(0, .ref h), (1, .int a)] := hl
  have hRP : RP E G f f := RP.refl
  refine lv_aload_n G0.1 G0.2.1 dX2_want_0 rfl (lv_at hl 0 rfl) ?_
  obtain ⟨t_1, t_2, t_3, t_4, t_5, t_6, t_7, t_8, t_9⟩ := wt_2 hG Th
  obtain ⟨r_10, y_11, v_12, hr_15, ty_13, b_14⟩ := wg_2 hWF Th
  have tq_16 := fo_eq hr_15
  refine py_get (C := RX2) (T := TX2) (N := 12) (k := 1) (v := .ref (G.2 h 1)) G0 hw in_X2_want_X2 rfl hr_15 (by decide) (by decide +kernel) rfl dX2_want_1 ?_
  refine lv_iload_n G0.1 G0.2.1 dX2_want_4 rfl (lv_at hl 1 rfl) ?_
  obtain ⟨g_17, ha_18, hi_19⟩ := wf_arr (n := 10) (lo := (-1)) (hi := 7) hWF t_2 (by omega) (wf_own1 E G _ h)
  have rg_20 : vp_in a 10 := ti_in (by omega) (by omega)
  refine py_iald G0 hw ha_18 rg_20 dX2_want_5 ?_
  refine lv_topi (fun x_21 ex_21 => ?_)
  have bx_21 := ti_at hi_19 rg_20 ex_21
  have qx_21 := ari_ld ha_18 ex_21
  refine lv_istore_n (lv' := [(2, .int x_21), (0, .ref h), (1, .int a)]) G0.1 G0.2.1 dX2_want_6 rfl hl (by decide) rfl (fun ls hl => ?_)
  refine lv_iload_n G0.1 G0.2.1 dX2_want_7 rfl (lv_at hl 0 rfl) ?_
  refine lv_iconst (v := (-1)) G0.1 G0.2.1 dX2_want_8 (by decide) ?_
  refine lv_icmp_eq (tgt := 25) G0.1 G0.2.1 dX2_want_9 (by decide) (fun c_22 => ?_) (fun c_22 => ?_)
  · skip
    have tc_22 := ti_eq c_22
    refine lv_iload_n G0.1 G0.2.1 dX2_want_25 rfl (lv_at hl 0 rfl) ?_
    exact py_iret G0 hr rfl hlk hw ⟨⟨by omega, by omega⟩, (by first | omega | (intro q; omega)), rfl, rfl⟩ dX2_want_26
  · skip
    have tc_22 := ti_ne c_22
    refine lv_aload_n G0.1 G0.2.1 dX2_want_12 rfl (lv_at hl 1 rfl) ?_
    refine py_get (C := RX2) (T := TX2) (N := 12) (k := 9) (v := .ref r_10) G0 hw in_X2_want_X2 rfl hr_15 (by decide) (by decide +kernel) rfl dX2_want_13 ?_
    obtain ⟨t_23, t_24, t_25, t_26, t_27, t_28, t_29, t_30⟩ := wt_9 hG ty_13
    obtain ⟨v_31, v_32, hr_35, b_33, b_34⟩ := wg_9 hWF ty_13
    have tq_36 := va_eq hr_35
    refine py_get (C := RX9) (T := TX9) (N := 10) (k := 3) (v := .ref (G.2 r_10 3)) G0 hw in_X2_want_X9 rfl hr_35 (by decide) (by decide +kernel) rfl dX2_want_16 ?_
    refine lv_iload_n G0.1 G0.2.1 dX2_want_19 rfl (lv_at hl 0 rfl) ?_
    obtain ⟨g_37, ha_38, hi_39⟩ := wf_arr (n := 8) (lo := (-2147483648)) (hi := 2147483647) hWF t_26 (by decide) (fun _ => rfl)
    have rg_40 : vp_in x_21 8 := ti_in (by omega) (by omega)
    refine py_iald G0 hw ha_38 rg_40 dX2_want_20 ?_
    refine lv_topi (fun x_41 ex_41 => ?_)
    have bx_41 := wf_free x_41
    have qx_41 := ari_ld ha_38 ex_41
    refine lv_iconst (v := 1) G0.1 G0.2.1 dX2_want_21 (by decide) ?_
    refine lv_icmp_ne (tgt := 27) G0.1 G0.2.1 dX2_want_22 (by decide) (fun c_42 => ?_) (fun c_42 => ?_)
    · skip
      have tc_42 := ti_ne c_42
      refine lv_aload_n G0.1 G0.2.1 dX2_want_27 rfl (lv_at hl 1 rfl) ?_
      refine py_get (C := RX2) (T := TX2) (N := 12) (k := 9) (v := .ref r_10) G0 hw in_X2_want_X2 rfl hr_15 (by decide) (by decide +kernel) rfl dX2_want_28 ?_
      refine py_get (C := RX9) (T := TX9) (N := 10) (k := 8) (v := .int v_31) G0 hw in_X2_want_X9 rfl hr_35 (by decide) (by decide +kernel) rfl dX2_want_31 ?_
      refine lv_iconst (v := 1) G0.1 G0.2.1 dX2_want_34 (by decide) ?_
      refine lv_isub G0.1 G0.2.1 dX2_want_35 ?_
      refine lv_topi (fun x_43 ex_43 => ?_)
      first | have tx_43 := ti_sub ex_43 (by omega) (by omega) | skip
      refine lv_iconst (v := 0) G0.1 G0.2.1 dX2_want_36 (by decide) ?_
      refine lv_iload_n G0.1 G0.2.1 dX2_want_37 rfl (lv_at hl 0 rfl) ?_
      refine lv_aload_n G0.1 G0.2.1 dX2_want_38 rfl (lv_at hl 1 rfl) ?_
      refine py_get (C := RX2) (T := TX2) (N := 12) (k := 3) (v := .ref (G.2 h 3)) G0 hw in_X2_want_X2 rfl hr_15 (by decide) (by decide +kernel) rfl dX2_want_39 ?_
      refine lv_iload_n G0.1 G0.2.1 dX2_want_42 rfl (lv_at hl 2 rfl) ?_
      obtain ⟨g_44, ha_45, hi_46⟩ := wf_arr (n := 10) (lo := (-2147483648)) (hi := 2147483647) hWF t_4 (by decide) (fun _ => rfl)
      have rg_47 : vp_in a 10 := ti_in (by omega) (by omega)
      refine py_iald G0 hw ha_45 rg_47 dX2_want_43 ?_
      refine lv_topi (fun x_48 ex_48 => ?_)
      have bx_48 := wf_free x_48
      have qx_48 := ari_ld ha_45 ex_48
      refine lv_iadd G0.1 G0.2.1 dX2_want_44 ?_
      refine lv_topi (fun x_49 ex_49 => ?_)
      first | have tx_49 := ti_add ex_49 (by omega) (by omega) | skip
      refine va_mmax G0.1 G0.2.1 (by rw [G0.2.2.1, hl.1]) G0.2.2.2.1 (G0.2.2.2.2 (Cond.methodLink RX2 83 Lib.Math.max.name) (by decide +kernel)) (G0.2.2.2.2 (Cond.static Lib.Math.max.name) (by decide +kernel)) (G0.2.2.2.2 (Cond.initialized "java/lang/Math") (by decide +kernel)) (G0.2.2.2.2 (Cond.code Lib.Math.max.name Lib.Math.max.code 2 (some .int)) (by decide +kernel)) (Nat.le_of_ble_eq_true rfl) (Nat.le_of_ble_eq_true rfl) (Nat.le_of_ble_eq_true rfl) (Nat.le_of_ble_eq_true rfl) dX2_want_45 ?_
      refine lv_topi (fun x_50 ex_50 => ?_)
      have tx_50 := ti_max ex_50
      refine va_mmin G0.1 G0.2.1 (by rw [G0.2.2.1, hl.1]) G0.2.2.2.1 (G0.2.2.2.2 (Cond.methodLink RX2 103 Lib.Math.min.name) (by decide +kernel)) (G0.2.2.2.2 (Cond.static Lib.Math.min.name) (by decide +kernel)) (G0.2.2.2.2 (Cond.initialized "java/lang/Math") (by decide +kernel)) (G0.2.2.2.2 (Cond.code Lib.Math.min.name Lib.Math.min.code 2 (some .int)) (by decide +kernel)) (Nat.le_of_ble_eq_true rfl) (Nat.le_of_ble_eq_true rfl) (Nat.le_of_ble_eq_true rfl) (Nat.le_of_ble_eq_true rfl) dX2_want_48 ?_
      refine lv_topi (fun x_51 ex_51 => ?_)
      have tx_51 := ti_min ex_51
      exact py_iret G0 hr rfl hlk hw ⟨⟨by omega, by omega⟩, (by first | omega | (intro q; omega)), rfl, rfl⟩ dX2_want_51
    · skip
      have tc_42 := ti_eq c_42
      refine lv_iload_n G0.1 G0.2.1 dX2_want_25 rfl (lv_at hl 0 rfl) ?_
      exact py_iret G0 hr rfl hlk hw ⟨⟨by omega, by omega⟩, (by first | omega | (intro q; omega)), rfl, rfl⟩ dX2_want_26

def w_X2_waits : List Cond := .code yX2_waits cX2_waits 2 (some .boolean) :: ([Cond.methodLink RX2 106 yX2_want, Cond.instanceMethod yX2_want, Cond.selects RX2 yX2_want yX2_want, Cond.initialized RX2, Cond.fieldLink RX2 17 "HeadYear$Folk" "level" "[I"] ++ (u_ws RX2 TX2 12 ++ (w_X2_want ++ ([]))))
theorem in_X2_waits_X2 : ∀ w ∈ u_ws RX2 TX2 12, w ∈ w_X2_waits := fun _ h => List.mem_cons_of_mem _ (List.mem_append_right _ (List.mem_append_left _ h))
theorem gg_X2_waits_X2_want : GoodIn w_X2_waits w_X2_want := goodIn_sub (fun _ h => List.mem_cons_of_mem _ (List.mem_append_right _ (List.mem_append_right _ (List.mem_append_left _ h)))) (by decide +kernel)
theorem g_X2_waits_X2_want_106 : GoodIn w_X2_waits (wsV RX2 106 RX2 yX2_want w_X2_want) := goodIn_app (goodIn_of _ (by decide +kernel)) gg_X2_waits_X2_want
set_option maxHeartbeats 4000000 in
set_option maxRecDepth 100000 in
theorem c_X2_waits (l : Launch) (E : py_E) (G : wf_G) (L : List Nat) (f : py_F) (sz : Nat) (h : Nat) (a : Int32) (hG : GT G) (hWF : WF E G L f) (Th : G.1 h = 3) (Ba : (0 ≤ a.toInt ∧ a.toInt ≤ 9)) : Met l yX2_waits w_X2_waits ({ frames := 2, cells := 0, slots := 0, locals := 46 }) (py_Pc E [.ref h, .int a] L f sz) (py_Qi E L f sz (fun r L1 f1 => (0 ≤ r.toInt ∧ r.toInt ≤ 1) ∧ L = L1 ∧ f = f1)) 0 0 (va_A (va_pl L f) sz) := by
  refine Met.ofW (cc := cX2_waits) (maxL := 2) (ret := (some .boolean)) (by decide) rfl ?_
  intro p e s m args below meth c s₁ B hml hv
  obtain ⟨rfl, rfl, hw⟩ := py_start hv
  have G0 : CallFix p m c cX2_waits 2 s _ w_X2_waits RX2 := ⟨B.exec, B.bytes, hml, findClass_of_methodNamed B.named, atoms_spec (ws := w_X2_waits) B.pre⟩
  have hr := B.returns
  have hlk := B.notSynchronized
  have kcm1 : (-1 : Int32).toInt = -1 := rfl
  have kc0 : (0 : Int32).toInt = 0 := rfl
  have kc1 : (1 : Int32).toInt = 1 := rfl
  have hl := lv_entry ([.ref h, .int a]) (n := 2) (Nat.le_of_ble_eq_true rfl)
  rw [lg_entry_eq]
  generalize (lg_sl ([.ref h, .int a]) ++ List.replicate (2 - (lg_sl ([.ref h, .int a])).length) Slot.unset).toArray = ls at hl ⊢
  have hl : lv_has ls 2 [(0, .ref h), (1, .int a)] := hl
  have hRP : RP E G f f := RP.refl
  refine lv_aload_n G0.1 G0.2.1 dX2_waits_0 rfl (lv_at hl 0 rfl) ?_
  refine lv_iload_n G0.1 G0.2.1 dX2_waits_1 rfl (lv_at hl 1 rfl) ?_
  obtain ⟨t_1, t_2, t_3, t_4, t_5, t_6, t_7, t_8, t_9⟩ := wt_2 hG Th
  obtain ⟨r_10, y_11, v_12, hr_15, ty_13, b_14⟩ := wg_2 hWF Th
  refine py_calli hw (va_runV (As := [.int a]) (rest := []) G0 (c_X2_want l E G L f s.heap.size h a hG hWF Th ⟨by omega, by omega⟩) (cwV 1 G0.2.2.2.2 g_X2_waits_X2_want_106 rfl rfl rfl (by decide +kernel) ⟨(Nat.le_of_ble_eq_true rfl), (Nat.le_of_ble_eq_true rfl)⟩) (py_preV hw (C := RX2) (T := TX2) (N := 12) rfl hr_15) rfl rfl hl.1 rfl (lv_room (Nat.le_of_ble_eq_true rfl)) dX2_waits_2 ⟨(Nat.le_of_ble_eq_true rfl), (Nat.le_of_ble_eq_true rfl)⟩) (fun r_20 L_16 f_17 H_18 locs hp_19 hw => ?_)
  obtain ⟨b_22, en_21, rfl, rfl⟩ := hp_19
  refine lv_aload_n G0.1 G0.2.1 dX2_waits_5 rfl (lv_at hl 0 rfl) ?_
  refine py_get (C := RX2) (T := TX2) (N := 12) (k := 1) (v := .ref (G.2 h 1)) G0 hw in_X2_waits_X2 rfl hr_15 (by decide) (by decide +kernel) rfl dX2_waits_6 ?_
  refine lv_iload_n G0.1 G0.2.1 dX2_waits_9 rfl (lv_at hl 1 rfl) ?_
  obtain ⟨g_23, ha_24, hi_25⟩ := wf_arr (n := 10) (lo := (-1)) (hi := 7) hWF t_2 (by omega) (wf_own1 E G _ h)
  have rg_26 : vp_in a 10 := ti_in (by omega) (by omega)
  refine py_iald G0 hw ha_24 rg_26 dX2_waits_10 ?_
  refine lv_topi (fun x_27 ex_27 => ?_)
  have bx_27 := ti_at hi_25 rg_26 ex_27
  have jn_19 : ∀ (v_28 : Int32) (H_j19 : Heap) (locs : List Loc) (ls : Array Slot), (0 ≤ v_28.toInt ∧ v_28.toInt ≤ 1) → py_W E (va_A (va_pl L f) s.heap.size) s L f H_j19 locs → lv_has ls 2 [(0, .ref h), (1, .int a)] → W p l e (headSpec w_X2_waits ({ frames := 2, cells := 0, slots := 0, locals := 46 })).room s m ([.ref h, .int a] : List Value).toArray below meth c H_j19 locs 0 0 (MQ below (py_Qi E L f s.heap.size (fun r L1 f1 => (0 ≤ r.toInt ∧ r.toInt ≤ 1) ∧ L = L1 ∧ f = f1)) ([.ref h, .int a] : List Value).toArray s 0 0 (va_A (va_pl L f) s.heap.size)) (F0 m 19 ls [.int v_28]) := by
    intro v_28 H_j19 locs ls bv_28 hw hl
    exact py_iret G0 hr (ti_bool (by omega) (by omega)) hlk hw ⟨⟨by omega, by omega⟩, rfl, rfl⟩ dX2_waits_19
  refine lv_icmp_eq (tgt := 18) G0.1 G0.2.1 dX2_waits_11 (by decide) (fun c_29 => ?_) (fun c_29 => ?_)
  · skip
    have tc_29 := ti_eq c_29
    refine lv_iconst (v := 0) G0.1 G0.2.1 dX2_waits_18 (by decide) ?_
    exact jn_19 0 _ _ ls ⟨by omega, by omega⟩ hw (lv_sub hl [0, 1] rfl)
  · skip
    have tc_29 := ti_ne c_29
    refine lv_iconst (v := 1) G0.1 G0.2.1 dX2_waits_14 (by decide) ?_
    refine lv_goto (tgt := 19) G0.1 G0.2.1 dX2_waits_15 (by decide) ?_
    exact jn_19 1 _ _ ls ⟨by omega, by omega⟩ hw (lv_sub hl [0, 1] rfl)

def w_X2_waitingBits : List Cond := .code yX2_waitingBits cX2_waitingBits 3 (some .int) :: ([Cond.fieldLink RX2 43 "HeadYear$Folk" "valley" "LHeadYear$Valley;", Cond.fieldLink RX2 55 "HeadYear$Valley" "families" "I", Cond.methodLink RX2 109 yX2_waits, Cond.instanceMethod yX2_waits, Cond.selects RX2 yX2_waits yX2_waits, Cond.initialized RX2] ++ (u_ws RX2 TX2 12 ++ (u_ws RX9 TX9 10 ++ (w_X2_waits ++ ([])))))
theorem in_X2_waitingBits_X2 : ∀ w ∈ u_ws RX2 TX2 12, w ∈ w_X2_waitingBits := fun _ h => List.mem_cons_of_mem _ (List.mem_append_right _ (List.mem_append_left _ h))
theorem in_X2_waitingBits_X9 : ∀ w ∈ u_ws RX9 TX9 10, w ∈ w_X2_waitingBits := fun _ h => List.mem_cons_of_mem _ (List.mem_append_right _ (List.mem_append_right _ (List.mem_append_left _ h)))
theorem gg_X2_waitingBits_X2_waits : GoodIn w_X2_waitingBits w_X2_waits := goodIn_sub (fun _ h => List.mem_cons_of_mem _ (List.mem_append_right _ (List.mem_append_right _ (List.mem_append_right _ (List.mem_append_left _ h))))) (by decide +kernel)
theorem g_X2_waitingBits_X2_waits_109 : GoodIn w_X2_waitingBits (wsV RX2 109 RX2 yX2_waits w_X2_waits) := goodIn_app (goodIn_of _ (by decide +kernel)) gg_X2_waitingBits_X2_waits
set_option maxHeartbeats 4000000 in
set_option maxRecDepth 100000 in
theorem c_X2_waitingBits (l : Launch) (E : py_E) (G : wf_G) (L : List Nat) (f : py_F) (sz : Nat) (h : Nat) (hG : GT G) (hWF : WF E G L f) (Th : G.1 h = 3) : Met l yX2_waitingBits w_X2_waitingBits ({ frames := 3, cells := 0, slots := 0, locals := 67 }) (py_Pc E [.ref h] L f sz) (py_Qi E L f sz (fun r L1 f1 => (0 ≤ r.toInt ∧ r.toInt ≤ 1023) ∧ L = L1 ∧ f = f1)) 0 0 (va_A (va_pl L f) sz) := by
  refine Met.ofW (cc := cX2_waitingBits) (maxL := 3) (ret := (some .int)) (by decide) rfl ?_
  intro p e s m args below meth c s₁ B hml hv
  obtain ⟨rfl, rfl, hw⟩ := py_start hv
  have G0 : CallFix p m c cX2_waitingBits 3 s _ w_X2_waitingBits RX2 := ⟨B.exec, B.bytes, hml, findClass_of_methodNamed B.named, atoms_spec (ws := w_X2_waitingBits) B.pre⟩
  have hr := B.returns
  have hlk := B.notSynchronized
  have kcm1 : (-1 : Int32).toInt = -1 := rfl
  have kc0 : (0 : Int32).toInt = 0 := rfl
  have kc1 : (1 : Int32).toInt = 1 := rfl
  have hl := lv_entry ([.ref h]) (n := 3) (Nat.le_of_ble_eq_true rfl)
  rw [lg_entry_eq]
  generalize (lg_sl ([.ref h]) ++ List.replicate (3 - (lg_sl ([.ref h])).length) Slot.unset).toArray = ls at hl ⊢
  have hl : lv_has ls 3 [(0, .ref h)] := hl
  have hRP : RP E G f f := RP.refl
  refine lv_iconst (v := 0) G0.1 G0.2.1 dX2_waitingBits_0 (by decide) ?_
  refine lv_istore_n (lv' := [(1, .int 0), (0, .ref h)]) G0.1 G0.2.1 dX2_waitingBits_1 rfl hl (by decide) rfl (fun ls hl => ?_)
  refine lv_iconst (v := 0) G0.1 G0.2.1 dX2_waitingBits_2 (by decide) ?_
  refine lv_istore_n (lv' := [(2, .int 0), (1, .int 0), (0, .ref h)]) G0.1 G0.2.1 dX2_waitingBits_3 rfl hl (by decide) rfl (fun ls hl => ?_)
  have lo_4 : ∀ n_4 : Nat, ∀ (v_1 : Int32) (v_2 : Int32) (H_j4 : Heap) (locs : List Loc) (ls : Array Slot), (2147483647 - v_1.toInt).toNat = n_4 → (0 ≤ v_1.toInt ∧ v_1.toInt ≤ 2147483647) → (0 ≤ v_2.toInt ∧ v_2.toInt ≤ 1023) → py_W E (va_A (va_pl L f) s.heap.size) s L f H_j4 locs → lv_has ls 3 [(2, .int v_1), (1, .int v_2), (0, .ref h)] → W p l e (headSpec w_X2_waitingBits ({ frames := 3, cells := 0, slots := 0, locals := 67 })).room s m ([.ref h] : List Value).toArray below meth c H_j4 locs 0 0 (MQ below (py_Qi E L f s.heap.size (fun r L1 f1 => (0 ≤ r.toInt ∧ r.toInt ≤ 1023) ∧ L = L1 ∧ f = f1)) ([.ref h] : List Value).toArray s 0 0 (va_A (va_pl L f) s.heap.size)) (F0 m 4 ls []) := by
    intro n_4
    induction n_4 using Nat.strongRecOn with
    | _ n_4 ih_4 =>
      intro v_1 v_2 H_j4 locs ls hn_4 bv_1 bv_2 hw hl
      refine lv_iload_n G0.1 G0.2.1 dX2_waitingBits_4 rfl (lv_at hl 0 rfl) ?_
      refine lv_aload_n G0.1 G0.2.1 dX2_waitingBits_5 rfl (lv_at hl 2 rfl) ?_
      obtain ⟨t_3, t_4, t_5, t_6, t_7, t_8, t_9, t_10, t_11⟩ := wt_2 hG Th
      obtain ⟨r_12, y_13, v_14, hr_17, ty_15, b_16⟩ := wg_2 hWF Th
      refine py_get (C := RX2) (T := TX2) (N := 12) (k := 9) (v := .ref r_12) G0 hw in_X2_waitingBits_X2 rfl hr_17 (by decide) (by decide +kernel) rfl dX2_waitingBits_6 ?_
      obtain ⟨t_18, t_19, t_20, t_21, t_22, t_23, t_24, t_25⟩ := wt_9 hG ty_15
      obtain ⟨v_26, v_27, hr_30, b_28, b_29⟩ := wg_9 hWF ty_15
      have tq_31 := va_eq hr_30
      refine py_get (C := RX9) (T := TX9) (N := 10) (k := 9) (v := .int v_27) G0 hw in_X2_waitingBits_X9 rfl hr_30 (by decide) (by decide +kernel) rfl dX2_waitingBits_9 ?_
      refine lv_icmp_ge (tgt := 39) G0.1 G0.2.1 dX2_waitingBits_12 (by decide) (fun c_32 => ?_) (fun c_32 => ?_)
      · skip
        have tc_32 := ti_le c_32
        refine lv_iload_n G0.1 G0.2.1 dX2_waitingBits_39 rfl (lv_at hl 1 rfl) ?_
        exact py_iret G0 hr rfl hlk hw ⟨⟨by omega, by omega⟩, rfl, rfl⟩ dX2_waitingBits_40
      · skip
        have tc_32 := ti_nle c_32
        refine lv_iload_n G0.1 G0.2.1 dX2_waitingBits_15 rfl (lv_at hl 1 rfl) ?_
        refine lv_aload_n G0.1 G0.2.1 dX2_waitingBits_16 rfl (lv_at hl 2 rfl) ?_
        refine lv_iload_n G0.1 G0.2.1 dX2_waitingBits_17 rfl (lv_at hl 0 rfl) ?_
        refine py_calli hw (va_runV (As := [.int v_1]) (rest := [.int v_2]) G0 (c_X2_waits l E G L f H_j4.size h v_1 hG hWF Th ⟨by omega, by omega⟩) (cwV 1 G0.2.2.2.2 g_X2_waitingBits_X2_waits_109 rfl rfl rfl (by decide +kernel) ⟨(Nat.le_of_ble_eq_true rfl), (Nat.le_of_ble_eq_true rfl)⟩) (py_preV hw (C := RX2) (T := TX2) (N := 12) rfl hr_17) rfl rfl hl.1 rfl (lv_room (Nat.le_of_ble_eq_true rfl)) dX2_waitingBits_18 ⟨(Nat.le_of_ble_eq_true rfl), (Nat.le_of_ble_eq_true rfl)⟩) (fun r_37 L_33 f_34 H_35 locs hp_36 hw => ?_)
        obtain ⟨b_38, rfl, rfl⟩ := hp_36
        have jn_31 : ∀ (v_39 : Int32) (H_j31 : Heap) (locs : List Loc) (ls : Array Slot), (0 ≤ v_39.toInt ∧ v_39.toInt ≤ 512) → py_W E (va_A (va_pl L f) s.heap.size) s L f H_j31 locs → lv_has ls 3 [(2, .int v_1), (1, .int v_2), (0, .ref h)] → W p l e (headSpec w_X2_waitingBits ({ frames := 3, cells := 0, slots := 0, locals := 67 })).room s m ([.ref h] : List Value).toArray below meth c H_j31 locs 0 0 (MQ below (py_Qi E L f s.heap.size (fun r L1 f1 => (0 ≤ r.toInt ∧ r.toInt ≤ 1023) ∧ L = L1 ∧ f = f1)) ([.ref h] : List Value).toArray s 0 0 (va_A (va_pl L f) s.heap.size)) (F0 m 31 ls [.int v_39, .int v_2]) := by
          intro v_39 H_j31 locs ls bv_39 hw hl
          refine lv_ior G0.1 G0.2.1 dX2_waitingBits_31 ?_
          refine lv_topi (fun x_40 ex_40 => ?_)
          first | have bx_40 := ti_or ex_40 ⟨by omega, by omega⟩ ⟨by omega, by omega⟩ | skip
          refine lv_istore_n (lv' := [(1, .int x_40), (2, .int v_1), (0, .ref h)]) G0.1 G0.2.1 dX2_waitingBits_32 rfl hl (by decide) rfl (fun ls hl => ?_)
          obtain ⟨x_41, ex_41⟩ : ∃ y : Int32, y = v_1 + 1 := ⟨_, rfl⟩
          first | have tx_41 := ti_add ex_41 (by omega) (by omega) | skip
          refine lv_iinc (v := x_41) (lv' := [(2, .int x_41), (1, .int x_40), (0, .ref h)]) G0.1 G0.2.1 dX2_waitingBits_33 hl (k := 1) rfl (show _ + (1 : Int32) = _ from ex_41.symm) (by decide) rfl (fun ls hl => ?_)
          refine lv_goto (tgt := 4) G0.1 G0.2.1 dX2_waitingBits_36 (by decide) ?_
          exact ih_4 ((2147483647 - x_41.toInt).toNat) (by omega) x_41 x_40 _ _ ls rfl ⟨by omega, by omega⟩ ⟨by omega, by omega⟩ hw (lv_sub hl [0, 1, 2] rfl)
        refine lv_if_eq (tgt := 30) G0.1 G0.2.1 dX2_waitingBits_21 (by decide) (fun c_42 => ?_) (fun c_42 => ?_)
        · skip
          have tc_42 := ti_eq c_42
          refine lv_iconst (v := 0) G0.1 G0.2.1 dX2_waitingBits_30 (by decide) ?_
          exact jn_31 0 _ _ ls ⟨by omega, by omega⟩ hw (lv_sub hl [0, 1, 2] rfl)
        · skip
          have tc_42 := ti_ne c_42
          refine lv_iconst (v := 1) G0.1 G0.2.1 dX2_waitingBits_24 (by decide) ?_
          refine lv_iload_n G0.1 G0.2.1 dX2_waitingBits_25 rfl (lv_at hl 0 rfl) ?_
          refine lv_ishl G0.1 G0.2.1 dX2_waitingBits_26 ?_
          refine lv_topi (fun x_43 ex_43 => ?_)
          first | have bx_43 : 0 ≤ x_43.toInt ∧ x_43.toInt ≤ 512 := (by rcases ti_ten v_1 (by omega) (by omega) with h | h | h | h | h | h | h | h | h | h <;> (rw [ex_43, h]; decide +kernel)) | skip
          refine lv_goto (tgt := 31) G0.1 G0.2.1 dX2_waitingBits_27 (by decide) ?_
          exact jn_31 x_43 _ _ ls ⟨by omega, by omega⟩ hw (lv_sub hl [0, 1, 2] rfl)
  exact lo_4 _ 0 0 _ _ ls rfl ⟨by omega, by omega⟩ ⟨by omega, by omega⟩ hw (lv_sub hl [0, 1, 2] rfl)

def w_X2_fullBits : List Cond := .code yX2_fullBits cX2_fullBits 3 (some .int) :: ([Cond.fieldLink RX2 43 "HeadYear$Folk" "valley" "LHeadYear$Valley;", Cond.fieldLink RX2 100 "HeadYear$Valley" "levels" "I", Cond.methodLink RX2 113 yX2_emptyHuts, Cond.instanceMethod yX2_emptyHuts, Cond.selects RX2 yX2_emptyHuts yX2_emptyHuts, Cond.initialized RX2] ++ (u_ws RX2 TX2 12 ++ (u_ws RX9 TX9 10 ++ (w_X2_emptyHuts ++ ([])))))
theorem in_X2_fullBits_X2 : ∀ w ∈ u_ws RX2 TX2 12, w ∈ w_X2_fullBits := fun _ h => List.mem_cons_of_mem _ (List.mem_append_right _ (List.mem_append_left _ h))
theorem in_X2_fullBits_X9 : ∀ w ∈ u_ws RX9 TX9 10, w ∈ w_X2_fullBits := fun _ h => List.mem_cons_of_mem _ (List.mem_append_right _ (List.mem_append_right _ (List.mem_append_left _ h)))
theorem gg_X2_fullBits_X2_emptyHuts : GoodIn w_X2_fullBits w_X2_emptyHuts := goodIn_sub (fun _ h => List.mem_cons_of_mem _ (List.mem_append_right _ (List.mem_append_right _ (List.mem_append_right _ (List.mem_append_left _ h))))) (by decide +kernel)
theorem g_X2_fullBits_X2_emptyHuts_113 : GoodIn w_X2_fullBits (wsV RX2 113 RX2 yX2_emptyHuts w_X2_emptyHuts) := goodIn_app (goodIn_of _ (by decide +kernel)) gg_X2_fullBits_X2_emptyHuts
set_option maxHeartbeats 4000000 in
set_option maxRecDepth 100000 in
theorem c_X2_fullBits (l : Launch) (E : py_E) (G : wf_G) (L : List Nat) (f : py_F) (sz : Nat) (h : Nat) (hG : GT G) (hWF : WF E G L f) (Th : G.1 h = 3) : Met l yX2_fullBits w_X2_fullBits ({ frames := 2, cells := 0, slots := 0, locals := 44 }) (py_Pc E [.ref h] L f sz) (py_Qi E L f sz (fun _ L1 f1 => L = L1 ∧ f = f1)) 0 0 (va_A (va_pl L f) sz) := by
  refine Met.ofW (cc := cX2_fullBits) (maxL := 3) (ret := (some .int)) (by decide) rfl ?_
  intro p e s m args below meth c s₁ B hml hv
  obtain ⟨rfl, rfl, hw⟩ := py_start hv
  have G0 : CallFix p m c cX2_fullBits 3 s _ w_X2_fullBits RX2 := ⟨B.exec, B.bytes, hml, findClass_of_methodNamed B.named, atoms_spec (ws := w_X2_fullBits) B.pre⟩
  have hr := B.returns
  have hlk := B.notSynchronized
  have kcm1 : (-1 : Int32).toInt = -1 := rfl
  have kc0 : (0 : Int32).toInt = 0 := rfl
  have kc1 : (1 : Int32).toInt = 1 := rfl
  have hl := lv_entry ([.ref h]) (n := 3) (Nat.le_of_ble_eq_true rfl)
  rw [lg_entry_eq]
  generalize (lg_sl ([.ref h]) ++ List.replicate (3 - (lg_sl ([.ref h])).length) Slot.unset).toArray = ls at hl ⊢
  have hl : lv_has ls 3 [(0, .ref h)] := hl
  have hRP : RP E G f f := RP.refl
  refine lv_iconst (v := 0) G0.1 G0.2.1 dX2_fullBits_0 (by decide) ?_
  refine lv_istore_n (lv' := [(1, .int 0), (0, .ref h)]) G0.1 G0.2.1 dX2_fullBits_1 rfl hl (by decide) rfl (fun ls hl => ?_)
  refine lv_iconst (v := 0) G0.1 G0.2.1 dX2_fullBits_2 (by decide) ?_
  refine lv_istore_n (lv' := [(2, .int 0), (1, .int 0), (0, .ref h)]) G0.1 G0.2.1 dX2_fullBits_3 rfl hl (by decide) rfl (fun ls hl => ?_)
  have lo_4 : ∀ n_4 : Nat, ∀ (v_1 : Int32) (v_2 : Int32) (H_j4 : Heap) (locs : List Loc) (ls : Array Slot), (2147483647 - v_1.toInt).toNat = n_4 → (0 ≤ v_1.toInt ∧ v_1.toInt ≤ 2147483647) → py_W E (va_A (va_pl L f) s.heap.size) s L f H_j4 locs → lv_has ls 3 [(2, .int v_1), (1, .int v_2), (0, .ref h)] → W p l e (headSpec w_X2_fullBits ({ frames := 2, cells := 0, slots := 0, locals := 44 })).room s m ([.ref h] : List Value).toArray below meth c H_j4 locs 0 0 (MQ below (py_Qi E L f s.heap.size (fun _ L1 f1 => L = L1 ∧ f = f1)) ([.ref h] : List Value).toArray s 0 0 (va_A (va_pl L f) s.heap.size)) (F0 m 4 ls []) := by
    intro n_4
    induction n_4 using Nat.strongRecOn with
    | _ n_4 ih_4 =>
      intro v_1 v_2 H_j4 locs ls hn_4 bv_1 hw hl
      refine lv_iload_n G0.1 G0.2.1 dX2_fullBits_4 rfl (lv_at hl 0 rfl) ?_
      refine lv_aload_n G0.1 G0.2.1 dX2_fullBits_5 rfl (lv_at hl 2 rfl) ?_
      obtain ⟨t_3, t_4, t_5, t_6, t_7, t_8, t_9, t_10, t_11⟩ := wt_2 hG Th
      obtain ⟨r_12, y_13, v_14, hr_17, ty_15, b_16⟩ := wg_2 hWF Th
      refine py_get (C := RX2) (T := TX2) (N := 12) (k := 9) (v := .ref r_12) G0 hw in_X2_fullBits_X2 rfl hr_17 (by decide) (by decide +kernel) rfl dX2_fullBits_6 ?_
      obtain ⟨t_18, t_19, t_20, t_21, t_22, t_23, t_24, t_25⟩ := wt_9 hG ty_15
      obtain ⟨v_26, v_27, hr_30, b_28, b_29⟩ := wg_9 hWF ty_15
      have tq_31 := va_eq hr_30
      refine py_get (C := RX9) (T := TX9) (N := 10) (k := 8) (v := .int v_26) G0 hw in_X2_fullBits_X9 rfl hr_30 (by decide) (by decide +kernel) rfl dX2_fullBits_9 ?_
      refine lv_icmp_ge (tgt := 39) G0.1 G0.2.1 dX2_fullBits_12 (by decide) (fun c_32 => ?_) (fun c_32 => ?_)
      · skip
        have tc_32 := ti_le c_32
        refine lv_iload_n G0.1 G0.2.1 dX2_fullBits_39 rfl (lv_at hl 1 rfl) ?_
        exact py_iret G0 hr rfl hlk hw ⟨rfl, rfl⟩ dX2_fullBits_40
      · skip
        have tc_32 := ti_nle c_32
        refine lv_iload_n G0.1 G0.2.1 dX2_fullBits_15 rfl (lv_at hl 1 rfl) ?_
        refine lv_aload_n G0.1 G0.2.1 dX2_fullBits_16 rfl (lv_at hl 2 rfl) ?_
        refine lv_iload_n G0.1 G0.2.1 dX2_fullBits_17 rfl (lv_at hl 0 rfl) ?_
        refine py_calli hw (va_runV (As := [.int v_1]) (rest := [.int v_2]) G0 (c_X2_emptyHuts l E G L f H_j4.size h v_1 hG hWF Th ⟨by omega, by omega⟩) (cwV 1 G0.2.2.2.2 g_X2_fullBits_X2_emptyHuts_113 rfl rfl rfl (by decide +kernel) ⟨(Nat.le_of_ble_eq_true rfl), (Nat.le_of_ble_eq_true rfl)⟩) (py_preV hw (C := RX2) (T := TX2) (N := 12) rfl hr_17) rfl rfl hl.1 rfl (lv_room (Nat.le_of_ble_eq_true rfl)) dX2_fullBits_18 ⟨(Nat.le_of_ble_eq_true rfl), (Nat.le_of_ble_eq_true rfl)⟩) (fun r_37 L_33 f_34 H_35 locs hp_36 hw => ?_)
        obtain ⟨rfl, rfl⟩ := hp_36
        have br_37 := wf_free r_37
        have jn_31 : ∀ (v_38 : Int32) (H_j31 : Heap) (locs : List Loc) (ls : Array Slot), py_W E (va_A (va_pl L f) s.heap.size) s L f H_j31 locs → lv_has ls 3 [(2, .int v_1), (1, .int v_2), (0, .ref h)] → W p l e (headSpec w_X2_fullBits ({ frames := 2, cells := 0, slots := 0, locals := 44 })).room s m ([.ref h] : List Value).toArray below meth c H_j31 locs 0 0 (MQ below (py_Qi E L f s.heap.size (fun _ L1 f1 => L = L1 ∧ f = f1)) ([.ref h] : List Value).toArray s 0 0 (va_A (va_pl L f) s.heap.size)) (F0 m 31 ls [.int v_38, .int v_2]) := by
          intro v_38 H_j31 locs ls hw hl
          refine lv_ior G0.1 G0.2.1 dX2_fullBits_31 ?_
          refine lv_topi (fun x_39 ex_39 => ?_)
          first | have bx_39 := ti_or ex_39 ⟨by omega, by omega⟩ ⟨by omega, by omega⟩ | skip
          refine lv_istore_n (lv' := [(1, .int x_39), (2, .int v_1), (0, .ref h)]) G0.1 G0.2.1 dX2_fullBits_32 rfl hl (by decide) rfl (fun ls hl => ?_)
          obtain ⟨x_40, ex_40⟩ : ∃ y : Int32, y = v_1 + 1 := ⟨_, rfl⟩
          first | have tx_40 := ti_add ex_40 (by omega) (by omega) | skip
          refine lv_iinc (v := x_40) (lv' := [(2, .int x_40), (1, .int x_39), (0, .ref h)]) G0.1 G0.2.1 dX2_fullBits_33 hl (k := 1) rfl (show _ + (1 : Int32) = _ from ex_40.symm) (by decide) rfl (fun ls hl => ?_)
          refine lv_goto (tgt := 4) G0.1 G0.2.1 dX2_fullBits_36 (by decide) ?_
          exact ih_4 ((2147483647 - x_40.toInt).toNat) (by omega) x_40 x_39 _ _ ls rfl ⟨by omega, by omega⟩ hw (lv_sub hl [0, 1, 2] rfl)
        refine lv_if_le (tgt := 28) G0.1 G0.2.1 dX2_fullBits_21 (by decide) (fun c_41 => ?_) (fun c_41 => ?_)
        · skip
          have tc_41 := ti_le c_41
          refine lv_iconst (v := 1) G0.1 G0.2.1 dX2_fullBits_28 (by decide) ?_
          refine lv_iload_n G0.1 G0.2.1 dX2_fullBits_29 rfl (lv_at hl 0 rfl) ?_
          refine lv_ishl G0.1 G0.2.1 dX2_fullBits_30 ?_
          refine lv_topi (fun x_42 ex_42 => ?_)
          first | have bx_42 : 0 ≤ x_42.toInt ∧ x_42.toInt ≤ 512 := (by rcases ti_ten v_1 (by omega) (by omega) with h | h | h | h | h | h | h | h | h | h <;> (rw [ex_42, h]; decide +kernel)) | skip
          exact jn_31 x_42 _ _ ls hw (lv_sub hl [0, 1, 2] rfl)
        · skip
          have tc_41 := ti_nle c_41
          refine lv_iconst (v := 0) G0.1 G0.2.1 dX2_fullBits_24 (by decide) ?_
          refine lv_goto (tgt := 31) G0.1 G0.2.1 dX2_fullBits_25 (by decide) ?_
          exact jn_31 0 _ _ ls hw (lv_sub hl [0, 1, 2] rfl)
  exact lo_4 _ 0 0 _ _ ls rfl ⟨by omega, by omega⟩ hw (lv_sub hl [0, 1, 2] rfl)

def w_X2_draw : List Cond := .code yX2_draw cX2_draw 2 (some .int) :: ([Cond.fieldLink RX2 47 "HeadYear$Folk" "x" "J", Cond.constantLong RX2 72 (6364136223846793005), Cond.constantLong RX2 74 (1442695040888963407)] ++ (u_ws RX2 TX2 12 ++ ([])))
theorem in_X2_draw_X2 : ∀ w ∈ u_ws RX2 TX2 12, w ∈ w_X2_draw := fun _ h => List.mem_cons_of_mem _ (List.mem_append_right _ (List.mem_append_left _ h))
set_option maxHeartbeats 4000000 in
set_option maxRecDepth 100000 in
theorem c_X2_draw (l : Launch) (E : py_E) (G : wf_G) (L : List Nat) (f : py_F) (sz : Nat) (h : Nat) (a : Int32) (hG : GT G) (hWF : WF E G L f) (Th : G.1 h = 3) : Met l yX2_draw w_X2_draw ({ frames := 0, cells := 0, slots := 0, locals := 0 }) (py_Pc E [.ref h, .int a] L f sz) (py_Qi E L f sz (fun _ L1 f1 => WF E G L1 f1 ∧ RP E G f f1 ∧ KP G [3] false f f1)) 0 0 (va_A (va_pl L f) sz) := by
  refine Met.ofW (cc := cX2_draw) (maxL := 2) (ret := (some .int)) (by decide) rfl ?_
  intro p e s m args below meth c s₁ B hml hv
  obtain ⟨rfl, rfl, hw⟩ := py_start hv
  have G0 : CallFix p m c cX2_draw 2 s _ w_X2_draw RX2 := ⟨B.exec, B.bytes, hml, findClass_of_methodNamed B.named, atoms_spec (ws := w_X2_draw) B.pre⟩
  have hr := B.returns
  have hlk := B.notSynchronized
  have kcm1 : (-1 : Int32).toInt = -1 := rfl
  have kc0 : (0 : Int32).toInt = 0 := rfl
  have kc1 : (1 : Int32).toInt = 1 := rfl
  have kc33 : (33 : Int32).toInt = 33 := rfl
  have hl := lv_entry ([.ref h, .int a]) (n := 2) (Nat.le_of_ble_eq_true rfl)
  rw [lg_entry_eq]
  generalize (lg_sl ([.ref h, .int a]) ++ List.replicate (2 - (lg_sl ([.ref h, .int a])).length) Slot.unset).toArray = ls at hl ⊢
  have hl : lv_has ls 2 [(0, .ref h), (1, .int a)] := hl
  have hRP : RP E G f f := RP.refl
  have hKP : KP G [3] false f f := KP.refl
  refine lv_aload_n G0.1 G0.2.1 dX2_draw_0 rfl (lv_at hl 0 rfl) ?_
  refine lv_aload_n G0.1 G0.2.1 dX2_draw_1 rfl (lv_at hl 0 rfl) ?_
  obtain ⟨t_1, t_2, t_3, t_4, t_5, t_6, t_7, t_8, t_9⟩ := wt_2 hG Th
  obtain ⟨r_10, y_11, v_12, hr_15, ty_13, b_14⟩ := wg_2 hWF Th
  refine py_get (C := RX2) (T := TX2) (N := 12) (k := 10) (v := .long y_11) G0 hw in_X2_draw_X2 rfl hr_15 (by decide) (by decide +kernel) rfl dX2_draw_2 ?_
  refine lv_ldc2 (v := 6364136223846793005) G0.1 G0.2.1 G0.2.2.2.1 (G0.2.2.2.2 (Cond.constantLong RX2 72 (6364136223846793005)) (by decide +kernel)) dX2_draw_5 ?_
  refine lv_lmul G0.1 G0.2.1 dX2_draw_8 ?_
  refine lv_topl (fun y_16 ey_16 => ?_)
  refine lv_ldc2 (v := 1442695040888963407) G0.1 G0.2.1 G0.2.2.2.1 (G0.2.2.2.2 (Cond.constantLong RX2 74 (1442695040888963407)) (by decide +kernel)) dX2_draw_9 ?_
  refine lv_ladd G0.1 G0.2.1 dX2_draw_12 ?_
  refine lv_topl (fun y_17 ey_17 => ?_)
  refine py_put (C := RX2) (T := TX2) (N := 12) (k := 10) (v := .long y_17) (fs' := [.ref (G.2 h 0), .ref (G.2 h 1), .ref (G.2 h 2), .ref (G.2 h 3), .ref (G.2 h 4), .ref (G.2 h 5), .ref (G.2 h 6), .ref (G.2 h 7), .ref (G.2 h 8), .ref r_10, .long y_17, .int v_12]) (ty0 := tyX2) G0 hw tyX2_ok nmX2 in_X2_draw_X2 rfl hr_15 (by decide) (by decide +kernel) rfl rfl rfl rfl (Nat.le_of_ble_eq_true rfl) rfl dX2_draw_13 (fun f_18 H_19 locs h_20 x_21 hw => ?_)
  have hKP := hKP.upd hWF x_21 Th (Or.inl (by decide))
  have hRP := hRP.trans (rp_upd hG hWF x_21 hr_15.2 h_20.2 (rp_code hG Th (by decide)) rfl)
  have hWF := wf_upd hWF h_20 x_21 (by rw [Th]; exact ⟨r_10, y_17, v_12, rfl, ty_13, ⟨by omega, by omega⟩⟩)
  refine lv_iload_n G0.1 G0.2.1 dX2_draw_16 rfl (lv_at hl 1 rfl) ?_
  have jn_35 : ∀ (v_22 : Int32) (H_j35 : Heap) (locs : List Loc) (ls : Array Slot), py_W E (va_A (va_pl L f) s.heap.size) s L f_18 H_j35 locs → lv_has ls 2 [(0, .ref h), (1, .int a)] → W p l e (headSpec w_X2_draw ({ frames := 0, cells := 0, slots := 0, locals := 0 })).room s m ([.ref h, .int a] : List Value).toArray below meth c H_j35 locs 0 0 (MQ below (py_Qi E L f s.heap.size (fun _ L1 f1 => WF E G L1 f1 ∧ RP E G f f1 ∧ KP G [3] false f f1)) ([.ref h, .int a] : List Value).toArray s 0 0 (va_A (va_pl L f) s.heap.size)) (F0 m 35 ls [.int v_22]) := by
    intro v_22 H_j35 locs ls hw hl
    exact py_iret G0 hr rfl hlk hw ⟨hWF, hRP, hKP⟩ dX2_draw_35
  refine lv_if_le (tgt := 34) G0.1 G0.2.1 dX2_draw_17 (by decide) (fun c_23 => ?_) (fun c_23 => ?_)
  · skip
    have tc_23 := ti_le c_23
    refine lv_iconst (v := 0) G0.1 G0.2.1 dX2_draw_34 (by decide) ?_
    exact jn_35 0 _ _ ls hw (lv_sub hl [0, 1] rfl)
  · skip
    have tc_23 := ti_nle c_23
    refine lv_aload_n G0.1 G0.2.1 dX2_draw_20 rfl (lv_at hl 0 rfl) ?_
    refine py_get (C := RX2) (T := TX2) (N := 12) (k := 10) (v := .long y_17) G0 hw in_X2_draw_X2 rfl h_20 (by decide) (by decide +kernel) rfl dX2_draw_21 ?_
    refine lv_bipush (v := 33) G0.1 G0.2.1 dX2_draw_24 (by decide) ?_
    refine lv_lushr G0.1 G0.2.1 dX2_draw_26 rfl ?_
    refine lv_topl (fun y_24 ey_24 => ?_)
    refine lv_iload_n G0.1 G0.2.1 dX2_draw_27 rfl (lv_at hl 1 rfl) ?_
    refine lv_i2l (v := a.toInt64) G0.1 G0.2.1 dX2_draw_28 rfl ?_
    refine lv_lrem G0.1 G0.2.1 dX2_draw_29 (i64_ne (by omega)) ?_
    refine lv_topl (fun y_25 ey_25 => ?_)
    refine lv_l2i G0.1 G0.2.1 dX2_draw_30 rfl ?_
    refine lv_topi (fun x_26 ex_26 => ?_)
    refine lv_goto (tgt := 35) G0.1 G0.2.1 dX2_draw_31 (by decide) ?_
    exact jn_35 x_26 _ _ ls hw (lv_sub hl [0, 1] rfl)

def w_X2_move : List Cond := .code yX2_move cX2_move 4 none :: ([Cond.fieldLink RX2 17 "HeadYear$Folk" "level" "[I", Cond.fieldLink RX2 20 "HeadYear$Folk" "hut" "[I", Cond.fieldLink RX2 23 "HeadYear$Folk" "debt" "[I"] ++ (u_ws RX2 TX2 12 ++ ([])))
theorem in_X2_move_X2 : ∀ w ∈ u_ws RX2 TX2 12, w ∈ w_X2_move := fun _ h => List.mem_cons_of_mem _ (List.mem_append_right _ (List.mem_append_left _ h))
set_option maxHeartbeats 4000000 in
set_option maxRecDepth 100000 in
theorem c_X2_move (l : Launch) (E : py_E) (G : wf_G) (L : List Nat) (f : py_F) (sz : Nat) (h : Nat) (a : Int32) (b : Int32) (q : Int32) (hG : GT G) (hWF : WF E G L f) (Th : G.1 h = 3) (Ba : (0 ≤ a.toInt ∧ a.toInt ≤ 9)) (Bb : (0 ≤ b.toInt ∧ b.toInt ≤ 7)) : Met l yX2_move w_X2_move ({ frames := 0, cells := 0, slots := 0, locals := 0 }) (py_Pc E [.ref h, .int a, .int b, .int q] L f sz) (py_Qv E L f sz (fun L1 f1 => (MV G f f1 h a b) ∧ WF E G L1 f1 ∧ RP E G f f1 ∧ KP G [26, 37] true f f1)) 0 0 (va_A (va_pl L f) sz) := by
  refine Met.ofW (cc := cX2_move) (maxL := 4) (ret := none) (by decide) rfl ?_
  intro p e s m args below meth c s₁ B hml hv
  obtain ⟨rfl, rfl, hw⟩ := py_start hv
  have G0 : CallFix p m c cX2_move 4 s _ w_X2_move RX2 := ⟨B.exec, B.bytes, hml, findClass_of_methodNamed B.named, atoms_spec (ws := w_X2_move) B.pre⟩
  have hr := B.returns
  have hlk := B.notSynchronized
  have kcm1 : (-1 : Int32).toInt = -1 := rfl
  have kc0 : (0 : Int32).toInt = 0 := rfl
  have kc1 : (1 : Int32).toInt = 1 := rfl
  have hl := lv_entry ([.ref h, .int a, .int b, .int q]) (n := 4) (Nat.le_of_ble_eq_true rfl)
  rw [lg_entry_eq]
  generalize (lg_sl ([.ref h, .int a, .int b, .int q]) ++ List.replicate (4 - (lg_sl ([.ref h, .int a, .int b, .int q])).length) Slot.unset).toArray = ls at hl ⊢
  have hl : lv_has ls 4 [(0, .ref h), (1, .int a), (2, .int b), (3, .int q)] := hl
  have hRP : RP E G f f := RP.refl
  have hKP : KP G [26, 37] true f f := KP.refl
  refine lv_aload_n G0.1 G0.2.1 dX2_move_0 rfl (lv_at hl 0 rfl) ?_
  obtain ⟨t_1, t_2, t_3, t_4, t_5, t_6, t_7, t_8, t_9⟩ := wt_2 hG Th
  obtain ⟨r_10, y_11, v_12, hr_15, ty_13, b_14⟩ := wg_2 hWF Th
  refine py_get (C := RX2) (T := TX2) (N := 12) (k := 1) (v := .ref (G.2 h 1)) G0 hw in_X2_move_X2 rfl hr_15 (by decide) (by decide +kernel) rfl dX2_move_1 ?_
  refine lv_iload_n G0.1 G0.2.1 dX2_move_4 rfl (lv_at hl 1 rfl) ?_
  refine lv_iload_n G0.1 G0.2.1 dX2_move_5 rfl (lv_at hl 2 rfl) ?_
  obtain ⟨g_16, ha_17, hi_18⟩ := wf_arr (n := 10) (lo := (-1)) (hi := 7) hWF t_2 (by omega) (wf_own1 E G _ h)
  have rg_19 : vp_in a 10 := ti_in (by omega) (by omega)
  refine py_iast G0 hw ha_17 rg_19 dX2_move_6 (fun f_20 H_21 locs h_22 x_23 hw => ?_)
  have hkw : KP G [] true f f_20 := KP.refl.upd hWF x_23 t_2 (Or.inr ⟨rfl, by omega⟩)
  have hKP := hKP.upd hWF x_23 t_2 (Or.inr ⟨rfl, by omega⟩)
  have hRP := hRP.trans (rp_level hG hWF Th x_23 ha_17 h_22 (by first | exact Or.inl (by omega) | exact Or.inr (fun gh q => by rw [in_inj (q.symm.trans hh0.2), upd_at]; omega)))
  have hi_24 := wf_inu (k := (a : Int32).toNatClampNeg) (x := b) hi_18 (by omega) (by omega)
  have hWF := wf_upd hWF h_22 x_23 (by rw [t_2, wf_own1]; exact ⟨_, rfl, hi_24⟩)
  have hr_15 := hr_15.ext x_23 (py_ne_arr hr_15 ha_17)
  have mp1 := ha_17
  have mp1' := h_22
  have em1 := (x_23 (G.2 h 3) (hWF (G.2 h 3) (by rw [t_4]; omega)).1 (wf_ne t_4 t_2 (by omega))).2
  refine lv_aload_n G0.1 G0.2.1 dX2_move_7 rfl (lv_at hl 0 rfl) ?_
  refine py_get (C := RX2) (T := TX2) (N := 12) (k := 2) (v := .ref (G.2 h 2)) G0 hw in_X2_move_X2 rfl hr_15 (by decide) (by decide +kernel) rfl dX2_move_8 ?_
  refine lv_iload_n G0.1 G0.2.1 dX2_move_11 rfl (lv_at hl 1 rfl) ?_
  refine lv_iload_n G0.1 G0.2.1 dX2_move_12 rfl (lv_at hl 3 rfl) ?_
  obtain ⟨g_25, ha_26, hi_27⟩ := wf_arr (n := 10) (lo := (-2147483648)) (hi := 2147483647) hWF t_3 (by decide) (fun _ => rfl)
  have rg_28 : vp_in a 10 := ti_in (by omega) (by omega)
  refine py_iast G0 hw ha_26 rg_28 dX2_move_13 (fun f_29 H_30 locs h_31 x_32 hw => ?_)
  have hkw : KP G [26] false f_20 f_29 := KP.refl.upd hWF x_32 t_3 (Or.inl (by decide))
  have hKP := hKP.upd hWF x_32 t_3 (Or.inl (by decide))
  have hRP := hRP.trans (rp_upd hG hWF x_32 ha_26.2 h_31.2 (rp_code hG t_3 (by decide)) rfl)
  have hi_33 := wf_inu (k := (a : Int32).toNatClampNeg) (x := q) hi_27 (wf_free q).1 (wf_free q).2
  have hWF := wf_upd hWF h_31 x_32 (by rw [t_3]; exact ⟨_, rfl, hi_33⟩)
  have hr_15 := hr_15.ext x_32 (py_ne_arr hr_15 ha_26)
  have em2 := (x_32 (G.2 h 1) (hWF (G.2 h 1) (by rw [t_2]; omega)).1 (wf_ne t_2 t_3 (by omega))).2
  have em3 := (x_32 (G.2 h 3) (hWF (G.2 h 3) (by rw [t_4]; omega)).1 (wf_ne t_4 t_3 (by omega))).2
  refine lv_aload_n G0.1 G0.2.1 dX2_move_14 rfl (lv_at hl 0 rfl) ?_
  refine py_get (C := RX2) (T := TX2) (N := 12) (k := 3) (v := .ref (G.2 h 3)) G0 hw in_X2_move_X2 rfl hr_15 (by decide) (by decide +kernel) rfl dX2_move_15 ?_
  refine lv_iload_n G0.1 G0.2.1 dX2_move_18 rfl (lv_at hl 1 rfl) ?_
  refine lv_iconst (v := 0) G0.1 G0.2.1 dX2_move_19 (by decide) ?_
  obtain ⟨g_34, ha_35, hi_36⟩ := wf_arr (n := 10) (lo := (-2147483648)) (hi := 2147483647) hWF t_4 (by decide) (fun _ => rfl)
  have rg_37 : vp_in a 10 := ti_in (by omega) (by omega)
  refine py_iast G0 hw ha_35 rg_37 dX2_move_20 (fun f_38 H_39 locs h_40 x_41 hw => ?_)
  have hkw : KP G [37] false f_29 f_38 := KP.refl.upd hWF x_41 t_4 (Or.inl (by decide))
  have hKP := hKP.upd hWF x_41 t_4 (Or.inl (by decide))
  have hRP := hRP.trans (rp_upd hG hWF x_41 ha_35.2 h_40.2 (rp_code hG t_4 (by decide)) rfl)
  have hi_42 := wf_inu (k := (a : Int32).toNatClampNeg) (x := 0) hi_36 (wf_free 0).1 (wf_free 0).2
  have hWF := wf_upd hWF h_40 x_41 (by rw [t_4]; exact ⟨_, rfl, hi_42⟩)
  have hr_15 := hr_15.ext x_41 (py_ne_arr hr_15 ha_35)
  have h_31 := h_31.ext x_41 (wf_ne t_3 t_4 (by decide))
  have em4 := (x_41 (G.2 h 1) (hWF (G.2 h 1) (by rw [t_2]; omega)).1 (wf_ne t_2 t_4 (by omega))).2
  have hMV : MV G f f_38 h a b := mv_of mp1 mp1' em1 em2 em3 ha_35 h_40 rfl em4
  exact py_vret G0 hr hlk hw ⟨hMV, hWF, hRP, hKP⟩ dX2_move_21

def w_X2_empty : List Cond := .code yX2_empty cX2_empty 2 none :: ([Cond.fieldLink RX2 11 "HeadYear$Folk" "heads" "[I", Cond.fieldLink RX2 17 "HeadYear$Folk" "level" "[I", Cond.fieldLink RX2 20 "HeadYear$Folk" "hut" "[I", Cond.fieldLink RX2 23 "HeadYear$Folk" "debt" "[I", Cond.fieldLink RX2 32 "HeadYear$Folk" "bought" "[I", Cond.fieldLink RX2 38 "HeadYear$Folk" "hushed" "[Z"] ++ (u_ws RX2 TX2 12 ++ ([])))
theorem in_X2_empty_X2 : ∀ w ∈ u_ws RX2 TX2 12, w ∈ w_X2_empty := fun _ h => List.mem_cons_of_mem _ (List.mem_append_right _ (List.mem_append_left _ h))
set_option maxHeartbeats 4000000 in
set_option maxRecDepth 100000 in
theorem c_X2_empty (l : Launch) (E : py_E) (G : wf_G) (L : List Nat) (f : py_F) (sz : Nat) (h : Nat) (a : Int32) (hG : GT G) (hWF : WF E G L f) (Th : G.1 h = 3) (Ba : (0 ≤ a.toInt ∧ a.toInt ≤ 9)) : Met l yX2_empty w_X2_empty ({ frames := 0, cells := 0, slots := 0, locals := 0 }) (py_Pc E [.ref h, .int a] L f sz) (py_Qv E L f sz (fun L1 f1 => WF E G L1 f1 ∧ RP E G f f1 ∧ KP G [26, 37, 30] true f f1)) 0 0 (va_A (va_pl L f) sz) := by
  refine Met.ofW (cc := cX2_empty) (maxL := 2) (ret := none) (by decide) rfl ?_
  intro p e s m args below meth c s₁ B hml hv
  obtain ⟨rfl, rfl, hw⟩ := py_start hv
  have G0 : CallFix p m c cX2_empty 2 s _ w_X2_empty RX2 := ⟨B.exec, B.bytes, hml, findClass_of_methodNamed B.named, atoms_spec (ws := w_X2_empty) B.pre⟩
  have hr := B.returns
  have hlk := B.notSynchronized
  have kcm1 : (-1 : Int32).toInt = -1 := rfl
  have kc0 : (0 : Int32).toInt = 0 := rfl
  have kc1 : (1 : Int32).toInt = 1 := rfl
  have hl := lv_entry ([.ref h, .int a]) (n := 2) (Nat.le_of_ble_eq_true rfl)
  rw [lg_entry_eq]
  generalize (lg_sl ([.ref h, .int a]) ++ List.replicate (2 - (lg_sl ([.ref h, .int a])).length) Slot.unset).toArray = ls at hl ⊢
  have hl : lv_has ls 2 [(0, .ref h), (1, .int a)] := hl
  have hRP : RP E G f f := RP.refl
  have hKP : KP G [26, 37, 30] true f f := KP.refl
  refine lv_aload_n G0.1 G0.2.1 dX2_empty_0 rfl (lv_at hl 0 rfl) ?_
  obtain ⟨t_1, t_2, t_3, t_4, t_5, t_6, t_7, t_8, t_9⟩ := wt_2 hG Th
  obtain ⟨r_10, y_11, v_12, hr_15, ty_13, b_14⟩ := wg_2 hWF Th
  refine py_get (C := RX2) (T := TX2) (N := 12) (k := 0) (v := .ref (G.2 h 0)) G0 hw in_X2_empty_X2 rfl hr_15 (by decide) (by decide +kernel) rfl dX2_empty_1 ?_
  refine lv_iload_n G0.1 G0.2.1 dX2_empty_4 rfl (lv_at hl 1 rfl) ?_
  refine lv_iconst (v := 0) G0.1 G0.2.1 dX2_empty_5 (by decide) ?_
  obtain ⟨g_16, ha_17, hi_18⟩ := wf_arr (n := 10) (lo := 0) (hi := 20) hWF t_1 (by omega) (wf_own0 E G _ h)
  have rg_19 : vp_in a 10 := ti_in (by omega) (by omega)
  refine py_iast G0 hw ha_17 rg_19 dX2_empty_6 (fun f_20 H_21 locs h_22 x_23 hw => ?_)
  have hKP := hKP.upd hWF x_23 t_1 (Or.inr ⟨rfl, by omega⟩)
  have hRP := hRP.trans (rp_heads hG hWF Th x_23 ha_17 h_22 (by first | exact Or.inl (by omega) | exact Or.inr (fun gl q => by have hz := ari_row q a; omega)))
  have hh0 := h_22
  have hi_24 := wf_inu (k := (a : Int32).toNatClampNeg) (x := 0) hi_18 (by omega) (by omega)
  have hWF := wf_upd hWF h_22 x_23 (by rw [t_1, wf_own0]; exact ⟨_, rfl, hi_24⟩)
  have hr_15 := hr_15.ext x_23 (py_ne_arr hr_15 ha_17)
  refine lv_aload_n G0.1 G0.2.1 dX2_empty_7 rfl (lv_at hl 0 rfl) ?_
  refine py_get (C := RX2) (T := TX2) (N := 12) (k := 1) (v := .ref (G.2 h 1)) G0 hw in_X2_empty_X2 rfl hr_15 (by decide) (by decide +kernel) rfl dX2_empty_8 ?_
  refine lv_iload_n G0.1 G0.2.1 dX2_empty_11 rfl (lv_at hl 1 rfl) ?_
  refine lv_iconst (v := (-1)) G0.1 G0.2.1 dX2_empty_12 (by decide) ?_
  obtain ⟨g_25, ha_26, hi_27⟩ := wf_arr (n := 10) (lo := (-1)) (hi := 7) hWF t_2 (by omega) (wf_own1 E G _ h)
  have rg_28 : vp_in a 10 := ti_in (by omega) (by omega)
  refine py_iast G0 hw ha_26 rg_28 dX2_empty_13 (fun f_29 H_30 locs h_31 x_32 hw => ?_)
  have hKP := hKP.upd hWF x_32 t_2 (Or.inr ⟨rfl, by omega⟩)
  have hRP := hRP.trans (rp_level hG hWF Th x_32 ha_26 h_31 (by first | exact Or.inl (by omega) | exact Or.inr (fun gh q => by rw [in_inj (q.symm.trans hh0.2), upd_at]; omega)))
  have hi_33 := wf_inu (k := (a : Int32).toNatClampNeg) (x := (-1)) hi_27 (by omega) (by omega)
  have hWF := wf_upd hWF h_31 x_32 (by rw [t_2, wf_own1]; exact ⟨_, rfl, hi_33⟩)
  have hr_15 := hr_15.ext x_32 (py_ne_arr hr_15 ha_26)
  refine lv_aload_n G0.1 G0.2.1 dX2_empty_14 rfl (lv_at hl 0 rfl) ?_
  refine py_get (C := RX2) (T := TX2) (N := 12) (k := 2) (v := .ref (G.2 h 2)) G0 hw in_X2_empty_X2 rfl hr_15 (by decide) (by decide +kernel) rfl dX2_empty_15 ?_
  refine lv_iload_n G0.1 G0.2.1 dX2_empty_18 rfl (lv_at hl 1 rfl) ?_
  refine lv_iconst (v := (-1)) G0.1 G0.2.1 dX2_empty_19 (by decide) ?_
  obtain ⟨g_34, ha_35, hi_36⟩ := wf_arr (n := 10) (lo := (-2147483648)) (hi := 2147483647) hWF t_3 (by decide) (fun _ => rfl)
  have rg_37 : vp_in a 10 := ti_in (by omega) (by omega)
  refine py_iast G0 hw ha_35 rg_37 dX2_empty_20 (fun f_38 H_39 locs h_40 x_41 hw => ?_)
  have hKP := hKP.upd hWF x_41 t_3 (Or.inl (by decide))
  have hRP := hRP.trans (rp_upd hG hWF x_41 ha_35.2 h_40.2 (rp_code hG t_3 (by decide)) rfl)
  have hi_42 := wf_inu (k := (a : Int32).toNatClampNeg) (x := (-1)) hi_36 (wf_free (-1)).1 (wf_free (-1)).2
  have hWF := wf_upd hWF h_40 x_41 (by rw [t_3]; exact ⟨_, rfl, hi_42⟩)
  have hr_15 := hr_15.ext x_41 (py_ne_arr hr_15 ha_35)
  refine lv_aload_n G0.1 G0.2.1 dX2_empty_21 rfl (lv_at hl 0 rfl) ?_
  refine py_get (C := RX2) (T := TX2) (N := 12) (k := 3) (v := .ref (G.2 h 3)) G0 hw in_X2_empty_X2 rfl hr_15 (by decide) (by decide +kernel) rfl dX2_empty_22 ?_
  refine lv_iload_n G0.1 G0.2.1 dX2_empty_25 rfl (lv_at hl 1 rfl) ?_
  refine lv_iconst (v := 0) G0.1 G0.2.1 dX2_empty_26 (by decide) ?_
  obtain ⟨g_43, ha_44, hi_45⟩ := wf_arr (n := 10) (lo := (-2147483648)) (hi := 2147483647) hWF t_4 (by decide) (fun _ => rfl)
  have rg_46 : vp_in a 10 := ti_in (by omega) (by omega)
  refine py_iast G0 hw ha_44 rg_46 dX2_empty_27 (fun f_47 H_48 locs h_49 x_50 hw => ?_)
  have hKP := hKP.upd hWF x_50 t_4 (Or.inl (by decide))
  have hRP := hRP.trans (rp_upd hG hWF x_50 ha_44.2 h_49.2 (rp_code hG t_4 (by decide)) rfl)
  have hi_51 := wf_inu (k := (a : Int32).toNatClampNeg) (x := 0) hi_45 (wf_free 0).1 (wf_free 0).2
  have hWF := wf_upd hWF h_49 x_50 (by rw [t_4]; exact ⟨_, rfl, hi_51⟩)
  have hr_15 := hr_15.ext x_50 (py_ne_arr hr_15 ha_44)
  have h_40 := h_40.ext x_50 (wf_ne t_3 t_4 (by decide))
  refine lv_aload_n G0.1 G0.2.1 dX2_empty_28 rfl (lv_at hl 0 rfl) ?_
  refine py_get (C := RX2) (T := TX2) (N := 12) (k := 6) (v := .ref (G.2 h 6)) G0 hw in_X2_empty_X2 rfl hr_15 (by decide) (by decide +kernel) rfl dX2_empty_29 ?_
  refine lv_iload_n G0.1 G0.2.1 dX2_empty_32 rfl (lv_at hl 1 rfl) ?_
  refine lv_iconst (v := 0) G0.1 G0.2.1 dX2_empty_33 (by decide) ?_
  obtain ⟨g_52, ha_53, hi_54⟩ := wf_arr (n := 10) (lo := (-2147483648)) (hi := 2147483647) hWF t_7 (by decide) (fun _ => rfl)
  have rg_55 : vp_in a 10 := ti_in (by omega) (by omega)
  refine py_iast G0 hw ha_53 rg_55 dX2_empty_34 (fun f_56 H_57 locs h_58 x_59 hw => ?_)
  have hKP := hKP.upd hWF x_59 t_7 (Or.inl (by decide))
  have hRP := hRP.trans (rp_upd hG hWF x_59 ha_53.2 h_58.2 (rp_code hG t_7 (by decide)) rfl)
  have hi_60 := wf_inu (k := (a : Int32).toNatClampNeg) (x := 0) hi_54 (wf_free 0).1 (wf_free 0).2
  have hWF := wf_upd hWF h_58 x_59 (by rw [t_7]; exact ⟨_, rfl, hi_60⟩)
  have hr_15 := hr_15.ext x_59 (py_ne_arr hr_15 ha_53)
  have h_49 := h_49.ext x_59 (wf_ne t_4 t_7 (by decide))
  refine lv_aload_n G0.1 G0.2.1 dX2_empty_35 rfl (lv_at hl 0 rfl) ?_
  refine py_get (C := RX2) (T := TX2) (N := 12) (k := 8) (v := .ref (G.2 h 8)) G0 hw in_X2_empty_X2 rfl hr_15 (by decide) (by decide +kernel) rfl dX2_empty_36 ?_
  refine lv_iload_n G0.1 G0.2.1 dX2_empty_39 rfl (lv_at hl 1 rfl) ?_
  refine lv_iconst (v := 0) G0.1 G0.2.1 dX2_empty_40 (by decide) ?_
  obtain ⟨g_61, ha_62⟩ := wf_z30 hWF t_9
  have rg_63 : vp_in a 10 := ti_in (by omega) (by omega)
  refine py_zast G0 hw ha_62 rg_63 dX2_empty_41 (fun f_64 H_65 locs h_66 x_67 hw => ?_)
  have hKP := hKP.upd hWF x_67 t_9 (Or.inl (by decide))
  have hRP := hRP.trans (rp_upd hG hWF x_67 ha_62.2 h_66.2 (rp_code hG t_9 (by decide)) rfl)
  have hWF := wf_upd hWF h_66 x_67 (by rw [t_9]; exact ⟨_, rfl⟩)
  have hr_15 := hr_15.ext x_67 (py_ne_arr hr_15 ha_62)
  exact py_vret G0 hr hlk hw ⟨hWF, hRP, hKP⟩ dX2_empty_42
