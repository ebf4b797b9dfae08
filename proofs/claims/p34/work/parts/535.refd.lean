theorem dX12_canGo_0 : decode cX12_canGo 0 = .ok (.iconst 0, 1) := by decide +kernel
theorem dX12_canGo_1 : decode cX12_canGo 1 = .ok (.istore_n 2, 1) := by decide +kernel
theorem dX12_canGo_2 : decode cX12_canGo 2 = .ok (.iload_n 2, 1) := by decide +kernel
theorem dX12_canGo_3 : decode cX12_canGo 3 = .ok (.aload_n 0, 1) := by decide +kernel
theorem dX12_canGo_4 : decode cX12_canGo 4 = .ok (.getfield 302, 3) := by decide +kernel
theorem dX12_canGo_7 : decode cX12_canGo 7 = .ok (.if_icmp .ge 87, 3) := by decide +kernel
theorem dX12_canGo_10 : decode cX12_canGo 10 = .ok (.iconst 0, 1) := by decide +kernel
theorem dX12_canGo_11 : decode cX12_canGo 11 = .ok (.istore_n 3, 1) := by decide +kernel
theorem dX12_canGo_12 : decode cX12_canGo 12 = .ok (.iconst 0, 1) := by decide +kernel
theorem dX12_canGo_13 : decode cX12_canGo 13 = .ok (.istore 4, 2) := by decide +kernel
theorem dX12_canGo_15 : decode cX12_canGo 15 = .ok (.iload 4, 2) := by decide +kernel
theorem dX12_canGo_17 : decode cX12_canGo 17 = .ok (.aload_n 0, 1) := by decide +kernel
theorem dX12_canGo_18 : decode cX12_canGo 18 = .ok (.getfield 290, 3) := by decide +kernel
theorem dX12_canGo_21 : decode cX12_canGo 21 = .ok (.if_icmp .ge 55, 3) := by decide +kernel
theorem dX12_canGo_24 : decode cX12_canGo 24 = .ok (.iload_n 3, 1) := by decide +kernel
theorem dX12_canGo_25 : decode cX12_canGo 25 = .ok (.aload_n 0, 1) := by decide +kernel
theorem dX12_canGo_26 : decode cX12_canGo 26 = .ok (.iload 4, 2) := by decide +kernel
theorem dX12_canGo_28 : decode cX12_canGo 28 = .ok (.invokevirtual 341, 3) := by decide +kernel
theorem dX12_canGo_31 : decode cX12_canGo 31 = .ok (.ifCond .ne 36, 3) := by decide +kernel
theorem dX12_canGo_34 : decode cX12_canGo 34 = .ok (.iload_n 1, 1) := by decide +kernel
theorem dX12_canGo_35 : decode cX12_canGo 35 = .ok (.iload 4, 2) := by decide +kernel
theorem dX12_canGo_37 : decode cX12_canGo 37 = .ok (.invokestatic 250, 3) := by decide +kernel
theorem dX12_canGo_40 : decode cX12_canGo 40 = .ok (.ifCond .eq 12, 3) := by decide +kernel
theorem dX12_canGo_43 : decode cX12_canGo 43 = .ok (.aload_n 0, 1) := by decide +kernel
theorem dX12_canGo_44 : decode cX12_canGo 44 = .ok (.iload 4, 2) := by decide +kernel
theorem dX12_canGo_46 : decode cX12_canGo 46 = .ok (.invokevirtual 351, 3) := by decide +kernel
theorem dX12_canGo_49 : decode cX12_canGo 49 = .ok (.goto 10, 3) := by decide +kernel
theorem dX12_canGo_52 : decode cX12_canGo 52 = .ok (.aload_n 0, 1) := by decide +kernel
theorem dX12_canGo_53 : decode cX12_canGo 53 = .ok (.iload 4, 2) := by decide +kernel
theorem dX12_canGo_55 : decode cX12_canGo 55 = .ok (.iconst 1, 1) := by decide +kernel
theorem dX12_canGo_56 : decode cX12_canGo 56 = .ok (.invokevirtual 287, 3) := by decide +kernel
theorem dX12_canGo_59 : decode cX12_canGo 59 = .ok (.iload_n 2, 1) := by decide +kernel
theorem dX12_canGo_60 : decode cX12_canGo 60 = .ok (.if_icmp .ne 7, 3) := by decide +kernel
theorem dX12_canGo_63 : decode cX12_canGo 63 = .ok (.iconst 1, 1) := by decide +kernel
theorem dX12_canGo_64 : decode cX12_canGo 64 = .ok (.goto 4, 3) := by decide +kernel
theorem dX12_canGo_67 : decode cX12_canGo 67 = .ok (.iconst 0, 1) := by decide +kernel
theorem dX12_canGo_68 : decode cX12_canGo 68 = .ok (.iadd, 1) := by decide +kernel
theorem dX12_canGo_69 : decode cX12_canGo 69 = .ok (.istore_n 3, 1) := by decide +kernel
theorem dX12_canGo_70 : decode cX12_canGo 70 = .ok (.iinc 4 1, 3) := by decide +kernel
theorem dX12_canGo_73 : decode cX12_canGo 73 = .ok (.goto (-58), 3) := by decide +kernel
theorem dX12_canGo_76 : decode cX12_canGo 76 = .ok (.iload_n 3, 1) := by decide +kernel
theorem dX12_canGo_77 : decode cX12_canGo 77 = .ok (.aload_n 0, 1) := by decide +kernel
theorem dX12_canGo_78 : decode cX12_canGo 78 = .ok (.iload_n 2, 1) := by decide +kernel
theorem dX12_canGo_79 : decode cX12_canGo 79 = .ok (.iconst 0, 1) := by decide +kernel
theorem dX12_canGo_80 : decode cX12_canGo 80 = .ok (.invokevirtual 293, 3) := by decide +kernel
theorem dX12_canGo_83 : decode cX12_canGo 83 = .ok (.if_icmp .le 5, 3) := by decide +kernel
theorem dX12_canGo_86 : decode cX12_canGo 86 = .ok (.iconst 0, 1) := by decide +kernel
theorem dX12_canGo_87 : decode cX12_canGo 87 = .ok (.ireturn, 1) := by decide +kernel
theorem dX12_canGo_88 : decode cX12_canGo 88 = .ok (.iinc 2 1, 3) := by decide +kernel
theorem dX12_canGo_91 : decode cX12_canGo 91 = .ok (.goto (-89), 3) := by decide +kernel
theorem dX12_canGo_94 : decode cX12_canGo 94 = .ok (.iconst 1, 1) := by decide +kernel
theorem dX12_canGo_95 : decode cX12_canGo 95 = .ok (.ireturn, 1) := by decide +kernel
theorem dX12_count_0 : decode cX12_count 0 = .ok (.iload_n 1, 1) := by decide +kernel
theorem dX12_count_1 : decode cX12_count 1 = .ok (.tableswitch 87 0 7 #[47, 52, 57, 62, 67, 72, 77, 82], 47) := by decide +kernel
theorem dX12_count_48 : decode cX12_count 48 = .ok (.aload_n 0, 1) := by decide +kernel
theorem dX12_count_49 : decode cX12_count 49 = .ok (.getfield 302, 3) := by decide +kernel
theorem dX12_count_52 : decode cX12_count 52 = .ok (.ireturn, 1) := by decide +kernel
theorem dX12_count_53 : decode cX12_count 53 = .ok (.aload_n 0, 1) := by decide +kernel
theorem dX12_count_54 : decode cX12_count 54 = .ok (.getfield 290, 3) := by decide +kernel
theorem dX12_count_57 : decode cX12_count 57 = .ok (.ireturn, 1) := by decide +kernel
theorem dX12_count_58 : decode cX12_count 58 = .ok (.aload_n 0, 1) := by decide +kernel
theorem dX12_count_59 : decode cX12_count 59 = .ok (.getfield 322, 3) := by decide +kernel
theorem dX12_count_62 : decode cX12_count 62 = .ok (.ireturn, 1) := by decide +kernel
theorem dX12_count_63 : decode cX12_count 63 = .ok (.aload_n 0, 1) := by decide +kernel
theorem dX12_count_64 : decode cX12_count 64 = .ok (.getfield 124, 3) := by decide +kernel
theorem dX12_count_67 : decode cX12_count 67 = .ok (.ireturn, 1) := by decide +kernel
theorem dX12_count_68 : decode cX12_count 68 = .ok (.aload_n 0, 1) := by decide +kernel
theorem dX12_count_69 : decode cX12_count 69 = .ok (.getfield 309, 3) := by decide +kernel
theorem dX12_count_72 : decode cX12_count 72 = .ok (.ireturn, 1) := by decide +kernel
theorem dX12_count_73 : decode cX12_count 73 = .ok (.aload_n 0, 1) := by decide +kernel
theorem dX12_count_74 : decode cX12_count 74 = .ok (.getfield 64, 3) := by decide +kernel
theorem dX12_count_77 : decode cX12_count 77 = .ok (.ireturn, 1) := by decide +kernel
theorem dX12_count_78 : decode cX12_count 78 = .ok (.aload_n 0, 1) := by decide +kernel
theorem dX12_count_79 : decode cX12_count 79 = .ok (.getfield 312, 3) := by decide +kernel
theorem dX12_count_82 : decode cX12_count 82 = .ok (.ireturn, 1) := by decide +kernel
theorem dX12_count_83 : decode cX12_count 83 = .ok (.aload_n 0, 1) := by decide +kernel
theorem dX12_count_84 : decode cX12_count 84 = .ok (.invokevirtual 463, 3) := by decide +kernel
theorem dX12_count_87 : decode cX12_count 87 = .ok (.ireturn, 1) := by decide +kernel
theorem dX12_count_88 : decode cX12_count 88 = .ok (.ldc_w 350, 3) := by decide +kernel
theorem dX12_count_91 : decode cX12_count 91 = .ok (.ireturn, 1) := by decide +kernel
theorem dX12_draw_0 : decode cX12_draw 0 = .ok (.aload_n 0, 1) := by decide +kernel
theorem dX12_draw_1 : decode cX12_draw 1 = .ok (.aload_n 0, 1) := by decide +kernel
theorem dX12_draw_2 : decode cX12_draw 2 = .ok (.getfield 357, 3) := by decide +kernel
theorem dX12_draw_5 : decode cX12_draw 5 = .ok (.ldc2_w 361, 3) := by decide +kernel
theorem dX12_draw_8 : decode cX12_draw 8 = .ok (.lmul, 1) := by decide +kernel
theorem dX12_draw_9 : decode cX12_draw 9 = .ok (.ldc2_w 363, 3) := by decide +kernel
theorem dX12_draw_12 : decode cX12_draw 12 = .ok (.ladd, 1) := by decide +kernel
theorem dX12_draw_13 : decode cX12_draw 13 = .ok (.putfield 357, 3) := by decide +kernel
theorem dX12_draw_16 : decode cX12_draw 16 = .ok (.aload_n 0, 1) := by decide +kernel
theorem dX12_draw_17 : decode cX12_draw 17 = .ok (.getfield 357, 3) := by decide +kernel
theorem dX12_draw_20 : decode cX12_draw 20 = .ok (.bipush 33, 2) := by decide +kernel
theorem dX12_draw_22 : decode cX12_draw 22 = .ok (.lushr, 1) := by decide +kernel
theorem dX12_draw_23 : decode cX12_draw 23 = .ok (.iload_n 1, 1) := by decide +kernel
theorem dX12_draw_24 : decode cX12_draw 24 = .ok (.i2l, 1) := by decide +kernel
theorem dX12_draw_25 : decode cX12_draw 25 = .ok (.lrem, 1) := by decide +kernel
theorem dX12_draw_26 : decode cX12_draw 26 = .ok (.l2i, 1) := by decide +kernel
theorem dX12_draw_27 : decode cX12_draw 27 = .ok (.ireturn, 1) := by decide +kernel
theorem dX12_family_0 : decode cX12_family 0 = .ok (.aload_n 0, 1) := by decide +kernel
theorem dX12_family_1 : decode cX12_family 1 = .ok (.iload_n 1, 1) := by decide +kernel
theorem dX12_family_2 : decode cX12_family 2 = .ok (.invokevirtual 347, 3) := by decide +kernel
theorem dX12_family_5 : decode cX12_family 5 = .ok (.ifCond .ne 7, 3) := by decide +kernel
theorem dX12_family_8 : decode cX12_family 8 = .ok (.ldc_w 350, 3) := by decide +kernel
theorem dX12_family_11 : decode cX12_family 11 = .ok (.ireturn, 1) := by decide +kernel
theorem dX12_family_12 : decode cX12_family 12 = .ok (.iload_n 2, 1) := by decide +kernel
theorem dX12_family_13 : decode cX12_family 13 = .ok (.tableswitch 139 0 9 #[55, 62, 69, 88, 95, 101, 108, 115, 123, 131], 55) := by decide +kernel
theorem dX12_family_68 : decode cX12_family 68 = .ok (.aload_n 0, 1) := by decide +kernel
theorem dX12_family_69 : decode cX12_family 69 = .ok (.iload_n 1, 1) := by decide +kernel
theorem dX12_family_70 : decode cX12_family 70 = .ok (.iconst 0, 1) := by decide +kernel
theorem dX12_family_71 : decode cX12_family 71 = .ok (.invokevirtual 287, 3) := by decide +kernel
theorem dX12_family_74 : decode cX12_family 74 = .ok (.ireturn, 1) := by decide +kernel
theorem dX12_family_75 : decode cX12_family 75 = .ok (.aload_n 0, 1) := by decide +kernel
theorem dX12_family_76 : decode cX12_family 76 = .ok (.iload_n 1, 1) := by decide +kernel
theorem dX12_family_77 : decode cX12_family 77 = .ok (.iconst 1, 1) := by decide +kernel
theorem dX12_family_78 : decode cX12_family 78 = .ok (.invokevirtual 287, 3) := by decide +kernel
theorem dX12_family_81 : decode cX12_family 81 = .ok (.ireturn, 1) := by decide +kernel
theorem dX12_family_82 : decode cX12_family 82 = .ok (.aload_n 0, 1) := by decide +kernel
theorem dX12_family_83 : decode cX12_family 83 = .ok (.iload_n 1, 1) := by decide +kernel
theorem dX12_family_84 : decode cX12_family 84 = .ok (.invokevirtual 341, 3) := by decide +kernel
theorem dX12_family_87 : decode cX12_family 87 = .ok (.ifCond .eq 7, 3) := by decide +kernel
theorem dX12_family_90 : decode cX12_family 90 = .ok (.iconst (-1), 1) := by decide +kernel
theorem dX12_family_91 : decode cX12_family 91 = .ok (.goto 9, 3) := by decide +kernel
theorem dX12_family_94 : decode cX12_family 94 = .ok (.aload_n 0, 1) := by decide +kernel
theorem dX12_family_95 : decode cX12_family 95 = .ok (.iload_n 1, 1) := by decide +kernel
theorem dX12_family_96 : decode cX12_family 96 = .ok (.iconst 2, 1) := by decide +kernel
theorem dX12_family_97 : decode cX12_family 97 = .ok (.invokevirtual 287, 3) := by decide +kernel
theorem dX12_family_100 : decode cX12_family 100 = .ok (.ireturn, 1) := by decide +kernel
theorem dX12_family_101 : decode cX12_family 101 = .ok (.aload_n 0, 1) := by decide +kernel
theorem dX12_family_102 : decode cX12_family 102 = .ok (.iload_n 1, 1) := by decide +kernel
theorem dX12_family_103 : decode cX12_family 103 = .ok (.iconst 3, 1) := by decide +kernel
theorem dX12_family_104 : decode cX12_family 104 = .ok (.invokevirtual 287, 3) := by decide +kernel
theorem dX12_family_107 : decode cX12_family 107 = .ok (.ireturn, 1) := by decide +kernel
theorem dX12_family_108 : decode cX12_family 108 = .ok (.aload_n 0, 1) := by decide +kernel
theorem dX12_family_109 : decode cX12_family 109 = .ok (.iload_n 1, 1) := by decide +kernel
theorem dX12_family_110 : decode cX12_family 110 = .ok (.invokevirtual 351, 3) := by decide +kernel
theorem dX12_family_113 : decode cX12_family 113 = .ok (.ireturn, 1) := by decide +kernel
theorem dX12_family_114 : decode cX12_family 114 = .ok (.aload_n 0, 1) := by decide +kernel
theorem dX12_family_115 : decode cX12_family 115 = .ok (.iload_n 1, 1) := by decide +kernel
theorem dX12_family_116 : decode cX12_family 116 = .ok (.iconst 4, 1) := by decide +kernel
theorem dX12_family_117 : decode cX12_family 117 = .ok (.invokevirtual 287, 3) := by decide +kernel
theorem dX12_family_120 : decode cX12_family 120 = .ok (.ireturn, 1) := by decide +kernel
theorem dX12_family_121 : decode cX12_family 121 = .ok (.aload_n 0, 1) := by decide +kernel
theorem dX12_family_122 : decode cX12_family 122 = .ok (.iload_n 1, 1) := by decide +kernel
theorem dX12_family_123 : decode cX12_family 123 = .ok (.iconst 5, 1) := by decide +kernel
theorem dX12_family_124 : decode cX12_family 124 = .ok (.invokevirtual 287, 3) := by decide +kernel
theorem dX12_family_127 : decode cX12_family 127 = .ok (.ireturn, 1) := by decide +kernel
theorem dX12_family_128 : decode cX12_family 128 = .ok (.aload_n 0, 1) := by decide +kernel
theorem dX12_family_129 : decode cX12_family 129 = .ok (.iload_n 1, 1) := by decide +kernel
theorem dX12_family_130 : decode cX12_family 130 = .ok (.bipush 6, 2) := by decide +kernel
theorem dX12_family_132 : decode cX12_family 132 = .ok (.invokevirtual 287, 3) := by decide +kernel
theorem dX12_family_135 : decode cX12_family 135 = .ok (.ireturn, 1) := by decide +kernel
theorem dX12_family_136 : decode cX12_family 136 = .ok (.aload_n 0, 1) := by decide +kernel
theorem dX12_family_137 : decode cX12_family 137 = .ok (.iload_n 1, 1) := by decide +kernel
theorem dX12_family_138 : decode cX12_family 138 = .ok (.bipush 7, 2) := by decide +kernel
theorem dX12_family_140 : decode cX12_family 140 = .ok (.invokevirtual 287, 3) := by decide +kernel
theorem dX12_family_143 : decode cX12_family 143 = .ok (.ireturn, 1) := by decide +kernel
theorem dX12_family_144 : decode cX12_family 144 = .ok (.aload_n 0, 1) := by decide +kernel
theorem dX12_family_145 : decode cX12_family 145 = .ok (.iload_n 1, 1) := by decide +kernel
theorem dX12_family_146 : decode cX12_family 146 = .ok (.bipush 8, 2) := by decide +kernel
theorem dX12_family_148 : decode cX12_family 148 = .ok (.invokevirtual 287, 3) := by decide +kernel
theorem dX12_family_151 : decode cX12_family 151 = .ok (.ireturn, 1) := by decide +kernel
theorem dX12_family_152 : decode cX12_family 152 = .ok (.ldc_w 350, 3) := by decide +kernel
theorem dX12_family_155 : decode cX12_family 155 = .ok (.ireturn, 1) := by decide +kernel
theorem dX12_hut_0 : decode cX12_hut 0 = .ok (.aload_n 0, 1) := by decide +kernel
theorem dX12_hut_1 : decode cX12_hut 1 = .ok (.iload_n 1, 1) := by decide +kernel
theorem dX12_hut_2 : decode cX12_hut 2 = .ok (.invokevirtual 330, 3) := by decide +kernel
theorem dX12_hut_5 : decode cX12_hut 5 = .ok (.ifCond .eq 28, 3) := by decide +kernel
theorem dX12_hut_8 : decode cX12_hut 8 = .ok (.iload_n 2, 1) := by decide +kernel
theorem dX12_hut_9 : decode cX12_hut 9 = .ok (.iconst 0, 1) := by decide +kernel
theorem dX12_hut_10 : decode cX12_hut 10 = .ok (.aload_n 0, 1) := by decide +kernel
theorem dX12_hut_11 : decode cX12_hut 11 = .ok (.iload_n 1, 1) := by decide +kernel
theorem dX12_hut_12 : decode cX12_hut 12 = .ok (.iconst 0, 1) := by decide +kernel
theorem dX12_hut_13 : decode cX12_hut 13 = .ok (.invokevirtual 293, 3) := by decide +kernel
theorem dX12_hut_16 : decode cX12_hut 16 = .ok (.iconst 1, 1) := by decide +kernel
theorem dX12_hut_17 : decode cX12_hut 17 = .ok (.isub, 1) := by decide +kernel
theorem dX12_hut_18 : decode cX12_hut 18 = .ok (.invokestatic 232, 3) := by decide +kernel
theorem dX12_hut_21 : decode cX12_hut 21 = .ok (.ifCond .eq 12, 3) := by decide +kernel
theorem dX12_hut_24 : decode cX12_hut 24 = .ok (.aload_n 0, 1) := by decide +kernel
theorem dX12_hut_25 : decode cX12_hut 25 = .ok (.iload_n 1, 1) := by decide +kernel
theorem dX12_hut_26 : decode cX12_hut 26 = .ok (.iload_n 2, 1) := by decide +kernel
theorem dX12_hut_27 : decode cX12_hut 27 = .ok (.invokevirtual 296, 3) := by decide +kernel
theorem dX12_hut_30 : decode cX12_hut 30 = .ok (.goto 4, 3) := by decide +kernel
theorem dX12_hut_33 : decode cX12_hut 33 = .ok (.iconst (-1), 1) := by decide +kernel
theorem dX12_hut_34 : decode cX12_hut 34 = .ok (.ireturn, 1) := by decide +kernel
theorem dX12_level_0 : decode cX12_level 0 = .ok (.aload_n 0, 1) := by decide +kernel
theorem dX12_level_1 : decode cX12_level 1 = .ok (.aload_n 0, 1) := by decide +kernel
theorem dX12_level_2 : decode cX12_level 2 = .ok (.iload_n 1, 1) := by decide +kernel
theorem dX12_level_3 : decode cX12_level 3 = .ok (.invokevirtual 330, 3) := by decide +kernel
theorem dX12_level_6 : decode cX12_level 6 = .ok (.ifCond .eq 17, 3) := by decide +kernel
theorem dX12_level_9 : decode cX12_level 9 = .ok (.iload_n 2, 1) := by decide +kernel
theorem dX12_level_10 : decode cX12_level 10 = .ok (.iconst 0, 1) := by decide +kernel
theorem dX12_level_11 : decode cX12_level 11 = .ok (.bipush 6, 2) := by decide +kernel
theorem dX12_level_13 : decode cX12_level 13 = .ok (.invokestatic 232, 3) := by decide +kernel
theorem dX12_level_16 : decode cX12_level 16 = .ok (.ifCond .eq 7, 3) := by decide +kernel
theorem dX12_level_19 : decode cX12_level 19 = .ok (.iconst 0, 1) := by decide +kernel
theorem dX12_level_20 : decode cX12_level 20 = .ok (.goto 4, 3) := by decide +kernel
theorem dX12_level_23 : decode cX12_level 23 = .ok (.iconst 1, 1) := by decide +kernel
theorem dX12_level_24 : decode cX12_level 24 = .ok (.putfield 117, 3) := by decide +kernel
theorem dX12_level_27 : decode cX12_level 27 = .ok (.aload_n 0, 1) := by decide +kernel
theorem dX12_level_28 : decode cX12_level 28 = .ok (.getfield 117, 3) := by decide +kernel
theorem dX12_level_31 : decode cX12_level 31 = .ok (.iconst 1, 1) := by decide +kernel
theorem dX12_level_32 : decode cX12_level 32 = .ok (.if_icmp .ne 5, 3) := by decide +kernel
theorem dX12_level_35 : decode cX12_level 35 = .ok (.iconst 0, 1) := by decide +kernel
theorem dX12_level_36 : decode cX12_level 36 = .ok (.ireturn, 1) := by decide +kernel
theorem dX12_level_37 : decode cX12_level 37 = .ok (.iload_n 2, 1) := by decide +kernel
theorem dX12_level_38 : decode cX12_level 38 = .ok (.iconst 4, 1) := by decide +kernel
theorem dX12_level_39 : decode cX12_level 39 = .ok (.if_icmp .ge 12, 3) := by decide +kernel
theorem dX12_level_42 : decode cX12_level 42 = .ok (.aload_n 0, 1) := by decide +kernel
theorem dX12_level_43 : decode cX12_level 43 = .ok (.iload_n 1, 1) := by decide +kernel
theorem dX12_level_44 : decode cX12_level 44 = .ok (.iload_n 2, 1) := by decide +kernel
theorem dX12_level_45 : decode cX12_level 45 = .ok (.invokevirtual 293, 3) := by decide +kernel
theorem dX12_level_48 : decode cX12_level 48 = .ok (.goto 41, 3) := by decide +kernel
theorem dX12_level_51 : decode cX12_level 51 = .ok (.iload_n 2, 1) := by decide +kernel
theorem dX12_level_52 : decode cX12_level 52 = .ok (.iconst 4, 1) := by decide +kernel
theorem dX12_level_53 : decode cX12_level 53 = .ok (.if_icmp .ne 11, 3) := by decide +kernel
theorem dX12_level_56 : decode cX12_level 56 = .ok (.aload_n 0, 1) := by decide +kernel
theorem dX12_level_57 : decode cX12_level 57 = .ok (.iload_n 1, 1) := by decide +kernel
theorem dX12_level_58 : decode cX12_level 58 = .ok (.invokevirtual 325, 3) := by decide +kernel
theorem dX12_level_61 : decode cX12_level 61 = .ok (.goto 28, 3) := by decide +kernel
theorem dX12_level_64 : decode cX12_level 64 = .ok (.iload_n 2, 1) := by decide +kernel
theorem dX12_level_65 : decode cX12_level 65 = .ok (.iconst 5, 1) := by decide +kernel
theorem dX12_level_66 : decode cX12_level 66 = .ok (.if_icmp .ne 18, 3) := by decide +kernel
theorem dX12_level_69 : decode cX12_level 69 = .ok (.aload_n 0, 1) := by decide +kernel
theorem dX12_level_70 : decode cX12_level 70 = .ok (.iload_n 1, 1) := by decide +kernel
theorem dX12_level_71 : decode cX12_level 71 = .ok (.iconst 0, 1) := by decide +kernel
theorem dX12_level_72 : decode cX12_level 72 = .ok (.invokevirtual 293, 3) := by decide +kernel
theorem dX12_level_75 : decode cX12_level 75 = .ok (.aload_n 0, 1) := by decide +kernel
theorem dX12_level_76 : decode cX12_level 76 = .ok (.iload_n 1, 1) := by decide +kernel
theorem dX12_level_77 : decode cX12_level 77 = .ok (.invokevirtual 333, 3) := by decide +kernel
theorem dX12_level_80 : decode cX12_level 80 = .ok (.isub, 1) := by decide +kernel
theorem dX12_level_81 : decode cX12_level 81 = .ok (.goto 8, 3) := by decide +kernel
theorem dX12_level_84 : decode cX12_level 84 = .ok (.aload_n 0, 1) := by decide +kernel
theorem dX12_level_85 : decode cX12_level 85 = .ok (.iload_n 1, 1) := by decide +kernel
theorem dX12_level_86 : decode cX12_level 86 = .ok (.invokevirtual 336, 3) := by decide +kernel
theorem dX12_level_89 : decode cX12_level 89 = .ok (.ireturn, 1) := by decide +kernel
theorem dX12_seed_0 : decode cX12_seed 0 = .ok (.aload_n 0, 1) := by decide +kernel
theorem dX12_seed_1 : decode cX12_seed 1 = .ok (.lload_n 1, 1) := by decide +kernel
theorem dX12_seed_2 : decode cX12_seed 2 = .ok (.putfield 357, 3) := by decide +kernel
theorem dX12_seed_5 : decode cX12_seed 5 = .ok (.iconst 1, 1) := by decide +kernel
theorem dX12_seed_6 : decode cX12_seed 6 = .ok (.ireturn, 1) := by decide +kernel
theorem dX12_set_0 : decode cX12_set 0 = .ok (.iload_n 1, 1) := by decide +kernel
theorem dX12_set_1 : decode cX12_set 1 = .ok (.iconst 0, 1) := by decide +kernel
theorem dX12_set_2 : decode cX12_set 2 = .ok (.iconst 2, 1) := by decide +kernel
theorem dX12_set_3 : decode cX12_set 3 = .ok (.invokestatic 232, 3) := by decide +kernel
theorem dX12_set_6 : decode cX12_set 6 = .ok (.ifCond .eq 31, 3) := by decide +kernel
theorem dX12_set_9 : decode cX12_set 9 = .ok (.iload_n 2, 1) := by decide +kernel
theorem dX12_set_10 : decode cX12_set 10 = .ok (.iconst 0, 1) := by decide +kernel
theorem dX12_set_11 : decode cX12_set 11 = .ok (.iload_n 1, 1) := by decide +kernel
theorem dX12_set_12 : decode cX12_set 12 = .ok (.ifCond .ne 8, 3) := by decide +kernel
theorem dX12_set_15 : decode cX12_set 15 = .ok (.bipush 100, 2) := by decide +kernel
theorem dX12_set_17 : decode cX12_set 17 = .ok (.goto 14, 3) := by decide +kernel
theorem dX12_set_20 : decode cX12_set 20 = .ok (.iload_n 1, 1) := by decide +kernel
theorem dX12_set_21 : decode cX12_set 21 = .ok (.iconst 1, 1) := by decide +kernel
theorem dX12_set_22 : decode cX12_set 22 = .ok (.if_icmp .ne 7, 3) := by decide +kernel
theorem dX12_set_25 : decode cX12_set 25 = .ok (.iconst 1, 1) := by decide +kernel
theorem dX12_set_26 : decode cX12_set 26 = .ok (.goto 5, 3) := by decide +kernel
theorem dX12_set_29 : decode cX12_set 29 = .ok (.bipush 99, 2) := by decide +kernel
theorem dX12_set_31 : decode cX12_set 31 = .ok (.invokestatic 232, 3) := by decide +kernel
theorem dX12_set_34 : decode cX12_set 34 = .ok (.ifCond .ne 5, 3) := by decide +kernel
theorem dX12_set_37 : decode cX12_set 37 = .ok (.iconst 0, 1) := by decide +kernel
theorem dX12_set_38 : decode cX12_set 38 = .ok (.ireturn, 1) := by decide +kernel
theorem dX12_set_39 : decode cX12_set 39 = .ok (.aload_n 0, 1) := by decide +kernel
theorem dX12_set_40 : decode cX12_set 40 = .ok (.iload_n 1, 1) := by decide +kernel
theorem dX12_set_41 : decode cX12_set 41 = .ok (.ifCond .ne 7, 3) := by decide +kernel
theorem dX12_set_44 : decode cX12_set 44 = .ok (.iload_n 2, 1) := by decide +kernel
theorem dX12_set_45 : decode cX12_set 45 = .ok (.goto 7, 3) := by decide +kernel
theorem dX12_set_48 : decode cX12_set 48 = .ok (.aload_n 0, 1) := by decide +kernel
theorem dX12_set_49 : decode cX12_set 49 = .ok (.getfield 68, 3) := by decide +kernel
theorem dX12_set_52 : decode cX12_set 52 = .ok (.putfield 68, 3) := by decide +kernel
theorem dX12_set_55 : decode cX12_set 55 = .ok (.aload_n 0, 1) := by decide +kernel
theorem dX12_set_56 : decode cX12_set 56 = .ok (.iload_n 1, 1) := by decide +kernel
theorem dX12_set_57 : decode cX12_set 57 = .ok (.iconst 1, 1) := by decide +kernel
theorem dX12_set_58 : decode cX12_set 58 = .ok (.if_icmp .ne 7, 3) := by decide +kernel
theorem dX12_set_61 : decode cX12_set 61 = .ok (.iload_n 2, 1) := by decide +kernel
theorem dX12_set_62 : decode cX12_set 62 = .ok (.goto 7, 3) := by decide +kernel
theorem dX12_set_65 : decode cX12_set 65 = .ok (.aload_n 0, 1) := by decide +kernel
theorem dX12_set_66 : decode cX12_set 66 = .ok (.getfield 354, 3) := by decide +kernel
theorem dX12_set_69 : decode cX12_set 69 = .ok (.putfield 354, 3) := by decide +kernel
theorem dX12_set_72 : decode cX12_set 72 = .ok (.aload_n 0, 1) := by decide +kernel
theorem dX12_set_73 : decode cX12_set 73 = .ok (.iload_n 1, 1) := by decide +kernel
theorem dX12_set_74 : decode cX12_set 74 = .ok (.iconst 2, 1) := by decide +kernel
theorem dX12_set_75 : decode cX12_set 75 = .ok (.if_icmp .ne 7, 3) := by decide +kernel
theorem dX12_set_78 : decode cX12_set 78 = .ok (.iload_n 2, 1) := by decide +kernel
theorem dX12_set_79 : decode cX12_set 79 = .ok (.goto 7, 3) := by decide +kernel
theorem dX12_set_82 : decode cX12_set 82 = .ok (.aload_n 0, 1) := by decide +kernel
theorem dX12_set_83 : decode cX12_set 83 = .ok (.getfield 71, 3) := by decide +kernel
theorem dX12_set_86 : decode cX12_set 86 = .ok (.putfield 71, 3) := by decide +kernel
theorem dX12_set_89 : decode cX12_set 89 = .ok (.iconst 1, 1) := by decide +kernel
theorem dX12_set_90 : decode cX12_set 90 = .ok (.ireturn, 1) := by decide +kernel
theorem dX12_waiting_0 : decode cX12_waiting 0 = .ok (.aload_n 0, 1) := by decide +kernel
theorem dX12_waiting_1 : decode cX12_waiting 1 = .ok (.getfield 290, 3) := by decide +kernel
theorem dX12_waiting_4 : decode cX12_waiting 4 = .ok (.ifCond .ne 7, 3) := by decide +kernel
theorem dX12_waiting_7 : decode cX12_waiting 7 = .ok (.iconst (-1), 1) := by decide +kernel
theorem dX12_waiting_8 : decode cX12_waiting 8 = .ok (.goto 7, 3) := by decide +kernel
theorem dX12_waiting_11 : decode cX12_waiting 11 = .ok (.aload_n 0, 1) := by decide +kernel
theorem dX12_waiting_12 : decode cX12_waiting 12 = .ok (.invokevirtual 414, 3) := by decide +kernel
theorem dX12_waiting_15 : decode cX12_waiting 15 = .ok (.ireturn, 1) := by decide +kernel
def w_X12_draw : List Cond := .code yX12_draw cX12_draw 2 (some .int) :: ([Cond.fieldLink RX12 357 "HeadYearModel" "draws" "J", Cond.constantLong RX12 361 (6364136223846793005), Cond.constantLong RX12 363 (1442695040888963407)] ++ (u_ws RX12 TX12 54 ++ ([])))
theorem in_X12_draw_X12 : ∀ w ∈ u_ws RX12 TX12 54, w ∈ w_X12_draw := fun _ h => List.mem_cons_of_mem _ (List.mem_append_right _ (List.mem_append_left _ h))
set_option maxHeartbeats 4000000 in
set_option maxRecDepth 100000 in
theorem c_X12_draw (l : Launch) (E : py_E) (G : wf_G) (L : List Nat) (f : py_F) (sz : Nat) (u : Nat) (a : Int32) (hG : GT G) (hWF : WF E G L f) (Tu : G.1 u = 13) (hp0 : a.toInt ≠ 0) : Met l yX12_draw w_X12_draw ({ frames := 0, cells := 0, slots := 0, locals := 0 }) (py_Pc E [.ref u, .int a] L f sz) (py_Qi E L f sz (fun _ L1 f1 => WF E G L1 f1 ∧ KP G [13] false f f1 ∧ FK [30] f f1 u)) 0 0 (va_A (va_pl L f) sz) := by
  refine Met.ofW (cc := cX12_draw) (maxL := 2) (ret := (some .int)) (by decide) rfl ?_
  intro p e s m args below meth c s₁ B hml hv
  obtain ⟨rfl, rfl, hw⟩ := py_start hv
  have G0 : CallFix p m c cX12_draw 2 s _ w_X12_draw RX12 := ⟨B.exec, B.bytes, hml, findClass_of_methodNamed B.named, atoms_spec (ws := w_X12_draw) B.pre⟩
  have hr := B.returns
  have hlk := B.notSynchronized
  have kcm1 : (-1 : Int32).toInt = -1 := rfl
  have kc0 : (0 : Int32).toInt = 0 := rfl
  have kc1 : (1 : Int32).toInt = 1 := rfl
  have kc33 : (33 : Int32).toInt = 33 := rfl
  have hl := lv_entry ([.ref u, .int a]) (n := 2) (Nat.le_of_ble_eq_true rfl)
  rw [lg_entry_eq]
  generalize (lg_sl ([.ref u, .int a]) ++ List.replicate (2 - (lg_sl ([.ref u, .int a])).length) Slot.unset).toArray = ls at hl ⊢
  have hl : lv_has ls 2 [(0, .ref u), (1, .int a)] := hl
  have hFK : FK [30] f f u := FK.refl
  have hKP : KP G [13] false f f := KP.refl
  refine lv_aload_n G0.1 G0.2.1 dX12_draw_0 rfl (lv_at hl 0 rfl) ?_
  refine lv_aload_n G0.1 G0.2.1 dX12_draw_1 rfl (lv_at hl 0 rfl) ?_
  obtain ⟨v_1, v_2, v_3, v_4, v_5, v_6, v_7, v_8, v_9, v_10, v_11, v_12, y_13, v_14, v_15, v_16, v_17, v_18, y_19, v_20, y_21, v_22, hr_35, b_23, b_24, b_25, b_26, b_27, b_28, b_29, b_30, b_31, b_32, b_33, b_34⟩ := wg_12 hWF Tu
  refine py_get (C := RX12) (T := TX12) (N := 54) (k := 30) (v := .long y_13) G0 hw in_X12_draw_X12 rfl hr_35 (by decide) (by decide +kernel) rfl dX12_draw_2 ?_
  refine lv_ldc2 (v := 6364136223846793005) G0.1 G0.2.1 G0.2.2.2.1 (G0.2.2.2.2 (Cond.constantLong RX12 361 (6364136223846793005)) (by decide +kernel)) dX12_draw_5 ?_
  refine lv_lmul G0.1 G0.2.1 dX12_draw_8 ?_
  refine lv_topl (fun y_36 ey_36 => ?_)
  refine lv_ldc2 (v := 1442695040888963407) G0.1 G0.2.1 G0.2.2.2.1 (G0.2.2.2.2 (Cond.constantLong RX12 363 (1442695040888963407)) (by decide +kernel)) dX12_draw_9 ?_
  refine lv_ladd G0.1 G0.2.1 dX12_draw_12 ?_
  refine lv_topl (fun y_37 ey_37 => ?_)
  refine py_put (C := RX12) (T := TX12) (N := 54) (k := 30) (v := .long y_37) (fs' := [.int v_1, .ref (G.2 u 1), .int v_2, .int v_3, .int v_4, .int v_5, .ref (G.2 u 6), .ref (G.2 u 7), .ref (G.2 u 8), .ref (G.2 u 9), .ref (G.2 u 10), .ref (G.2 u 11), .ref (G.2 u 12), .int v_6, .int v_7, .ref (G.2 u 15), .ref (G.2 u 16), .ref (G.2 u 17), .ref (G.2 u 18), .int v_8, .int v_9, .ref (G.2 u 21), .ref (G.2 u 22), .ref (G.2 u 23), .int v_10, .int v_11, .ref (G.2 u 26), .ref (G.2 u 27), .ref (G.2 u 28), .int v_12, .long y_37, .int v_14, .int v_15, .int v_16, .int v_17, .ref (G.2 u 35), .ref (G.2 u 36), .ref (G.2 u 37), .ref (G.2 u 38), .ref (G.2 u 39), .ref (G.2 u 40), .ref (G.2 u 41), .ref (G.2 u 42), .int v_18, .ref (G.2 u 44), .ref (G.2 u 45), .ref (G.2 u 46), .ref (G.2 u 47), .long y_19, .ref (G.2 u 49), .ref (G.2 u 50), .int v_20, .long y_21, .int v_22]) (ty0 := tyX12) G0 hw tyX12_ok nmX12 in_X12_draw_X12 rfl hr_35 (by decide) (by decide +kernel) rfl rfl rfl rfl (Nat.le_of_ble_eq_true rfl) rfl dX12_draw_13 (fun f_38 H_39 locs h_40 x_41 hw => ?_)
  have hFK := hFK.put hr_35 h_40 30 (by decide) rfl
  have hKP := hKP.upd hWF x_41 Tu (Or.inl (by decide))
  have hWF := wf_upd hWF h_40 x_41 (by rw [Tu]; exact ⟨v_1, v_2, v_3, v_4, v_5, v_6, v_7, v_8, v_9, v_10, v_11, v_12, y_37, v_14, v_15, v_16, v_17, v_18, y_19, v_20, y_21, v_22, rfl, ⟨by omega, by omega⟩, ⟨by omega, by omega⟩, ⟨by omega, by omega⟩, ⟨by omega, by omega⟩, ⟨by omega, by omega⟩, ⟨by omega, by omega⟩, ⟨by omega, by omega⟩, ⟨by omega, by omega⟩, ⟨by omega, by omega⟩, ⟨by omega, by omega⟩, ⟨by omega, by omega⟩, ⟨by omega, by omega⟩⟩)
  refine lv_aload_n G0.1 G0.2.1 dX12_draw_16 rfl (lv_at hl 0 rfl) ?_
  refine py_get (C := RX12) (T := TX12) (N := 54) (k := 30) (v := .long y_37) G0 hw in_X12_draw_X12 rfl h_40 (by decide) (by decide +kernel) rfl dX12_draw_17 ?_
  refine lv_bipush (v := 33) G0.1 G0.2.1 dX12_draw_20 (by decide) ?_
  refine lv_lushr G0.1 G0.2.1 dX12_draw_22 rfl ?_
  refine lv_topl (fun y_42 ey_42 => ?_)
  refine lv_iload_n G0.1 G0.2.1 dX12_draw_23 rfl (lv_at hl 1 rfl) ?_
  refine lv_i2l (v := a.toInt64) G0.1 G0.2.1 dX12_draw_24 rfl ?_
  refine lv_lrem G0.1 G0.2.1 dX12_draw_25 (i64_ne (by omega)) ?_
  refine lv_topl (fun y_43 ey_43 => ?_)
  refine lv_l2i G0.1 G0.2.1 dX12_draw_26 rfl ?_
  refine lv_topi (fun x_44 ex_44 => ?_)
  exact py_iret G0 hr rfl hlk hw ⟨hWF, hKP, hFK⟩ dX12_draw_27

def w_X12_seed : List Cond := .code yX12_seed cX12_seed 3 (some .boolean) :: ([Cond.fieldLink RX12 357 "HeadYearModel" "draws" "J"] ++ (u_ws RX12 TX12 54 ++ ([])))
theorem in_X12_seed_X12 : ∀ w ∈ u_ws RX12 TX12 54, w ∈ w_X12_seed := fun _ h => List.mem_cons_of_mem _ (List.mem_append_right _ (List.mem_append_left _ h))
set_option maxHeartbeats 4000000 in
set_option maxRecDepth 100000 in
theorem c_X12_seed (l : Launch) (E : py_E) (G : wf_G) (L : List Nat) (f : py_F) (sz : Nat) (u : Nat) (v : Int64) (hG : GT G) (hWF : WF E G L f) (Tu : G.1 u = 13) : Met l yX12_seed w_X12_seed ({ frames := 0, cells := 0, slots := 0, locals := 0 }) (py_Pc E [.ref u, .long v] L f sz) (py_Qi E L f sz (fun r L1 f1 => (0 ≤ r.toInt ∧ r.toInt ≤ 1) ∧ WF E G L1 f1 ∧ KP G [13] false f f1 ∧ FK [30] f f1 u)) 0 0 (va_A (va_pl L f) sz) := by
  refine Met.ofW (cc := cX12_seed) (maxL := 3) (ret := (some .boolean)) (by decide) rfl ?_
  intro p e s m args below meth c s₁ B hml hv
  obtain ⟨rfl, rfl, hw⟩ := py_start hv
  have G0 : CallFix p m c cX12_seed 3 s _ w_X12_seed RX12 := ⟨B.exec, B.bytes, hml, findClass_of_methodNamed B.named, atoms_spec (ws := w_X12_seed) B.pre⟩
  have hr := B.returns
  have hlk := B.notSynchronized
  have kcm1 : (-1 : Int32).toInt = -1 := rfl
  have kc0 : (0 : Int32).toInt = 0 := rfl
  have kc1 : (1 : Int32).toInt = 1 := rfl
  have hl := lv_entry ([.ref u, .long v]) (n := 3) (Nat.le_of_ble_eq_true rfl)
  rw [lg_entry_eq]
  generalize (lg_sl ([.ref u, .long v]) ++ List.replicate (3 - (lg_sl ([.ref u, .long v])).length) Slot.unset).toArray = ls at hl ⊢
  have hl : lv_has ls 3 [(0, .ref u), (1, .long v)] := hl
  have hFK : FK [30] f f u := FK.refl
  have hKP : KP G [13] false f f := KP.refl
  refine lv_aload_n G0.1 G0.2.1 dX12_seed_0 rfl (lv_at hl 0 rfl) ?_
  refine lv_lload_n G0.1 G0.2.1 dX12_seed_1 rfl (lv_at hl 1 rfl) ?_
  obtain ⟨v_1, v_2, v_3, v_4, v_5, v_6, v_7, v_8, v_9, v_10, v_11, v_12, y_13, v_14, v_15, v_16, v_17, v_18, y_19, v_20, y_21, v_22, hr_35, b_23, b_24, b_25, b_26, b_27, b_28, b_29, b_30, b_31, b_32, b_33, b_34⟩ := wg_12 hWF Tu
  refine py_put (C := RX12) (T := TX12) (N := 54) (k := 30) (v := .long v) (fs' := [.int v_1, .ref (G.2 u 1), .int v_2, .int v_3, .int v_4, .int v_5, .ref (G.2 u 6), .ref (G.2 u 7), .ref (G.2 u 8), .ref (G.2 u 9), .ref (G.2 u 10), .ref (G.2 u 11), .ref (G.2 u 12), .int v_6, .int v_7, .ref (G.2 u 15), .ref (G.2 u 16), .ref (G.2 u 17), .ref (G.2 u 18), .int v_8, .int v_9, .ref (G.2 u 21), .ref (G.2 u 22), .ref (G.2 u 23), .int v_10, .int v_11, .ref (G.2 u 26), .ref (G.2 u 27), .ref (G.2 u 28), .int v_12, .long v, .int v_14, .int v_15, .int v_16, .int v_17, .ref (G.2 u 35), .ref (G.2 u 36), .ref (G.2 u 37), .ref (G.2 u 38), .ref (G.2 u 39), .ref (G.2 u 40), .ref (G.2 u 41), .ref (G.2 u 42), .int v_18, .ref (G.2 u 44), .ref (G.2 u 45), .ref (G.2 u 46), .ref (G.2 u 47), .long y_19, .ref (G.2 u 49), .ref (G.2 u 50), .int v_20, .long y_21, .int v_22]) (ty0 := tyX12) G0 hw tyX12_ok nmX12 in_X12_seed_X12 rfl hr_35 (by decide) (by decide +kernel) rfl rfl rfl rfl (Nat.le_of_ble_eq_true rfl) rfl dX12_seed_2 (fun f_36 H_37 locs h_38 x_39 hw => ?_)
  have hFK := hFK.put hr_35 h_38 30 (by decide) rfl
  have hKP := hKP.upd hWF x_39 Tu (Or.inl (by decide))
  have hWF := wf_upd hWF h_38 x_39 (by rw [Tu]; exact ⟨v_1, v_2, v_3, v_4, v_5, v_6, v_7, v_8, v_9, v_10, v_11, v_12, v, v_14, v_15, v_16, v_17, v_18, y_19, v_20, y_21, v_22, rfl, ⟨by omega, by omega⟩, ⟨by omega, by omega⟩, ⟨by omega, by omega⟩, ⟨by omega, by omega⟩, ⟨by omega, by omega⟩, ⟨by omega, by omega⟩, ⟨by omega, by omega⟩, ⟨by omega, by omega⟩, ⟨by omega, by omega⟩, ⟨by omega, by omega⟩, ⟨by omega, by omega⟩, ⟨by omega, by omega⟩⟩)
  refine lv_iconst (v := 1) G0.1 G0.2.1 dX12_seed_5 (by decide) ?_
  exact py_iret G0 hr rfl hlk hw ⟨⟨by omega, by omega⟩, hWF, hKP, hFK⟩ dX12_seed_6

def w_X12_set : List Cond := .code yX12_set cX12_set 3 (some .boolean) :: ([Cond.methodLink RX12 232 yX12_in, Cond.static yX12_in, Cond.initialized RX12, Cond.fieldLink RX12 68 "HeadYearModel" "find" "I", Cond.fieldLink RX12 354 "HeadYearModel" "luck" "I", Cond.fieldLink RX12 71 "HeadYearModel" "price" "I"] ++ (u_ws RX12 TX12 54 ++ (w_X12_in ++ ([]))))
theorem in_X12_set_X12 : ∀ w ∈ u_ws RX12 TX12 54, w ∈ w_X12_set := fun _ h => List.mem_cons_of_mem _ (List.mem_append_right _ (List.mem_append_left _ h))
theorem gg_X12_set_X12_in : GoodIn w_X12_set w_X12_in := goodIn_sub (fun _ h => List.mem_cons_of_mem _ (List.mem_append_right _ (List.mem_append_right _ (List.mem_append_left _ h)))) (by decide +kernel)
theorem g_X12_set_X12_in_232 : GoodIn w_X12_set (va_wsS RX12 232 yX12_in w_X12_in) := goodIn_app (goodIn_of _ (by decide +kernel)) gg_X12_set_X12_in
set_option maxHeartbeats 4000000 in
set_option maxRecDepth 100000 in
theorem c_X12_set (l : Launch) (E : py_E) (G : wf_G) (L : List Nat) (f : py_F) (sz : Nat) (u : Nat) (a : Int32) (b : Int32) (hG : GT G) (hWF : WF E G L f) (Tu : G.1 u = 13) : Met l yX12_set w_X12_set ({ frames := 1, cells := 0, slots := 0, locals := 22 }) (py_Pc E [.ref u, .int a, .int b] L f sz) (py_Qi E L f sz (fun r L1 f1 => (0 ≤ r.toInt ∧ r.toInt ≤ 1) ∧ WF E G L1 f1 ∧ KP G [13] false f f1 ∧ FK [32, 33, 34] f f1 u)) 0 0 (va_A (va_pl L f) sz) := by
  refine Met.ofW (cc := cX12_set) (maxL := 3) (ret := (some .boolean)) (by decide) rfl ?_
  intro p e s m args below meth c s₁ B hml hv
  obtain ⟨rfl, rfl, hw⟩ := py_start hv
  have G0 : CallFix p m c cX12_set 3 s _ w_X12_set RX12 := ⟨B.exec, B.bytes, hml, findClass_of_methodNamed B.named, atoms_spec (ws := w_X12_set) B.pre⟩
  have hr := B.returns
  have hlk := B.notSynchronized
  have kcm1 : (-1 : Int32).toInt = -1 := rfl
  have kc0 : (0 : Int32).toInt = 0 := rfl
  have kc1 : (1 : Int32).toInt = 1 := rfl
  have kc2 : (2 : Int32).toInt = 2 := rfl
  have kc99 : (99 : Int32).toInt = 99 := rfl
  have kc100 : (100 : Int32).toInt = 100 := rfl
  have hl := lv_entry ([.ref u, .int a, .int b]) (n := 3) (Nat.le_of_ble_eq_true rfl)
  rw [lg_entry_eq]
  generalize (lg_sl ([.ref u, .int a, .int b]) ++ List.replicate (3 - (lg_sl ([.ref u, .int a, .int b])).length) Slot.unset).toArray = ls at hl ⊢
  have hl : lv_has ls 3 [(0, .ref u), (1, .int a), (2, .int b)] := hl
  have hFK : FK [32, 33, 34] f f u := FK.refl
  have hKP : KP G [13] false f f := KP.refl
  refine lv_iload_n G0.1 G0.2.1 dX12_set_0 rfl (lv_at hl 1 rfl) ?_
  refine lv_iconst (v := 0) G0.1 G0.2.1 dX12_set_1 (by decide) ?_
  refine lv_iconst (v := 2) G0.1 G0.2.1 dX12_set_2 (by decide) ?_
  refine py_calli hw (va_runS (As := [.int a, .int 0, .int 2]) (rest := []) G0 (c_X12_in l E G L f s.heap.size a 0 2 hG hWF) (va_cwS 3 G0.2.2.2.2 g_X12_set_X12_in_232 rfl rfl rfl (by decide +kernel) ⟨(Nat.le_of_ble_eq_true rfl), (Nat.le_of_ble_eq_true rfl)⟩) (py_preS hw) rfl rfl hl.1 rfl (lv_room (Nat.le_of_ble_eq_true rfl)) dX12_set_3 ⟨(Nat.le_of_ble_eq_true rfl), (Nat.le_of_ble_eq_true rfl)⟩) (fun r_5 L_1 f_2 H_3 locs hp_4 hw => ?_)
  obtain ⟨b_8, en_6, en_7, rfl, rfl⟩ := hp_4
  have en_6 : r_5.toInt ≠ 0 → (0 : Int) ≤ a.toInt ∧ a.toInt ≤ (2 : Int) := en_6
  have en_7 : r_5.toInt = 0 → a.toInt < (0 : Int) ∨ (2 : Int) < a.toInt := en_7
  refine lv_if_eq (tgt := 37) G0.1 G0.2.1 dX12_set_6 (by decide) (fun c_9 => ?_) (fun c_9 => ?_)
  · skip
    have tc_9 := ti_eq c_9
    clear en_6
    replace en_7 := en_7 (by omega)
    refine lv_iconst (v := 0) G0.1 G0.2.1 dX12_set_37 (by decide) ?_
    exact py_iret G0 hr rfl hlk hw ⟨⟨by omega, by omega⟩, hWF, hKP, hFK⟩ dX12_set_38
  · skip
    have tc_9 := ti_ne c_9
    replace en_6 := en_6 (by omega)
    clear en_7
    refine lv_iload_n G0.1 G0.2.1 dX12_set_9 rfl (lv_at hl 2 rfl) ?_
    refine lv_iconst (v := 0) G0.1 G0.2.1 dX12_set_10 (by decide) ?_
    refine lv_iload_n G0.1 G0.2.1 dX12_set_11 rfl (lv_at hl 1 rfl) ?_
    have jn_31 : ∀ (v_10 : Int32) (H_j31 : Heap) (locs : List Loc) (ls : Array Slot), (1 ≤ v_10.toInt ∧ v_10.toInt ≤ 100) → py_W E (va_A (va_pl L f) s.heap.size) s L f H_j31 locs → lv_has ls 3 [(0, .ref u), (1, .int a), (2, .int b)] → W p l e (headSpec w_X12_set ({ frames := 1, cells := 0, slots := 0, locals := 22 })).room s m ([.ref u, .int a, .int b] : List Value).toArray below meth c H_j31 locs 0 0 (MQ below (py_Qi E L f s.heap.size (fun r L1 f1 => (0 ≤ r.toInt ∧ r.toInt ≤ 1) ∧ WF E G L1 f1 ∧ KP G [13] false f f1 ∧ FK [32, 33, 34] f f1 u)) ([.ref u, .int a, .int b] : List Value).toArray s 0 0 (va_A (va_pl L f) s.heap.size)) (F0 m 31 ls [.int v_10, .int 0, .int b]) := by
      intro v_10 H_j31 locs ls bv_10 hw hl
      refine py_calli hw (va_runS (As := [.int b, .int 0, .int v_10]) (rest := []) G0 (c_X12_in l E G L f H_j31.size b 0 v_10 hG hWF) (va_cwS 3 G0.2.2.2.2 g_X12_set_X12_in_232 rfl rfl rfl (by decide +kernel) ⟨(Nat.le_of_ble_eq_true rfl), (Nat.le_of_ble_eq_true rfl)⟩) (py_preS hw) rfl rfl hl.1 rfl (lv_room (Nat.le_of_ble_eq_true rfl)) dX12_set_31 ⟨(Nat.le_of_ble_eq_true rfl), (Nat.le_of_ble_eq_true rfl)⟩) (fun r_15 L_11 f_12 H_13 locs hp_14 hw => ?_)
      obtain ⟨b_18, en_16, en_17, rfl, rfl⟩ := hp_14
      have en_16 : r_15.toInt ≠ 0 → (0 : Int) ≤ b.toInt ∧ b.toInt ≤ v_10.toInt := en_16
      have en_17 : r_15.toInt = 0 → b.toInt < (0 : Int) ∨ v_10.toInt < b.toInt := en_17
      refine lv_if_ne (tgt := 39) G0.1 G0.2.1 dX12_set_34 (by decide) (fun c_19 => ?_) (fun c_19 => ?_)
      · skip
        have tc_19 := ti_ne c_19
        replace en_16 := en_16 (by omega)
        clear en_17
        refine lv_aload_n G0.1 G0.2.1 dX12_set_39 rfl (lv_at hl 0 rfl) ?_
        refine lv_iload_n G0.1 G0.2.1 dX12_set_40 rfl (lv_at hl 1 rfl) ?_
        have jn_52 : ∀ (v_20 : Int32) (H_j52 : Heap) (locs : List Loc) (ls : Array Slot), py_W E (va_A (va_pl L f) s.heap.size) s L f H_j52 locs → lv_has ls 3 [(0, .ref u), (1, .int a), (2, .int b)] → W p l e (headSpec w_X12_set ({ frames := 1, cells := 0, slots := 0, locals := 22 })).room s m ([.ref u, .int a, .int b] : List Value).toArray below meth c H_j52 locs 0 0 (MQ below (py_Qi E L f s.heap.size (fun r L1 f1 => (0 ≤ r.toInt ∧ r.toInt ≤ 1) ∧ WF E G L1 f1 ∧ KP G [13] false f f1 ∧ FK [32, 33, 34] f f1 u)) ([.ref u, .int a, .int b] : List Value).toArray s 0 0 (va_A (va_pl L f) s.heap.size)) (F0 m 52 ls [.int v_20, .ref u]) := by
          intro v_20 H_j52 locs ls hw hl
          obtain ⟨v_21, v_22, v_23, v_24, v_25, v_26, v_27, v_28, v_29, v_30, v_31, v_32, y_33, v_34, v_35, v_36, v_37, v_38, y_39, v_40, y_41, v_42, hr_55, b_43, b_44, b_45, b_46, b_47, b_48, b_49, b_50, b_51, b_52, b_53, b_54⟩ := wg_12 hWF Tu
          refine py_put (C := RX12) (T := TX12) (N := 54) (k := 32) (v := .int v_20) (fs' := [.int v_21, .ref (G.2 u 1), .int v_22, .int v_23, .int v_24, .int v_25, .ref (G.2 u 6), .ref (G.2 u 7), .ref (G.2 u 8), .ref (G.2 u 9), .ref (G.2 u 10), .ref (G.2 u 11), .ref (G.2 u 12), .int v_26, .int v_27, .ref (G.2 u 15), .ref (G.2 u 16), .ref (G.2 u 17), .ref (G.2 u 18), .int v_28, .int v_29, .ref (G.2 u 21), .ref (G.2 u 22), .ref (G.2 u 23), .int v_30, .int v_31, .ref (G.2 u 26), .ref (G.2 u 27), .ref (G.2 u 28), .int v_32, .long y_33, .int v_34, .int v_20, .int v_36, .int v_37, .ref (G.2 u 35), .ref (G.2 u 36), .ref (G.2 u 37), .ref (G.2 u 38), .ref (G.2 u 39), .ref (G.2 u 40), .ref (G.2 u 41), .ref (G.2 u 42), .int v_38, .ref (G.2 u 44), .ref (G.2 u 45), .ref (G.2 u 46), .ref (G.2 u 47), .long y_39, .ref (G.2 u 49), .ref (G.2 u 50), .int v_40, .long y_41, .int v_42]) (ty0 := tyX12) G0 hw tyX12_ok nmX12 in_X12_set_X12 rfl hr_55 (by decide) (by decide +kernel) rfl rfl rfl rfl (Nat.le_of_ble_eq_true rfl) rfl dX12_set_52 (fun f_56 H_57 locs h_58 x_59 hw => ?_)
          have hFK := hFK.put hr_55 h_58 32 (by decide) rfl
          have hKP := hKP.upd hWF x_59 Tu (Or.inl (by decide))
          have hWF := wf_upd hWF h_58 x_59 (by rw [Tu]; exact ⟨v_21, v_22, v_23, v_24, v_25, v_26, v_27, v_28, v_29, v_30, v_31, v_32, y_33, v_34, v_20, v_36, v_37, v_38, y_39, v_40, y_41, v_42, rfl, ⟨by omega, by omega⟩, ⟨by omega, by omega⟩, ⟨by omega, by omega⟩, ⟨by omega, by omega⟩, ⟨by omega, by omega⟩, ⟨by omega, by omega⟩, ⟨by omega, by omega⟩, ⟨by omega, by omega⟩, ⟨by omega, by omega⟩, ⟨by omega, by omega⟩, ⟨by omega, by omega⟩, ⟨by omega, by omega⟩⟩)
          refine lv_aload_n G0.1 G0.2.1 dX12_set_55 rfl (lv_at hl 0 rfl) ?_
          refine lv_iload_n G0.1 G0.2.1 dX12_set_56 rfl (lv_at hl 1 rfl) ?_
          refine lv_iconst (v := 1) G0.1 G0.2.1 dX12_set_57 (by decide) ?_
          have jn_69 : ∀ (v_60 : Int32) (H_j69 : Heap) (locs : List Loc) (ls : Array Slot), py_W E (va_A (va_pl L f) s.heap.size) s L f_56 H_j69 locs → lv_has ls 3 [(0, .ref u), (1, .int a), (2, .int b)] → W p l e (headSpec w_X12_set ({ frames := 1, cells := 0, slots := 0, locals := 22 })).room s m ([.ref u, .int a, .int b] : List Value).toArray below meth c H_j69 locs 0 0 (MQ below (py_Qi E L f s.heap.size (fun r L1 f1 => (0 ≤ r.toInt ∧ r.toInt ≤ 1) ∧ WF E G L1 f1 ∧ KP G [13] false f f1 ∧ FK [32, 33, 34] f f1 u)) ([.ref u, .int a, .int b] : List Value).toArray s 0 0 (va_A (va_pl L f) s.heap.size)) (F0 m 69 ls [.int v_60, .ref u]) := by
            intro v_60 H_j69 locs ls hw hl
            refine py_put (C := RX12) (T := TX12) (N := 54) (k := 33) (v := .int v_60) (fs' := [.int v_21, .ref (G.2 u 1), .int v_22, .int v_23, .int v_24, .int v_25, .ref (G.2 u 6), .ref (G.2 u 7), .ref (G.2 u 8), .ref (G.2 u 9), .ref (G.2 u 10), .ref (G.2 u 11), .ref (G.2 u 12), .int v_26, .int v_27, .ref (G.2 u 15), .ref (G.2 u 16), .ref (G.2 u 17), .ref (G.2 u 18), .int v_28, .int v_29, .ref (G.2 u 21), .ref (G.2 u 22), .ref (G.2 u 23), .int v_30, .int v_31, .ref (G.2 u 26), .ref (G.2 u 27), .ref (G.2 u 28), .int v_32, .long y_33, .int v_34, .int v_20, .int v_60, .int v_37, .ref (G.2 u 35), .ref (G.2 u 36), .ref (G.2 u 37), .ref (G.2 u 38), .ref (G.2 u 39), .ref (G.2 u 40), .ref (G.2 u 41), .ref (G.2 u 42), .int v_38, .ref (G.2 u 44), .ref (G.2 u 45), .ref (G.2 u 46), .ref (G.2 u 47), .long y_39, .ref (G.2 u 49), .ref (G.2 u 50), .int v_40, .long y_41, .int v_42]) (ty0 := tyX12) G0 hw tyX12_ok nmX12 in_X12_set_X12 rfl h_58 (by decide) (by decide +kernel) rfl rfl rfl rfl (Nat.le_of_ble_eq_true rfl) rfl dX12_set_69 (fun f_61 H_62 locs h_63 x_64 hw => ?_)
            have hFK := hFK.put h_58 h_63 33 (by decide) rfl
            have hKP := hKP.upd hWF x_64 Tu (Or.inl (by decide))
            have hWF := wf_upd hWF h_63 x_64 (by rw [Tu]; exact ⟨v_21, v_22, v_23, v_24, v_25, v_26, v_27, v_28, v_29, v_30, v_31, v_32, y_33, v_34, v_20, v_60, v_37, v_38, y_39, v_40, y_41, v_42, rfl, ⟨by omega, by omega⟩, ⟨by omega, by omega⟩, ⟨by omega, by omega⟩, ⟨by omega, by omega⟩, ⟨by omega, by omega⟩, ⟨by omega, by omega⟩, ⟨by omega, by omega⟩, ⟨by omega, by omega⟩, ⟨by omega, by omega⟩, ⟨by omega, by omega⟩, ⟨by omega, by omega⟩, ⟨by omega, by omega⟩⟩)
            refine lv_aload_n G0.1 G0.2.1 dX12_set_72 rfl (lv_at hl 0 rfl) ?_
            refine lv_iload_n G0.1 G0.2.1 dX12_set_73 rfl (lv_at hl 1 rfl) ?_
            refine lv_iconst (v := 2) G0.1 G0.2.1 dX12_set_74 (by decide) ?_
            have jn_86 : ∀ (v_65 : Int32) (H_j86 : Heap) (locs : List Loc) (ls : Array Slot), py_W E (va_A (va_pl L f) s.heap.size) s L f_61 H_j86 locs → lv_has ls 3 [(0, .ref u), (1, .int a), (2, .int b)] → W p l e (headSpec w_X12_set ({ frames := 1, cells := 0, slots := 0, locals := 22 })).room s m ([.ref u, .int a, .int b] : List Value).toArray below meth c H_j86 locs 0 0 (MQ below (py_Qi E L f s.heap.size (fun r L1 f1 => (0 ≤ r.toInt ∧ r.toInt ≤ 1) ∧ WF E G L1 f1 ∧ KP G [13] false f f1 ∧ FK [32, 33, 34] f f1 u)) ([.ref u, .int a, .int b] : List Value).toArray s 0 0 (va_A (va_pl L f) s.heap.size)) (F0 m 86 ls [.int v_65, .ref u]) := by
              intro v_65 H_j86 locs ls hw hl
              refine py_put (C := RX12) (T := TX12) (N := 54) (k := 34) (v := .int v_65) (fs' := [.int v_21, .ref (G.2 u 1), .int v_22, .int v_23, .int v_24, .int v_25, .ref (G.2 u 6), .ref (G.2 u 7), .ref (G.2 u 8), .ref (G.2 u 9), .ref (G.2 u 10), .ref (G.2 u 11), .ref (G.2 u 12), .int v_26, .int v_27, .ref (G.2 u 15), .ref (G.2 u 16), .ref (G.2 u 17), .ref (G.2 u 18), .int v_28, .int v_29, .ref (G.2 u 21), .ref (G.2 u 22), .ref (G.2 u 23), .int v_30, .int v_31, .ref (G.2 u 26), .ref (G.2 u 27), .ref (G.2 u 28), .int v_32, .long y_33, .int v_34, .int v_20, .int v_60, .int v_65, .ref (G.2 u 35), .ref (G.2 u 36), .ref (G.2 u 37), .ref (G.2 u 38), .ref (G.2 u 39), .ref (G.2 u 40), .ref (G.2 u 41), .ref (G.2 u 42), .int v_38, .ref (G.2 u 44), .ref (G.2 u 45), .ref (G.2 u 46), .ref (G.2 u 47), .long y_39, .ref (G.2 u 49), .ref (G.2 u 50), .int v_40, .long y_41, .int v_42]) (ty0 := tyX12) G0 hw tyX12_ok nmX12 in_X12_set_X12 rfl h_63 (by decide) (by decide +kernel) rfl rfl rfl rfl (Nat.le_of_ble_eq_true rfl) rfl dX12_set_86 (fun f_66 H_67 locs h_68 x_69 hw => ?_)
              have hFK := hFK.put h_63 h_68 34 (by decide) rfl
              have hKP := hKP.upd hWF x_69 Tu (Or.inl (by decide))
              have hWF := wf_upd hWF h_68 x_69 (by rw [Tu]; exact ⟨v_21, v_22, v_23, v_24, v_25, v_26, v_27, v_28, v_29, v_30, v_31, v_32, y_33, v_34, v_20, v_60, v_65, v_38, y_39, v_40, y_41, v_42, rfl, ⟨by omega, by omega⟩, ⟨by omega, by omega⟩, ⟨by omega, by omega⟩, ⟨by omega, by omega⟩, ⟨by omega, by omega⟩, ⟨by omega, by omega⟩, ⟨by omega, by omega⟩, ⟨by omega, by omega⟩, ⟨by omega, by omega⟩, ⟨by omega, by omega⟩, ⟨by omega, by omega⟩, ⟨by omega, by omega⟩⟩)
              refine lv_iconst (v := 1) G0.1 G0.2.1 dX12_set_89 (by decide) ?_
              exact py_iret G0 hr rfl hlk hw ⟨⟨by omega, by omega⟩, hWF, hKP, hFK⟩ dX12_set_90
            refine lv_icmp_ne (tgt := 82) G0.1 G0.2.1 dX12_set_75 (by decide) (fun c_70 => ?_) (fun c_70 => ?_)
            · skip
              have tc_70 := ti_ne c_70
              refine lv_aload_n G0.1 G0.2.1 dX12_set_82 rfl (lv_at hl 0 rfl) ?_
              refine py_get (C := RX12) (T := TX12) (N := 54) (k := 34) (v := .int v_37) G0 hw in_X12_set_X12 rfl h_63 (by decide) (by decide +kernel) rfl dX12_set_83 ?_
              exact jn_86 v_37 _ _ ls hw (lv_sub hl [0, 1, 2] rfl)
            · skip
              have tc_70 := ti_eq c_70
              refine lv_iload_n G0.1 G0.2.1 dX12_set_78 rfl (lv_at hl 2 rfl) ?_
              refine lv_goto (tgt := 86) G0.1 G0.2.1 dX12_set_79 (by decide) ?_
              exact jn_86 b _ _ ls hw (lv_sub hl [0, 1, 2] rfl)
          refine lv_icmp_ne (tgt := 65) G0.1 G0.2.1 dX12_set_58 (by decide) (fun c_71 => ?_) (fun c_71 => ?_)
          · skip
            have tc_71 := ti_ne c_71
            refine lv_aload_n G0.1 G0.2.1 dX12_set_65 rfl (lv_at hl 0 rfl) ?_
            refine py_get (C := RX12) (T := TX12) (N := 54) (k := 33) (v := .int v_36) G0 hw in_X12_set_X12 rfl h_58 (by decide) (by decide +kernel) rfl dX12_set_66 ?_
            exact jn_69 v_36 _ _ ls hw (lv_sub hl [0, 1, 2] rfl)
          · skip
            have tc_71 := ti_eq c_71
            refine lv_iload_n G0.1 G0.2.1 dX12_set_61 rfl (lv_at hl 2 rfl) ?_
            refine lv_goto (tgt := 69) G0.1 G0.2.1 dX12_set_62 (by decide) ?_
            exact jn_69 b _ _ ls hw (lv_sub hl [0, 1, 2] rfl)
        refine lv_if_ne (tgt := 48) G0.1 G0.2.1 dX12_set_41 (by decide) (fun c_72 => ?_) (fun c_72 => ?_)
        · skip
          have tc_72 := ti_ne c_72
          refine lv_aload_n G0.1 G0.2.1 dX12_set_48 rfl (lv_at hl 0 rfl) ?_
          obtain ⟨v_73, v_74, v_75, v_76, v_77, v_78, v_79, v_80, v_81, v_82, v_83, v_84, y_85, v_86, v_87, v_88, v_89, v_90, y_91, v_92, y_93, v_94, hr_107, b_95, b_96, b_97, b_98, b_99, b_100, b_101, b_102, b_103, b_104, b_105, b_106⟩ := wg_12 hWF Tu
          refine py_get (C := RX12) (T := TX12) (N := 54) (k := 32) (v := .int v_87) G0 hw in_X12_set_X12 rfl hr_107 (by decide) (by decide +kernel) rfl dX12_set_49 ?_
          exact jn_52 v_87 _ _ ls hw (lv_sub hl [0, 1, 2] rfl)
        · skip
          have tc_72 := ti_eq c_72
          refine lv_iload_n G0.1 G0.2.1 dX12_set_44 rfl (lv_at hl 2 rfl) ?_
          refine lv_goto (tgt := 52) G0.1 G0.2.1 dX12_set_45 (by decide) ?_
          exact jn_52 b _ _ ls hw (lv_sub hl [0, 1, 2] rfl)
      · skip
        have tc_19 := ti_eq c_19
        clear en_16
        replace en_17 := en_17 (by omega)
        refine lv_iconst (v := 0) G0.1 G0.2.1 dX12_set_37 (by decide) ?_
        exact py_iret G0 hr rfl hlk hw ⟨⟨by omega, by omega⟩, hWF, hKP, hFK⟩ dX12_set_38
    refine lv_if_ne (tgt := 20) G0.1 G0.2.1 dX12_set_12 (by decide) (fun c_108 => ?_) (fun c_108 => ?_)
    · skip
      have tc_108 := ti_ne c_108
      refine lv_iload_n G0.1 G0.2.1 dX12_set_20 rfl (lv_at hl 1 rfl) ?_
      refine lv_iconst (v := 1) G0.1 G0.2.1 dX12_set_21 (by decide) ?_
      refine lv_icmp_ne (tgt := 29) G0.1 G0.2.1 dX12_set_22 (by decide) (fun c_109 => ?_) (fun c_109 => ?_)
      · skip
        have tc_109 := ti_ne c_109
        refine lv_bipush (v := 99) G0.1 G0.2.1 dX12_set_29 (by decide) ?_
        exact jn_31 99 _ _ ls ⟨by omega, by omega⟩ hw (lv_sub hl [0, 1, 2] rfl)
      · skip
        have tc_109 := ti_eq c_109
        refine lv_iconst (v := 1) G0.1 G0.2.1 dX12_set_25 (by decide) ?_
        refine lv_goto (tgt := 31) G0.1 G0.2.1 dX12_set_26 (by decide) ?_
        exact jn_31 1 _ _ ls ⟨by omega, by omega⟩ hw (lv_sub hl [0, 1, 2] rfl)
    · skip
      have tc_108 := ti_eq c_108
      refine lv_bipush (v := 100) G0.1 G0.2.1 dX12_set_15 (by decide) ?_
      refine lv_goto (tgt := 31) G0.1 G0.2.1 dX12_set_17 (by decide) ?_
      exact jn_31 100 _ _ ls ⟨by omega, by omega⟩ hw (lv_sub hl [0, 1, 2] rfl)

def w_X12_level : List Cond := .code yX12_level cX12_level 3 (some .int) :: ([Cond.methodLink RX12 330 yX12_isLevel, Cond.instanceMethod yX12_isLevel, Cond.selects RX12 yX12_isLevel yX12_isLevel, Cond.initialized RX12, Cond.fieldLink RX12 117 "HeadYearModel" "thrown" "I", Cond.methodLink RX12 232 yX12_in, Cond.static yX12_in, Cond.methodLink RX12 336 yX12_lackAt, Cond.instanceMethod yX12_lackAt, Cond.selects RX12 yX12_lackAt yX12_lackAt, Cond.methodLink RX12 293 yX12_levelOf, Cond.instanceMethod yX12_levelOf, Cond.selects RX12 yX12_levelOf yX12_levelOf, Cond.methodLink RX12 333 yX12_empties, Cond.instanceMethod yX12_empties, Cond.selects RX12 yX12_empties yX12_empties, Cond.methodLink RX12 325 yX12_headsAt, Cond.instanceMethod yX12_headsAt, Cond.selects RX12 yX12_headsAt yX12_headsAt] ++ (u_ws RX12 TX12 54 ++ (w_X12_isLevel ++ (w_X12_in ++ (w_X12_lackAt ++ (w_X12_levelOf ++ (w_X12_empties ++ (w_X12_headsAt ++ ([])))))))))
theorem in_X12_level_X12 : ∀ w ∈ u_ws RX12 TX12 54, w ∈ w_X12_level := fun _ h => List.mem_cons_of_mem _ (List.mem_append_right _ (List.mem_append_left _ h))
theorem gg_X12_level_X12_isLevel : GoodIn w_X12_level w_X12_isLevel := goodIn_sub (fun _ h => List.mem_cons_of_mem _ (List.mem_append_right _ (List.mem_append_right _ (List.mem_append_left _ h)))) (by decide +kernel)
theorem gg_X12_level_X12_in : GoodIn w_X12_level w_X12_in := goodIn_sub (fun _ h => List.mem_cons_of_mem _ (List.mem_append_right _ (List.mem_append_right _ (List.mem_append_right _ (List.mem_append_left _ h))))) (by decide +kernel)
theorem gg_X12_level_X12_lackAt : GoodIn w_X12_level w_X12_lackAt := goodIn_sub (fun _ h => List.mem_cons_of_mem _ (List.mem_append_right _ (List.mem_append_right _ (List.mem_append_right _ (List.mem_append_right _ (List.mem_append_left _ h)))))) (by decide +kernel)
theorem gg_X12_level_X12_levelOf : GoodIn w_X12_level w_X12_levelOf := goodIn_sub (fun _ h => List.mem_cons_of_mem _ (List.mem_append_right _ (List.mem_append_right _ (List.mem_append_right _ (List.mem_append_right _ (List.mem_append_right _ (List.mem_append_left _ h))))))) (by decide +kernel)
theorem gg_X12_level_X12_empties : GoodIn w_X12_level w_X12_empties := goodIn_sub (fun _ h => List.mem_cons_of_mem _ (List.mem_append_right _ (List.mem_append_right _ (List.mem_append_right _ (List.mem_append_right _ (List.mem_append_right _ (List.mem_append_right _ (List.mem_append_left _ h)))))))) (by decide +kernel)
theorem gg_X12_level_X12_headsAt : GoodIn w_X12_level w_X12_headsAt := goodIn_sub (fun _ h => List.mem_cons_of_mem _ (List.mem_append_right _ (List.mem_append_right _ (List.mem_append_right _ (List.mem_append_right _ (List.mem_append_right _ (List.mem_append_right _ (List.mem_append_right _ (List.mem_append_left _ h))))))))) (by decide +kernel)
theorem g_X12_level_X12_empties_333 : GoodIn w_X12_level (wsV RX12 333 RX12 yX12_empties w_X12_empties) := goodIn_app (goodIn_of _ (by decide +kernel)) gg_X12_level_X12_empties
theorem g_X12_level_X12_headsAt_325 : GoodIn w_X12_level (wsV RX12 325 RX12 yX12_headsAt w_X12_headsAt) := goodIn_app (goodIn_of _ (by decide +kernel)) gg_X12_level_X12_headsAt
theorem g_X12_level_X12_in_232 : GoodIn w_X12_level (va_wsS RX12 232 yX12_in w_X12_in) := goodIn_app (goodIn_of _ (by decide +kernel)) gg_X12_level_X12_in
theorem g_X12_level_X12_isLevel_330 : GoodIn w_X12_level (wsV RX12 330 RX12 yX12_isLevel w_X12_isLevel) := goodIn_app (goodIn_of _ (by decide +kernel)) gg_X12_level_X12_isLevel
theorem g_X12_level_X12_lackAt_336 : GoodIn w_X12_level (wsV RX12 336 RX12 yX12_lackAt w_X12_lackAt) := goodIn_app (goodIn_of _ (by decide +kernel)) gg_X12_level_X12_lackAt
theorem g_X12_level_X12_levelOf_293 : GoodIn w_X12_level (wsV RX12 293 RX12 yX12_levelOf w_X12_levelOf) := goodIn_app (goodIn_of _ (by decide +kernel)) gg_X12_level_X12_levelOf
set_option maxHeartbeats 4000000 in
set_option maxRecDepth 100000 in
theorem c_X12_level (l : Launch) (E : py_E) (G : wf_G) (L : List Nat) (f : py_F) (sz : Nat) (u : Nat) (a : Int32) (b : Int32) (hG : GT G) (hWF : WF E G L f) (Tu : G.1 u = 13) : Met l yX12_level w_X12_level ({ frames := 4, cells := 0, slots := 0, locals := 91 }) (py_Pc E [.ref u, .int a, .int b] L f sz) (py_Qi E L f sz (fun _ L1 f1 => WF E G L1 f1 ∧ KP G [13] false f f1 ∧ FK [0] f f1 u)) 0 0 (va_A (va_pl L f) sz) := by
  refine Met.ofW (cc := cX12_level) (maxL := 3) (ret := (some .int)) (by decide) rfl ?_
  intro p e s m args below meth c s₁ B hml hv
  obtain ⟨rfl, rfl, hw⟩ := py_start hv
  have G0 : CallFix p m c cX12_level 3 s _ w_X12_level RX12 := ⟨B.exec, B.bytes, hml, findClass_of_methodNamed B.named, atoms_spec (ws := w_X12_level) B.pre⟩
  have hr := B.returns
  have hlk := B.notSynchronized
  have kcm1 : (-1 : Int32).toInt = -1 := rfl
  have kc0 : (0 : Int32).toInt = 0 := rfl
  have kc1 : (1 : Int32).toInt = 1 := rfl
  have kc4 : (4 : Int32).toInt = 4 := rfl
  have kc5 : (5 : Int32).toInt = 5 := rfl
  have kc6 : (6 : Int32).toInt = 6 := rfl
  have hl := lv_entry ([.ref u, .int a, .int b]) (n := 3) (Nat.le_of_ble_eq_true rfl)
  rw [lg_entry_eq]
  generalize (lg_sl ([.ref u, .int a, .int b]) ++ List.replicate (3 - (lg_sl ([.ref u, .int a, .int b])).length) Slot.unset).toArray = ls at hl ⊢
  have hl : lv_has ls 3 [(0, .ref u), (1, .int a), (2, .int b)] := hl
  have hFK : FK [0] f f u := FK.refl
  have hKP : KP G [13] false f f := KP.refl
  refine lv_aload_n G0.1 G0.2.1 dX12_level_0 rfl (lv_at hl 0 rfl) ?_
  refine lv_aload_n G0.1 G0.2.1 dX12_level_1 rfl (lv_at hl 0 rfl) ?_
  refine lv_iload_n G0.1 G0.2.1 dX12_level_2 rfl (lv_at hl 1 rfl) ?_
  obtain ⟨v_1, v_2, v_3, v_4, v_5, v_6, v_7, v_8, v_9, v_10, v_11, v_12, y_13, v_14, v_15, v_16, v_17, v_18, y_19, v_20, y_21, v_22, hr_35, b_23, b_24, b_25, b_26, b_27, b_28, b_29, b_30, b_31, b_32, b_33, b_34⟩ := wg_12 hWF Tu
  refine py_calli hw (va_runV (As := [.int a]) (rest := [.ref u]) G0 (c_X12_isLevel l E G L f s.heap.size u a hG hWF Tu) (cwV 1 G0.2.2.2.2 g_X12_level_X12_isLevel_330 rfl rfl rfl (by decide +kernel) ⟨(Nat.le_of_ble_eq_true rfl), (Nat.le_of_ble_eq_true rfl)⟩) (py_preV hw (C := RX12) (T := TX12) (N := 54) rfl hr_35) rfl rfl hl.1 rfl (lv_room (Nat.le_of_ble_eq_true rfl)) dX12_level_3 ⟨(Nat.le_of_ble_eq_true rfl), (Nat.le_of_ble_eq_true rfl)⟩) (fun r_40 L_36 f_37 H_38 locs hp_39 hw => ?_)
  obtain ⟨b_42, en_41, rfl, rfl⟩ := hp_39
  refine lv_if_eq (tgt := 23) G0.1 G0.2.1 dX12_level_6 (by decide) (fun c_43 => ?_) (fun c_43 => ?_)
  · skip
    have tc_43 := ti_eq c_43
    clear en_41
    refine lv_iconst (v := 1) G0.1 G0.2.1 dX12_level_23 (by decide) ?_
    refine py_put (C := RX12) (T := TX12) (N := 54) (k := 0) (v := .int 1) (fs' := [.int 1, .ref (G.2 u 1), .int v_2, .int v_3, .int v_4, .int v_5, .ref (G.2 u 6), .ref (G.2 u 7), .ref (G.2 u 8), .ref (G.2 u 9), .ref (G.2 u 10), .ref (G.2 u 11), .ref (G.2 u 12), .int v_6, .int v_7, .ref (G.2 u 15), .ref (G.2 u 16), .ref (G.2 u 17), .ref (G.2 u 18), .int v_8, .int v_9, .ref (G.2 u 21), .ref (G.2 u 22), .ref (G.2 u 23), .int v_10, .int v_11, .ref (G.2 u 26), .ref (G.2 u 27), .ref (G.2 u 28), .int v_12, .long y_13, .int v_14, .int v_15, .int v_16, .int v_17, .ref (G.2 u 35), .ref (G.2 u 36), .ref (G.2 u 37), .ref (G.2 u 38), .ref (G.2 u 39), .ref (G.2 u 40), .ref (G.2 u 41), .ref (G.2 u 42), .int v_18, .ref (G.2 u 44), .ref (G.2 u 45), .ref (G.2 u 46), .ref (G.2 u 47), .long y_19, .ref (G.2 u 49), .ref (G.2 u 50), .int v_20, .long y_21, .int v_22]) (ty0 := tyX12) G0 hw tyX12_ok nmX12 in_X12_level_X12 rfl hr_35 (by decide) (by decide +kernel) rfl rfl rfl rfl (Nat.le_of_ble_eq_true rfl) rfl dX12_level_24 (fun f_44 H_45 locs h_46 x_47 hw => ?_)
    have hFK := hFK.put hr_35 h_46 0 (by decide) rfl
    have hKP := hKP.upd hWF x_47 Tu (Or.inl (by decide))
    have hWF := wf_upd hWF h_46 x_47 (by rw [Tu]; exact ⟨1, v_2, v_3, v_4, v_5, v_6, v_7, v_8, v_9, v_10, v_11, v_12, y_13, v_14, v_15, v_16, v_17, v_18, y_19, v_20, y_21, v_22, rfl, ⟨by omega, by omega⟩, ⟨by omega, by omega⟩, ⟨by omega, by omega⟩, ⟨by omega, by omega⟩, ⟨by omega, by omega⟩, ⟨by omega, by omega⟩, ⟨by omega, by omega⟩, ⟨by omega, by omega⟩, ⟨by omega, by omega⟩, ⟨by omega, by omega⟩, ⟨by omega, by omega⟩, ⟨by omega, by omega⟩⟩)
    refine lv_aload_n G0.1 G0.2.1 dX12_level_27 rfl (lv_at hl 0 rfl) ?_
    refine py_get (C := RX12) (T := TX12) (N := 54) (k := 0) (v := .int 1) G0 hw in_X12_level_X12 rfl h_46 (by decide) (by decide +kernel) rfl dX12_level_28 ?_
    refine lv_iconst (v := 1) G0.1 G0.2.1 dX12_level_31 (by decide) ?_
    refine lv_icmp_ne (tgt := 37) G0.1 G0.2.1 dX12_level_32 (by decide) (fun c_48 => ?_) (fun c_48 => ?_)
    · skip
      exact absurd c_48 (by decide)
    · skip
      have tc_48 := ti_eq c_48
      refine lv_iconst (v := 0) G0.1 G0.2.1 dX12_level_35 (by decide) ?_
      exact py_iret G0 hr rfl hlk hw ⟨hWF, hKP, hFK⟩ dX12_level_36
  · skip
    have tc_43 := ti_ne c_43
    replace en_41 := en_41 (by omega)
    refine lv_iload_n G0.1 G0.2.1 dX12_level_9 rfl (lv_at hl 2 rfl) ?_
    refine lv_iconst (v := 0) G0.1 G0.2.1 dX12_level_10 (by decide) ?_
    refine lv_bipush (v := 6) G0.1 G0.2.1 dX12_level_11 (by decide) ?_
    refine py_calli hw (va_runS (As := [.int b, .int 0, .int 6]) (rest := [.ref u]) G0 (c_X12_in l E G L f H_38.size b 0 6 hG hWF) (va_cwS 3 G0.2.2.2.2 g_X12_level_X12_in_232 rfl rfl rfl (by decide +kernel) ⟨(Nat.le_of_ble_eq_true rfl), (Nat.le_of_ble_eq_true rfl)⟩) (py_preS hw) rfl rfl hl.1 rfl (lv_room (Nat.le_of_ble_eq_true rfl)) dX12_level_13 ⟨(Nat.le_of_ble_eq_true rfl), (Nat.le_of_ble_eq_true rfl)⟩) (fun r_53 L_49 f_50 H_51 locs hp_52 hw => ?_)
    obtain ⟨b_56, en_54, en_55, rfl, rfl⟩ := hp_52
    have en_54 : r_53.toInt ≠ 0 → (0 : Int) ≤ b.toInt ∧ b.toInt ≤ (6 : Int) := en_54
    have en_55 : r_53.toInt = 0 → b.toInt < (0 : Int) ∨ (6 : Int) < b.toInt := en_55
    refine lv_if_eq (tgt := 23) G0.1 G0.2.1 dX12_level_16 (by decide) (fun c_57 => ?_) (fun c_57 => ?_)
    · skip
      have tc_57 := ti_eq c_57
      clear en_54
      replace en_55 := en_55 (by omega)
      refine lv_iconst (v := 1) G0.1 G0.2.1 dX12_level_23 (by decide) ?_
      refine py_put (C := RX12) (T := TX12) (N := 54) (k := 0) (v := .int 1) (fs' := [.int 1, .ref (G.2 u 1), .int v_2, .int v_3, .int v_4, .int v_5, .ref (G.2 u 6), .ref (G.2 u 7), .ref (G.2 u 8), .ref (G.2 u 9), .ref (G.2 u 10), .ref (G.2 u 11), .ref (G.2 u 12), .int v_6, .int v_7, .ref (G.2 u 15), .ref (G.2 u 16), .ref (G.2 u 17), .ref (G.2 u 18), .int v_8, .int v_9, .ref (G.2 u 21), .ref (G.2 u 22), .ref (G.2 u 23), .int v_10, .int v_11, .ref (G.2 u 26), .ref (G.2 u 27), .ref (G.2 u 28), .int v_12, .long y_13, .int v_14, .int v_15, .int v_16, .int v_17, .ref (G.2 u 35), .ref (G.2 u 36), .ref (G.2 u 37), .ref (G.2 u 38), .ref (G.2 u 39), .ref (G.2 u 40), .ref (G.2 u 41), .ref (G.2 u 42), .int v_18, .ref (G.2 u 44), .ref (G.2 u 45), .ref (G.2 u 46), .ref (G.2 u 47), .long y_19, .ref (G.2 u 49), .ref (G.2 u 50), .int v_20, .long y_21, .int v_22]) (ty0 := tyX12) G0 hw tyX12_ok nmX12 in_X12_level_X12 rfl hr_35 (by decide) (by decide +kernel) rfl rfl rfl rfl (Nat.le_of_ble_eq_true rfl) rfl dX12_level_24 (fun f_58 H_59 locs h_60 x_61 hw => ?_)
      have hFK := hFK.put hr_35 h_60 0 (by decide) rfl
      have hKP := hKP.upd hWF x_61 Tu (Or.inl (by decide))
      have hWF := wf_upd hWF h_60 x_61 (by rw [Tu]; exact ⟨1, v_2, v_3, v_4, v_5, v_6, v_7, v_8, v_9, v_10, v_11, v_12, y_13, v_14, v_15, v_16, v_17, v_18, y_19, v_20, y_21, v_22, rfl, ⟨by omega, by omega⟩, ⟨by omega, by omega⟩, ⟨by omega, by omega⟩, ⟨by omega, by omega⟩, ⟨by omega, by omega⟩, ⟨by omega, by omega⟩, ⟨by omega, by omega⟩, ⟨by omega, by omega⟩, ⟨by omega, by omega⟩, ⟨by omega, by omega⟩, ⟨by omega, by omega⟩, ⟨by omega, by omega⟩⟩)
      refine lv_aload_n G0.1 G0.2.1 dX12_level_27 rfl (lv_at hl 0 rfl) ?_
      refine py_get (C := RX12) (T := TX12) (N := 54) (k := 0) (v := .int 1) G0 hw in_X12_level_X12 rfl h_60 (by decide) (by decide +kernel) rfl dX12_level_28 ?_
      refine lv_iconst (v := 1) G0.1 G0.2.1 dX12_level_31 (by decide) ?_
      refine lv_icmp_ne (tgt := 37) G0.1 G0.2.1 dX12_level_32 (by decide) (fun c_62 => ?_) (fun c_62 => ?_)
      · skip
        exact absurd c_62 (by decide)
      · skip
        have tc_62 := ti_eq c_62
        refine lv_iconst (v := 0) G0.1 G0.2.1 dX12_level_35 (by decide) ?_
        exact py_iret G0 hr rfl hlk hw ⟨hWF, hKP, hFK⟩ dX12_level_36
    · skip
      have tc_57 := ti_ne c_57
      replace en_54 := en_54 (by omega)
      clear en_55
      refine lv_iconst (v := 0) G0.1 G0.2.1 dX12_level_19 (by decide) ?_
      refine lv_goto (tgt := 24) G0.1 G0.2.1 dX12_level_20 (by decide) ?_
      refine py_put (C := RX12) (T := TX12) (N := 54) (k := 0) (v := .int 0) (fs' := [.int 0, .ref (G.2 u 1), .int v_2, .int v_3, .int v_4, .int v_5, .ref (G.2 u 6), .ref (G.2 u 7), .ref (G.2 u 8), .ref (G.2 u 9), .ref (G.2 u 10), .ref (G.2 u 11), .ref (G.2 u 12), .int v_6, .int v_7, .ref (G.2 u 15), .ref (G.2 u 16), .ref (G.2 u 17), .ref (G.2 u 18), .int v_8, .int v_9, .ref (G.2 u 21), .ref (G.2 u 22), .ref (G.2 u 23), .int v_10, .int v_11, .ref (G.2 u 26), .ref (G.2 u 27), .ref (G.2 u 28), .int v_12, .long y_13, .int v_14, .int v_15, .int v_16, .int v_17, .ref (G.2 u 35), .ref (G.2 u 36), .ref (G.2 u 37), .ref (G.2 u 38), .ref (G.2 u 39), .ref (G.2 u 40), .ref (G.2 u 41), .ref (G.2 u 42), .int v_18, .ref (G.2 u 44), .ref (G.2 u 45), .ref (G.2 u 46), .ref (G.2 u 47), .long y_19, .ref (G.2 u 49), .ref (G.2 u 50), .int v_20, .long y_21, .int v_22]) (ty0 := tyX12) G0 hw tyX12_ok nmX12 in_X12_level_X12 rfl hr_35 (by decide) (by decide +kernel) rfl rfl rfl rfl (Nat.le_of_ble_eq_true rfl) rfl dX12_level_24 (fun f_63 H_64 locs h_65 x_66 hw => ?_)
      have hFK := hFK.put hr_35 h_65 0 (by decide) rfl
      have hKP := hKP.upd hWF x_66 Tu (Or.inl (by decide))
      have hWF := wf_upd hWF h_65 x_66 (by rw [Tu]; exact ⟨0, v_2, v_3, v_4, v_5, v_6, v_7, v_8, v_9, v_10, v_11, v_12, y_13, v_14, v_15, v_16, v_17, v_18, y_19, v_20, y_21, v_22, rfl, ⟨by omega, by omega⟩, ⟨by omega, by omega⟩, ⟨by omega, by omega⟩, ⟨by omega, by omega⟩, ⟨by omega, by omega⟩, ⟨by omega, by omega⟩, ⟨by omega, by omega⟩, ⟨by omega, by omega⟩, ⟨by omega, by omega⟩, ⟨by omega, by omega⟩, ⟨by omega, by omega⟩, ⟨by omega, by omega⟩⟩)
      refine lv_aload_n G0.1 G0.2.1 dX12_level_27 rfl (lv_at hl 0 rfl) ?_
      refine py_get (C := RX12) (T := TX12) (N := 54) (k := 0) (v := .int 0) G0 hw in_X12_level_X12 rfl h_65 (by decide) (by decide +kernel) rfl dX12_level_28 ?_
      refine lv_iconst (v := 1) G0.1 G0.2.1 dX12_level_31 (by decide) ?_
      refine lv_icmp_ne (tgt := 37) G0.1 G0.2.1 dX12_level_32 (by decide) (fun c_67 => ?_) (fun c_67 => ?_)
      · skip
        have tc_67 := ti_ne c_67
        refine lv_iload_n G0.1 G0.2.1 dX12_level_37 rfl (lv_at hl 2 rfl) ?_
        refine lv_iconst (v := 4) G0.1 G0.2.1 dX12_level_38 (by decide) ?_
        refine lv_icmp_ge (tgt := 51) G0.1 G0.2.1 dX12_level_39 (by decide) (fun c_68 => ?_) (fun c_68 => ?_)
        · skip
          have tc_68 := ti_le c_68
          refine lv_iload_n G0.1 G0.2.1 dX12_level_51 rfl (lv_at hl 2 rfl) ?_
          refine lv_iconst (v := 4) G0.1 G0.2.1 dX12_level_52 (by decide) ?_
          refine lv_icmp_ne (tgt := 64) G0.1 G0.2.1 dX12_level_53 (by decide) (fun c_69 => ?_) (fun c_69 => ?_)
          · skip
            have tc_69 := ti_ne c_69
            refine lv_iload_n G0.1 G0.2.1 dX12_level_64 rfl (lv_at hl 2 rfl) ?_
            refine lv_iconst (v := 5) G0.1 G0.2.1 dX12_level_65 (by decide) ?_
            refine lv_icmp_ne (tgt := 84) G0.1 G0.2.1 dX12_level_66 (by decide) (fun c_70 => ?_) (fun c_70 => ?_)
            · skip
              have tc_70 := ti_ne c_70
              refine lv_aload_n G0.1 G0.2.1 dX12_level_84 rfl (lv_at hl 0 rfl) ?_
              refine lv_iload_n G0.1 G0.2.1 dX12_level_85 rfl (lv_at hl 1 rfl) ?_
              refine py_calli hw (va_runV (As := [.int a]) (rest := []) G0 (c_X12_lackAt l E G L f_63 H_64.size u a hG hWF Tu ⟨by omega, by omega⟩) (cwV 1 G0.2.2.2.2 g_X12_level_X12_lackAt_336 rfl rfl rfl (by decide +kernel) ⟨(Nat.le_of_ble_eq_true rfl), (Nat.le_of_ble_eq_true rfl)⟩) (py_preV hw (C := RX12) (T := TX12) (N := 54) rfl h_65) rfl rfl hl.1 rfl (lv_room (Nat.le_of_ble_eq_true rfl)) dX12_level_86 ⟨(Nat.le_of_ble_eq_true rfl), (Nat.le_of_ble_eq_true rfl)⟩) (fun r_75 L_71 f_72 H_73 locs hp_74 hw => ?_)
              obtain ⟨rfl, rfl⟩ := hp_74
              have br_75 := wf_free r_75
              exact py_iret G0 hr rfl hlk hw ⟨hWF, hKP, hFK⟩ dX12_level_89
            · skip
              have tc_70 := ti_eq c_70
              refine lv_aload_n G0.1 G0.2.1 dX12_level_69 rfl (lv_at hl 0 rfl) ?_
              refine lv_iload_n G0.1 G0.2.1 dX12_level_70 rfl (lv_at hl 1 rfl) ?_
              refine lv_iconst (v := 0) G0.1 G0.2.1 dX12_level_71 (by decide) ?_
              refine py_calli hw (va_runV (As := [.int a, .int 0]) (rest := []) G0 (c_X12_levelOf l E G L f_63 H_64.size u a 0 hG hWF Tu ⟨by omega, by omega⟩ ⟨by omega, by omega⟩) (cwV 2 G0.2.2.2.2 g_X12_level_X12_levelOf_293 rfl rfl rfl (by decide +kernel) ⟨(Nat.le_of_ble_eq_true rfl), (Nat.le_of_ble_eq_true rfl)⟩) (py_preV hw (C := RX12) (T := TX12) (N := 54) rfl h_65) rfl rfl hl.1 rfl (lv_room (Nat.le_of_ble_eq_true rfl)) dX12_level_72 ⟨(Nat.le_of_ble_eq_true rfl), (Nat.le_of_ble_eq_true rfl)⟩) (fun r_80 L_76 f_77 H_78 locs hp_79 hw => ?_)
              obtain ⟨en_81, rfl, rfl⟩ := hp_79
              have en_81 : r_80.toInt = lr f_63 G u a.toInt (0 : Int) := en_81
              have br_80 := wf_free r_80
              refine lv_aload_n G0.1 G0.2.1 dX12_level_75 rfl (lv_at hl 0 rfl) ?_
              refine lv_iload_n G0.1 G0.2.1 dX12_level_76 rfl (lv_at hl 1 rfl) ?_
              refine py_calli hw (va_runV (As := [.int a]) (rest := [.int r_80]) G0 (c_X12_empties l E G L f_63 H_78.size u a hG hWF Tu ⟨by omega, by omega⟩) (cwV 1 G0.2.2.2.2 g_X12_level_X12_empties_333 rfl rfl rfl (by decide +kernel) ⟨(Nat.le_of_ble_eq_true rfl), (Nat.le_of_ble_eq_true rfl)⟩) (py_preV hw (C := RX12) (T := TX12) (N := 54) rfl h_65) rfl rfl hl.1 rfl (lv_room (Nat.le_of_ble_eq_true rfl)) dX12_level_77 ⟨(Nat.le_of_ble_eq_true rfl), (Nat.le_of_ble_eq_true rfl)⟩) (fun r_86 L_82 f_83 H_84 locs hp_85 hw => ?_)
              obtain ⟨en_87, en_88, en_89, rfl, rfl⟩ := hp_85
              have br_86 := wf_free r_86
              refine lv_isub G0.1 G0.2.1 dX12_level_80 ?_
              refine lv_topi (fun x_90 ex_90 => ?_)
              first | have tx_90 := ti_sub ex_90 (by omega -splitDisjunctions) (by omega -splitDisjunctions) | skip
              refine lv_goto (tgt := 89) G0.1 G0.2.1 dX12_level_81 (by decide) ?_
              exact py_iret G0 hr rfl hlk hw ⟨hWF, hKP, hFK⟩ dX12_level_89
          · skip
            have tc_69 := ti_eq c_69
            refine lv_aload_n G0.1 G0.2.1 dX12_level_56 rfl (lv_at hl 0 rfl) ?_
            refine lv_iload_n G0.1 G0.2.1 dX12_level_57 rfl (lv_at hl 1 rfl) ?_
            refine py_calli hw (va_runV (As := [.int a]) (rest := []) G0 (c_X12_headsAt l E G L f_63 H_64.size u a hG hWF Tu) (cwV 1 G0.2.2.2.2 g_X12_level_X12_headsAt_325 rfl rfl rfl (by decide +kernel) ⟨(Nat.le_of_ble_eq_true rfl), (Nat.le_of_ble_eq_true rfl)⟩) (py_preV hw (C := RX12) (T := TX12) (N := 54) rfl h_65) rfl rfl hl.1 rfl (lv_room (Nat.le_of_ble_eq_true rfl)) dX12_level_58 ⟨(Nat.le_of_ble_eq_true rfl), (Nat.le_of_ble_eq_true rfl)⟩) (fun r_95 L_91 f_92 H_93 locs hp_94 hw => ?_)
            obtain ⟨rfl, rfl⟩ := hp_94
            have br_95 := wf_free r_95
            refine lv_goto (tgt := 89) G0.1 G0.2.1 dX12_level_61 (by decide) ?_
            exact py_iret G0 hr rfl hlk hw ⟨hWF, hKP, hFK⟩ dX12_level_89
        · skip
          have tc_68 := ti_nle c_68
          refine lv_aload_n G0.1 G0.2.1 dX12_level_42 rfl (lv_at hl 0 rfl) ?_
          refine lv_iload_n G0.1 G0.2.1 dX12_level_43 rfl (lv_at hl 1 rfl) ?_
          refine lv_iload_n G0.1 G0.2.1 dX12_level_44 rfl (lv_at hl 2 rfl) ?_
          refine py_calli hw (va_runV (As := [.int a, .int b]) (rest := []) G0 (c_X12_levelOf l E G L f_63 H_64.size u a b hG hWF Tu ⟨by omega, by omega⟩ ⟨by omega, by omega⟩) (cwV 2 G0.2.2.2.2 g_X12_level_X12_levelOf_293 rfl rfl rfl (by decide +kernel) ⟨(Nat.le_of_ble_eq_true rfl), (Nat.le_of_ble_eq_true rfl)⟩) (py_preV hw (C := RX12) (T := TX12) (N := 54) rfl h_65) rfl rfl hl.1 rfl (lv_room (Nat.le_of_ble_eq_true rfl)) dX12_level_45 ⟨(Nat.le_of_ble_eq_true rfl), (Nat.le_of_ble_eq_true rfl)⟩) (fun r_100 L_96 f_97 H_98 locs hp_99 hw => ?_)
          obtain ⟨en_101, rfl, rfl⟩ := hp_99
          have br_100 := wf_free r_100
          refine lv_goto (tgt := 89) G0.1 G0.2.1 dX12_level_48 (by decide) ?_
          exact py_iret G0 hr rfl hlk hw ⟨hWF, hKP, hFK⟩ dX12_level_89
      · skip
        exact absurd c_67 (by decide)

def w_X12_family : List Cond := .code yX12_family cX12_family 3 (some .int) :: ([Cond.methodLink RX12 347 yX12_isFamily, Cond.instanceMethod yX12_isFamily, Cond.selects RX12 yX12_isFamily yX12_isFamily, Cond.initialized RX12, Cond.methodLink RX12 287 yX12_of, Cond.instanceMethod yX12_of, Cond.selects RX12 yX12_of yX12_of, Cond.methodLink RX12 341 yX12_isGone, Cond.instanceMethod yX12_isGone, Cond.selects RX12 yX12_isGone yX12_isGone, Cond.methodLink RX12 351 yX12_want, Cond.instanceMethod yX12_want, Cond.selects RX12 yX12_want yX12_want, Cond.constant RX12 350 (-1000000)] ++ (w_X12_isFamily ++ (w_X12_of ++ (w_X12_isGone ++ (w_X12_want ++ ([]))))))
theorem gg_X12_family_X12_isFamily : GoodIn w_X12_family w_X12_isFamily := goodIn_sub (fun _ h => List.mem_cons_of_mem _ (List.mem_append_right _ (List.mem_append_left _ h))) (by decide +kernel)
theorem gg_X12_family_X12_of : GoodIn w_X12_family w_X12_of := goodIn_sub (fun _ h => List.mem_cons_of_mem _ (List.mem_append_right _ (List.mem_append_right _ (List.mem_append_left _ h)))) (by decide +kernel)
theorem gg_X12_family_X12_isGone : GoodIn w_X12_family w_X12_isGone := goodIn_sub (fun _ h => List.mem_cons_of_mem _ (List.mem_append_right _ (List.mem_append_right _ (List.mem_append_right _ (List.mem_append_left _ h))))) (by decide +kernel)
theorem gg_X12_family_X12_want : GoodIn w_X12_family w_X12_want := goodIn_sub (fun _ h => List.mem_cons_of_mem _ (List.mem_append_right _ (List.mem_append_right _ (List.mem_append_right _ (List.mem_append_right _ (List.mem_append_left _ h)))))) (by decide +kernel)
theorem g_X12_family_X12_isFamily_347 : GoodIn w_X12_family (wsV RX12 347 RX12 yX12_isFamily w_X12_isFamily) := goodIn_app (goodIn_of _ (by decide +kernel)) gg_X12_family_X12_isFamily
theorem g_X12_family_X12_isGone_341 : GoodIn w_X12_family (wsV RX12 341 RX12 yX12_isGone w_X12_isGone) := goodIn_app (goodIn_of _ (by decide +kernel)) gg_X12_family_X12_isGone
theorem g_X12_family_X12_of_287 : GoodIn w_X12_family (wsV RX12 287 RX12 yX12_of w_X12_of) := goodIn_app (goodIn_of _ (by decide +kernel)) gg_X12_family_X12_of
theorem g_X12_family_X12_want_351 : GoodIn w_X12_family (wsV RX12 351 RX12 yX12_want w_X12_want) := goodIn_app (goodIn_of _ (by decide +kernel)) gg_X12_family_X12_want
theorem sw_X12_family_13 (x : Int32) : x = 0 ∨ x = 1 ∨ x = 2 ∨ x = 3 ∨ x = 4 ∨ x = 5 ∨ x = 6 ∨ x = 7 ∨ x = 8 ∨ x = 9 ∨ (x.toInt < 0 ∨ 9 < x.toInt) := by
  by_cases h0 : x = 0
  · exact Or.inl h0
  by_cases h1 : x = 1
  · exact Or.inr (Or.inl h1)
  by_cases h2 : x = 2
  · exact Or.inr (Or.inr (Or.inl h2))
  by_cases h3 : x = 3
  · exact Or.inr (Or.inr (Or.inr (Or.inl h3)))
  by_cases h4 : x = 4
  · exact Or.inr (Or.inr (Or.inr (Or.inr (Or.inl h4))))
  by_cases h5 : x = 5
  · exact Or.inr (Or.inr (Or.inr (Or.inr (Or.inr (Or.inl h5)))))
  by_cases h6 : x = 6
  · exact Or.inr (Or.inr (Or.inr (Or.inr (Or.inr (Or.inr (Or.inl h6))))))
  by_cases h7 : x = 7
  · exact Or.inr (Or.inr (Or.inr (Or.inr (Or.inr (Or.inr (Or.inr (Or.inl h7)))))))
  by_cases h8 : x = 8
  · exact Or.inr (Or.inr (Or.inr (Or.inr (Or.inr (Or.inr (Or.inr (Or.inr (Or.inl h8))))))))
  by_cases h9 : x = 9
  · exact Or.inr (Or.inr (Or.inr (Or.inr (Or.inr (Or.inr (Or.inr (Or.inr (Or.inr (Or.inl h9)))))))))
  have t0 := ti_ne h0
  have k0 : (0 : Int32).toInt = 0 := rfl
  have t1 := ti_ne h1
  have k1 : (1 : Int32).toInt = 1 := rfl
  have t2 := ti_ne h2
  have k2 : (2 : Int32).toInt = 2 := rfl
  have t3 := ti_ne h3
  have k3 : (3 : Int32).toInt = 3 := rfl
  have t4 := ti_ne h4
  have k4 : (4 : Int32).toInt = 4 := rfl
  have t5 := ti_ne h5
  have k5 : (5 : Int32).toInt = 5 := rfl
  have t6 := ti_ne h6
  have k6 : (6 : Int32).toInt = 6 := rfl
  have t7 := ti_ne h7
  have k7 : (7 : Int32).toInt = 7 := rfl
  have t8 := ti_ne h8
  have k8 : (8 : Int32).toInt = 8 := rfl
  have t9 := ti_ne h9
  have k9 : (9 : Int32).toInt = 9 := rfl
  exact Or.inr (Or.inr (Or.inr (Or.inr (Or.inr (Or.inr (Or.inr (Or.inr (Or.inr (Or.inr ((by omega)))))))))))
set_option maxHeartbeats 4000000 in
set_option maxRecDepth 100000 in
theorem c_X12_family (l : Launch) (E : py_E) (G : wf_G) (L : List Nat) (f : py_F) (sz : Nat) (u : Nat) (a : Int32) (b : Int32) (hG : GT G) (hWF : WF E G L f) (Tu : G.1 u = 13) : Met l yX12_family w_X12_family ({ frames := 3, cells := 0, slots := 0, locals := 67 }) (py_Pc E [.ref u, .int a, .int b] L f sz) (py_Qi E L f sz (fun _ L1 f1 => L = L1 ∧ f = f1)) 0 0 (va_A (va_pl L f) sz) := by
  refine Met.ofW (cc := cX12_family) (maxL := 3) (ret := (some .int)) (by decide) rfl ?_
  intro p e s m args below meth c s₁ B hml hv
  obtain ⟨rfl, rfl, hw⟩ := py_start hv
  have G0 : CallFix p m c cX12_family 3 s _ w_X12_family RX12 := ⟨B.exec, B.bytes, hml, findClass_of_methodNamed B.named, atoms_spec (ws := w_X12_family) B.pre⟩
  have hr := B.returns
  have hlk := B.notSynchronized
  have kcm1000000 : (-1000000 : Int32).toInt = -1000000 := rfl
  have kcm1 : (-1 : Int32).toInt = -1 := rfl
  have kc0 : (0 : Int32).toInt = 0 := rfl
  have kc1 : (1 : Int32).toInt = 1 := rfl
  have kc2 : (2 : Int32).toInt = 2 := rfl
  have kc3 : (3 : Int32).toInt = 3 := rfl
  have kc4 : (4 : Int32).toInt = 4 := rfl
  have kc5 : (5 : Int32).toInt = 5 := rfl
  have kc6 : (6 : Int32).toInt = 6 := rfl
  have kc7 : (7 : Int32).toInt = 7 := rfl
  have kc8 : (8 : Int32).toInt = 8 := rfl
  have kc9 : (9 : Int32).toInt = 9 := rfl
  have hl := lv_entry ([.ref u, .int a, .int b]) (n := 3) (Nat.le_of_ble_eq_true rfl)
  rw [lg_entry_eq]
  generalize (lg_sl ([.ref u, .int a, .int b]) ++ List.replicate (3 - (lg_sl ([.ref u, .int a, .int b])).length) Slot.unset).toArray = ls at hl ⊢
  have hl : lv_has ls 3 [(0, .ref u), (1, .int a), (2, .int b)] := hl
  refine lv_aload_n G0.1 G0.2.1 dX12_family_0 rfl (lv_at hl 0 rfl) ?_
  refine lv_iload_n G0.1 G0.2.1 dX12_family_1 rfl (lv_at hl 1 rfl) ?_
  obtain ⟨v_1, v_2, v_3, v_4, v_5, v_6, v_7, v_8, v_9, v_10, v_11, v_12, y_13, v_14, v_15, v_16, v_17, v_18, y_19, v_20, y_21, v_22, hr_35, b_23, b_24, b_25, b_26, b_27, b_28, b_29, b_30, b_31, b_32, b_33, b_34⟩ := wg_12 hWF Tu
  refine py_calli hw (va_runV (As := [.int a]) (rest := []) G0 (c_X12_isFamily l E G L f s.heap.size u a hG hWF Tu) (cwV 1 G0.2.2.2.2 g_X12_family_X12_isFamily_347 rfl rfl rfl (by decide +kernel) ⟨(Nat.le_of_ble_eq_true rfl), (Nat.le_of_ble_eq_true rfl)⟩) (py_preV hw (C := RX12) (T := TX12) (N := 54) rfl hr_35) rfl rfl hl.1 rfl (lv_room (Nat.le_of_ble_eq_true rfl)) dX12_family_2 ⟨(Nat.le_of_ble_eq_true rfl), (Nat.le_of_ble_eq_true rfl)⟩) (fun r_40 L_36 f_37 H_38 locs hp_39 hw => ?_)
  obtain ⟨b_42, en_41, rfl, rfl⟩ := hp_39
  refine lv_if_ne (tgt := 12) G0.1 G0.2.1 dX12_family_5 (by decide) (fun c_43 => ?_) (fun c_43 => ?_)
  · skip
    have tc_43 := ti_ne c_43
    replace en_41 := en_41 (by omega)
    refine lv_iload_n G0.1 G0.2.1 dX12_family_12 rfl (lv_at hl 2 rfl) ?_
    rcases sw_X12_family_13 b with e_sw | e_sw | e_sw | e_sw | e_sw | e_sw | e_sw | e_sw | e_sw | e_sw | e_sw
    · skip
      have te := ti_eq e_sw
      refine lv_tableIn (off := 55) (tgt := 68) G0.1 G0.2.1 dX12_family_13 (by omega) (by omega) (by rw [e_sw]; decide) (by decide) ?_
      refine lv_aload_n G0.1 G0.2.1 dX12_family_68 rfl (lv_at hl 0 rfl) ?_
      refine lv_iload_n G0.1 G0.2.1 dX12_family_69 rfl (lv_at hl 1 rfl) ?_
      refine lv_iconst (v := 0) G0.1 G0.2.1 dX12_family_70 (by decide) ?_
      refine py_calli hw (va_runV (As := [.int a, .int 0]) (rest := []) G0 (c_X12_of l E G L f H_38.size u a 0 hG hWF Tu ⟨by omega, by omega⟩ ⟨by omega, by omega⟩) (cwV 2 G0.2.2.2.2 g_X12_family_X12_of_287 rfl rfl rfl (by decide +kernel) ⟨(Nat.le_of_ble_eq_true rfl), (Nat.le_of_ble_eq_true rfl)⟩) (py_preV hw (C := RX12) (T := TX12) (N := 54) rfl hr_35) rfl rfl hl.1 rfl (lv_room (Nat.le_of_ble_eq_true rfl)) dX12_family_71 ⟨(Nat.le_of_ble_eq_true rfl), (Nat.le_of_ble_eq_true rfl)⟩) (fun r_48 L_44 f_45 H_46 locs hp_47 hw => ?_)
      obtain ⟨en_49, en_50, rfl, rfl⟩ := hp_47
      have en_49 : r_48.toInt = nw f G u a.toInt (0 : Int) := en_49
      have en_50 : ((0 : Int) = 0 → 0 ≤ r_48.toInt ∧ r_48.toInt ≤ 20) ∧ ((0 : Int) = 1 → -1 ≤ r_48.toInt ∧ r_48.toInt ≤ 7) := en_50
      have br_48 := wf_free r_48
      exact py_iret G0 hr rfl hlk hw ⟨rfl, rfl⟩ dX12_family_74
    · skip
      have te := ti_eq e_sw
      refine lv_tableIn (off := 62) (tgt := 75) G0.1 G0.2.1 dX12_family_13 (by omega) (by omega) (by rw [e_sw]; decide) (by decide) ?_
      refine lv_aload_n G0.1 G0.2.1 dX12_family_75 rfl (lv_at hl 0 rfl) ?_
      refine lv_iload_n G0.1 G0.2.1 dX12_family_76 rfl (lv_at hl 1 rfl) ?_
      refine lv_iconst (v := 1) G0.1 G0.2.1 dX12_family_77 (by decide) ?_
      refine py_calli hw (va_runV (As := [.int a, .int 1]) (rest := []) G0 (c_X12_of l E G L f H_38.size u a 1 hG hWF Tu ⟨by omega, by omega⟩ ⟨by omega, by omega⟩) (cwV 2 G0.2.2.2.2 g_X12_family_X12_of_287 rfl rfl rfl (by decide +kernel) ⟨(Nat.le_of_ble_eq_true rfl), (Nat.le_of_ble_eq_true rfl)⟩) (py_preV hw (C := RX12) (T := TX12) (N := 54) rfl hr_35) rfl rfl hl.1 rfl (lv_room (Nat.le_of_ble_eq_true rfl)) dX12_family_78 ⟨(Nat.le_of_ble_eq_true rfl), (Nat.le_of_ble_eq_true rfl)⟩) (fun r_55 L_51 f_52 H_53 locs hp_54 hw => ?_)
      obtain ⟨en_56, en_57, rfl, rfl⟩ := hp_54
      have en_56 : r_55.toInt = nw f G u a.toInt (1 : Int) := en_56
      have en_57 : ((1 : Int) = 0 → 0 ≤ r_55.toInt ∧ r_55.toInt ≤ 20) ∧ ((1 : Int) = 1 → -1 ≤ r_55.toInt ∧ r_55.toInt ≤ 7) := en_57
      have br_55 := wf_free r_55
      exact py_iret G0 hr rfl hlk hw ⟨rfl, rfl⟩ dX12_family_81
    · skip
      have te := ti_eq e_sw
      refine lv_tableIn (off := 69) (tgt := 82) G0.1 G0.2.1 dX12_family_13 (by omega) (by omega) (by rw [e_sw]; decide) (by decide) ?_
      refine lv_aload_n G0.1 G0.2.1 dX12_family_82 rfl (lv_at hl 0 rfl) ?_
      refine lv_iload_n G0.1 G0.2.1 dX12_family_83 rfl (lv_at hl 1 rfl) ?_
      refine py_calli hw (va_runV (As := [.int a]) (rest := []) G0 (c_X12_isGone l E G L f H_38.size u a hG hWF Tu ⟨by omega, by omega⟩) (cwV 1 G0.2.2.2.2 g_X12_family_X12_isGone_341 rfl rfl rfl (by decide +kernel) ⟨(Nat.le_of_ble_eq_true rfl), (Nat.le_of_ble_eq_true rfl)⟩) (py_preV hw (C := RX12) (T := TX12) (N := 54) rfl hr_35) rfl rfl hl.1 rfl (lv_room (Nat.le_of_ble_eq_true rfl)) dX12_family_84 ⟨(Nat.le_of_ble_eq_true rfl), (Nat.le_of_ble_eq_true rfl)⟩) (fun r_62 L_58 f_59 H_60 locs hp_61 hw => ?_)
      obtain ⟨b_65, en_63, en_64, rfl, rfl⟩ := hp_61
      have jn_100 : ∀ (v_66 : Int32) (H_j100 : Heap) (locs : List Loc) (ls : Array Slot), py_W E (va_A (va_pl L f) s.heap.size) s L f H_j100 locs → lv_has ls 3 [(0, .ref u), (1, .int a), (2, .int b)] → W p l e (headSpec w_X12_family ({ frames := 3, cells := 0, slots := 0, locals := 67 })).room s m ([.ref u, .int a, .int b] : List Value).toArray below meth c H_j100 locs 0 0 (MQ below (py_Qi E L f s.heap.size (fun _ L1 f1 => L = L1 ∧ f = f1)) ([.ref u, .int a, .int b] : List Value).toArray s 0 0 (va_A (va_pl L f) s.heap.size)) (F0 m 100 ls [.int v_66]) := by
        intro v_66 H_j100 locs ls hw hl
        exact py_iret G0 hr rfl hlk hw ⟨rfl, rfl⟩ dX12_family_100
      refine lv_if_eq (tgt := 94) G0.1 G0.2.1 dX12_family_87 (by decide) (fun c_67 => ?_) (fun c_67 => ?_)
      · skip
        have tc_67 := ti_eq c_67
        clear en_63
        replace en_64 := en_64 (by omega)
        refine lv_aload_n G0.1 G0.2.1 dX12_family_94 rfl (lv_at hl 0 rfl) ?_
        refine lv_iload_n G0.1 G0.2.1 dX12_family_95 rfl (lv_at hl 1 rfl) ?_
        refine lv_iconst (v := 2) G0.1 G0.2.1 dX12_family_96 (by decide) ?_
        refine py_calli hw (va_runV (As := [.int a, .int 2]) (rest := []) G0 (c_X12_of l E G L f H_60.size u a 2 hG hWF Tu ⟨by omega, by omega⟩ ⟨by omega, by omega⟩) (cwV 2 G0.2.2.2.2 g_X12_family_X12_of_287 rfl rfl rfl (by decide +kernel) ⟨(Nat.le_of_ble_eq_true rfl), (Nat.le_of_ble_eq_true rfl)⟩) (py_preV hw (C := RX12) (T := TX12) (N := 54) rfl hr_35) rfl rfl hl.1 rfl (lv_room (Nat.le_of_ble_eq_true rfl)) dX12_family_97 ⟨(Nat.le_of_ble_eq_true rfl), (Nat.le_of_ble_eq_true rfl)⟩) (fun r_72 L_68 f_69 H_70 locs hp_71 hw => ?_)
        obtain ⟨en_73, en_74, rfl, rfl⟩ := hp_71
        have en_73 : r_72.toInt = nw f G u a.toInt (2 : Int) := en_73
        have en_74 : ((2 : Int) = 0 → 0 ≤ r_72.toInt ∧ r_72.toInt ≤ 20) ∧ ((2 : Int) = 1 → -1 ≤ r_72.toInt ∧ r_72.toInt ≤ 7) := en_74
        have br_72 := wf_free r_72
        exact jn_100 r_72 _ _ ls hw (lv_sub hl [0, 1, 2] rfl)
      · skip
        have tc_67 := ti_ne c_67
        replace en_63 := en_63 (by omega)
        clear en_64
        refine lv_iconst (v := (-1)) G0.1 G0.2.1 dX12_family_90 (by decide) ?_
        refine lv_goto (tgt := 100) G0.1 G0.2.1 dX12_family_91 (by decide) ?_
        exact jn_100 (-1) _ _ ls hw (lv_sub hl [0, 1, 2] rfl)
    · skip
      have te := ti_eq e_sw
      refine lv_tableIn (off := 88) (tgt := 101) G0.1 G0.2.1 dX12_family_13 (by omega) (by omega) (by rw [e_sw]; decide) (by decide) ?_
      refine lv_aload_n G0.1 G0.2.1 dX12_family_101 rfl (lv_at hl 0 rfl) ?_
      refine lv_iload_n G0.1 G0.2.1 dX12_family_102 rfl (lv_at hl 1 rfl) ?_
      refine lv_iconst (v := 3) G0.1 G0.2.1 dX12_family_103 (by decide) ?_
      refine py_calli hw (va_runV (As := [.int a, .int 3]) (rest := []) G0 (c_X12_of l E G L f H_38.size u a 3 hG hWF Tu ⟨by omega, by omega⟩ ⟨by omega, by omega⟩) (cwV 2 G0.2.2.2.2 g_X12_family_X12_of_287 rfl rfl rfl (by decide +kernel) ⟨(Nat.le_of_ble_eq_true rfl), (Nat.le_of_ble_eq_true rfl)⟩) (py_preV hw (C := RX12) (T := TX12) (N := 54) rfl hr_35) rfl rfl hl.1 rfl (lv_room (Nat.le_of_ble_eq_true rfl)) dX12_family_104 ⟨(Nat.le_of_ble_eq_true rfl), (Nat.le_of_ble_eq_true rfl)⟩) (fun r_79 L_75 f_76 H_77 locs hp_78 hw => ?_)
      obtain ⟨en_80, en_81, rfl, rfl⟩ := hp_78
      have en_80 : r_79.toInt = nw f G u a.toInt (3 : Int) := en_80
      have en_81 : ((3 : Int) = 0 → 0 ≤ r_79.toInt ∧ r_79.toInt ≤ 20) ∧ ((3 : Int) = 1 → -1 ≤ r_79.toInt ∧ r_79.toInt ≤ 7) := en_81
      have br_79 := wf_free r_79
      exact py_iret G0 hr rfl hlk hw ⟨rfl, rfl⟩ dX12_family_107
    · skip
      have te := ti_eq e_sw
      refine lv_tableIn (off := 95) (tgt := 108) G0.1 G0.2.1 dX12_family_13 (by omega) (by omega) (by rw [e_sw]; decide) (by decide) ?_
      refine lv_aload_n G0.1 G0.2.1 dX12_family_108 rfl (lv_at hl 0 rfl) ?_
      refine lv_iload_n G0.1 G0.2.1 dX12_family_109 rfl (lv_at hl 1 rfl) ?_
      refine py_calli hw (va_runV (As := [.int a]) (rest := []) G0 (c_X12_want l E G L f H_38.size u a hG hWF Tu ⟨by omega, by omega⟩) (cwV 1 G0.2.2.2.2 g_X12_family_X12_want_351 rfl rfl rfl (by decide +kernel) ⟨(Nat.le_of_ble_eq_true rfl), (Nat.le_of_ble_eq_true rfl)⟩) (py_preV hw (C := RX12) (T := TX12) (N := 54) rfl hr_35) rfl rfl hl.1 rfl (lv_room (Nat.le_of_ble_eq_true rfl)) dX12_family_110 ⟨(Nat.le_of_ble_eq_true rfl), (Nat.le_of_ble_eq_true rfl)⟩) (fun r_86 L_82 f_83 H_84 locs hp_85 hw => ?_)
      obtain ⟨b_89, en_87, en_88, rfl, rfl⟩ := hp_85
      exact py_iret G0 hr rfl hlk hw ⟨rfl, rfl⟩ dX12_family_113
    · skip
      have te := ti_eq e_sw
      refine lv_tableIn (off := 101) (tgt := 114) G0.1 G0.2.1 dX12_family_13 (by omega) (by omega) (by rw [e_sw]; decide) (by decide) ?_
      refine lv_aload_n G0.1 G0.2.1 dX12_family_114 rfl (lv_at hl 0 rfl) ?_
      refine lv_iload_n G0.1 G0.2.1 dX12_family_115 rfl (lv_at hl 1 rfl) ?_
      refine lv_iconst (v := 4) G0.1 G0.2.1 dX12_family_116 (by decide) ?_
      refine py_calli hw (va_runV (As := [.int a, .int 4]) (rest := []) G0 (c_X12_of l E G L f H_38.size u a 4 hG hWF Tu ⟨by omega, by omega⟩ ⟨by omega, by omega⟩) (cwV 2 G0.2.2.2.2 g_X12_family_X12_of_287 rfl rfl rfl (by decide +kernel) ⟨(Nat.le_of_ble_eq_true rfl), (Nat.le_of_ble_eq_true rfl)⟩) (py_preV hw (C := RX12) (T := TX12) (N := 54) rfl hr_35) rfl rfl hl.1 rfl (lv_room (Nat.le_of_ble_eq_true rfl)) dX12_family_117 ⟨(Nat.le_of_ble_eq_true rfl), (Nat.le_of_ble_eq_true rfl)⟩) (fun r_94 L_90 f_91 H_92 locs hp_93 hw => ?_)
      obtain ⟨en_95, en_96, rfl, rfl⟩ := hp_93
      have en_95 : r_94.toInt = nw f G u a.toInt (4 : Int) := en_95
      have en_96 : ((4 : Int) = 0 → 0 ≤ r_94.toInt ∧ r_94.toInt ≤ 20) ∧ ((4 : Int) = 1 → -1 ≤ r_94.toInt ∧ r_94.toInt ≤ 7) := en_96
      have br_94 := wf_free r_94
      exact py_iret G0 hr rfl hlk hw ⟨rfl, rfl⟩ dX12_family_120
    · skip
      have te := ti_eq e_sw
      refine lv_tableIn (off := 108) (tgt := 121) G0.1 G0.2.1 dX12_family_13 (by omega) (by omega) (by rw [e_sw]; decide) (by decide) ?_
      refine lv_aload_n G0.1 G0.2.1 dX12_family_121 rfl (lv_at hl 0 rfl) ?_
      refine lv_iload_n G0.1 G0.2.1 dX12_family_122 rfl (lv_at hl 1 rfl) ?_
      refine lv_iconst (v := 5) G0.1 G0.2.1 dX12_family_123 (by decide) ?_
      refine py_calli hw (va_runV (As := [.int a, .int 5]) (rest := []) G0 (c_X12_of l E G L f H_38.size u a 5 hG hWF Tu ⟨by omega, by omega⟩ ⟨by omega, by omega⟩) (cwV 2 G0.2.2.2.2 g_X12_family_X12_of_287 rfl rfl rfl (by decide +kernel) ⟨(Nat.le_of_ble_eq_true rfl), (Nat.le_of_ble_eq_true rfl)⟩) (py_preV hw (C := RX12) (T := TX12) (N := 54) rfl hr_35) rfl rfl hl.1 rfl (lv_room (Nat.le_of_ble_eq_true rfl)) dX12_family_124 ⟨(Nat.le_of_ble_eq_true rfl), (Nat.le_of_ble_eq_true rfl)⟩) (fun r_101 L_97 f_98 H_99 locs hp_100 hw => ?_)
      obtain ⟨en_102, en_103, rfl, rfl⟩ := hp_100
      have en_102 : r_101.toInt = nw f G u a.toInt (5 : Int) := en_102
      have en_103 : ((5 : Int) = 0 → 0 ≤ r_101.toInt ∧ r_101.toInt ≤ 20) ∧ ((5 : Int) = 1 → -1 ≤ r_101.toInt ∧ r_101.toInt ≤ 7) := en_103
      have br_101 := wf_free r_101
      exact py_iret G0 hr rfl hlk hw ⟨rfl, rfl⟩ dX12_family_127
    · skip
      have te := ti_eq e_sw
      refine lv_tableIn (off := 115) (tgt := 128) G0.1 G0.2.1 dX12_family_13 (by omega) (by omega) (by rw [e_sw]; decide) (by decide) ?_
      refine lv_aload_n G0.1 G0.2.1 dX12_family_128 rfl (lv_at hl 0 rfl) ?_
      refine lv_iload_n G0.1 G0.2.1 dX12_family_129 rfl (lv_at hl 1 rfl) ?_
      refine lv_bipush (v := 6) G0.1 G0.2.1 dX12_family_130 (by decide) ?_
      refine py_calli hw (va_runV (As := [.int a, .int 6]) (rest := []) G0 (c_X12_of l E G L f H_38.size u a 6 hG hWF Tu ⟨by omega, by omega⟩ ⟨by omega, by omega⟩) (cwV 2 G0.2.2.2.2 g_X12_family_X12_of_287 rfl rfl rfl (by decide +kernel) ⟨(Nat.le_of_ble_eq_true rfl), (Nat.le_of_ble_eq_true rfl)⟩) (py_preV hw (C := RX12) (T := TX12) (N := 54) rfl hr_35) rfl rfl hl.1 rfl (lv_room (Nat.le_of_ble_eq_true rfl)) dX12_family_132 ⟨(Nat.le_of_ble_eq_true rfl), (Nat.le_of_ble_eq_true rfl)⟩) (fun r_108 L_104 f_105 H_106 locs hp_107 hw => ?_)
      obtain ⟨en_109, en_110, rfl, rfl⟩ := hp_107
      have en_109 : r_108.toInt = nw f G u a.toInt (6 : Int) := en_109
      have en_110 : ((6 : Int) = 0 → 0 ≤ r_108.toInt ∧ r_108.toInt ≤ 20) ∧ ((6 : Int) = 1 → -1 ≤ r_108.toInt ∧ r_108.toInt ≤ 7) := en_110
      have br_108 := wf_free r_108
      exact py_iret G0 hr rfl hlk hw ⟨rfl, rfl⟩ dX12_family_135
    · skip
      have te := ti_eq e_sw
      refine lv_tableIn (off := 123) (tgt := 136) G0.1 G0.2.1 dX12_family_13 (by omega) (by omega) (by rw [e_sw]; decide) (by decide) ?_
      refine lv_aload_n G0.1 G0.2.1 dX12_family_136 rfl (lv_at hl 0 rfl) ?_
      refine lv_iload_n G0.1 G0.2.1 dX12_family_137 rfl (lv_at hl 1 rfl) ?_
      refine lv_bipush (v := 7) G0.1 G0.2.1 dX12_family_138 (by decide) ?_
      refine py_calli hw (va_runV (As := [.int a, .int 7]) (rest := []) G0 (c_X12_of l E G L f H_38.size u a 7 hG hWF Tu ⟨by omega, by omega⟩ ⟨by omega, by omega⟩) (cwV 2 G0.2.2.2.2 g_X12_family_X12_of_287 rfl rfl rfl (by decide +kernel) ⟨(Nat.le_of_ble_eq_true rfl), (Nat.le_of_ble_eq_true rfl)⟩) (py_preV hw (C := RX12) (T := TX12) (N := 54) rfl hr_35) rfl rfl hl.1 rfl (lv_room (Nat.le_of_ble_eq_true rfl)) dX12_family_140 ⟨(Nat.le_of_ble_eq_true rfl), (Nat.le_of_ble_eq_true rfl)⟩) (fun r_115 L_111 f_112 H_113 locs hp_114 hw => ?_)
      obtain ⟨en_116, en_117, rfl, rfl⟩ := hp_114
      have en_116 : r_115.toInt = nw f G u a.toInt (7 : Int) := en_116
      have en_117 : ((7 : Int) = 0 → 0 ≤ r_115.toInt ∧ r_115.toInt ≤ 20) ∧ ((7 : Int) = 1 → -1 ≤ r_115.toInt ∧ r_115.toInt ≤ 7) := en_117
      have br_115 := wf_free r_115
      exact py_iret G0 hr rfl hlk hw ⟨rfl, rfl⟩ dX12_family_143
    · skip
      have te := ti_eq e_sw
      refine lv_tableIn (off := 131) (tgt := 144) G0.1 G0.2.1 dX12_family_13 (by omega) (by omega) (by rw [e_sw]; decide) (by decide) ?_
      refine lv_aload_n G0.1 G0.2.1 dX12_family_144 rfl (lv_at hl 0 rfl) ?_
      refine lv_iload_n G0.1 G0.2.1 dX12_family_145 rfl (lv_at hl 1 rfl) ?_
      refine lv_bipush (v := 8) G0.1 G0.2.1 dX12_family_146 (by decide) ?_
      refine py_calli hw (va_runV (As := [.int a, .int 8]) (rest := []) G0 (c_X12_of l E G L f H_38.size u a 8 hG hWF Tu ⟨by omega, by omega⟩ ⟨by omega, by omega⟩) (cwV 2 G0.2.2.2.2 g_X12_family_X12_of_287 rfl rfl rfl (by decide +kernel) ⟨(Nat.le_of_ble_eq_true rfl), (Nat.le_of_ble_eq_true rfl)⟩) (py_preV hw (C := RX12) (T := TX12) (N := 54) rfl hr_35) rfl rfl hl.1 rfl (lv_room (Nat.le_of_ble_eq_true rfl)) dX12_family_148 ⟨(Nat.le_of_ble_eq_true rfl), (Nat.le_of_ble_eq_true rfl)⟩) (fun r_122 L_118 f_119 H_120 locs hp_121 hw => ?_)
      obtain ⟨en_123, en_124, rfl, rfl⟩ := hp_121
      have en_123 : r_122.toInt = nw f G u a.toInt (8 : Int) := en_123
      have en_124 : ((8 : Int) = 0 → 0 ≤ r_122.toInt ∧ r_122.toInt ≤ 20) ∧ ((8 : Int) = 1 → -1 ≤ r_122.toInt ∧ r_122.toInt ≤ 7) := en_124
      have br_122 := wf_free r_122
      exact py_iret G0 hr rfl hlk hw ⟨rfl, rfl⟩ dX12_family_151
    · skip
      refine lv_tableOut (tgt := 152) G0.1 G0.2.1 dX12_family_13 e_sw (by decide) ?_
      refine lv_ldcw (v := (-1000000)) G0.1 G0.2.1 G0.2.2.2.1 (G0.2.2.2.2 (Cond.constant RX12 350 (-1000000)) (by decide +kernel)) dX12_family_152 ?_
      exact py_iret G0 hr rfl hlk hw ⟨rfl, rfl⟩ dX12_family_155
  · skip
    have tc_43 := ti_eq c_43
    clear en_41
    refine lv_ldcw (v := (-1000000)) G0.1 G0.2.1 G0.2.2.2.1 (G0.2.2.2.2 (Cond.constant RX12 350 (-1000000)) (by decide +kernel)) dX12_family_8 ?_
    exact py_iret G0 hr rfl hlk hw ⟨rfl, rfl⟩ dX12_family_11

def w_X12_hut : List Cond := .code yX12_hut cX12_hut 3 (some .int) :: ([Cond.methodLink RX12 330 yX12_isLevel, Cond.instanceMethod yX12_isLevel, Cond.selects RX12 yX12_isLevel yX12_isLevel, Cond.initialized RX12, Cond.methodLink RX12 293 yX12_levelOf, Cond.instanceMethod yX12_levelOf, Cond.selects RX12 yX12_levelOf yX12_levelOf, Cond.methodLink RX12 232 yX12_in, Cond.static yX12_in, Cond.methodLink RX12 296 yX12_inHut, Cond.instanceMethod yX12_inHut, Cond.selects RX12 yX12_inHut yX12_inHut] ++ (w_X12_isLevel ++ (w_X12_levelOf ++ (w_X12_in ++ (w_X12_inHut ++ ([]))))))
theorem gg_X12_hut_X12_isLevel : GoodIn w_X12_hut w_X12_isLevel := goodIn_sub (fun _ h => List.mem_cons_of_mem _ (List.mem_append_right _ (List.mem_append_left _ h))) (by decide +kernel)
theorem gg_X12_hut_X12_levelOf : GoodIn w_X12_hut w_X12_levelOf := goodIn_sub (fun _ h => List.mem_cons_of_mem _ (List.mem_append_right _ (List.mem_append_right _ (List.mem_append_left _ h)))) (by decide +kernel)
theorem gg_X12_hut_X12_in : GoodIn w_X12_hut w_X12_in := goodIn_sub (fun _ h => List.mem_cons_of_mem _ (List.mem_append_right _ (List.mem_append_right _ (List.mem_append_right _ (List.mem_append_left _ h))))) (by decide +kernel)
theorem gg_X12_hut_X12_inHut : GoodIn w_X12_hut w_X12_inHut := goodIn_sub (fun _ h => List.mem_cons_of_mem _ (List.mem_append_right _ (List.mem_append_right _ (List.mem_append_right _ (List.mem_append_right _ (List.mem_append_left _ h)))))) (by decide +kernel)
theorem g_X12_hut_X12_in_232 : GoodIn w_X12_hut (va_wsS RX12 232 yX12_in w_X12_in) := goodIn_app (goodIn_of _ (by decide +kernel)) gg_X12_hut_X12_in
theorem g_X12_hut_X12_inHut_296 : GoodIn w_X12_hut (wsV RX12 296 RX12 yX12_inHut w_X12_inHut) := goodIn_app (goodIn_of _ (by decide +kernel)) gg_X12_hut_X12_inHut
theorem g_X12_hut_X12_isLevel_330 : GoodIn w_X12_hut (wsV RX12 330 RX12 yX12_isLevel w_X12_isLevel) := goodIn_app (goodIn_of _ (by decide +kernel)) gg_X12_hut_X12_isLevel
theorem g_X12_hut_X12_levelOf_293 : GoodIn w_X12_hut (wsV RX12 293 RX12 yX12_levelOf w_X12_levelOf) := goodIn_app (goodIn_of _ (by decide +kernel)) gg_X12_hut_X12_levelOf
set_option maxHeartbeats 4000000 in
set_option maxRecDepth 100000 in
theorem c_X12_hut (l : Launch) (E : py_E) (G : wf_G) (L : List Nat) (f : py_F) (sz : Nat) (u : Nat) (a : Int32) (b : Int32) (hG : GT G) (hWF : WF E G L f) (Tu : G.1 u = 13) : Met l yX12_hut w_X12_hut ({ frames := 2, cells := 0, slots := 0, locals := 45 }) (py_Pc E [.ref u, .int a, .int b] L f sz) (py_Qi E L f sz (fun _ L1 f1 => L = L1 ∧ f = f1)) 0 0 (va_A (va_pl L f) sz) := by
  refine Met.ofW (cc := cX12_hut) (maxL := 3) (ret := (some .int)) (by decide) rfl ?_
  intro p e s m args below meth c s₁ B hml hv
  obtain ⟨rfl, rfl, hw⟩ := py_start hv
  have G0 : CallFix p m c cX12_hut 3 s _ w_X12_hut RX12 := ⟨B.exec, B.bytes, hml, findClass_of_methodNamed B.named, atoms_spec (ws := w_X12_hut) B.pre⟩
  have hr := B.returns
  have hlk := B.notSynchronized
  have kcm1 : (-1 : Int32).toInt = -1 := rfl
  have kc0 : (0 : Int32).toInt = 0 := rfl
  have kc1 : (1 : Int32).toInt = 1 := rfl
  have hl := lv_entry ([.ref u, .int a, .int b]) (n := 3) (Nat.le_of_ble_eq_true rfl)
  rw [lg_entry_eq]
  generalize (lg_sl ([.ref u, .int a, .int b]) ++ List.replicate (3 - (lg_sl ([.ref u, .int a, .int b])).length) Slot.unset).toArray = ls at hl ⊢
  have hl : lv_has ls 3 [(0, .ref u), (1, .int a), (2, .int b)] := hl
  refine lv_aload_n G0.1 G0.2.1 dX12_hut_0 rfl (lv_at hl 0 rfl) ?_
  refine lv_iload_n G0.1 G0.2.1 dX12_hut_1 rfl (lv_at hl 1 rfl) ?_
  obtain ⟨v_1, v_2, v_3, v_4, v_5, v_6, v_7, v_8, v_9, v_10, v_11, v_12, y_13, v_14, v_15, v_16, v_17, v_18, y_19, v_20, y_21, v_22, hr_35, b_23, b_24, b_25, b_26, b_27, b_28, b_29, b_30, b_31, b_32, b_33, b_34⟩ := wg_12 hWF Tu
  refine py_calli hw (va_runV (As := [.int a]) (rest := []) G0 (c_X12_isLevel l E G L f s.heap.size u a hG hWF Tu) (cwV 1 G0.2.2.2.2 g_X12_hut_X12_isLevel_330 rfl rfl rfl (by decide +kernel) ⟨(Nat.le_of_ble_eq_true rfl), (Nat.le_of_ble_eq_true rfl)⟩) (py_preV hw (C := RX12) (T := TX12) (N := 54) rfl hr_35) rfl rfl hl.1 rfl (lv_room (Nat.le_of_ble_eq_true rfl)) dX12_hut_2 ⟨(Nat.le_of_ble_eq_true rfl), (Nat.le_of_ble_eq_true rfl)⟩) (fun r_40 L_36 f_37 H_38 locs hp_39 hw => ?_)
  obtain ⟨b_42, en_41, rfl, rfl⟩ := hp_39
  have jn_34 : ∀ (v_43 : Int32) (H_j34 : Heap) (locs : List Loc) (ls : Array Slot), py_W E (va_A (va_pl L f) s.heap.size) s L f H_j34 locs → lv_has ls 3 [(0, .ref u), (1, .int a), (2, .int b)] → W p l e (headSpec w_X12_hut ({ frames := 2, cells := 0, slots := 0, locals := 45 })).room s m ([.ref u, .int a, .int b] : List Value).toArray below meth c H_j34 locs 0 0 (MQ below (py_Qi E L f s.heap.size (fun _ L1 f1 => L = L1 ∧ f = f1)) ([.ref u, .int a, .int b] : List Value).toArray s 0 0 (va_A (va_pl L f) s.heap.size)) (F0 m 34 ls [.int v_43]) := by
    intro v_43 H_j34 locs ls hw hl
    exact py_iret G0 hr rfl hlk hw ⟨rfl, rfl⟩ dX12_hut_34
  refine lv_if_eq (tgt := 33) G0.1 G0.2.1 dX12_hut_5 (by decide) (fun c_44 => ?_) (fun c_44 => ?_)
  · skip
    have tc_44 := ti_eq c_44
    clear en_41
    refine lv_iconst (v := (-1)) G0.1 G0.2.1 dX12_hut_33 (by decide) ?_
    exact jn_34 (-1) _ _ ls hw (lv_sub hl [0, 1, 2] rfl)
  · skip
    have tc_44 := ti_ne c_44
    replace en_41 := en_41 (by omega)
    refine lv_iload_n G0.1 G0.2.1 dX12_hut_8 rfl (lv_at hl 2 rfl) ?_
    refine lv_iconst (v := 0) G0.1 G0.2.1 dX12_hut_9 (by decide) ?_
    refine lv_aload_n G0.1 G0.2.1 dX12_hut_10 rfl (lv_at hl 0 rfl) ?_
    refine lv_iload_n G0.1 G0.2.1 dX12_hut_11 rfl (lv_at hl 1 rfl) ?_
    refine lv_iconst (v := 0) G0.1 G0.2.1 dX12_hut_12 (by decide) ?_
    refine py_calli hw (va_runV (As := [.int a, .int 0]) (rest := [.int 0, .int b]) G0 (c_X12_levelOf l E G L f H_38.size u a 0 hG hWF Tu ⟨by omega, by omega⟩ ⟨by omega, by omega⟩) (cwV 2 G0.2.2.2.2 g_X12_hut_X12_levelOf_293 rfl rfl rfl (by decide +kernel) ⟨(Nat.le_of_ble_eq_true rfl), (Nat.le_of_ble_eq_true rfl)⟩) (py_preV hw (C := RX12) (T := TX12) (N := 54) rfl hr_35) rfl rfl hl.1 rfl (lv_room (Nat.le_of_ble_eq_true rfl)) dX12_hut_13 ⟨(Nat.le_of_ble_eq_true rfl), (Nat.le_of_ble_eq_true rfl)⟩) (fun r_49 L_45 f_46 H_47 locs hp_48 hw => ?_)
    obtain ⟨en_50, rfl, rfl⟩ := hp_48
    have en_50 : r_49.toInt = lr f G u a.toInt (0 : Int) := en_50
    have br_49 := wf_free r_49
    refine lv_iconst (v := 1) G0.1 G0.2.1 dX12_hut_16 (by decide) ?_
    refine lv_isub G0.1 G0.2.1 dX12_hut_17 ?_
    refine lv_topi (fun x_51 ex_51 => ?_)
    first | have tx_51 := ti_sub ex_51 (by omega -splitDisjunctions) (by omega -splitDisjunctions) | skip
    refine py_calli hw (va_runS (As := [.int b, .int 0, .int x_51]) (rest := []) G0 (c_X12_in l E G L f H_47.size b 0 x_51 hG hWF) (va_cwS 3 G0.2.2.2.2 g_X12_hut_X12_in_232 rfl rfl rfl (by decide +kernel) ⟨(Nat.le_of_ble_eq_true rfl), (Nat.le_of_ble_eq_true rfl)⟩) (py_preS hw) rfl rfl hl.1 rfl (lv_room (Nat.le_of_ble_eq_true rfl)) dX12_hut_18 ⟨(Nat.le_of_ble_eq_true rfl), (Nat.le_of_ble_eq_true rfl)⟩) (fun r_56 L_52 f_53 H_54 locs hp_55 hw => ?_)
    obtain ⟨b_59, en_57, en_58, rfl, rfl⟩ := hp_55
    have en_57 : r_56.toInt ≠ 0 → (0 : Int) ≤ b.toInt ∧ b.toInt ≤ x_51.toInt := en_57
    have en_58 : r_56.toInt = 0 → b.toInt < (0 : Int) ∨ x_51.toInt < b.toInt := en_58
    refine lv_if_eq (tgt := 33) G0.1 G0.2.1 dX12_hut_21 (by decide) (fun c_60 => ?_) (fun c_60 => ?_)
    · skip
      have tc_60 := ti_eq c_60
      clear en_57
      replace en_58 := en_58 (by omega)
      refine lv_iconst (v := (-1)) G0.1 G0.2.1 dX12_hut_33 (by decide) ?_
      exact jn_34 (-1) _ _ ls hw (lv_sub hl [0, 1, 2] rfl)
    · skip
      have tc_60 := ti_ne c_60
      replace en_57 := en_57 (by omega)
      clear en_58
      refine lv_aload_n G0.1 G0.2.1 dX12_hut_24 rfl (lv_at hl 0 rfl) ?_
      refine lv_iload_n G0.1 G0.2.1 dX12_hut_25 rfl (lv_at hl 1 rfl) ?_
      refine lv_iload_n G0.1 G0.2.1 dX12_hut_26 rfl (lv_at hl 2 rfl) ?_
      refine py_calli hw (va_runV (As := [.int a, .int b]) (rest := []) G0 (c_X12_inHut l E G L f H_54.size u a b hG hWF Tu) (cwV 2 G0.2.2.2.2 g_X12_hut_X12_inHut_296 rfl rfl rfl (by decide +kernel) ⟨(Nat.le_of_ble_eq_true rfl), (Nat.le_of_ble_eq_true rfl)⟩) (py_preV hw (C := RX12) (T := TX12) (N := 54) rfl hr_35) rfl rfl hl.1 rfl (lv_room (Nat.le_of_ble_eq_true rfl)) dX12_hut_27 ⟨(Nat.le_of_ble_eq_true rfl), (Nat.le_of_ble_eq_true rfl)⟩) (fun r_65 L_61 f_62 H_63 locs hp_64 hw => ?_)
      obtain ⟨b_68, en_66, en_67, rfl, rfl⟩ := hp_64
      refine lv_goto (tgt := 34) G0.1 G0.2.1 dX12_hut_30 (by decide) ?_
      exact jn_34 r_65 _ _ ls hw (lv_sub hl [0, 1, 2] rfl)

def w_X12_waiting : List Cond := .code yX12_waiting cX12_waiting 1 (some .int) :: ([Cond.fieldLink RX12 290 "HeadYearModel" "families" "I", Cond.methodLink RX12 414 yX12_waiters, Cond.instanceMethod yX12_waiters, Cond.selects RX12 yX12_waiters yX12_waiters, Cond.initialized RX12] ++ (u_ws RX12 TX12 54 ++ (w_X12_waiters ++ ([]))))
theorem in_X12_waiting_X12 : ∀ w ∈ u_ws RX12 TX12 54, w ∈ w_X12_waiting := fun _ h => List.mem_cons_of_mem _ (List.mem_append_right _ (List.mem_append_left _ h))
theorem gg_X12_waiting_X12_waiters : GoodIn w_X12_waiting w_X12_waiters := goodIn_sub (fun _ h => List.mem_cons_of_mem _ (List.mem_append_right _ (List.mem_append_right _ (List.mem_append_left _ h)))) (by decide +kernel)
theorem g_X12_waiting_X12_waiters_414 : GoodIn w_X12_waiting (wsV RX12 414 RX12 yX12_waiters w_X12_waiters) := goodIn_app (goodIn_of _ (by decide +kernel)) gg_X12_waiting_X12_waiters
set_option maxHeartbeats 4000000 in
set_option maxRecDepth 100000 in
theorem c_X12_waiting (l : Launch) (E : py_E) (G : wf_G) (L : List Nat) (f : py_F) (sz : Nat) (u : Nat) (hG : GT G) (hWF : WF E G L f) (Tu : G.1 u = 13) : Met l yX12_waiting w_X12_waiting ({ frames := 5, cells := 0, slots := 0, locals := 110 }) (py_Pc E [.ref u] L f sz) (py_Qi E L f sz (fun _ L1 f1 => L = L1 ∧ f = f1)) 0 0 (va_A (va_pl L f) sz) := by
  refine Met.ofW (cc := cX12_waiting) (maxL := 1) (ret := (some .int)) (by decide) rfl ?_
  intro p e s m args below meth c s₁ B hml hv
  obtain ⟨rfl, rfl, hw⟩ := py_start hv
  have G0 : CallFix p m c cX12_waiting 1 s _ w_X12_waiting RX12 := ⟨B.exec, B.bytes, hml, findClass_of_methodNamed B.named, atoms_spec (ws := w_X12_waiting) B.pre⟩
  have hr := B.returns
  have hlk := B.notSynchronized
  have kcm1 : (-1 : Int32).toInt = -1 := rfl
  have kc0 : (0 : Int32).toInt = 0 := rfl
  have kc1 : (1 : Int32).toInt = 1 := rfl
  have hl := lv_entry ([.ref u]) (n := 1) (Nat.le_of_ble_eq_true rfl)
  rw [lg_entry_eq]
  generalize (lg_sl ([.ref u]) ++ List.replicate (1 - (lg_sl ([.ref u])).length) Slot.unset).toArray = ls at hl ⊢
  have hl : lv_has ls 1 [(0, .ref u)] := hl
  refine lv_aload_n G0.1 G0.2.1 dX12_waiting_0 rfl (lv_at hl 0 rfl) ?_
  obtain ⟨v_1, v_2, v_3, v_4, v_5, v_6, v_7, v_8, v_9, v_10, v_11, v_12, y_13, v_14, v_15, v_16, v_17, v_18, y_19, v_20, y_21, v_22, hr_35, b_23, b_24, b_25, b_26, b_27, b_28, b_29, b_30, b_31, b_32, b_33, b_34⟩ := wg_12 hWF Tu
  refine py_get (C := RX12) (T := TX12) (N := 54) (k := 25) (v := .int v_11) G0 hw in_X12_waiting_X12 rfl hr_35 (by decide) (by decide +kernel) rfl dX12_waiting_1 ?_
  have jn_15 : ∀ (v_36 : Int32) (H_j15 : Heap) (locs : List Loc) (ls : Array Slot), py_W E (va_A (va_pl L f) s.heap.size) s L f H_j15 locs → lv_has ls 1 [(0, .ref u)] → W p l e (headSpec w_X12_waiting ({ frames := 5, cells := 0, slots := 0, locals := 110 })).room s m ([.ref u] : List Value).toArray below meth c H_j15 locs 0 0 (MQ below (py_Qi E L f s.heap.size (fun _ L1 f1 => L = L1 ∧ f = f1)) ([.ref u] : List Value).toArray s 0 0 (va_A (va_pl L f) s.heap.size)) (F0 m 15 ls [.int v_36]) := by
    intro v_36 H_j15 locs ls hw hl
    exact py_iret G0 hr rfl hlk hw ⟨rfl, rfl⟩ dX12_waiting_15
  refine lv_if_ne (tgt := 11) G0.1 G0.2.1 dX12_waiting_4 (by decide) (fun c_37 => ?_) (fun c_37 => ?_)
  · skip
    have tc_37 := ti_ne c_37
    refine lv_aload_n G0.1 G0.2.1 dX12_waiting_11 rfl (lv_at hl 0 rfl) ?_
    refine py_calli hw (va_runV (As := []) (rest := []) G0 (c_X12_waiters l E G L f s.heap.size u hG hWF Tu) (cwV 0 G0.2.2.2.2 g_X12_waiting_X12_waiters_414 rfl rfl rfl (by decide +kernel) ⟨(Nat.le_of_ble_eq_true rfl), (Nat.le_of_ble_eq_true rfl)⟩) (py_preV hw (C := RX12) (T := TX12) (N := 54) rfl hr_35) rfl rfl hl.1 rfl (lv_room (Nat.le_of_ble_eq_true rfl)) dX12_waiting_12 ⟨(Nat.le_of_ble_eq_true rfl), (Nat.le_of_ble_eq_true rfl)⟩) (fun r_42 L_38 f_39 H_40 locs hp_41 hw => ?_)
    obtain ⟨b_43, rfl, rfl⟩ := hp_41
    exact jn_15 r_42 _ _ ls hw (lv_sub hl [0] rfl)
  · skip
    have tc_37 := ti_eq c_37
    refine lv_iconst (v := (-1)) G0.1 G0.2.1 dX12_waiting_7 (by decide) ?_
    refine lv_goto (tgt := 15) G0.1 G0.2.1 dX12_waiting_8 (by decide) ?_
    exact jn_15 (-1) _ _ ls hw (lv_sub hl [0] rfl)

def w_X12_canGo : List Cond := .code yX12_canGo cX12_canGo 5 (some .boolean) :: ([Cond.fieldLink RX12 302 "HeadYearModel" "levels" "I", Cond.fieldLink RX12 290 "HeadYearModel" "families" "I", Cond.methodLink RX12 293 yX12_levelOf, Cond.instanceMethod yX12_levelOf, Cond.selects RX12 yX12_levelOf yX12_levelOf, Cond.initialized RX12, Cond.methodLink RX12 341 yX12_isGone, Cond.instanceMethod yX12_isGone, Cond.selects RX12 yX12_isGone yX12_isGone, Cond.methodLink RX12 250 yX12_has, Cond.static yX12_has, Cond.methodLink RX12 287 yX12_of, Cond.instanceMethod yX12_of, Cond.selects RX12 yX12_of yX12_of, Cond.methodLink RX12 351 yX12_want, Cond.instanceMethod yX12_want, Cond.selects RX12 yX12_want yX12_want] ++ (u_ws RX12 TX12 54 ++ (w_X12_levelOf ++ (w_X12_isGone ++ (w_X12_has ++ (w_X12_of ++ (w_X12_want ++ ([]))))))))
theorem in_X12_canGo_X12 : ∀ w ∈ u_ws RX12 TX12 54, w ∈ w_X12_canGo := fun _ h => List.mem_cons_of_mem _ (List.mem_append_right _ (List.mem_append_left _ h))
theorem gg_X12_canGo_X12_levelOf : GoodIn w_X12_canGo w_X12_levelOf := goodIn_sub (fun _ h => List.mem_cons_of_mem _ (List.mem_append_right _ (List.mem_append_right _ (List.mem_append_left _ h)))) (by decide +kernel)
theorem gg_X12_canGo_X12_isGone : GoodIn w_X12_canGo w_X12_isGone := goodIn_sub (fun _ h => List.mem_cons_of_mem _ (List.mem_append_right _ (List.mem_append_right _ (List.mem_append_right _ (List.mem_append_left _ h))))) (by decide +kernel)
theorem gg_X12_canGo_X12_has : GoodIn w_X12_canGo w_X12_has := goodIn_sub (fun _ h => List.mem_cons_of_mem _ (List.mem_append_right _ (List.mem_append_right _ (List.mem_append_right _ (List.mem_append_right _ (List.mem_append_left _ h)))))) (by decide +kernel)
theorem gg_X12_canGo_X12_of : GoodIn w_X12_canGo w_X12_of := goodIn_sub (fun _ h => List.mem_cons_of_mem _ (List.mem_append_right _ (List.mem_append_right _ (List.mem_append_right _ (List.mem_append_right _ (List.mem_append_right _ (List.mem_append_left _ h))))))) (by decide +kernel)
theorem gg_X12_canGo_X12_want : GoodIn w_X12_canGo w_X12_want := goodIn_sub (fun _ h => List.mem_cons_of_mem _ (List.mem_append_right _ (List.mem_append_right _ (List.mem_append_right _ (List.mem_append_right _ (List.mem_append_right _ (List.mem_append_right _ (List.mem_append_left _ h)))))))) (by decide +kernel)
theorem g_X12_canGo_X12_has_250 : GoodIn w_X12_canGo (va_wsS RX12 250 yX12_has w_X12_has) := goodIn_app (goodIn_of _ (by decide +kernel)) gg_X12_canGo_X12_has
theorem g_X12_canGo_X12_isGone_341 : GoodIn w_X12_canGo (wsV RX12 341 RX12 yX12_isGone w_X12_isGone) := goodIn_app (goodIn_of _ (by decide +kernel)) gg_X12_canGo_X12_isGone
theorem g_X12_canGo_X12_levelOf_293 : GoodIn w_X12_canGo (wsV RX12 293 RX12 yX12_levelOf w_X12_levelOf) := goodIn_app (goodIn_of _ (by decide +kernel)) gg_X12_canGo_X12_levelOf
theorem g_X12_canGo_X12_of_287 : GoodIn w_X12_canGo (wsV RX12 287 RX12 yX12_of w_X12_of) := goodIn_app (goodIn_of _ (by decide +kernel)) gg_X12_canGo_X12_of
theorem g_X12_canGo_X12_want_351 : GoodIn w_X12_canGo (wsV RX12 351 RX12 yX12_want w_X12_want) := goodIn_app (goodIn_of _ (by decide +kernel)) gg_X12_canGo_X12_want
set_option maxHeartbeats 4000000 in
set_option maxRecDepth 100000 in
theorem c_X12_canGo (l : Launch) (E : py_E) (G : wf_G) (L : List Nat) (f : py_F) (sz : Nat) (u : Nat) (a : Int32) (hG : GT G) (hWF : WF E G L f) (Tu : G.1 u = 13) : Met l yX12_canGo w_X12_canGo ({ frames := 3, cells := 0, slots := 0, locals := 67 }) (py_Pc E [.ref u, .int a] L f sz) (py_Qi E L f sz (fun r L1 f1 => (0 ≤ r.toInt ∧ r.toInt ≤ 1) ∧ L = L1 ∧ f = f1)) 0 0 (va_A (va_pl L f) sz) := by
  refine Met.ofW (cc := cX12_canGo) (maxL := 5) (ret := (some .boolean)) (by decide) rfl ?_
  intro p e s m args below meth c s₁ B hml hv
  obtain ⟨rfl, rfl, hw⟩ := py_start hv
  have G0 : CallFix p m c cX12_canGo 5 s _ w_X12_canGo RX12 := ⟨B.exec, B.bytes, hml, findClass_of_methodNamed B.named, atoms_spec (ws := w_X12_canGo) B.pre⟩
  have hr := B.returns
  have hlk := B.notSynchronized
  have kcm1 : (-1 : Int32).toInt = -1 := rfl
  have kc0 : (0 : Int32).toInt = 0 := rfl
  have kc1 : (1 : Int32).toInt = 1 := rfl
  have hl := lv_entry ([.ref u, .int a]) (n := 5) (Nat.le_of_ble_eq_true rfl)
  rw [lg_entry_eq]
  generalize (lg_sl ([.ref u, .int a]) ++ List.replicate (5 - (lg_sl ([.ref u, .int a])).length) Slot.unset).toArray = ls at hl ⊢
  have hl : lv_has ls 5 [(0, .ref u), (1, .int a)] := hl
  refine lv_iconst (v := 0) G0.1 G0.2.1 dX12_canGo_0 (by decide) ?_
  refine lv_istore_n (lv' := [(2, .int 0), (0, .ref u), (1, .int a)]) G0.1 G0.2.1 dX12_canGo_1 rfl hl (by decide) rfl (fun ls hl => ?_)
  have lo_2 : ∀ n_2 : Nat, ∀ (v_1 : Int32) (H_j2 : Heap) (locs : List Loc) (ls : Array Slot), (2147483647 - v_1.toInt).toNat = n_2 → (0 ≤ v_1.toInt ∧ v_1.toInt ≤ 2147483647) → py_W E (va_A (va_pl L f) s.heap.size) s L f H_j2 locs → lv_has ls 5 [(2, .int v_1), (0, .ref u), (1, .int a)] → W p l e (headSpec w_X12_canGo ({ frames := 3, cells := 0, slots := 0, locals := 67 })).room s m ([.ref u, .int a] : List Value).toArray below meth c H_j2 locs 0 0 (MQ below (py_Qi E L f s.heap.size (fun r L1 f1 => (0 ≤ r.toInt ∧ r.toInt ≤ 1) ∧ L = L1 ∧ f = f1)) ([.ref u, .int a] : List Value).toArray s 0 0 (va_A (va_pl L f) s.heap.size)) (F0 m 2 ls []) := by
    intro n_2
    induction n_2 using Nat.strongRecOn with
    | _ n_2 ih_2 =>
      intro v_1 H_j2 locs ls hn_2 bv_1 hw hl
      refine lv_iload_n G0.1 G0.2.1 dX12_canGo_2 rfl (lv_at hl 0 rfl) ?_
      refine lv_aload_n G0.1 G0.2.1 dX12_canGo_3 rfl (lv_at hl 1 rfl) ?_
      obtain ⟨v_2, v_3, v_4, v_5, v_6, v_7, v_8, v_9, v_10, v_11, v_12, v_13, y_14, v_15, v_16, v_17, v_18, v_19, y_20, v_21, y_22, v_23, hr_36, b_24, b_25, b_26, b_27, b_28, b_29, b_30, b_31, b_32, b_33, b_34, b_35⟩ := wg_12 hWF Tu
      refine py_get (C := RX12) (T := TX12) (N := 54) (k := 24) (v := .int v_11) G0 hw in_X12_canGo_X12 rfl hr_36 (by decide) (by decide +kernel) rfl dX12_canGo_4 ?_
      refine lv_icmp_ge (tgt := 94) G0.1 G0.2.1 dX12_canGo_7 (by decide) (fun c_37 => ?_) (fun c_37 => ?_)
      · skip
        have tc_37 := ti_le c_37
        refine lv_iconst (v := 1) G0.1 G0.2.1 dX12_canGo_94 (by decide) ?_
        exact py_iret G0 hr rfl hlk hw ⟨⟨by omega, by omega⟩, rfl, rfl⟩ dX12_canGo_95
      · skip
        have tc_37 := ti_nle c_37
        refine lv_iconst (v := 0) G0.1 G0.2.1 dX12_canGo_10 (by decide) ?_
        refine lv_istore_n (lv' := [(3, .int 0), (2, .int v_1), (0, .ref u), (1, .int a)]) G0.1 G0.2.1 dX12_canGo_11 rfl hl (by decide) rfl (fun ls hl => ?_)
        refine lv_iconst (v := 0) G0.1 G0.2.1 dX12_canGo_12 (by decide) ?_
        refine lv_istore (lv' := [(4, .int 0), (3, .int 0), (2, .int v_1), (0, .ref u), (1, .int a)]) G0.1 G0.2.1 dX12_canGo_13 hl (by decide) rfl (fun ls hl => ?_)
        have lo_15 : ∀ n_15 : Nat, ∀ (v_38 : Int32) (v_39 : Int32) (H_j15 : Heap) (locs : List Loc) (ls : Array Slot), (2147483647 - v_38.toInt).toNat = n_15 → (0 ≤ v_38.toInt ∧ v_38.toInt ≤ 2147483647) → py_W E (va_A (va_pl L f) s.heap.size) s L f H_j15 locs → lv_has ls 5 [(4, .int v_38), (3, .int v_39), (2, .int v_1), (0, .ref u), (1, .int a)] → W p l e (headSpec w_X12_canGo ({ frames := 3, cells := 0, slots := 0, locals := 67 })).room s m ([.ref u, .int a] : List Value).toArray below meth c H_j15 locs 0 0 (MQ below (py_Qi E L f s.heap.size (fun r L1 f1 => (0 ≤ r.toInt ∧ r.toInt ≤ 1) ∧ L = L1 ∧ f = f1)) ([.ref u, .int a] : List Value).toArray s 0 0 (va_A (va_pl L f) s.heap.size)) (F0 m 15 ls []) := by
          intro n_15
          induction n_15 using Nat.strongRecOn with
          | _ n_15 ih_15 =>
            intro v_38 v_39 H_j15 locs ls hn_15 bv_38 hw hl
            refine lv_iload G0.1 G0.2.1 dX12_canGo_15 (lv_at hl 0 rfl) ?_
            refine lv_aload_n G0.1 G0.2.1 dX12_canGo_17 rfl (lv_at hl 3 rfl) ?_
            refine py_get (C := RX12) (T := TX12) (N := 54) (k := 25) (v := .int v_12) G0 hw in_X12_canGo_X12 rfl hr_36 (by decide) (by decide +kernel) rfl dX12_canGo_18 ?_
            refine lv_icmp_ge (tgt := 76) G0.1 G0.2.1 dX12_canGo_21 (by decide) (fun c_40 => ?_) (fun c_40 => ?_)
            · skip
              have tc_40 := ti_le c_40
              refine lv_iload_n G0.1 G0.2.1 dX12_canGo_76 rfl (lv_at hl 1 rfl) ?_
              refine lv_aload_n G0.1 G0.2.1 dX12_canGo_77 rfl (lv_at hl 3 rfl) ?_
              refine lv_iload_n G0.1 G0.2.1 dX12_canGo_78 rfl (lv_at hl 2 rfl) ?_
              refine lv_iconst (v := 0) G0.1 G0.2.1 dX12_canGo_79 (by decide) ?_
              refine py_calli hw (va_runV (As := [.int v_1, .int 0]) (rest := [.int v_39]) G0 (c_X12_levelOf l E G L f H_j15.size u v_1 0 hG hWF Tu ⟨by omega, by omega⟩ ⟨by omega, by omega⟩) (cwV 2 G0.2.2.2.2 g_X12_canGo_X12_levelOf_293 rfl rfl rfl (by decide +kernel) ⟨(Nat.le_of_ble_eq_true rfl), (Nat.le_of_ble_eq_true rfl)⟩) (py_preV hw (C := RX12) (T := TX12) (N := 54) rfl hr_36) rfl rfl hl.1 rfl (lv_room (Nat.le_of_ble_eq_true rfl)) dX12_canGo_80 ⟨(Nat.le_of_ble_eq_true rfl), (Nat.le_of_ble_eq_true rfl)⟩) (fun r_45 L_41 f_42 H_43 locs hp_44 hw => ?_)
              obtain ⟨en_46, rfl, rfl⟩ := hp_44
              have en_46 : r_45.toInt = lr f G u v_1.toInt (0 : Int) := en_46
              have br_45 := wf_free r_45
              refine lv_icmp_le (tgt := 88) G0.1 G0.2.1 dX12_canGo_83 (by decide) (fun c_47 => ?_) (fun c_47 => ?_)
              · skip
                have tc_47 := ti_le c_47
                obtain ⟨x_48, ex_48⟩ : ∃ y : Int32, y = v_1 + 1 := ⟨_, rfl⟩
                first | have tx_48 := ti_add ex_48 (by omega -splitDisjunctions) (by omega -splitDisjunctions) | skip
                refine lv_iinc (v := x_48) (lv' := [(2, .int x_48), (4, .int v_38), (3, .int v_39), (0, .ref u), (1, .int a)]) G0.1 G0.2.1 dX12_canGo_88 hl (k := 2) rfl (show _ + (1 : Int32) = _ from ex_48.symm) (by decide) rfl (fun ls hl => ?_)
                refine lv_goto (tgt := 2) G0.1 G0.2.1 dX12_canGo_91 (by decide) ?_
                exact ih_2 ((2147483647 - x_48.toInt).toNat) (by omega) x_48 _ _ ls rfl ⟨by omega, by omega⟩ hw (lv_sub hl [0, 3, 4] rfl)
              · skip
                have tc_47 := ti_nle c_47
                refine lv_iconst (v := 0) G0.1 G0.2.1 dX12_canGo_86 (by decide) ?_
                exact py_iret G0 hr rfl hlk hw ⟨⟨by omega, by omega⟩, rfl, rfl⟩ dX12_canGo_87
            · skip
              have tc_40 := ti_nle c_40
              refine lv_iload_n G0.1 G0.2.1 dX12_canGo_24 rfl (lv_at hl 1 rfl) ?_
              refine lv_aload_n G0.1 G0.2.1 dX12_canGo_25 rfl (lv_at hl 3 rfl) ?_
              refine lv_iload G0.1 G0.2.1 dX12_canGo_26 (lv_at hl 0 rfl) ?_
              refine py_calli hw (va_runV (As := [.int v_38]) (rest := [.int v_39]) G0 (c_X12_isGone l E G L f H_j15.size u v_38 hG hWF Tu ⟨by omega, by omega⟩) (cwV 1 G0.2.2.2.2 g_X12_canGo_X12_isGone_341 rfl rfl rfl (by decide +kernel) ⟨(Nat.le_of_ble_eq_true rfl), (Nat.le_of_ble_eq_true rfl)⟩) (py_preV hw (C := RX12) (T := TX12) (N := 54) rfl hr_36) rfl rfl hl.1 rfl (lv_room (Nat.le_of_ble_eq_true rfl)) dX12_canGo_28 ⟨(Nat.le_of_ble_eq_true rfl), (Nat.le_of_ble_eq_true rfl)⟩) (fun r_53 L_49 f_50 H_51 locs hp_52 hw => ?_)
              obtain ⟨b_56, en_54, en_55, rfl, rfl⟩ := hp_52
              have jn_68 : ∀ (v_57 : Int32) (H_j68 : Heap) (locs : List Loc) (ls : Array Slot), (0 ≤ v_57.toInt ∧ v_57.toInt ≤ 1) → py_W E (va_A (va_pl L f) s.heap.size) s L f H_j68 locs → lv_has ls 5 [(4, .int v_38), (3, .int v_39), (2, .int v_1), (0, .ref u), (1, .int a)] → W p l e (headSpec w_X12_canGo ({ frames := 3, cells := 0, slots := 0, locals := 67 })).room s m ([.ref u, .int a] : List Value).toArray below meth c H_j68 locs 0 0 (MQ below (py_Qi E L f s.heap.size (fun r L1 f1 => (0 ≤ r.toInt ∧ r.toInt ≤ 1) ∧ L = L1 ∧ f = f1)) ([.ref u, .int a] : List Value).toArray s 0 0 (va_A (va_pl L f) s.heap.size)) (F0 m 68 ls [.int v_57, .int v_39]) := by
                intro v_57 H_j68 locs ls bv_57 hw hl
                refine lv_iadd G0.1 G0.2.1 dX12_canGo_68 ?_
                refine lv_topi (fun x_58 ex_58 => ?_)
                first | have tx_58 := ti_add ex_58 (by omega -splitDisjunctions) (by omega -splitDisjunctions) | skip
                refine lv_istore_n (lv' := [(3, .int x_58), (4, .int v_38), (2, .int v_1), (0, .ref u), (1, .int a)]) G0.1 G0.2.1 dX12_canGo_69 rfl hl (by decide) rfl (fun ls hl => ?_)
                obtain ⟨x_59, ex_59⟩ : ∃ y : Int32, y = v_38 + 1 := ⟨_, rfl⟩
                first | have tx_59 := ti_add ex_59 (by omega -splitDisjunctions) (by omega -splitDisjunctions) | skip
                refine lv_iinc (v := x_59) (lv' := [(4, .int x_59), (3, .int x_58), (2, .int v_1), (0, .ref u), (1, .int a)]) G0.1 G0.2.1 dX12_canGo_70 hl (k := 1) rfl (show _ + (1 : Int32) = _ from ex_59.symm) (by decide) rfl (fun ls hl => ?_)
                refine lv_goto (tgt := 15) G0.1 G0.2.1 dX12_canGo_73 (by decide) ?_
                exact ih_15 ((2147483647 - x_59.toInt).toNat) (by omega) x_59 x_58 _ _ ls rfl ⟨by omega, by omega⟩ hw (lv_sub hl [0, 1, 2, 3, 4] rfl)
              refine lv_if_ne (tgt := 67) G0.1 G0.2.1 dX12_canGo_31 (by decide) (fun c_60 => ?_) (fun c_60 => ?_)
              · skip
                have tc_60 := ti_ne c_60
                replace en_54 := en_54 (by omega)
                clear en_55
                refine lv_iconst (v := 0) G0.1 G0.2.1 dX12_canGo_67 (by decide) ?_
                exact jn_68 0 _ _ ls ⟨by omega, by omega⟩ hw (lv_sub hl [0, 1, 2, 3, 4] rfl)
              · skip
                have tc_60 := ti_eq c_60
                clear en_54
                replace en_55 := en_55 (by omega)
                refine lv_iload_n G0.1 G0.2.1 dX12_canGo_34 rfl (lv_at hl 4 rfl) ?_
                refine lv_iload G0.1 G0.2.1 dX12_canGo_35 (lv_at hl 0 rfl) ?_
                refine py_calli hw (va_runS (As := [.int a, .int v_38]) (rest := [.int v_39]) G0 (c_X12_has l E G L f H_51.size a v_38 hG hWF) (va_cwS 2 G0.2.2.2.2 g_X12_canGo_X12_has_250 rfl rfl rfl (by decide +kernel) ⟨(Nat.le_of_ble_eq_true rfl), (Nat.le_of_ble_eq_true rfl)⟩) (py_preS hw) rfl rfl hl.1 rfl (lv_room (Nat.le_of_ble_eq_true rfl)) dX12_canGo_37 ⟨(Nat.le_of_ble_eq_true rfl), (Nat.le_of_ble_eq_true rfl)⟩) (fun r_65 L_61 f_62 H_63 locs hp_64 hw => ?_)
                obtain ⟨b_68, en_66, en_67, rfl, rfl⟩ := hp_64
                have jn_59 : ∀ (v_69 : Int32) (H_j59 : Heap) (locs : List Loc) (ls : Array Slot), py_W E (va_A (va_pl L f) s.heap.size) s L f H_j59 locs → lv_has ls 5 [(4, .int v_38), (3, .int v_39), (2, .int v_1), (0, .ref u), (1, .int a)] → W p l e (headSpec w_X12_canGo ({ frames := 3, cells := 0, slots := 0, locals := 67 })).room s m ([.ref u, .int a] : List Value).toArray below meth c H_j59 locs 0 0 (MQ below (py_Qi E L f s.heap.size (fun r L1 f1 => (0 ≤ r.toInt ∧ r.toInt ≤ 1) ∧ L = L1 ∧ f = f1)) ([.ref u, .int a] : List Value).toArray s 0 0 (va_A (va_pl L f) s.heap.size)) (F0 m 59 ls [.int v_69, .int v_39]) := by
                  intro v_69 H_j59 locs ls hw hl
                  refine lv_iload_n G0.1 G0.2.1 dX12_canGo_59 rfl (lv_at hl 2 rfl) ?_
                  refine lv_icmp_ne (tgt := 67) G0.1 G0.2.1 dX12_canGo_60 (by decide) (fun c_70 => ?_) (fun c_70 => ?_)
                  · skip
                    have tc_70 := ti_ne c_70
                    refine lv_iconst (v := 0) G0.1 G0.2.1 dX12_canGo_67 (by decide) ?_
                    exact jn_68 0 _ _ ls ⟨by omega, by omega⟩ hw (lv_sub hl [0, 1, 2, 3, 4] rfl)
                  · skip
                    have tc_70 := ti_eq c_70
                    refine lv_iconst (v := 1) G0.1 G0.2.1 dX12_canGo_63 (by decide) ?_
                    refine lv_goto (tgt := 68) G0.1 G0.2.1 dX12_canGo_64 (by decide) ?_
                    exact jn_68 1 _ _ ls ⟨by omega, by omega⟩ hw (lv_sub hl [0, 1, 2, 3, 4] rfl)
                refine lv_if_eq (tgt := 52) G0.1 G0.2.1 dX12_canGo_40 (by decide) (fun c_71 => ?_) (fun c_71 => ?_)
                · skip
                  have tc_71 := ti_eq c_71
                  refine lv_aload_n G0.1 G0.2.1 dX12_canGo_52 rfl (lv_at hl 3 rfl) ?_
                  refine lv_iload G0.1 G0.2.1 dX12_canGo_53 (lv_at hl 0 rfl) ?_
                  refine lv_iconst (v := 1) G0.1 G0.2.1 dX12_canGo_55 (by decide) ?_
                  refine py_calli hw (va_runV (As := [.int v_38, .int 1]) (rest := [.int v_39]) G0 (c_X12_of l E G L f H_63.size u v_38 1 hG hWF Tu ⟨by omega, by omega⟩ ⟨by omega, by omega⟩) (cwV 2 G0.2.2.2.2 g_X12_canGo_X12_of_287 rfl rfl rfl (by decide +kernel) ⟨(Nat.le_of_ble_eq_true rfl), (Nat.le_of_ble_eq_true rfl)⟩) (py_preV hw (C := RX12) (T := TX12) (N := 54) rfl hr_36) rfl rfl hl.1 rfl (lv_room (Nat.le_of_ble_eq_true rfl)) dX12_canGo_56 ⟨(Nat.le_of_ble_eq_true rfl), (Nat.le_of_ble_eq_true rfl)⟩) (fun r_76 L_72 f_73 H_74 locs hp_75 hw => ?_)
                  obtain ⟨en_77, en_78, rfl, rfl⟩ := hp_75
                  have en_77 : r_76.toInt = nw f G u v_38.toInt (1 : Int) := en_77
                  have en_78 : ((1 : Int) = 0 → 0 ≤ r_76.toInt ∧ r_76.toInt ≤ 20) ∧ ((1 : Int) = 1 → -1 ≤ r_76.toInt ∧ r_76.toInt ≤ 7) := en_78
                  have br_76 := wf_free r_76
                  exact jn_59 r_76 _ _ ls hw (lv_sub hl [0, 1, 2, 3, 4] rfl)
                · skip
                  have tc_71 := ti_ne c_71
                  refine lv_aload_n G0.1 G0.2.1 dX12_canGo_43 rfl (lv_at hl 3 rfl) ?_
                  refine lv_iload G0.1 G0.2.1 dX12_canGo_44 (lv_at hl 0 rfl) ?_
                  refine py_calli hw (va_runV (As := [.int v_38]) (rest := [.int v_39]) G0 (c_X12_want l E G L f H_63.size u v_38 hG hWF Tu ⟨by omega, by omega⟩) (cwV 1 G0.2.2.2.2 g_X12_canGo_X12_want_351 rfl rfl rfl (by decide +kernel) ⟨(Nat.le_of_ble_eq_true rfl), (Nat.le_of_ble_eq_true rfl)⟩) (py_preV hw (C := RX12) (T := TX12) (N := 54) rfl hr_36) rfl rfl hl.1 rfl (lv_room (Nat.le_of_ble_eq_true rfl)) dX12_canGo_46 ⟨(Nat.le_of_ble_eq_true rfl), (Nat.le_of_ble_eq_true rfl)⟩) (fun r_83 L_79 f_80 H_81 locs hp_82 hw => ?_)
                  obtain ⟨b_86, en_84, en_85, rfl, rfl⟩ := hp_82
                  refine lv_goto (tgt := 59) G0.1 G0.2.1 dX12_canGo_49 (by decide) ?_
                  exact jn_59 r_83 _ _ ls hw (lv_sub hl [0, 1, 2, 3, 4] rfl)
        exact lo_15 _ 0 0 _ _ ls rfl ⟨by omega, by omega⟩ hw (lv_sub hl [0, 1, 2, 3, 4] rfl)
  exact lo_2 _ 0 _ _ ls rfl ⟨by omega, by omega⟩ hw (lv_sub hl [0, 1, 2] rfl)

def w_X12_count : List Cond := .code yX12_count cX12_count 2 (some .int) :: ([Cond.fieldLink RX12 302 "HeadYearModel" "levels" "I", Cond.fieldLink RX12 290 "HeadYearModel" "families" "I", Cond.fieldLink RX12 322 "HeadYearModel" "laws" "I", Cond.fieldLink RX12 124 "HeadYearModel" "size" "I", Cond.fieldLink RX12 309 "HeadYearModel" "years" "I", Cond.fieldLink RX12 64 "HeadYearModel" "holding" "I", Cond.fieldLink RX12 312 "HeadYearModel" "buys" "I", Cond.methodLink RX12 463 yX12_gones, Cond.instanceMethod yX12_gones, Cond.selects RX12 yX12_gones yX12_gones, Cond.initialized RX12, Cond.constant RX12 350 (-1000000)] ++ (u_ws RX12 TX12 54 ++ (w_X12_gones ++ ([]))))
theorem in_X12_count_X12 : ∀ w ∈ u_ws RX12 TX12 54, w ∈ w_X12_count := fun _ h => List.mem_cons_of_mem _ (List.mem_append_right _ (List.mem_append_left _ h))
theorem gg_X12_count_X12_gones : GoodIn w_X12_count w_X12_gones := goodIn_sub (fun _ h => List.mem_cons_of_mem _ (List.mem_append_right _ (List.mem_append_right _ (List.mem_append_left _ h)))) (by decide +kernel)
theorem g_X12_count_X12_gones_463 : GoodIn w_X12_count (wsV RX12 463 RX12 yX12_gones w_X12_gones) := goodIn_app (goodIn_of _ (by decide +kernel)) gg_X12_count_X12_gones
theorem sw_X12_count_1 (x : Int32) : x = 0 ∨ x = 1 ∨ x = 2 ∨ x = 3 ∨ x = 4 ∨ x = 5 ∨ x = 6 ∨ x = 7 ∨ (x.toInt < 0 ∨ 7 < x.toInt) := by
  by_cases h0 : x = 0
  · exact Or.inl h0
  by_cases h1 : x = 1
  · exact Or.inr (Or.inl h1)
  by_cases h2 : x = 2
  · exact Or.inr (Or.inr (Or.inl h2))
  by_cases h3 : x = 3
  · exact Or.inr (Or.inr (Or.inr (Or.inl h3)))
  by_cases h4 : x = 4
  · exact Or.inr (Or.inr (Or.inr (Or.inr (Or.inl h4))))
  by_cases h5 : x = 5
  · exact Or.inr (Or.inr (Or.inr (Or.inr (Or.inr (Or.inl h5)))))
  by_cases h6 : x = 6
  · exact Or.inr (Or.inr (Or.inr (Or.inr (Or.inr (Or.inr (Or.inl h6))))))
  by_cases h7 : x = 7
  · exact Or.inr (Or.inr (Or.inr (Or.inr (Or.inr (Or.inr (Or.inr (Or.inl h7)))))))
  have t0 := ti_ne h0
  have k0 : (0 : Int32).toInt = 0 := rfl
  have t1 := ti_ne h1
  have k1 : (1 : Int32).toInt = 1 := rfl
  have t2 := ti_ne h2
  have k2 : (2 : Int32).toInt = 2 := rfl
  have t3 := ti_ne h3
  have k3 : (3 : Int32).toInt = 3 := rfl
  have t4 := ti_ne h4
  have k4 : (4 : Int32).toInt = 4 := rfl
  have t5 := ti_ne h5
  have k5 : (5 : Int32).toInt = 5 := rfl
  have t6 := ti_ne h6
  have k6 : (6 : Int32).toInt = 6 := rfl
  have t7 := ti_ne h7
  have k7 : (7 : Int32).toInt = 7 := rfl
  exact Or.inr (Or.inr (Or.inr (Or.inr (Or.inr (Or.inr (Or.inr (Or.inr ((by omega)))))))))
set_option maxHeartbeats 4000000 in
set_option maxRecDepth 100000 in
theorem c_X12_count (l : Launch) (E : py_E) (G : wf_G) (L : List Nat) (f : py_F) (sz : Nat) (u : Nat) (a : Int32) (hG : GT G) (hWF : WF E G L f) (Tu : G.1 u = 13) : Met l yX12_count w_X12_count ({ frames := 3, cells := 0, slots := 0, locals := 65 }) (py_Pc E [.ref u, .int a] L f sz) (py_Qi E L f sz (fun _ L1 f1 => L = L1 ∧ f = f1)) 0 0 (va_A (va_pl L f) sz) := by
  refine Met.ofW (cc := cX12_count) (maxL := 2) (ret := (some .int)) (by decide) rfl ?_
  intro p e s m args below meth c s₁ B hml hv
  obtain ⟨rfl, rfl, hw⟩ := py_start hv
  have G0 : CallFix p m c cX12_count 2 s _ w_X12_count RX12 := ⟨B.exec, B.bytes, hml, findClass_of_methodNamed B.named, atoms_spec (ws := w_X12_count) B.pre⟩
  have hr := B.returns
  have hlk := B.notSynchronized
  have kcm1000000 : (-1000000 : Int32).toInt = -1000000 := rfl
  have kcm1 : (-1 : Int32).toInt = -1 := rfl
  have kc0 : (0 : Int32).toInt = 0 := rfl
  have kc1 : (1 : Int32).toInt = 1 := rfl
  have kc2 : (2 : Int32).toInt = 2 := rfl
  have kc3 : (3 : Int32).toInt = 3 := rfl
  have kc4 : (4 : Int32).toInt = 4 := rfl
  have kc5 : (5 : Int32).toInt = 5 := rfl
  have kc6 : (6 : Int32).toInt = 6 := rfl
  have kc7 : (7 : Int32).toInt = 7 := rfl
  have hl := lv_entry ([.ref u, .int a]) (n := 2) (Nat.le_of_ble_eq_true rfl)
  rw [lg_entry_eq]
  generalize (lg_sl ([.ref u, .int a]) ++ List.replicate (2 - (lg_sl ([.ref u, .int a])).length) Slot.unset).toArray = ls at hl ⊢
  have hl : lv_has ls 2 [(0, .ref u), (1, .int a)] := hl
  refine lv_iload_n G0.1 G0.2.1 dX12_count_0 rfl (lv_at hl 1 rfl) ?_
  rcases sw_X12_count_1 a with e_sw | e_sw | e_sw | e_sw | e_sw | e_sw | e_sw | e_sw | e_sw
  · skip
    have te := ti_eq e_sw
    refine lv_tableIn (off := 47) (tgt := 48) G0.1 G0.2.1 dX12_count_1 (by omega) (by omega) (by rw [e_sw]; decide) (by decide) ?_
    refine lv_aload_n G0.1 G0.2.1 dX12_count_48 rfl (lv_at hl 0 rfl) ?_
    obtain ⟨v_1, v_2, v_3, v_4, v_5, v_6, v_7, v_8, v_9, v_10, v_11, v_12, y_13, v_14, v_15, v_16, v_17, v_18, y_19, v_20, y_21, v_22, hr_35, b_23, b_24, b_25, b_26, b_27, b_28, b_29, b_30, b_31, b_32, b_33, b_34⟩ := wg_12 hWF Tu
    refine py_get (C := RX12) (T := TX12) (N := 54) (k := 24) (v := .int v_10) G0 hw in_X12_count_X12 rfl hr_35 (by decide) (by decide +kernel) rfl dX12_count_49 ?_
    exact py_iret G0 hr rfl hlk hw ⟨rfl, rfl⟩ dX12_count_52
  · skip
    have te := ti_eq e_sw
    refine lv_tableIn (off := 52) (tgt := 53) G0.1 G0.2.1 dX12_count_1 (by omega) (by omega) (by rw [e_sw]; decide) (by decide) ?_
    refine lv_aload_n G0.1 G0.2.1 dX12_count_53 rfl (lv_at hl 0 rfl) ?_
    obtain ⟨v_36, v_37, v_38, v_39, v_40, v_41, v_42, v_43, v_44, v_45, v_46, v_47, y_48, v_49, v_50, v_51, v_52, v_53, y_54, v_55, y_56, v_57, hr_70, b_58, b_59, b_60, b_61, b_62, b_63, b_64, b_65, b_66, b_67, b_68, b_69⟩ := wg_12 hWF Tu
    refine py_get (C := RX12) (T := TX12) (N := 54) (k := 25) (v := .int v_46) G0 hw in_X12_count_X12 rfl hr_70 (by decide) (by decide +kernel) rfl dX12_count_54 ?_
    exact py_iret G0 hr rfl hlk hw ⟨rfl, rfl⟩ dX12_count_57
  · skip
    have te := ti_eq e_sw
    refine lv_tableIn (off := 57) (tgt := 58) G0.1 G0.2.1 dX12_count_1 (by omega) (by omega) (by rw [e_sw]; decide) (by decide) ?_
    refine lv_aload_n G0.1 G0.2.1 dX12_count_58 rfl (lv_at hl 0 rfl) ?_
    obtain ⟨v_71, v_72, v_73, v_74, v_75, v_76, v_77, v_78, v_79, v_80, v_81, v_82, y_83, v_84, v_85, v_86, v_87, v_88, y_89, v_90, y_91, v_92, hr_105, b_93, b_94, b_95, b_96, b_97, b_98, b_99, b_100, b_101, b_102, b_103, b_104⟩ := wg_12 hWF Tu
    refine py_get (C := RX12) (T := TX12) (N := 54) (k := 13) (v := .int v_76) G0 hw in_X12_count_X12 rfl hr_105 (by decide) (by decide +kernel) rfl dX12_count_59 ?_
    exact py_iret G0 hr rfl hlk hw ⟨rfl, rfl⟩ dX12_count_62
  · skip
    have te := ti_eq e_sw
    refine lv_tableIn (off := 62) (tgt := 63) G0.1 G0.2.1 dX12_count_1 (by omega) (by omega) (by rw [e_sw]; decide) (by decide) ?_
    refine lv_aload_n G0.1 G0.2.1 dX12_count_63 rfl (lv_at hl 0 rfl) ?_
    obtain ⟨v_106, v_107, v_108, v_109, v_110, v_111, v_112, v_113, v_114, v_115, v_116, v_117, y_118, v_119, v_120, v_121, v_122, v_123, y_124, v_125, y_126, v_127, hr_140, b_128, b_129, b_130, b_131, b_132, b_133, b_134, b_135, b_136, b_137, b_138, b_139⟩ := wg_12 hWF Tu
    refine py_get (C := RX12) (T := TX12) (N := 54) (k := 2) (v := .int v_107) G0 hw in_X12_count_X12 rfl hr_140 (by decide) (by decide +kernel) rfl dX12_count_64 ?_
    exact py_iret G0 hr rfl hlk hw ⟨rfl, rfl⟩ dX12_count_67
  · skip
    have te := ti_eq e_sw
    refine lv_tableIn (off := 67) (tgt := 68) G0.1 G0.2.1 dX12_count_1 (by omega) (by omega) (by rw [e_sw]; decide) (by decide) ?_
    refine lv_aload_n G0.1 G0.2.1 dX12_count_68 rfl (lv_at hl 0 rfl) ?_
    obtain ⟨v_141, v_142, v_143, v_144, v_145, v_146, v_147, v_148, v_149, v_150, v_151, v_152, y_153, v_154, v_155, v_156, v_157, v_158, y_159, v_160, y_161, v_162, hr_175, b_163, b_164, b_165, b_166, b_167, b_168, b_169, b_170, b_171, b_172, b_173, b_174⟩ := wg_12 hWF Tu
    refine py_get (C := RX12) (T := TX12) (N := 54) (k := 29) (v := .int v_152) G0 hw in_X12_count_X12 rfl hr_175 (by decide) (by decide +kernel) rfl dX12_count_69 ?_
    exact py_iret G0 hr rfl hlk hw ⟨rfl, rfl⟩ dX12_count_72
  · skip
    have te := ti_eq e_sw
    refine lv_tableIn (off := 72) (tgt := 73) G0.1 G0.2.1 dX12_count_1 (by omega) (by omega) (by rw [e_sw]; decide) (by decide) ?_
    refine lv_aload_n G0.1 G0.2.1 dX12_count_73 rfl (lv_at hl 0 rfl) ?_
    obtain ⟨v_176, v_177, v_178, v_179, v_180, v_181, v_182, v_183, v_184, v_185, v_186, v_187, y_188, v_189, v_190, v_191, v_192, v_193, y_194, v_195, y_196, v_197, hr_210, b_198, b_199, b_200, b_201, b_202, b_203, b_204, b_205, b_206, b_207, b_208, b_209⟩ := wg_12 hWF Tu
    refine py_get (C := RX12) (T := TX12) (N := 54) (k := 31) (v := .int v_189) G0 hw in_X12_count_X12 rfl hr_210 (by decide) (by decide +kernel) rfl dX12_count_74 ?_
    exact py_iret G0 hr rfl hlk hw ⟨rfl, rfl⟩ dX12_count_77
  · skip
    have te := ti_eq e_sw
    refine lv_tableIn (off := 77) (tgt := 78) G0.1 G0.2.1 dX12_count_1 (by omega) (by omega) (by rw [e_sw]; decide) (by decide) ?_
    refine lv_aload_n G0.1 G0.2.1 dX12_count_78 rfl (lv_at hl 0 rfl) ?_
    obtain ⟨v_211, v_212, v_213, v_214, v_215, v_216, v_217, v_218, v_219, v_220, v_221, v_222, y_223, v_224, v_225, v_226, v_227, v_228, y_229, v_230, y_231, v_232, hr_245, b_233, b_234, b_235, b_236, b_237, b_238, b_239, b_240, b_241, b_242, b_243, b_244⟩ := wg_12 hWF Tu
    refine py_get (C := RX12) (T := TX12) (N := 54) (k := 43) (v := .int v_228) G0 hw in_X12_count_X12 rfl hr_245 (by decide) (by decide +kernel) rfl dX12_count_79 ?_
    exact py_iret G0 hr rfl hlk hw ⟨rfl, rfl⟩ dX12_count_82
  · skip
    have te := ti_eq e_sw
    refine lv_tableIn (off := 82) (tgt := 83) G0.1 G0.2.1 dX12_count_1 (by omega) (by omega) (by rw [e_sw]; decide) (by decide) ?_
    refine lv_aload_n G0.1 G0.2.1 dX12_count_83 rfl (lv_at hl 0 rfl) ?_
    obtain ⟨v_246, v_247, v_248, v_249, v_250, v_251, v_252, v_253, v_254, v_255, v_256, v_257, y_258, v_259, v_260, v_261, v_262, v_263, y_264, v_265, y_266, v_267, hr_280, b_268, b_269, b_270, b_271, b_272, b_273, b_274, b_275, b_276, b_277, b_278, b_279⟩ := wg_12 hWF Tu
    refine py_calli hw (va_runV (As := []) (rest := []) G0 (c_X12_gones l E G L f s.heap.size u hG hWF Tu) (cwV 0 G0.2.2.2.2 g_X12_count_X12_gones_463 rfl rfl rfl (by decide +kernel) ⟨(Nat.le_of_ble_eq_true rfl), (Nat.le_of_ble_eq_true rfl)⟩) (py_preV hw (C := RX12) (T := TX12) (N := 54) rfl hr_280) rfl rfl hl.1 rfl (lv_room (Nat.le_of_ble_eq_true rfl)) dX12_count_84 ⟨(Nat.le_of_ble_eq_true rfl), (Nat.le_of_ble_eq_true rfl)⟩) (fun r_285 L_281 f_282 H_283 locs hp_284 hw => ?_)
    obtain ⟨rfl, rfl⟩ := hp_284
    have br_285 := wf_free r_285
    exact py_iret G0 hr rfl hlk hw ⟨rfl, rfl⟩ dX12_count_87
  · skip
    refine lv_tableOut (tgt := 88) G0.1 G0.2.1 dX12_count_1 e_sw (by decide) ?_
    refine lv_ldcw (v := (-1000000)) G0.1 G0.2.1 G0.2.2.2.1 (G0.2.2.2.2 (Cond.constant RX12 350 (-1000000)) (by decide +kernel)) dX12_count_88 ?_
    exact py_iret G0 hr rfl hlk hw ⟨rfl, rfl⟩ dX12_count_91
