theorem dX6_land_0 : decode cX6_land 0 = .ok (.iload_n 2, 1) := by decide +kernel
theorem dX6_land_1 : decode cX6_land 1 = .ok (.ifCond .ne 20, 3) := by decide +kernel
theorem dX6_land_4 : decode cX6_land 4 = .ok (.aload_n 0, 1) := by decide +kernel
theorem dX6_land_5 : decode cX6_land 5 = .ok (.dup, 1) := by decide +kernel
theorem dX6_land_6 : decode cX6_land 6 = .ok (.getfield 29, 3) := by decide +kernel
theorem dX6_land_9 : decode cX6_land 9 = .ok (.aload_n 0, 1) := by decide +kernel
theorem dX6_land_10 : decode cX6_land 10 = .ok (.getfield 17, 3) := by decide +kernel
theorem dX6_land_13 : decode cX6_land 13 = .ok (.iload 4, 2) := by decide +kernel
theorem dX6_land_15 : decode cX6_land 15 = .ok (.laload, 1) := by decide +kernel
theorem dX6_land_16 : decode cX6_land 16 = .ok (.ladd, 1) := by decide +kernel
theorem dX6_land_17 : decode cX6_land 17 = .ok (.putfield 29, 3) := by decide +kernel
theorem dX6_land_20 : decode cX6_land 20 = .ok (.return_, 1) := by decide +kernel
theorem dX6_land_21 : decode cX6_land 21 = .ok (.iload_n 1, 1) := by decide +kernel
theorem dX6_land_22 : decode cX6_land 22 = .ok (.istore 5, 2) := by decide +kernel
theorem dX6_land_24 : decode cX6_land 24 = .ok (.aload_n 0, 1) := by decide +kernel
theorem dX6_land_25 : decode cX6_land 25 = .ok (.getfield 33, 3) := by decide +kernel
theorem dX6_land_28 : decode cX6_land 28 = .ok (.getfield 59, 3) := by decide +kernel
theorem dX6_land_31 : decode cX6_land 31 = .ok (.getfield 95, 3) := by decide +kernel
theorem dX6_land_34 : decode cX6_land 34 = .ok (.iload_n 1, 1) := by decide +kernel
theorem dX6_land_35 : decode cX6_land 35 = .ok (.iaload, 1) := by decide +kernel
theorem dX6_land_36 : decode cX6_land 36 = .ok (.ifCond .ne 83, 3) := by decide +kernel
theorem dX6_land_39 : decode cX6_land 39 = .ok (.aload_n 0, 1) := by decide +kernel
theorem dX6_land_40 : decode cX6_land 40 = .ok (.getfield 11, 3) := by decide +kernel
theorem dX6_land_43 : decode cX6_land 43 = .ok (.iconst 0, 1) := by decide +kernel
theorem dX6_land_44 : decode cX6_land 44 = .ok (.iload_n 3, 1) := by decide +kernel
theorem dX6_land_45 : decode cX6_land 45 = .ok (.iastore, 1) := by decide +kernel
theorem dX6_land_46 : decode cX6_land 46 = .ok (.aload_n 0, 1) := by decide +kernel
theorem dX6_land_47 : decode cX6_land 47 = .ok (.getfield 11, 3) := by decide +kernel
theorem dX6_land_50 : decode cX6_land 50 = .ok (.iconst 1, 1) := by decide +kernel
theorem dX6_land_51 : decode cX6_land 51 = .ok (.iload 4, 2) := by decide +kernel
theorem dX6_land_53 : decode cX6_land 53 = .ok (.iastore, 1) := by decide +kernel
theorem dX6_land_54 : decode cX6_land 54 = .ok (.aload_n 0, 1) := by decide +kernel
theorem dX6_land_55 : decode cX6_land 55 = .ok (.getfield 11, 3) := by decide +kernel
theorem dX6_land_58 : decode cX6_land 58 = .ok (.iconst 2, 1) := by decide +kernel
theorem dX6_land_59 : decode cX6_land 59 = .ok (.iload_n 2, 1) := by decide +kernel
theorem dX6_land_60 : decode cX6_land 60 = .ok (.iastore, 1) := by decide +kernel
theorem dX6_land_61 : decode cX6_land 61 = .ok (.aload_n 0, 1) := by decide +kernel
theorem dX6_land_62 : decode cX6_land 62 = .ok (.getfield 11, 3) := by decide +kernel
theorem dX6_land_65 : decode cX6_land 65 = .ok (.iconst 3, 1) := by decide +kernel
theorem dX6_land_66 : decode cX6_land 66 = .ok (.iload_n 1, 1) := by decide +kernel
theorem dX6_land_67 : decode cX6_land 67 = .ok (.iastore, 1) := by decide +kernel
theorem dX6_land_68 : decode cX6_land 68 = .ok (.aload_n 0, 1) := by decide +kernel
theorem dX6_land_69 : decode cX6_land 69 = .ok (.getfield 11, 3) := by decide +kernel
theorem dX6_land_72 : decode cX6_land 72 = .ok (.iconst 4, 1) := by decide +kernel
theorem dX6_land_73 : decode cX6_land 73 = .ok (.iconst 0, 1) := by decide +kernel
theorem dX6_land_74 : decode cX6_land 74 = .ok (.iastore, 1) := by decide +kernel
theorem dX6_land_75 : decode cX6_land 75 = .ok (.aload_n 0, 1) := by decide +kernel
theorem dX6_land_76 : decode cX6_land 76 = .ok (.getfield 37, 3) := by decide +kernel
theorem dX6_land_79 : decode cX6_land 79 = .ok (.aload_n 0, 1) := by decide +kernel
theorem dX6_land_80 : decode cX6_land 80 = .ok (.getfield 11, 3) := by decide +kernel
theorem dX6_land_83 : decode cX6_land 83 = .ok (.invokevirtual 98, 3) := by decide +kernel
theorem dX6_land_86 : decode cX6_land 86 = .ok (.i2l, 1) := by decide +kernel
theorem dX6_land_87 : decode cX6_land 87 = .ok (.bipush 9, 2) := by decide +kernel
theorem dX6_land_89 : decode cX6_land 89 = .ok (.invokestatic 104, 3) := by decide +kernel
theorem dX6_land_92 : decode cX6_land 92 = .ok (.istore 6, 2) := by decide +kernel
theorem dX6_land_94 : decode cX6_land 94 = .ok (.aload_n 0, 1) := by decide +kernel
theorem dX6_land_95 : decode cX6_land 95 = .ok (.getfield 33, 3) := by decide +kernel
theorem dX6_land_98 : decode cX6_land 98 = .ok (.getfield 59, 3) := by decide +kernel
theorem dX6_land_101 : decode cX6_land 101 = .ok (.getfield 73, 3) := by decide +kernel
theorem dX6_land_104 : decode cX6_land 104 = .ok (.iconst 1, 1) := by decide +kernel
theorem dX6_land_105 : decode cX6_land 105 = .ok (.isub, 1) := by decide +kernel
theorem dX6_land_106 : decode cX6_land 106 = .ok (.iconst 0, 1) := by decide +kernel
theorem dX6_land_107 : decode cX6_land 107 = .ok (.iload_n 1, 1) := by decide +kernel
theorem dX6_land_108 : decode cX6_land 108 = .ok (.iload 6, 2) := by decide +kernel
theorem dX6_land_110 : decode cX6_land 110 = .ok (.iadd, 1) := by decide +kernel
theorem dX6_land_111 : decode cX6_land 111 = .ok (.invokestatic 108, 3) := by decide +kernel
theorem dX6_land_114 : decode cX6_land 114 = .ok (.invokestatic 85, 3) := by decide +kernel
theorem dX6_land_117 : decode cX6_land 117 = .ok (.istore 5, 2) := by decide +kernel
theorem dX6_land_119 : decode cX6_land 119 = .ok (.aload_n 0, 1) := by decide +kernel
theorem dX6_land_120 : decode cX6_land 120 = .ok (.getfield 26, 3) := by decide +kernel
theorem dX6_land_123 : decode cX6_land 123 = .ok (.iload 5, 2) := by decide +kernel
theorem dX6_land_125 : decode cX6_land 125 = .ok (.bipush 21, 2) := by decide +kernel
theorem dX6_land_127 : decode cX6_land 127 = .ok (.imul, 1) := by decide +kernel
theorem dX6_land_128 : decode cX6_land 128 = .ok (.iload_n 2, 1) := by decide +kernel
theorem dX6_land_129 : decode cX6_land 129 = .ok (.iadd, 1) := by decide +kernel
theorem dX6_land_130 : decode cX6_land 130 = .ok (.dup2, 1) := by decide +kernel
theorem dX6_land_131 : decode cX6_land 131 = .ok (.laload, 1) := by decide +kernel
theorem dX6_land_132 : decode cX6_land 132 = .ok (.aload_n 0, 1) := by decide +kernel
theorem dX6_land_133 : decode cX6_land 133 = .ok (.getfield 17, 3) := by decide +kernel
theorem dX6_land_136 : decode cX6_land 136 = .ok (.iload 4, 2) := by decide +kernel
theorem dX6_land_138 : decode cX6_land 138 = .ok (.laload, 1) := by decide +kernel
theorem dX6_land_139 : decode cX6_land 139 = .ok (.ladd, 1) := by decide +kernel
theorem dX6_land_140 : decode cX6_land 140 = .ok (.lastore, 1) := by decide +kernel
theorem dX6_land_141 : decode cX6_land 141 = .ok (.return_, 1) := by decide +kernel
theorem dX6_partsAt_0 : decode cX6_partsAt 0 = .ok (.lconst 0, 1) := by decide +kernel
theorem dX6_partsAt_1 : decode cX6_partsAt 1 = .ok (.lstore_n 2, 1) := by decide +kernel
theorem dX6_partsAt_2 : decode cX6_partsAt 2 = .ok (.iconst 1, 1) := by decide +kernel
theorem dX6_partsAt_3 : decode cX6_partsAt 3 = .ok (.istore 4, 2) := by decide +kernel
theorem dX6_partsAt_5 : decode cX6_partsAt 5 = .ok (.iload 4, 2) := by decide +kernel
theorem dX6_partsAt_7 : decode cX6_partsAt 7 = .ok (.bipush 21, 2) := by decide +kernel
theorem dX6_partsAt_9 : decode cX6_partsAt 9 = .ok (.if_icmp .ge 24, 3) := by decide +kernel
theorem dX6_partsAt_12 : decode cX6_partsAt 12 = .ok (.lload_n 2, 1) := by decide +kernel
theorem dX6_partsAt_13 : decode cX6_partsAt 13 = .ok (.aload_n 0, 1) := by decide +kernel
theorem dX6_partsAt_14 : decode cX6_partsAt 14 = .ok (.getfield 23, 3) := by decide +kernel
theorem dX6_partsAt_17 : decode cX6_partsAt 17 = .ok (.iload_n 1, 1) := by decide +kernel
theorem dX6_partsAt_18 : decode cX6_partsAt 18 = .ok (.bipush 21, 2) := by decide +kernel
theorem dX6_partsAt_20 : decode cX6_partsAt 20 = .ok (.imul, 1) := by decide +kernel
theorem dX6_partsAt_21 : decode cX6_partsAt 21 = .ok (.iload 4, 2) := by decide +kernel
theorem dX6_partsAt_23 : decode cX6_partsAt 23 = .ok (.iadd, 1) := by decide +kernel
theorem dX6_partsAt_24 : decode cX6_partsAt 24 = .ok (.laload, 1) := by decide +kernel
theorem dX6_partsAt_25 : decode cX6_partsAt 25 = .ok (.ladd, 1) := by decide +kernel
theorem dX6_partsAt_26 : decode cX6_partsAt 26 = .ok (.lstore_n 2, 1) := by decide +kernel
theorem dX6_partsAt_27 : decode cX6_partsAt 27 = .ok (.iinc 4 1, 3) := by decide +kernel
theorem dX6_partsAt_30 : decode cX6_partsAt 30 = .ok (.goto (-25), 3) := by decide +kernel
theorem dX6_partsAt_33 : decode cX6_partsAt 33 = .ok (.lload_n 2, 1) := by decide +kernel
theorem dX6_partsAt_34 : decode cX6_partsAt 34 = .ok (.lreturn, 1) := by decide +kernel
theorem dX6_partsTimesHeads_0 : decode cX6_partsTimesHeads 0 = .ok (.lconst 0, 1) := by decide +kernel
theorem dX6_partsTimesHeads_1 : decode cX6_partsTimesHeads 1 = .ok (.lstore_n 1, 1) := by decide +kernel
theorem dX6_partsTimesHeads_2 : decode cX6_partsTimesHeads 2 = .ok (.iconst 0, 1) := by decide +kernel
theorem dX6_partsTimesHeads_3 : decode cX6_partsTimesHeads 3 = .ok (.istore_n 3, 1) := by decide +kernel
theorem dX6_partsTimesHeads_4 : decode cX6_partsTimesHeads 4 = .ok (.iload_n 3, 1) := by decide +kernel
theorem dX6_partsTimesHeads_5 : decode cX6_partsTimesHeads 5 = .ok (.aload_n 0, 1) := by decide +kernel
theorem dX6_partsTimesHeads_6 : decode cX6_partsTimesHeads 6 = .ok (.getfield 23, 3) := by decide +kernel
theorem dX6_partsTimesHeads_9 : decode cX6_partsTimesHeads 9 = .ok (.arraylength, 1) := by decide +kernel
theorem dX6_partsTimesHeads_10 : decode cX6_partsTimesHeads 10 = .ok (.if_icmp .ge 24, 3) := by decide +kernel
theorem dX6_partsTimesHeads_13 : decode cX6_partsTimesHeads 13 = .ok (.lload_n 1, 1) := by decide +kernel
theorem dX6_partsTimesHeads_14 : decode cX6_partsTimesHeads 14 = .ok (.aload_n 0, 1) := by decide +kernel
theorem dX6_partsTimesHeads_15 : decode cX6_partsTimesHeads 15 = .ok (.getfield 23, 3) := by decide +kernel
theorem dX6_partsTimesHeads_18 : decode cX6_partsTimesHeads 18 = .ok (.iload_n 3, 1) := by decide +kernel
theorem dX6_partsTimesHeads_19 : decode cX6_partsTimesHeads 19 = .ok (.laload, 1) := by decide +kernel
theorem dX6_partsTimesHeads_20 : decode cX6_partsTimesHeads 20 = .ok (.iload_n 3, 1) := by decide +kernel
theorem dX6_partsTimesHeads_21 : decode cX6_partsTimesHeads 21 = .ok (.bipush 21, 2) := by decide +kernel
theorem dX6_partsTimesHeads_23 : decode cX6_partsTimesHeads 23 = .ok (.irem, 1) := by decide +kernel
theorem dX6_partsTimesHeads_24 : decode cX6_partsTimesHeads 24 = .ok (.i2l, 1) := by decide +kernel
theorem dX6_partsTimesHeads_25 : decode cX6_partsTimesHeads 25 = .ok (.lmul, 1) := by decide +kernel
theorem dX6_partsTimesHeads_26 : decode cX6_partsTimesHeads 26 = .ok (.ladd, 1) := by decide +kernel
theorem dX6_partsTimesHeads_27 : decode cX6_partsTimesHeads 27 = .ok (.lstore_n 1, 1) := by decide +kernel
theorem dX6_partsTimesHeads_28 : decode cX6_partsTimesHeads 28 = .ok (.iinc 3 1, 3) := by decide +kernel
theorem dX6_partsTimesHeads_31 : decode cX6_partsTimesHeads 31 = .ok (.goto (-27), 3) := by decide +kernel
theorem dX6_partsTimesHeads_34 : decode cX6_partsTimesHeads 34 = .ok (.lload_n 1, 1) := by decide +kernel
theorem dX6_partsTimesHeads_35 : decode cX6_partsTimesHeads 35 = .ok (.lreturn, 1) := by decide +kernel
theorem dX6_pass_0 : decode cX6_pass 0 = .ok (.aload_n 0, 1) := by decide +kernel
theorem dX6_pass_1 : decode cX6_pass 1 = .ok (.getfield 26, 3) := by decide +kernel
theorem dX6_pass_4 : decode cX6_pass 4 = .ok (.lconst 0, 1) := by decide +kernel
theorem dX6_pass_5 : decode cX6_pass 5 = .ok (.invokestatic 41, 3) := by decide +kernel
theorem dX6_pass_8 : decode cX6_pass 8 = .ok (.iconst 0, 1) := by decide +kernel
theorem dX6_pass_9 : decode cX6_pass 9 = .ok (.istore_n 3, 1) := by decide +kernel
theorem dX6_pass_10 : decode cX6_pass 10 = .ok (.iload_n 3, 1) := by decide +kernel
theorem dX6_pass_11 : decode cX6_pass 11 = .ok (.aload_n 0, 1) := by decide +kernel
theorem dX6_pass_12 : decode cX6_pass 12 = .ok (.getfield 33, 3) := by decide +kernel
theorem dX6_pass_15 : decode cX6_pass 15 = .ok (.getfield 59, 3) := by decide +kernel
theorem dX6_pass_18 : decode cX6_pass 18 = .ok (.getfield 73, 3) := by decide +kernel
theorem dX6_pass_21 : decode cX6_pass 21 = .ok (.if_icmp .ge 97, 3) := by decide +kernel
theorem dX6_pass_24 : decode cX6_pass 24 = .ok (.iconst 1, 1) := by decide +kernel
theorem dX6_pass_25 : decode cX6_pass 25 = .ok (.istore 4, 2) := by decide +kernel
theorem dX6_pass_27 : decode cX6_pass 27 = .ok (.iload 4, 2) := by decide +kernel
theorem dX6_pass_29 : decode cX6_pass 29 = .ok (.bipush 21, 2) := by decide +kernel
theorem dX6_pass_31 : decode cX6_pass 31 = .ok (.if_icmp .ge 81, 3) := by decide +kernel
theorem dX6_pass_34 : decode cX6_pass 34 = .ok (.aload_n 0, 1) := by decide +kernel
theorem dX6_pass_35 : decode cX6_pass 35 = .ok (.getfield 23, 3) := by decide +kernel
theorem dX6_pass_38 : decode cX6_pass 38 = .ok (.iload_n 3, 1) := by decide +kernel
theorem dX6_pass_39 : decode cX6_pass 39 = .ok (.bipush 21, 2) := by decide +kernel
theorem dX6_pass_41 : decode cX6_pass 41 = .ok (.imul, 1) := by decide +kernel
theorem dX6_pass_42 : decode cX6_pass 42 = .ok (.iload 4, 2) := by decide +kernel
theorem dX6_pass_44 : decode cX6_pass 44 = .ok (.iadd, 1) := by decide +kernel
theorem dX6_pass_45 : decode cX6_pass 45 = .ok (.laload, 1) := by decide +kernel
theorem dX6_pass_46 : decode cX6_pass 46 = .ok (.lstore 5, 2) := by decide +kernel
theorem dX6_pass_48 : decode cX6_pass 48 = .ok (.lload 5, 2) := by decide +kernel
theorem dX6_pass_50 : decode cX6_pass 50 = .ok (.iload_n 1, 1) := by decide +kernel
theorem dX6_pass_51 : decode cX6_pass 51 = .ok (.i2l, 1) := by decide +kernel
theorem dX6_pass_52 : decode cX6_pass 52 = .ok (.lmul, 1) := by decide +kernel
theorem dX6_pass_53 : decode cX6_pass 53 = .ok (.ldc2_w 76, 3) := by decide +kernel
theorem dX6_pass_56 : decode cX6_pass 56 = .ok (.ldiv, 1) := by decide +kernel
theorem dX6_pass_57 : decode cX6_pass 57 = .ok (.lstore 7, 2) := by decide +kernel
theorem dX6_pass_59 : decode cX6_pass 59 = .ok (.lload 7, 2) := by decide +kernel
theorem dX6_pass_61 : decode cX6_pass 61 = .ok (.iload_n 2, 1) := by decide +kernel
theorem dX6_pass_62 : decode cX6_pass 62 = .ok (.i2l, 1) := by decide +kernel
theorem dX6_pass_63 : decode cX6_pass 63 = .ok (.lmul, 1) := by decide +kernel
theorem dX6_pass_64 : decode cX6_pass 64 = .ok (.ldc2_w 76, 3) := by decide +kernel
theorem dX6_pass_67 : decode cX6_pass 67 = .ok (.ldiv, 1) := by decide +kernel
theorem dX6_pass_68 : decode cX6_pass 68 = .ok (.lstore 9, 2) := by decide +kernel
theorem dX6_pass_70 : decode cX6_pass 70 = .ok (.aload_n 0, 1) := by decide +kernel
theorem dX6_pass_71 : decode cX6_pass 71 = .ok (.iload_n 3, 1) := by decide +kernel
theorem dX6_pass_72 : decode cX6_pass 72 = .ok (.iload 4, 2) := by decide +kernel
theorem dX6_pass_74 : decode cX6_pass 74 = .ok (.iconst 0, 1) := by decide +kernel
theorem dX6_pass_75 : decode cX6_pass 75 = .ok (.lload 5, 2) := by decide +kernel
theorem dX6_pass_77 : decode cX6_pass 77 = .ok (.lload 7, 2) := by decide +kernel
theorem dX6_pass_79 : decode cX6_pass 79 = .ok (.lsub, 1) := by decide +kernel
theorem dX6_pass_80 : decode cX6_pass 80 = .ok (.invokevirtual 78, 3) := by decide +kernel
theorem dX6_pass_83 : decode cX6_pass 83 = .ok (.aload_n 0, 1) := by decide +kernel
theorem dX6_pass_84 : decode cX6_pass 84 = .ok (.iload_n 3, 1) := by decide +kernel
theorem dX6_pass_85 : decode cX6_pass 85 = .ok (.iload 4, 2) := by decide +kernel
theorem dX6_pass_87 : decode cX6_pass 87 = .ok (.iconst 1, 1) := by decide +kernel
theorem dX6_pass_88 : decode cX6_pass 88 = .ok (.lload 7, 2) := by decide +kernel
theorem dX6_pass_90 : decode cX6_pass 90 = .ok (.lload 9, 2) := by decide +kernel
theorem dX6_pass_92 : decode cX6_pass 92 = .ok (.lsub, 1) := by decide +kernel
theorem dX6_pass_93 : decode cX6_pass 93 = .ok (.invokevirtual 78, 3) := by decide +kernel
theorem dX6_pass_96 : decode cX6_pass 96 = .ok (.aload_n 0, 1) := by decide +kernel
theorem dX6_pass_97 : decode cX6_pass 97 = .ok (.iload_n 3, 1) := by decide +kernel
theorem dX6_pass_98 : decode cX6_pass 98 = .ok (.iload 4, 2) := by decide +kernel
theorem dX6_pass_100 : decode cX6_pass 100 = .ok (.iconst 2, 1) := by decide +kernel
theorem dX6_pass_101 : decode cX6_pass 101 = .ok (.lload 9, 2) := by decide +kernel
theorem dX6_pass_103 : decode cX6_pass 103 = .ok (.invokevirtual 78, 3) := by decide +kernel
theorem dX6_pass_106 : decode cX6_pass 106 = .ok (.iinc 4 1, 3) := by decide +kernel
theorem dX6_pass_109 : decode cX6_pass 109 = .ok (.goto (-82), 3) := by decide +kernel
theorem dX6_pass_112 : decode cX6_pass 112 = .ok (.iinc 3 1, 3) := by decide +kernel
theorem dX6_pass_115 : decode cX6_pass 115 = .ok (.goto (-105), 3) := by decide +kernel
theorem dX6_pass_118 : decode cX6_pass 118 = .ok (.aload_n 0, 1) := by decide +kernel
theorem dX6_pass_119 : decode cX6_pass 119 = .ok (.getfield 23, 3) := by decide +kernel
theorem dX6_pass_122 : decode cX6_pass 122 = .ok (.astore_n 3, 1) := by decide +kernel
theorem dX6_pass_123 : decode cX6_pass 123 = .ok (.aload_n 0, 1) := by decide +kernel
theorem dX6_pass_124 : decode cX6_pass 124 = .ok (.aload_n 0, 1) := by decide +kernel
theorem dX6_pass_125 : decode cX6_pass 125 = .ok (.getfield 26, 3) := by decide +kernel
theorem dX6_pass_128 : decode cX6_pass 128 = .ok (.putfield 23, 3) := by decide +kernel
theorem dX6_pass_131 : decode cX6_pass 131 = .ok (.aload_n 0, 1) := by decide +kernel
theorem dX6_pass_132 : decode cX6_pass 132 = .ok (.aload_n 3, 1) := by decide +kernel
theorem dX6_pass_133 : decode cX6_pass 133 = .ok (.putfield 26, 3) := by decide +kernel
theorem dX6_pass_136 : decode cX6_pass 136 = .ok (.return_, 1) := by decide +kernel
theorem dX6_run_0 : decode cX6_run 0 = .ok (.aload_n 0, 1) := by decide +kernel
theorem dX6_run_1 : decode cX6_run 1 = .ok (.aload_n 2, 1) := by decide +kernel
theorem dX6_run_2 : decode cX6_run 2 = .ok (.putfield 37, 3) := by decide +kernel
theorem dX6_run_5 : decode cX6_run 5 = .ok (.aload_n 0, 1) := by decide +kernel
theorem dX6_run_6 : decode cX6_run 6 = .ok (.lconst 0, 1) := by decide +kernel
theorem dX6_run_7 : decode cX6_run 7 = .ok (.putfield 29, 3) := by decide +kernel
theorem dX6_run_10 : decode cX6_run 10 = .ok (.aload_n 0, 1) := by decide +kernel
theorem dX6_run_11 : decode cX6_run 11 = .ok (.getfield 23, 3) := by decide +kernel
theorem dX6_run_14 : decode cX6_run 14 = .ok (.lconst 0, 1) := by decide +kernel
theorem dX6_run_15 : decode cX6_run 15 = .ok (.invokestatic 41, 3) := by decide +kernel
theorem dX6_run_18 : decode cX6_run 18 = .ok (.aload_n 0, 1) := by decide +kernel
theorem dX6_run_19 : decode cX6_run 19 = .ok (.getfield 23, 3) := by decide +kernel
theorem dX6_run_22 : decode cX6_run 22 = .ok (.aload_n 0, 1) := by decide +kernel
theorem dX6_run_23 : decode cX6_run 23 = .ok (.getfield 33, 3) := by decide +kernel
theorem dX6_run_26 : decode cX6_run 26 = .ok (.getfield 47, 3) := by decide +kernel
theorem dX6_run_29 : decode cX6_run 29 = .ok (.iload_n 1, 1) := by decide +kernel
theorem dX6_run_30 : decode cX6_run 30 = .ok (.iaload, 1) := by decide +kernel
theorem dX6_run_31 : decode cX6_run 31 = .ok (.bipush 21, 2) := by decide +kernel
theorem dX6_run_33 : decode cX6_run 33 = .ok (.imul, 1) := by decide +kernel
theorem dX6_run_34 : decode cX6_run 34 = .ok (.aload_n 0, 1) := by decide +kernel
theorem dX6_run_35 : decode cX6_run 35 = .ok (.getfield 33, 3) := by decide +kernel
theorem dX6_run_38 : decode cX6_run 38 = .ok (.getfield 50, 3) := by decide +kernel
theorem dX6_run_41 : decode cX6_run 41 = .ok (.iload_n 1, 1) := by decide +kernel
theorem dX6_run_42 : decode cX6_run 42 = .ok (.iaload, 1) := by decide +kernel
theorem dX6_run_43 : decode cX6_run 43 = .ok (.iadd, 1) := by decide +kernel
theorem dX6_run_44 : decode cX6_run 44 = .ok (.ldc2_w 53, 3) := by decide +kernel
theorem dX6_run_47 : decode cX6_run 47 = .ok (.lastore, 1) := by decide +kernel
theorem dX6_run_48 : decode cX6_run 48 = .ok (.iconst 1, 1) := by decide +kernel
theorem dX6_run_49 : decode cX6_run 49 = .ok (.istore 4, 2) := by decide +kernel
theorem dX6_run_51 : decode cX6_run 51 = .ok (.iload 4, 2) := by decide +kernel
theorem dX6_run_53 : decode cX6_run 53 = .ok (.iload_n 3, 1) := by decide +kernel
theorem dX6_run_54 : decode cX6_run 54 = .ok (.if_icmp .gt 53, 3) := by decide +kernel
theorem dX6_run_57 : decode cX6_run 57 = .ok (.aload_n 0, 1) := by decide +kernel
theorem dX6_run_58 : decode cX6_run 58 = .ok (.getfield 11, 3) := by decide +kernel
theorem dX6_run_61 : decode cX6_run 61 = .ok (.iconst 5, 1) := by decide +kernel
theorem dX6_run_62 : decode cX6_run 62 = .ok (.aload_n 0, 1) := by decide +kernel
theorem dX6_run_63 : decode cX6_run 63 = .ok (.getfield 33, 3) := by decide +kernel
theorem dX6_run_66 : decode cX6_run 66 = .ok (.getfield 55, 3) := by decide +kernel
theorem dX6_run_69 : decode cX6_run 69 = .ok (.iload 4, 2) := by decide +kernel
theorem dX6_run_71 : decode cX6_run 71 = .ok (.iadd, 1) := by decide +kernel
theorem dX6_run_72 : decode cX6_run 72 = .ok (.iastore, 1) := by decide +kernel
theorem dX6_run_73 : decode cX6_run 73 = .ok (.aload_n 0, 1) := by decide +kernel
theorem dX6_run_74 : decode cX6_run 74 = .ok (.aload_n 0, 1) := by decide +kernel
theorem dX6_run_75 : decode cX6_run 75 = .ok (.getfield 33, 3) := by decide +kernel
theorem dX6_run_78 : decode cX6_run 78 = .ok (.getfield 59, 3) := by decide +kernel
theorem dX6_run_81 : decode cX6_run 81 = .ok (.getfield 63, 3) := by decide +kernel
theorem dX6_run_84 : decode cX6_run 84 = .ok (.iload_n 1, 1) := by decide +kernel
theorem dX6_run_85 : decode cX6_run 85 = .ok (.iaload, 1) := by decide +kernel
theorem dX6_run_86 : decode cX6_run 86 = .ok (.aload_n 0, 1) := by decide +kernel
theorem dX6_run_87 : decode cX6_run 87 = .ok (.getfield 33, 3) := by decide +kernel
theorem dX6_run_90 : decode cX6_run 90 = .ok (.getfield 59, 3) := by decide +kernel
theorem dX6_run_93 : decode cX6_run 93 = .ok (.getfield 66, 3) := by decide +kernel
theorem dX6_run_96 : decode cX6_run 96 = .ok (.iload_n 1, 1) := by decide +kernel
theorem dX6_run_97 : decode cX6_run 97 = .ok (.iaload, 1) := by decide +kernel
theorem dX6_run_98 : decode cX6_run 98 = .ok (.invokevirtual 69, 3) := by decide +kernel
theorem dX6_run_101 : decode cX6_run 101 = .ok (.iinc 4 1, 3) := by decide +kernel
theorem dX6_run_104 : decode cX6_run 104 = .ok (.goto (-53), 3) := by decide +kernel
theorem dX6_run_107 : decode cX6_run 107 = .ok (.return_, 1) := by decide +kernel
theorem dX6_spread_0 : decode cX6_spread 0 = .ok (.lload 4, 2) := by decide +kernel
theorem dX6_spread_2 : decode cX6_spread 2 = .ok (.lconst 0, 1) := by decide +kernel
theorem dX6_spread_3 : decode cX6_spread 3 = .ok (.lcmp, 1) := by decide +kernel
theorem dX6_spread_4 : decode cX6_spread 4 = .ok (.ifCond .ne 4, 3) := by decide +kernel
theorem dX6_spread_7 : decode cX6_spread 7 = .ok (.return_, 1) := by decide +kernel
theorem dX6_spread_8 : decode cX6_spread 8 = .ok (.aload_n 0, 1) := by decide +kernel
theorem dX6_spread_9 : decode cX6_spread 9 = .ok (.getfield 17, 3) := by decide +kernel
theorem dX6_spread_12 : decode cX6_spread 12 = .ok (.lconst 0, 1) := by decide +kernel
theorem dX6_spread_13 : decode cX6_spread 13 = .ok (.invokestatic 41, 3) := by decide +kernel
theorem dX6_spread_16 : decode cX6_spread 16 = .ok (.aload_n 0, 1) := by decide +kernel
theorem dX6_spread_17 : decode cX6_spread 17 = .ok (.getfield 17, 3) := by decide +kernel
theorem dX6_spread_20 : decode cX6_spread 20 = .ok (.iconst 0, 1) := by decide +kernel
theorem dX6_spread_21 : decode cX6_spread 21 = .ok (.lload 4, 2) := by decide +kernel
theorem dX6_spread_23 : decode cX6_spread 23 = .ok (.lastore, 1) := by decide +kernel
theorem dX6_spread_24 : decode cX6_spread 24 = .ok (.iconst 0, 1) := by decide +kernel
theorem dX6_spread_25 : decode cX6_spread 25 = .ok (.istore 6, 2) := by decide +kernel
theorem dX6_spread_27 : decode cX6_spread 27 = .ok (.iload 6, 2) := by decide +kernel
theorem dX6_spread_29 : decode cX6_spread 29 = .ok (.iload_n 2, 1) := by decide +kernel
theorem dX6_spread_30 : decode cX6_spread 30 = .ok (.if_icmp .ge 77, 3) := by decide +kernel
theorem dX6_spread_33 : decode cX6_spread 33 = .ok (.iload 6, 2) := by decide +kernel
theorem dX6_spread_35 : decode cX6_spread 35 = .ok (.istore 7, 2) := by decide +kernel
theorem dX6_spread_37 : decode cX6_spread 37 = .ok (.iload 7, 2) := by decide +kernel
theorem dX6_spread_39 : decode cX6_spread 39 = .ok (.ifCond .lt 62, 3) := by decide +kernel
theorem dX6_spread_42 : decode cX6_spread 42 = .ok (.aload_n 0, 1) := by decide +kernel
theorem dX6_spread_43 : decode cX6_spread 43 = .ok (.getfield 17, 3) := by decide +kernel
theorem dX6_spread_46 : decode cX6_spread 46 = .ok (.iload 7, 2) := by decide +kernel
theorem dX6_spread_48 : decode cX6_spread 48 = .ok (.laload, 1) := by decide +kernel
theorem dX6_spread_49 : decode cX6_spread 49 = .ok (.aload_n 0, 1) := by decide +kernel
theorem dX6_spread_50 : decode cX6_spread 50 = .ok (.getfield 33, 3) := by decide +kernel
theorem dX6_spread_53 : decode cX6_spread 53 = .ok (.getfield 59, 3) := by decide +kernel
theorem dX6_spread_56 : decode cX6_spread 56 = .ok (.getfield 82, 3) := by decide +kernel
theorem dX6_spread_59 : decode cX6_spread 59 = .ok (.iload_n 1, 1) := by decide +kernel
theorem dX6_spread_60 : decode cX6_spread 60 = .ok (.iaload, 1) := by decide +kernel
theorem dX6_spread_61 : decode cX6_spread 61 = .ok (.i2l, 1) := by decide +kernel
theorem dX6_spread_62 : decode cX6_spread 62 = .ok (.lmul, 1) := by decide +kernel
theorem dX6_spread_63 : decode cX6_spread 63 = .ok (.ldc2_w 76, 3) := by decide +kernel
theorem dX6_spread_66 : decode cX6_spread 66 = .ok (.ldiv, 1) := by decide +kernel
theorem dX6_spread_67 : decode cX6_spread 67 = .ok (.lstore 8, 2) := by decide +kernel
theorem dX6_spread_69 : decode cX6_spread 69 = .ok (.aload_n 0, 1) := by decide +kernel
theorem dX6_spread_70 : decode cX6_spread 70 = .ok (.getfield 17, 3) := by decide +kernel
theorem dX6_spread_73 : decode cX6_spread 73 = .ok (.iload 7, 2) := by decide +kernel
theorem dX6_spread_75 : decode cX6_spread 75 = .ok (.dup2, 1) := by decide +kernel
theorem dX6_spread_76 : decode cX6_spread 76 = .ok (.laload, 1) := by decide +kernel
theorem dX6_spread_77 : decode cX6_spread 77 = .ok (.lload 8, 2) := by decide +kernel
theorem dX6_spread_79 : decode cX6_spread 79 = .ok (.lsub, 1) := by decide +kernel
theorem dX6_spread_80 : decode cX6_spread 80 = .ok (.lastore, 1) := by decide +kernel
theorem dX6_spread_81 : decode cX6_spread 81 = .ok (.aload_n 0, 1) := by decide +kernel
theorem dX6_spread_82 : decode cX6_spread 82 = .ok (.getfield 17, 3) := by decide +kernel
theorem dX6_spread_85 : decode cX6_spread 85 = .ok (.iload 7, 2) := by decide +kernel
theorem dX6_spread_87 : decode cX6_spread 87 = .ok (.iconst 1, 1) := by decide +kernel
theorem dX6_spread_88 : decode cX6_spread 88 = .ok (.iadd, 1) := by decide +kernel
theorem dX6_spread_89 : decode cX6_spread 89 = .ok (.dup2, 1) := by decide +kernel
theorem dX6_spread_90 : decode cX6_spread 90 = .ok (.laload, 1) := by decide +kernel
theorem dX6_spread_91 : decode cX6_spread 91 = .ok (.lload 8, 2) := by decide +kernel
theorem dX6_spread_93 : decode cX6_spread 93 = .ok (.ladd, 1) := by decide +kernel
theorem dX6_spread_94 : decode cX6_spread 94 = .ok (.lastore, 1) := by decide +kernel
theorem dX6_spread_95 : decode cX6_spread 95 = .ok (.iinc 7 (-1), 3) := by decide +kernel
theorem dX6_spread_98 : decode cX6_spread 98 = .ok (.goto (-61), 3) := by decide +kernel
theorem dX6_spread_101 : decode cX6_spread 101 = .ok (.iinc 6 1, 3) := by decide +kernel
theorem dX6_spread_104 : decode cX6_spread 104 = .ok (.goto (-77), 3) := by decide +kernel
theorem dX6_spread_107 : decode cX6_spread 107 = .ok (.iconst 0, 1) := by decide +kernel
theorem dX6_spread_108 : decode cX6_spread 108 = .ok (.istore 6, 2) := by decide +kernel
theorem dX6_spread_110 : decode cX6_spread 110 = .ok (.iload 6, 2) := by decide +kernel
theorem dX6_spread_112 : decode cX6_spread 112 = .ok (.iload_n 2, 1) := by decide +kernel
theorem dX6_spread_113 : decode cX6_spread 113 = .ok (.if_icmp .gt 28, 3) := by decide +kernel
theorem dX6_spread_116 : decode cX6_spread 116 = .ok (.aload_n 0, 1) := by decide +kernel
theorem dX6_spread_117 : decode cX6_spread 117 = .ok (.iload_n 1, 1) := by decide +kernel
theorem dX6_spread_118 : decode cX6_spread 118 = .ok (.bipush 20, 2) := by decide +kernel
theorem dX6_spread_120 : decode cX6_spread 120 = .ok (.iload_n 2, 1) := by decide +kernel
theorem dX6_spread_121 : decode cX6_spread 121 = .ok (.iload 6, 2) := by decide +kernel
theorem dX6_spread_123 : decode cX6_spread 123 = .ok (.isub, 1) := by decide +kernel
theorem dX6_spread_124 : decode cX6_spread 124 = .ok (.iload_n 3, 1) := by decide +kernel
theorem dX6_spread_125 : decode cX6_spread 125 = .ok (.iadd, 1) := by decide +kernel
theorem dX6_spread_126 : decode cX6_spread 126 = .ok (.invokestatic 85, 3) := by decide +kernel
theorem dX6_spread_129 : decode cX6_spread 129 = .ok (.iload_n 3, 1) := by decide +kernel
theorem dX6_spread_130 : decode cX6_spread 130 = .ok (.iload 6, 2) := by decide +kernel
theorem dX6_spread_132 : decode cX6_spread 132 = .ok (.invokevirtual 91, 3) := by decide +kernel
theorem dX6_spread_135 : decode cX6_spread 135 = .ok (.iinc 6 1, 3) := by decide +kernel
theorem dX6_spread_138 : decode cX6_spread 138 = .ok (.goto (-28), 3) := by decide +kernel
theorem dX6_spread_141 : decode cX6_spread 141 = .ok (.return_, 1) := by decide +kernel
def w_X6_land : List Cond := .code yX6_land cX6_land 7 none :: ([Cond.fieldLink RX6 33 "HeadYear$Odds" "folk" "LHeadYear$Folk;", Cond.fieldLink RX6 59 "HeadYear$Folk" "valley" "LHeadYear$Valley;", Cond.fieldLink RX6 95 "HeadYear$Valley" "brow" "[I", Cond.fieldLink RX6 26 "HeadYear$Odds" "after" "[J", Cond.fieldLink RX6 17 "HeadYear$Odds" "dying" "[J", Cond.fieldLink RX6 11 "HeadYear$Odds" "letters" "[I", Cond.fieldLink RX6 37 "HeadYear$Odds" "law" "LHeadYear$Law;", Cond.methodLink RX6 98 yX3_worth, Cond.instanceMethod yX3_worth, Cond.selects RX3 yX3_worth yX3_worth, Cond.initialized RX3, Cond.methodLink RX6 104 yX3_held, Cond.static yX3_held, Cond.fieldLink RX6 73 "HeadYear$Valley" "levels" "I", Cond.methodLink RX6 108 Lib.Math.max.name, Cond.static Lib.Math.max.name, Cond.initialized "java/lang/Math", Cond.code Lib.Math.max.name Lib.Math.max.code 2 (some .int), Cond.methodLink RX6 85 Lib.Math.min.name, Cond.static Lib.Math.min.name, Cond.code Lib.Math.min.name Lib.Math.min.code 2 (some .int), Cond.fieldLink RX6 29 "HeadYear$Odds" "gone" "J"] ++ (u_ws RX6 TX6 7 ++ (u_ws RX2 TX2 12 ++ (u_ws RX9 TX9 10 ++ (w_X3_worth ++ (w_X3_held ++ ([])))))))
theorem in_X6_land_X6 : ∀ w ∈ u_ws RX6 TX6 7, w ∈ w_X6_land := fun _ h => List.mem_cons_of_mem _ (List.mem_append_right _ (List.mem_append_left _ h))
theorem in_X6_land_X2 : ∀ w ∈ u_ws RX2 TX2 12, w ∈ w_X6_land := fun _ h => List.mem_cons_of_mem _ (List.mem_append_right _ (List.mem_append_right _ (List.mem_append_left _ h)))
theorem in_X6_land_X9 : ∀ w ∈ u_ws RX9 TX9 10, w ∈ w_X6_land := fun _ h => List.mem_cons_of_mem _ (List.mem_append_right _ (List.mem_append_right _ (List.mem_append_right _ (List.mem_append_left _ h))))
theorem gg_X6_land_X3_worth : GoodIn w_X6_land w_X3_worth := goodIn_sub (fun _ h => List.mem_cons_of_mem _ (List.mem_append_right _ (List.mem_append_right _ (List.mem_append_right _ (List.mem_append_right _ (List.mem_append_left _ h)))))) (by decide +kernel)
theorem gg_X6_land_X3_held : GoodIn w_X6_land w_X3_held := goodIn_sub (fun _ h => List.mem_cons_of_mem _ (List.mem_append_right _ (List.mem_append_right _ (List.mem_append_right _ (List.mem_append_right _ (List.mem_append_right _ (List.mem_append_left _ h))))))) (by decide +kernel)
theorem g_X6_land_X3_held_104 : GoodIn w_X6_land (va_wsS RX6 104 yX3_held w_X3_held) := goodIn_app (goodIn_of _ (by decide +kernel)) gg_X6_land_X3_held
theorem g_X6_land_X3_worth_98 : GoodIn w_X6_land (wsV RX6 98 RX3 yX3_worth w_X3_worth) := goodIn_app (goodIn_of _ (by decide +kernel)) gg_X6_land_X3_worth
set_option maxHeartbeats 4000000 in
set_option maxRecDepth 100000 in
theorem c_X6_land (l : Launch) (E : py_E) (G : wf_G) (L : List Nat) (f : py_F) (sz : Nat) (h : Nat) (a : Int32) (b : Int32) (q : Int32) (d : Int32) (hG : GT G) (hWF : WF E G L f) (Th : G.1 h = 7) (Ba : (0 ≤ a.toInt ∧ a.toInt ≤ 7)) (Bb : (0 ≤ b.toInt ∧ b.toInt ≤ 20)) (Bd : (0 ≤ d.toInt ∧ d.toInt ≤ 20)) (hp0 : a.toInt < fv_l f (G.2 h 2)) : Met l yX6_land w_X6_land ({ frames := 2, cells := 0, slots := 0, locals := 49 }) (py_Pc E [.ref h, .int a, .int b, .int q, .int d] L f sz) (py_Qv E L f sz (fun L1 f1 => WF E G L1 f1 ∧ RP E G f f1 ∧ KP G [7, 35, 32, 21] false f f1)) 0 0 (va_A (va_pl L f) sz) := by
  refine Met.ofW (cc := cX6_land) (maxL := 7) (ret := none) (by decide) rfl ?_
  intro p e s m args below meth c s₁ B hml hv
  obtain ⟨rfl, rfl, hw⟩ := py_start hv
  have G0 : CallFix p m c cX6_land 7 s _ w_X6_land RX6 := ⟨B.exec, B.bytes, hml, findClass_of_methodNamed B.named, atoms_spec (ws := w_X6_land) B.pre⟩
  have hr := B.returns
  have hlk := B.notSynchronized
  have kcm1 : (-1 : Int32).toInt = -1 := rfl
  have kc0 : (0 : Int32).toInt = 0 := rfl
  have kc1 : (1 : Int32).toInt = 1 := rfl
  have kc2 : (2 : Int32).toInt = 2 := rfl
  have kc3 : (3 : Int32).toInt = 3 := rfl
  have kc4 : (4 : Int32).toInt = 4 := rfl
  have kc9 : (9 : Int32).toInt = 9 := rfl
  have kc21 : (21 : Int32).toInt = 21 := rfl
  have hl := lv_entry ([.ref h, .int a, .int b, .int q, .int d]) (n := 7) (Nat.le_of_ble_eq_true rfl)
  rw [lg_entry_eq]
  generalize (lg_sl ([.ref h, .int a, .int b, .int q, .int d]) ++ List.replicate (7 - (lg_sl ([.ref h, .int a, .int b, .int q, .int d])).length) Slot.unset).toArray = ls at hl ⊢
  have hl : lv_has ls 7 [(0, .ref h), (1, .int a), (2, .int b), (3, .int q), (4, .int d)] := hl
  have hRP : RP E G f f := RP.refl
  have hKP : KP G [7, 35, 32, 21] false f f := KP.refl
  refine lv_iload_n G0.1 G0.2.1 dX6_land_0 rfl (lv_at hl 2 rfl) ?_
  refine lv_if_ne (tgt := 21) G0.1 G0.2.1 dX6_land_1 (by decide) (fun c_1 => ?_) (fun c_1 => ?_)
  · skip
    have tc_1 := ti_ne c_1
    refine lv_iload_n G0.1 G0.2.1 dX6_land_21 rfl (lv_at hl 1 rfl) ?_
    refine lv_istore (lv' := [(5, .int a), (0, .ref h), (1, .int a), (2, .int b), (3, .int q), (4, .int d)]) G0.1 G0.2.1 dX6_land_22 hl (by decide) rfl (fun ls hl => ?_)
    refine lv_aload_n G0.1 G0.2.1 dX6_land_24 rfl (lv_at hl 1 rfl) ?_
    obtain ⟨t_2, t_3, t_4⟩ := wt_6 hG Th
    obtain ⟨r_5, r_6, r_7, y_8, hr_12, ty_9, ty_10, ty_11⟩ := wg_6 hWF Th
    refine py_get (C := RX6) (T := TX6) (N := 7) (k := 2) (v := .ref (G.2 h 2)) G0 hw in_X6_land_X6 rfl hr_12 (by decide) (by decide +kernel) rfl dX6_land_25 ?_
    obtain ⟨t_13, t_14, t_15, t_16, t_17, t_18, t_19, t_20, t_21⟩ := wt_2 hG t_4
    obtain ⟨r_22, y_23, v_24, hr_27, ty_25, b_26⟩ := wg_2 hWF t_4
    have tq_28 := fo_eq hr_27
    refine py_get (C := RX2) (T := TX2) (N := 12) (k := 9) (v := .ref r_22) G0 hw in_X6_land_X2 rfl hr_27 (by decide) (by decide +kernel) rfl dX6_land_28 ?_
    obtain ⟨t_29, t_30, t_31, t_32, t_33, t_34, t_35, t_36⟩ := wt_9 hG ty_25
    obtain ⟨v_37, v_38, hr_41, b_39, b_40⟩ := wg_9 hWF ty_25
    have tq_42 := va_eq hr_41
    refine py_get (C := RX9) (T := TX9) (N := 10) (k := 3) (v := .ref (G.2 r_22 3)) G0 hw in_X6_land_X9 rfl hr_41 (by decide) (by decide +kernel) rfl dX6_land_31 ?_
    refine lv_iload_n G0.1 G0.2.1 dX6_land_34 rfl (lv_at hl 2 rfl) ?_
    obtain ⟨g_43, ha_44, hi_45⟩ := wf_arr (n := 8) (lo := (-2147483648)) (hi := 2147483647) hWF t_32 (by decide) (fun _ => rfl)
    have rg_46 : vp_in a 8 := ti_in (by omega) (by omega)
    refine py_iald G0 hw ha_44 rg_46 dX6_land_35 ?_
    refine lv_topi (fun x_47 ex_47 => ?_)
    have bx_47 := wf_free x_47
    refine lv_if_ne (tgt := 119) G0.1 G0.2.1 dX6_land_36 (by decide) (fun c_48 => ?_) (fun c_48 => ?_)
    · skip
      have tc_48 := ti_ne c_48
      refine lv_aload_n G0.1 G0.2.1 dX6_land_119 rfl (lv_at hl 1 rfl) ?_
      refine py_get (C := RX6) (T := TX6) (N := 7) (k := 4) (v := .ref r_6) G0 hw in_X6_land_X6 rfl hr_12 (by decide) (by decide +kernel) rfl dX6_land_120 ?_
      refine lv_iload G0.1 G0.2.1 dX6_land_123 (lv_at hl 0 rfl) ?_
      refine lv_bipush (v := 21) G0.1 G0.2.1 dX6_land_125 (by decide) ?_
      refine lv_imul G0.1 G0.2.1 dX6_land_127 ?_
      refine lv_topi (fun x_49 ex_49 => ?_)
      first | have tx_49 := ti_mulc ex_49 kc21 (by omega) (by omega) | skip
      refine lv_iload_n G0.1 G0.2.1 dX6_land_128 rfl (lv_at hl 3 rfl) ?_
      refine lv_iadd G0.1 G0.2.1 dX6_land_129 ?_
      refine lv_topi (fun x_50 ex_50 => ?_)
      first | have tx_50 := ti_add ex_50 (by omega) (by omega) | skip
      refine lv_dup2_11 G0.1 G0.2.1 dX6_land_130 rfl rfl ?_
      obtain ⟨g_51, ha_52⟩ := wf_j35 hWF ty_10
      have rg_53 : vp_in x_50 168 := ti_in (by omega) (by omega)
      refine py_lald G0 hw ha_52 rg_53 dX6_land_131 ?_
      refine lv_topl (fun y_54 ey_54 => ?_)
      refine lv_aload_n G0.1 G0.2.1 dX6_land_132 rfl (lv_at hl 1 rfl) ?_
      refine py_get (C := RX6) (T := TX6) (N := 7) (k := 1) (v := .ref (G.2 h 1)) G0 hw in_X6_land_X6 rfl hr_12 (by decide) (by decide +kernel) rfl dX6_land_133 ?_
      refine lv_iload G0.1 G0.2.1 dX6_land_136 (lv_at hl 5 rfl) ?_
      obtain ⟨g_55, ha_56⟩ := wf_j34 hWF t_3
      have rg_57 : vp_in d 22 := ti_in (by omega) (by omega)
      refine py_lald G0 hw ha_56 rg_57 dX6_land_138 ?_
      refine lv_topl (fun y_58 ey_58 => ?_)
      refine lv_ladd G0.1 G0.2.1 dX6_land_139 ?_
      refine lv_topl (fun y_59 ey_59 => ?_)
      obtain ⟨g_60, ha_61⟩ := wf_j35 hWF ty_10
      have rg_62 : vp_in x_50 168 := ti_in (by omega) (by omega)
      refine py_last G0 hw ha_61 rg_62 dX6_land_140 (fun f_63 H_64 locs h_65 x_66 hw => ?_)
      have hKP := hKP.upd hWF x_66 ty_10 (Or.inl (by decide))
      have hRP := hRP.trans (rp_upd hG hWF x_66 ha_61.2 h_65.2 (rp_code hG ty_10 (by decide)) rfl)
      have hWF := wf_upd hWF h_65 x_66 (by rw [ty_10]; exact ⟨_, rfl⟩)
      have hr_12 := hr_12.ext x_66 (py_ne_arr hr_12 ha_61)
      have hr_27 := hr_27.ext x_66 (py_ne_arr hr_27 ha_61)
      have tq_67 := fo_eq hr_27
      have hr_41 := hr_41.ext x_66 (py_ne_arr hr_41 ha_61)
      have tq_68 := va_eq hr_41
      exact py_vret G0 hr hlk hw ⟨hWF, hRP, hKP⟩ dX6_land_141
    · skip
      have tc_48 := ti_eq c_48
      refine lv_aload_n G0.1 G0.2.1 dX6_land_39 rfl (lv_at hl 1 rfl) ?_
      refine py_get (C := RX6) (T := TX6) (N := 7) (k := 0) (v := .ref (G.2 h 0)) G0 hw in_X6_land_X6 rfl hr_12 (by decide) (by decide +kernel) rfl dX6_land_40 ?_
      refine lv_iconst (v := 0) G0.1 G0.2.1 dX6_land_43 (by decide) ?_
      refine lv_iload_n G0.1 G0.2.1 dX6_land_44 rfl (lv_at hl 4 rfl) ?_
      obtain ⟨g_69, ha_70, hi_71⟩ := wf_arr (n := 6) (lo := (-2147483648)) (hi := 2147483647) hWF t_2 (by decide) (fun _ => rfl)
      have rg_72 : vp_in 0 6 := ti_in (by omega) (by omega)
      refine py_iast G0 hw ha_70 rg_72 dX6_land_45 (fun f_73 H_74 locs h_75 x_76 hw => ?_)
      have hKP := hKP.upd hWF x_76 t_2 (Or.inl (by decide))
      have hRP := hRP.trans (rp_upd hG hWF x_76 ha_70.2 h_75.2 (rp_code hG t_2 (by decide)) rfl)
      have hi_77 := wf_inu (k := (0 : Int32).toNatClampNeg) (x := q) hi_71 (wf_free q).1 (wf_free q).2
      have hWF := wf_upd hWF h_75 x_76 (by rw [t_2]; exact ⟨_, rfl, hi_77⟩)
      have hr_12 := hr_12.ext x_76 (py_ne_arr hr_12 ha_70)
      have hr_27 := hr_27.ext x_76 (py_ne_arr hr_27 ha_70)
      have tq_78 := fo_eq hr_27
      have hr_41 := hr_41.ext x_76 (py_ne_arr hr_41 ha_70)
      have tq_79 := va_eq hr_41
      have ha_44 := ha_44.ext x_76 (wf_ne t_32 t_2 (by decide))
      refine lv_aload_n G0.1 G0.2.1 dX6_land_46 rfl (lv_at hl 1 rfl) ?_
      refine py_get (C := RX6) (T := TX6) (N := 7) (k := 0) (v := .ref (G.2 h 0)) G0 hw in_X6_land_X6 rfl hr_12 (by decide) (by decide +kernel) rfl dX6_land_47 ?_
      refine lv_iconst (v := 1) G0.1 G0.2.1 dX6_land_50 (by decide) ?_
      refine lv_iload G0.1 G0.2.1 dX6_land_51 (lv_at hl 5 rfl) ?_
      have rg_80 : vp_in 1 6 := ti_in (by omega) (by omega)
      refine py_iast G0 hw h_75 rg_80 dX6_land_53 (fun f_81 H_82 locs h_83 x_84 hw => ?_)
      have hKP := hKP.upd hWF x_84 t_2 (Or.inl (by decide))
      have hRP := hRP.trans (rp_upd hG hWF x_84 h_75.2 h_83.2 (rp_code hG t_2 (by decide)) rfl)
      have hi_85 := wf_inu (k := (1 : Int32).toNatClampNeg) (x := d) hi_77 (wf_free d).1 (wf_free d).2
      have hWF := wf_upd hWF h_83 x_84 (by rw [t_2]; exact ⟨_, rfl, hi_85⟩)
      have hr_12 := hr_12.ext x_84 (py_ne_arr hr_12 h_75)
      have hr_27 := hr_27.ext x_84 (py_ne_arr hr_27 h_75)
      have tq_86 := fo_eq hr_27
      have tq_87 := fv_now hRP hKP (by decide) hWF t_4
      have hr_41 := hr_41.ext x_84 (py_ne_arr hr_41 h_75)
      have tq_88 := va_eq hr_41
      have ha_44 := ha_44.ext x_84 (wf_ne t_32 t_2 (by decide))
      refine lv_aload_n G0.1 G0.2.1 dX6_land_54 rfl (lv_at hl 1 rfl) ?_
      refine py_get (C := RX6) (T := TX6) (N := 7) (k := 0) (v := .ref (G.2 h 0)) G0 hw in_X6_land_X6 rfl hr_12 (by decide) (by decide +kernel) rfl dX6_land_55 ?_
      refine lv_iconst (v := 2) G0.1 G0.2.1 dX6_land_58 (by decide) ?_
      refine lv_iload_n G0.1 G0.2.1 dX6_land_59 rfl (lv_at hl 3 rfl) ?_
      have rg_89 : vp_in 2 6 := ti_in (by omega) (by omega)
      refine py_iast G0 hw h_83 rg_89 dX6_land_60 (fun f_90 H_91 locs h_92 x_93 hw => ?_)
      have hKP := hKP.upd hWF x_93 t_2 (Or.inl (by decide))
      have hRP := hRP.trans (rp_upd hG hWF x_93 h_83.2 h_92.2 (rp_code hG t_2 (by decide)) rfl)
      have hi_94 := wf_inu (k := (2 : Int32).toNatClampNeg) (x := b) hi_85 (wf_free b).1 (wf_free b).2
      have hWF := wf_upd hWF h_92 x_93 (by rw [t_2]; exact ⟨_, rfl, hi_94⟩)
      have hr_12 := hr_12.ext x_93 (py_ne_arr hr_12 h_83)
      have hr_27 := hr_27.ext x_93 (py_ne_arr hr_27 h_83)
      have tq_95 := fo_eq hr_27
      have tq_96 := fv_now hRP hKP (by decide) hWF t_4
      have hr_41 := hr_41.ext x_93 (py_ne_arr hr_41 h_83)
      have tq_97 := va_eq hr_41
      have ha_44 := ha_44.ext x_93 (wf_ne t_32 t_2 (by decide))
      refine lv_aload_n G0.1 G0.2.1 dX6_land_61 rfl (lv_at hl 1 rfl) ?_
      refine py_get (C := RX6) (T := TX6) (N := 7) (k := 0) (v := .ref (G.2 h 0)) G0 hw in_X6_land_X6 rfl hr_12 (by decide) (by decide +kernel) rfl dX6_land_62 ?_
      refine lv_iconst (v := 3) G0.1 G0.2.1 dX6_land_65 (by decide) ?_
      refine lv_iload_n G0.1 G0.2.1 dX6_land_66 rfl (lv_at hl 2 rfl) ?_
      have rg_98 : vp_in 3 6 := ti_in (by omega) (by omega)
      refine py_iast G0 hw h_92 rg_98 dX6_land_67 (fun f_99 H_100 locs h_101 x_102 hw => ?_)
      have hKP := hKP.upd hWF x_102 t_2 (Or.inl (by decide))
      have hRP := hRP.trans (rp_upd hG hWF x_102 h_92.2 h_101.2 (rp_code hG t_2 (by decide)) rfl)
      have hi_103 := wf_inu (k := (3 : Int32).toNatClampNeg) (x := a) hi_94 (wf_free a).1 (wf_free a).2
      have hWF := wf_upd hWF h_101 x_102 (by rw [t_2]; exact ⟨_, rfl, hi_103⟩)
      have hr_12 := hr_12.ext x_102 (py_ne_arr hr_12 h_92)
      have hr_27 := hr_27.ext x_102 (py_ne_arr hr_27 h_92)
      have tq_104 := fo_eq hr_27
      have tq_105 := fv_now hRP hKP (by decide) hWF t_4
      have hr_41 := hr_41.ext x_102 (py_ne_arr hr_41 h_92)
      have tq_106 := va_eq hr_41
      have ha_44 := ha_44.ext x_102 (wf_ne t_32 t_2 (by decide))
      refine lv_aload_n G0.1 G0.2.1 dX6_land_68 rfl (lv_at hl 1 rfl) ?_
      refine py_get (C := RX6) (T := TX6) (N := 7) (k := 0) (v := .ref (G.2 h 0)) G0 hw in_X6_land_X6 rfl hr_12 (by decide) (by decide +kernel) rfl dX6_land_69 ?_
      refine lv_iconst (v := 4) G0.1 G0.2.1 dX6_land_72 (by decide) ?_
      refine lv_iconst (v := 0) G0.1 G0.2.1 dX6_land_73 (by decide) ?_
      have rg_107 : vp_in 4 6 := ti_in (by omega) (by omega)
      refine py_iast G0 hw h_101 rg_107 dX6_land_74 (fun f_108 H_109 locs h_110 x_111 hw => ?_)
      have hKP := hKP.upd hWF x_111 t_2 (Or.inl (by decide))
      have hRP := hRP.trans (rp_upd hG hWF x_111 h_101.2 h_110.2 (rp_code hG t_2 (by decide)) rfl)
      have hi_112 := wf_inu (k := (4 : Int32).toNatClampNeg) (x := 0) hi_103 (wf_free 0).1 (wf_free 0).2
      have hWF := wf_upd hWF h_110 x_111 (by rw [t_2]; exact ⟨_, rfl, hi_112⟩)
      have hr_12 := hr_12.ext x_111 (py_ne_arr hr_12 h_101)
      have hr_27 := hr_27.ext x_111 (py_ne_arr hr_27 h_101)
      have tq_113 := fo_eq hr_27
      have tq_114 := fv_now hRP hKP (by decide) hWF t_4
      have hr_41 := hr_41.ext x_111 (py_ne_arr hr_41 h_101)
      have tq_115 := va_eq hr_41
      have ha_44 := ha_44.ext x_111 (wf_ne t_32 t_2 (by decide))
      refine lv_aload_n G0.1 G0.2.1 dX6_land_75 rfl (lv_at hl 1 rfl) ?_
      refine py_get (C := RX6) (T := TX6) (N := 7) (k := 5) (v := .ref r_7) G0 hw in_X6_land_X6 rfl hr_12 (by decide) (by decide +kernel) rfl dX6_land_76 ?_
      refine lv_aload_n G0.1 G0.2.1 dX6_land_79 rfl (lv_at hl 1 rfl) ?_
      refine py_get (C := RX6) (T := TX6) (N := 7) (k := 0) (v := .ref (G.2 h 0)) G0 hw in_X6_land_X6 rfl hr_12 (by decide) (by decide +kernel) rfl dX6_land_80 ?_
      obtain ⟨t_116, t_117⟩ := wt_3 hG ty_11
      obtain ⟨v_118, hr_120, b_119⟩ := wg_3 hWF ty_11
      refine py_calli hw (va_runV (As := [.ref (G.2 h 0)]) (rest := []) G0 (c_X3_worth l E G L f_108 H_109.size r_7 (G.2 h 0) hG hWF ty_11 t_2) (cwV 1 G0.2.2.2.2 g_X6_land_X3_worth_98 rfl rfl rfl (by decide +kernel) ⟨(Nat.le_of_ble_eq_true rfl), (Nat.le_of_ble_eq_true rfl)⟩) (py_preV hw (C := RX3) (T := TX3) (N := 3) rfl hr_120) rfl rfl hl.1 rfl (lv_room (Nat.le_of_ble_eq_true rfl)) dX6_land_83 ⟨(Nat.le_of_ble_eq_true rfl), (Nat.le_of_ble_eq_true rfl)⟩) (fun r_125 L_121 f_122 H_123 locs hp_124 hw => ?_)
      obtain ⟨hWF, hq_126, kp_127⟩ := hp_124
      have hRP := hRP.trans hq_126
      have hKP := hKP.trans kp_127 (by decide) (by decide)
      have hr_12 := kp_at kp_127 hWF Th (by decide) (by decide) (by decide) hr_12
      have hr_27 := kp_at kp_127 hWF t_4 (by decide) (by decide) (by decide) hr_27
      have tq_128 := fo_eq hr_27
      have tq_129 := fv_now hRP hKP (by decide) hWF t_4
      have hr_41 := kp_at kp_127 hWF ty_25 (by decide) (by decide) (by decide) hr_41
      have tq_130 := va_eq hr_41
      have hr_120 := kp_at kp_127 hWF ty_11 (by decide) (by decide) (by decide) hr_120
      have h_110 := kp_at kp_127 hWF t_2 (by decide) (by decide) (by decide) h_110
      have ha_44 := kp_at kp_127 hWF t_32 (by decide) (by decide) (by decide) ha_44
      have br_125 := wf_free r_125
      refine lv_i2l (v := r_125.toInt64) G0.1 G0.2.1 dX6_land_86 rfl ?_
      refine lv_bipush (v := 9) G0.1 G0.2.1 dX6_land_87 (by decide) ?_
      refine py_calli hw (va_runS (As := [.long (r_125.toInt64), .int 9]) (rest := []) G0 (c_X3_held l E G L_121 f_122 H_123.size (r_125.toInt64) 9 hG hWF) (va_cwS 2 G0.2.2.2.2 g_X6_land_X3_held_104 rfl rfl rfl (by decide +kernel) ⟨(Nat.le_of_ble_eq_true rfl), (Nat.le_of_ble_eq_true rfl)⟩) (py_preS hw) rfl rfl hl.1 rfl (lv_room (Nat.le_of_ble_eq_true rfl)) dX6_land_89 ⟨(Nat.le_of_ble_eq_true rfl), (Nat.le_of_ble_eq_true rfl)⟩) (fun r_135 L_131 f_132 H_133 locs hp_134 hw => ?_)
      obtain ⟨rfl, rfl⟩ := hp_134
      have br_135 := wf_free r_135
      refine lv_istore (lv' := [(6, .int r_135), (5, .int a), (0, .ref h), (1, .int a), (2, .int b), (3, .int q), (4, .int d)]) G0.1 G0.2.1 dX6_land_92 hl (by decide) rfl (fun ls hl => ?_)
      refine lv_aload_n G0.1 G0.2.1 dX6_land_94 rfl (lv_at hl 2 rfl) ?_
      refine py_get (C := RX6) (T := TX6) (N := 7) (k := 2) (v := .ref (G.2 h 2)) G0 hw in_X6_land_X6 rfl hr_12 (by decide) (by decide +kernel) rfl dX6_land_95 ?_
      refine py_get (C := RX2) (T := TX2) (N := 12) (k := 9) (v := .ref r_22) G0 hw in_X6_land_X2 rfl hr_27 (by decide) (by decide +kernel) rfl dX6_land_98 ?_
      refine py_get (C := RX9) (T := TX9) (N := 10) (k := 8) (v := .int v_37) G0 hw in_X6_land_X9 rfl hr_41 (by decide) (by decide +kernel) rfl dX6_land_101 ?_
      refine lv_iconst (v := 1) G0.1 G0.2.1 dX6_land_104 (by decide) ?_
      refine lv_isub G0.1 G0.2.1 dX6_land_105 ?_
      refine lv_topi (fun x_136 ex_136 => ?_)
      first | have tx_136 := ti_sub ex_136 (by omega) (by omega) | skip
      refine lv_iconst (v := 0) G0.1 G0.2.1 dX6_land_106 (by decide) ?_
      refine lv_iload_n G0.1 G0.2.1 dX6_land_107 rfl (lv_at hl 3 rfl) ?_
      refine lv_iload G0.1 G0.2.1 dX6_land_108 (lv_at hl 0 rfl) ?_
      refine lv_iadd G0.1 G0.2.1 dX6_land_110 ?_
      refine lv_topi (fun x_137 ex_137 => ?_)
      first | have tx_137 := ti_add ex_137 (by omega) (by omega) | skip
      refine va_mmax G0.1 G0.2.1 (by rw [G0.2.2.1, hl.1]) G0.2.2.2.1 (G0.2.2.2.2 (Cond.methodLink RX6 108 Lib.Math.max.name) (by decide +kernel)) (G0.2.2.2.2 (Cond.static Lib.Math.max.name) (by decide +kernel)) (G0.2.2.2.2 (Cond.initialized "java/lang/Math") (by decide +kernel)) (G0.2.2.2.2 (Cond.code Lib.Math.max.name Lib.Math.max.code 2 (some .int)) (by decide +kernel)) (Nat.le_of_ble_eq_true rfl) (Nat.le_of_ble_eq_true rfl) (Nat.le_of_ble_eq_true rfl) (Nat.le_of_ble_eq_true rfl) dX6_land_111 ?_
      refine lv_topi (fun x_138 ex_138 => ?_)
      have tx_138 := ti_max ex_138
      refine va_mmin G0.1 G0.2.1 (by rw [G0.2.2.1, hl.1]) G0.2.2.2.1 (G0.2.2.2.2 (Cond.methodLink RX6 85 Lib.Math.min.name) (by decide +kernel)) (G0.2.2.2.2 (Cond.static Lib.Math.min.name) (by decide +kernel)) (G0.2.2.2.2 (Cond.initialized "java/lang/Math") (by decide +kernel)) (G0.2.2.2.2 (Cond.code Lib.Math.min.name Lib.Math.min.code 2 (some .int)) (by decide +kernel)) (Nat.le_of_ble_eq_true rfl) (Nat.le_of_ble_eq_true rfl) (Nat.le_of_ble_eq_true rfl) (Nat.le_of_ble_eq_true rfl) dX6_land_114 ?_
      refine lv_topi (fun x_139 ex_139 => ?_)
      have tx_139 := ti_min ex_139
      refine lv_istore (lv' := [(5, .int x_139), (6, .int r_135), (0, .ref h), (1, .int a), (2, .int b), (3, .int q), (4, .int d)]) G0.1 G0.2.1 dX6_land_117 hl (by decide) rfl (fun ls hl => ?_)
      refine lv_aload_n G0.1 G0.2.1 dX6_land_119 rfl (lv_at hl 2 rfl) ?_
      refine py_get (C := RX6) (T := TX6) (N := 7) (k := 4) (v := .ref r_6) G0 hw in_X6_land_X6 rfl hr_12 (by decide) (by decide +kernel) rfl dX6_land_120 ?_
      refine lv_iload G0.1 G0.2.1 dX6_land_123 (lv_at hl 0 rfl) ?_
      refine lv_bipush (v := 21) G0.1 G0.2.1 dX6_land_125 (by decide) ?_
      refine lv_imul G0.1 G0.2.1 dX6_land_127 ?_
      refine lv_topi (fun x_140 ex_140 => ?_)
      first | have tx_140 := ti_mulc ex_140 kc21 (by omega) (by omega) | skip
      refine lv_iload_n G0.1 G0.2.1 dX6_land_128 rfl (lv_at hl 4 rfl) ?_
      refine lv_iadd G0.1 G0.2.1 dX6_land_129 ?_
      refine lv_topi (fun x_141 ex_141 => ?_)
      first | have tx_141 := ti_add ex_141 (by omega) (by omega) | skip
      refine lv_dup2_11 G0.1 G0.2.1 dX6_land_130 rfl rfl ?_
      obtain ⟨g_142, ha_143⟩ := wf_j35 hWF ty_10
      have rg_144 : vp_in x_141 168 := ti_in (by omega) (by omega)
      refine py_lald G0 hw ha_143 rg_144 dX6_land_131 ?_
      refine lv_topl (fun y_145 ey_145 => ?_)
      refine lv_aload_n G0.1 G0.2.1 dX6_land_132 rfl (lv_at hl 2 rfl) ?_
      refine py_get (C := RX6) (T := TX6) (N := 7) (k := 1) (v := .ref (G.2 h 1)) G0 hw in_X6_land_X6 rfl hr_12 (by decide) (by decide +kernel) rfl dX6_land_133 ?_
      refine lv_iload G0.1 G0.2.1 dX6_land_136 (lv_at hl 6 rfl) ?_
      obtain ⟨g_146, ha_147⟩ := wf_j34 hWF t_3
      have rg_148 : vp_in d 22 := ti_in (by omega) (by omega)
      refine py_lald G0 hw ha_147 rg_148 dX6_land_138 ?_
      refine lv_topl (fun y_149 ey_149 => ?_)
      refine lv_ladd G0.1 G0.2.1 dX6_land_139 ?_
      refine lv_topl (fun y_150 ey_150 => ?_)
      obtain ⟨g_151, ha_152⟩ := wf_j35 hWF ty_10
      have rg_153 : vp_in x_141 168 := ti_in (by omega) (by omega)
      refine py_last G0 hw ha_152 rg_153 dX6_land_140 (fun f_154 H_155 locs h_156 x_157 hw => ?_)
      have hKP := hKP.upd hWF x_157 ty_10 (Or.inl (by decide))
      have hRP := hRP.trans (rp_upd hG hWF x_157 ha_152.2 h_156.2 (rp_code hG ty_10 (by decide)) rfl)
      have hWF := wf_upd hWF h_156 x_157 (by rw [ty_10]; exact ⟨_, rfl⟩)
      have hr_12 := hr_12.ext x_157 (py_ne_arr hr_12 ha_152)
      have hr_27 := hr_27.ext x_157 (py_ne_arr hr_27 ha_152)
      have tq_158 := fo_eq hr_27
      have tq_159 := fv_now hRP hKP (by decide) hWF t_4
      have hr_41 := hr_41.ext x_157 (py_ne_arr hr_41 ha_152)
      have tq_160 := va_eq hr_41
      have hr_120 := hr_120.ext x_157 (py_ne_arr hr_120 ha_152)
      exact py_vret G0 hr hlk hw ⟨hWF, hRP, hKP⟩ dX6_land_141
  · skip
    have tc_1 := ti_eq c_1
    refine lv_aload_n G0.1 G0.2.1 dX6_land_4 rfl (lv_at hl 0 rfl) ?_
    refine lv_dup G0.1 G0.2.1 dX6_land_5 rfl ?_
    obtain ⟨t_161, t_162, t_163⟩ := wt_6 hG Th
    obtain ⟨r_164, r_165, r_166, y_167, hr_171, ty_168, ty_169, ty_170⟩ := wg_6 hWF Th
    refine py_get (C := RX6) (T := TX6) (N := 7) (k := 6) (v := .long y_167) G0 hw in_X6_land_X6 rfl hr_171 (by decide) (by decide +kernel) rfl dX6_land_6 ?_
    refine lv_aload_n G0.1 G0.2.1 dX6_land_9 rfl (lv_at hl 0 rfl) ?_
    refine py_get (C := RX6) (T := TX6) (N := 7) (k := 1) (v := .ref (G.2 h 1)) G0 hw in_X6_land_X6 rfl hr_171 (by decide) (by decide +kernel) rfl dX6_land_10 ?_
    refine lv_iload G0.1 G0.2.1 dX6_land_13 (lv_at hl 4 rfl) ?_
    obtain ⟨g_172, ha_173⟩ := wf_j34 hWF t_162
    have rg_174 : vp_in d 22 := ti_in (by omega) (by omega)
    refine py_lald G0 hw ha_173 rg_174 dX6_land_15 ?_
    refine lv_topl (fun y_175 ey_175 => ?_)
    refine lv_ladd G0.1 G0.2.1 dX6_land_16 ?_
    refine lv_topl (fun y_176 ey_176 => ?_)
    refine py_put (C := RX6) (T := TX6) (N := 7) (k := 6) (v := .long y_176) (fs' := [.ref (G.2 h 0), .ref (G.2 h 1), .ref (G.2 h 2), .ref r_164, .ref r_165, .ref r_166, .long y_176]) (ty0 := tyX6) G0 hw tyX6_ok nmX6 in_X6_land_X6 rfl hr_171 (by decide) (by decide +kernel) rfl rfl rfl rfl (Nat.le_of_ble_eq_true rfl) rfl dX6_land_17 (fun f_177 H_178 locs h_179 x_180 hw => ?_)
    have hKP := hKP.upd hWF x_180 Th (Or.inl (by decide))
    have hRP := hRP.trans (rp_upd hG hWF x_180 hr_171.2 h_179.2 (rp_code hG Th (by decide)) rfl)
    have hWF := wf_upd hWF h_179 x_180 (by rw [Th]; exact ⟨r_164, r_165, r_166, y_176, rfl, ty_168, ty_169, ty_170⟩)
    exact py_vret G0 hr hlk hw ⟨hWF, hRP, hKP⟩ dX6_land_20

def w_X6_spread : List Cond := .code yX6_spread cX6_spread 10 none :: ([Cond.fieldLink RX6 17 "HeadYear$Odds" "dying" "[J", Cond.methodLink RX6 41 yJ7_fill_d0a16, Cond.static yJ7_fill_d0a16, Cond.initialized RJ7, Cond.methodLink RX6 85 Lib.Math.min.name, Cond.static Lib.Math.min.name, Cond.initialized "java/lang/Math", Cond.code Lib.Math.min.name Lib.Math.min.code 2 (some .int), Cond.methodLink RX6 91 yX6_land, Cond.instanceMethod yX6_land, Cond.selects RX6 yX6_land yX6_land, Cond.initialized RX6, Cond.fieldLink RX6 33 "HeadYear$Odds" "folk" "LHeadYear$Folk;", Cond.fieldLink RX6 59 "HeadYear$Folk" "valley" "LHeadYear$Valley;", Cond.fieldLink RX6 82 "HeadYear$Valley" "danger" "[I", Cond.constantLong RX6 76 (100)] ++ (u_ws RX6 TX6 7 ++ (u_ws RX2 TX2 12 ++ (u_ws RX9 TX9 10 ++ (w_J7_fill_d0a16 ++ (w_X6_land ++ ([])))))))
theorem in_X6_spread_X6 : ∀ w ∈ u_ws RX6 TX6 7, w ∈ w_X6_spread := fun _ h => List.mem_cons_of_mem _ (List.mem_append_right _ (List.mem_append_left _ h))
theorem in_X6_spread_X2 : ∀ w ∈ u_ws RX2 TX2 12, w ∈ w_X6_spread := fun _ h => List.mem_cons_of_mem _ (List.mem_append_right _ (List.mem_append_right _ (List.mem_append_left _ h)))
theorem in_X6_spread_X9 : ∀ w ∈ u_ws RX9 TX9 10, w ∈ w_X6_spread := fun _ h => List.mem_cons_of_mem _ (List.mem_append_right _ (List.mem_append_right _ (List.mem_append_right _ (List.mem_append_left _ h))))
theorem gg_X6_spread_J7_fill_d0a16 : GoodIn w_X6_spread w_J7_fill_d0a16 := goodIn_sub (fun _ h => List.mem_cons_of_mem _ (List.mem_append_right _ (List.mem_append_right _ (List.mem_append_right _ (List.mem_append_right _ (List.mem_append_left _ h)))))) (by decide +kernel)
theorem gg_X6_spread_X6_land : GoodIn w_X6_spread w_X6_land := goodIn_sub (fun _ h => List.mem_cons_of_mem _ (List.mem_append_right _ (List.mem_append_right _ (List.mem_append_right _ (List.mem_append_right _ (List.mem_append_right _ (List.mem_append_left _ h))))))) (by decide +kernel)
theorem g_X6_spread_J7_fill_d0a16_41 : GoodIn w_X6_spread (va_wsS RX6 41 yJ7_fill_d0a16 w_J7_fill_d0a16) := goodIn_app (goodIn_of _ (by decide +kernel)) gg_X6_spread_J7_fill_d0a16
theorem g_X6_spread_X6_land_91 : GoodIn w_X6_spread (wsV RX6 91 RX6 yX6_land w_X6_land) := goodIn_app (goodIn_of _ (by decide +kernel)) gg_X6_spread_X6_land
set_option maxHeartbeats 4000000 in
set_option maxRecDepth 100000 in
theorem c_X6_spread (l : Launch) (E : py_E) (G : wf_G) (L : List Nat) (f : py_F) (sz : Nat) (h : Nat) (a : Int32) (b : Int32) (q : Int32) (v : Int64) (hG : GT G) (hWF : WF E G L f) (Th : G.1 h = 7) (Ba : (0 ≤ a.toInt ∧ a.toInt ≤ 7)) (Bb : (1 ≤ b.toInt ∧ b.toInt ≤ 20)) (Bq : (0 ≤ q.toInt ∧ q.toInt ≤ 2)) (hp0 : a.toInt < fv_l f (G.2 h 2)) : Met l yX6_spread w_X6_spread ({ frames := 3, cells := 0, slots := 0, locals := 75 }) (py_Pc E [.ref h, .int a, .int b, .int q, .long v] L f sz) (py_Qv E L f sz (fun L1 f1 => WF E G L1 f1 ∧ RP E G f f1 ∧ KP G [7, 34, 35, 32, 21] false f f1)) 0 0 (va_A (va_pl L f) sz) := by
  refine Met.ofW (cc := cX6_spread) (maxL := 10) (ret := none) (by decide) rfl ?_
  intro p e s m args below meth c s₁ B hml hv
  obtain ⟨rfl, rfl, hw⟩ := py_start hv
  have G0 : CallFix p m c cX6_spread 10 s _ w_X6_spread RX6 := ⟨B.exec, B.bytes, hml, findClass_of_methodNamed B.named, atoms_spec (ws := w_X6_spread) B.pre⟩
  have hr := B.returns
  have hlk := B.notSynchronized
  have kcm1 : (-1 : Int32).toInt = -1 := rfl
  have kc0 : (0 : Int32).toInt = 0 := rfl
  have kc1 : (1 : Int32).toInt = 1 := rfl
  have kc20 : (20 : Int32).toInt = 20 := rfl
  have hl := lv_entry ([.ref h, .int a, .int b, .int q, .long v]) (n := 10) (Nat.le_of_ble_eq_true rfl)
  rw [lg_entry_eq]
  generalize (lg_sl ([.ref h, .int a, .int b, .int q, .long v]) ++ List.replicate (10 - (lg_sl ([.ref h, .int a, .int b, .int q, .long v])).length) Slot.unset).toArray = ls at hl ⊢
  have hl : lv_has ls 10 [(0, .ref h), (1, .int a), (2, .int b), (3, .int q), (4, .long v)] := hl
  have hRP : RP E G f f := RP.refl
  have hKP : KP G [7, 34, 35, 32, 21] false f f := KP.refl
  refine lv_lload G0.1 G0.2.1 dX6_spread_0 (lv_at hl 4 rfl) ?_
  refine lv_lconst (v := 0) G0.1 G0.2.1 dX6_spread_2 (by decide) ?_
  refine W.lcmp G0.1 G0.2.1 dX6_spread_3 ?_
  refine lv_topi (fun x_1 ex_1 => ?_)
  refine lv_if_ne (tgt := 8) G0.1 G0.2.1 dX6_spread_4 (by decide) (fun c_2 => ?_) (fun c_2 => ?_)
  · skip
    have tc_2 := ti_ne c_2
    refine lv_aload_n G0.1 G0.2.1 dX6_spread_8 rfl (lv_at hl 0 rfl) ?_
    obtain ⟨t_3, t_4, t_5⟩ := wt_6 hG Th
    obtain ⟨r_6, r_7, r_8, y_9, hr_13, ty_10, ty_11, ty_12⟩ := wg_6 hWF Th
    refine py_get (C := RX6) (T := TX6) (N := 7) (k := 1) (v := .ref (G.2 h 1)) G0 hw in_X6_spread_X6 rfl hr_13 (by decide) (by decide +kernel) rfl dX6_spread_9 ?_
    refine lv_lconst (v := 0) G0.1 G0.2.1 dX6_spread_12 (by decide) ?_
    refine py_callv hw (va_runS (As := [.ref (G.2 h 1), .long 0]) (rest := []) G0 (c_J7_fill_d0a1634 l E G L f s.heap.size (G.2 h 1) 0 hG hWF t_4) (va_cwS 2 G0.2.2.2.2 g_X6_spread_J7_fill_d0a16_41 rfl rfl rfl (by decide +kernel) ⟨(Nat.le_of_ble_eq_true rfl), (Nat.le_of_ble_eq_true rfl)⟩) (py_preS hw) rfl rfl hl.1 rfl (lv_room (Nat.le_of_ble_eq_true rfl)) dX6_spread_13 ⟨(Nat.le_of_ble_eq_true rfl), (Nat.le_of_ble_eq_true rfl)⟩) (fun L_14 f_15 H_16 locs hp_17 hw => ?_)
    obtain ⟨hWF, hq_19, kp_20⟩ := hp_17
    have hRP := hRP.trans hq_19
    have hKP := hKP.trans kp_20 (by decide) (by decide)
    have hr_13 := kp_at kp_20 hWF Th (by decide) (by decide) (by decide) hr_13
    refine lv_aload_n G0.1 G0.2.1 dX6_spread_16 rfl (lv_at hl 0 rfl) ?_
    refine py_get (C := RX6) (T := TX6) (N := 7) (k := 1) (v := .ref (G.2 h 1)) G0 hw in_X6_spread_X6 rfl hr_13 (by decide) (by decide +kernel) rfl dX6_spread_17 ?_
    refine lv_iconst (v := 0) G0.1 G0.2.1 dX6_spread_20 (by decide) ?_
    refine lv_lload G0.1 G0.2.1 dX6_spread_21 (lv_at hl 4 rfl) ?_
    obtain ⟨g_21, ha_22⟩ := wf_j34 hWF t_4
    have rg_23 : vp_in 0 22 := ti_in (by omega) (by omega)
    refine py_last G0 hw ha_22 rg_23 dX6_spread_23 (fun f_24 H_25 locs h_26 x_27 hw => ?_)
    have hKP := hKP.upd hWF x_27 t_4 (Or.inl (by decide))
    have hRP := hRP.trans (rp_upd hG hWF x_27 ha_22.2 h_26.2 (rp_code hG t_4 (by decide)) rfl)
    have hWF := wf_upd hWF h_26 x_27 (by rw [t_4]; exact ⟨_, rfl⟩)
    have hr_13 := hr_13.ext x_27 (py_ne_arr hr_13 ha_22)
    refine lv_iconst (v := 0) G0.1 G0.2.1 dX6_spread_24 (by decide) ?_
    refine lv_istore (lv' := [(6, .int 0), (0, .ref h), (1, .int a), (2, .int b), (3, .int q), (4, .long v)]) G0.1 G0.2.1 dX6_spread_25 hl (by decide) rfl (fun ls hl => ?_)
    have lo_27 : ∀ n_27 : Nat, ∀ (v_28 : Int32) (L_j27 : List Nat) (f_j27 : py_F) (H_j27 : Heap) (locs : List Loc) (ls : Array Slot), (2147483647 - v_28.toInt).toNat = n_27 → (0 ≤ v_28.toInt ∧ v_28.toInt ≤ 2147483647) → WF E G L_j27 f_j27 → RP E G f f_j27 → KP G [7, 34, 35, 32, 21] false f f_j27 → py_W E (va_A (va_pl L f) s.heap.size) s L_j27 f_j27 H_j27 locs → lv_has ls 10 [(6, .int v_28), (0, .ref h), (1, .int a), (2, .int b), (3, .int q), (4, .long v)] → W p l e (headSpec w_X6_spread ({ frames := 3, cells := 0, slots := 0, locals := 75 })).room s m ([.ref h, .int a, .int b, .int q, .long v] : List Value).toArray below meth c H_j27 locs 0 0 (MQ below (py_Qv E L f s.heap.size (fun L1 f1 => WF E G L1 f1 ∧ RP E G f f1 ∧ KP G [7, 34, 35, 32, 21] false f f1)) ([.ref h, .int a, .int b, .int q, .long v] : List Value).toArray s 0 0 (va_A (va_pl L f) s.heap.size)) (F0 m 27 ls []) := by
      intro n_27
      induction n_27 using Nat.strongRecOn with
      | _ n_27 ih_27 =>
        intro v_28 L_j27 f_j27 H_j27 locs ls hn_27 bv_28 hWF hRP hKP hw hl
        refine lv_iload G0.1 G0.2.1 dX6_spread_27 (lv_at hl 0 rfl) ?_
        refine lv_iload_n G0.1 G0.2.1 dX6_spread_29 rfl (lv_at hl 3 rfl) ?_
        refine lv_icmp_ge (tgt := 107) G0.1 G0.2.1 dX6_spread_30 (by decide) (fun c_29 => ?_) (fun c_29 => ?_)
        · skip
          have tc_29 := ti_le c_29
          refine lv_iconst (v := 0) G0.1 G0.2.1 dX6_spread_107 (by decide) ?_
          refine lv_istore (lv' := [(6, .int 0), (0, .ref h), (1, .int a), (2, .int b), (3, .int q), (4, .long v)]) G0.1 G0.2.1 dX6_spread_108 hl (by decide) rfl (fun ls hl => ?_)
          have lo_110 : ∀ n_110 : Nat, ∀ (v_30 : Int32) (L_j110 : List Nat) (f_j110 : py_F) (H_j110 : Heap) (locs : List Loc) (ls : Array Slot), (2147483647 - v_30.toInt).toNat = n_110 → (0 ≤ v_30.toInt ∧ v_30.toInt ≤ 2147483647) → WF E G L_j110 f_j110 → RP E G f f_j110 → KP G [7, 34, 35, 32, 21] false f f_j110 → py_W E (va_A (va_pl L f) s.heap.size) s L_j110 f_j110 H_j110 locs → lv_has ls 10 [(6, .int v_30), (0, .ref h), (1, .int a), (2, .int b), (3, .int q), (4, .long v)] → W p l e (headSpec w_X6_spread ({ frames := 3, cells := 0, slots := 0, locals := 75 })).room s m ([.ref h, .int a, .int b, .int q, .long v] : List Value).toArray below meth c H_j110 locs 0 0 (MQ below (py_Qv E L f s.heap.size (fun L1 f1 => WF E G L1 f1 ∧ RP E G f f1 ∧ KP G [7, 34, 35, 32, 21] false f f1)) ([.ref h, .int a, .int b, .int q, .long v] : List Value).toArray s 0 0 (va_A (va_pl L f) s.heap.size)) (F0 m 110 ls []) := by
            intro n_110
            induction n_110 using Nat.strongRecOn with
            | _ n_110 ih_110 =>
              intro v_30 L_j110 f_j110 H_j110 locs ls hn_110 bv_30 hWF hRP hKP hw hl
              refine lv_iload G0.1 G0.2.1 dX6_spread_110 (lv_at hl 0 rfl) ?_
              refine lv_iload_n G0.1 G0.2.1 dX6_spread_112 rfl (lv_at hl 3 rfl) ?_
              refine lv_icmp_gt (tgt := 141) G0.1 G0.2.1 dX6_spread_113 (by decide) (fun c_31 => ?_) (fun c_31 => ?_)
              · skip
                have tc_31 := ti_lt c_31
                exact py_vret G0 hr hlk hw ⟨hWF, hRP, hKP⟩ dX6_spread_141
              · skip
                have tc_31 := ti_nlt c_31
                have hnw := fv_now hRP hKP (by decide) hWF t_5
                refine lv_aload_n G0.1 G0.2.1 dX6_spread_116 rfl (lv_at hl 1 rfl) ?_
                refine lv_iload_n G0.1 G0.2.1 dX6_spread_117 rfl (lv_at hl 2 rfl) ?_
                refine lv_bipush (v := 20) G0.1 G0.2.1 dX6_spread_118 (by decide) ?_
                refine lv_iload_n G0.1 G0.2.1 dX6_spread_120 rfl (lv_at hl 3 rfl) ?_
                refine lv_iload G0.1 G0.2.1 dX6_spread_121 (lv_at hl 0 rfl) ?_
                refine lv_isub G0.1 G0.2.1 dX6_spread_123 ?_
                refine lv_topi (fun x_32 ex_32 => ?_)
                first | have tx_32 := ti_sub ex_32 (by omega) (by omega) | skip
                refine lv_iload_n G0.1 G0.2.1 dX6_spread_124 rfl (lv_at hl 4 rfl) ?_
                refine lv_iadd G0.1 G0.2.1 dX6_spread_125 ?_
                refine lv_topi (fun x_33 ex_33 => ?_)
                first | have tx_33 := ti_add ex_33 (by omega) (by omega) | skip
                refine va_mmin G0.1 G0.2.1 (by rw [G0.2.2.1, hl.1]) G0.2.2.2.1 (G0.2.2.2.2 (Cond.methodLink RX6 85 Lib.Math.min.name) (by decide +kernel)) (G0.2.2.2.2 (Cond.static Lib.Math.min.name) (by decide +kernel)) (G0.2.2.2.2 (Cond.initialized "java/lang/Math") (by decide +kernel)) (G0.2.2.2.2 (Cond.code Lib.Math.min.name Lib.Math.min.code 2 (some .int)) (by decide +kernel)) (Nat.le_of_ble_eq_true rfl) (Nat.le_of_ble_eq_true rfl) (Nat.le_of_ble_eq_true rfl) (Nat.le_of_ble_eq_true rfl) dX6_spread_126 ?_
                refine lv_topi (fun x_34 ex_34 => ?_)
                have tx_34 := ti_min ex_34
                refine lv_iload_n G0.1 G0.2.1 dX6_spread_129 rfl (lv_at hl 4 rfl) ?_
                refine lv_iload G0.1 G0.2.1 dX6_spread_130 (lv_at hl 0 rfl) ?_
                obtain ⟨r_35, r_36, r_37, y_38, hr_42, ty_39, ty_40, ty_41⟩ := wg_6 hWF Th
                refine py_callv hw (va_runV (As := [.int a, .int x_34, .int q, .int v_30]) (rest := []) G0 (c_X6_land l E G L_j110 f_j110 H_j110.size h a x_34 q v_30 hG hWF Th ⟨by omega, by omega⟩ ⟨by omega, by omega⟩ ⟨by omega, by omega⟩ (show a.toInt < fv_l f_j110 (G.2 h 2) by omega)) (cwV 4 G0.2.2.2.2 g_X6_spread_X6_land_91 rfl rfl rfl (by decide +kernel) ⟨(Nat.le_of_ble_eq_true rfl), (Nat.le_of_ble_eq_true rfl)⟩) (py_preV hw (C := RX6) (T := TX6) (N := 7) rfl hr_42) rfl rfl hl.1 rfl (lv_room (Nat.le_of_ble_eq_true rfl)) dX6_spread_132 ⟨(Nat.le_of_ble_eq_true rfl), (Nat.le_of_ble_eq_true rfl)⟩) (fun L_43 f_44 H_45 locs hp_46 hw => ?_)
                obtain ⟨hWF, hq_48, kp_49⟩ := hp_46
                have hRP := hRP.trans hq_48
                have hKP := hKP.trans kp_49 (by decide) (by decide)
                obtain ⟨x_50, ex_50⟩ : ∃ y : Int32, y = v_30 + 1 := ⟨_, rfl⟩
                first | have tx_50 := ti_add ex_50 (by omega) (by omega) | skip
                refine lv_iinc (v := x_50) (lv' := [(6, .int x_50), (0, .ref h), (1, .int a), (2, .int b), (3, .int q), (4, .long v)]) G0.1 G0.2.1 dX6_spread_135 hl (k := 0) rfl (show _ + (1 : Int32) = _ from ex_50.symm) (by decide) rfl (fun ls hl => ?_)
                refine lv_goto (tgt := 110) G0.1 G0.2.1 dX6_spread_138 (by decide) ?_
                exact ih_110 ((2147483647 - x_50.toInt).toNat) (by omega) x_50 L_43 f_44 _ _ ls rfl ⟨by omega, by omega⟩ hWF hRP hKP hw (lv_sub hl [0, 1, 2, 3, 4, 5] rfl)
          exact lo_110 _ 0 L_j27 f_j27 _ _ ls rfl ⟨by omega, by omega⟩ hWF hRP hKP hw (lv_sub hl [0, 1, 2, 3, 4, 5] rfl)
        · skip
          have tc_29 := ti_nle c_29
          refine lv_iload G0.1 G0.2.1 dX6_spread_33 (lv_at hl 0 rfl) ?_
          refine lv_istore (lv' := [(7, .int v_28), (6, .int v_28), (0, .ref h), (1, .int a), (2, .int b), (3, .int q), (4, .long v)]) G0.1 G0.2.1 dX6_spread_35 hl (by decide) rfl (fun ls hl => ?_)
          have lo_37 : ∀ n_37 : Nat, ∀ (v_51 : Int32) (L_j37 : List Nat) (f_j37 : py_F) (H_j37 : Heap) (locs : List Loc) (ls : Array Slot), (v_51.toInt + 1).toNat = n_37 → ((-1) ≤ v_51.toInt ∧ v_51.toInt ≤ 19) → WF E G L_j37 f_j37 → RP E G f f_j37 → KP G [7, 34, 35, 32, 21] false f f_j37 → py_W E (va_A (va_pl L f) s.heap.size) s L_j37 f_j37 H_j37 locs → lv_has ls 10 [(7, .int v_51), (6, .int v_28), (0, .ref h), (1, .int a), (2, .int b), (3, .int q), (4, .long v)] → W p l e (headSpec w_X6_spread ({ frames := 3, cells := 0, slots := 0, locals := 75 })).room s m ([.ref h, .int a, .int b, .int q, .long v] : List Value).toArray below meth c H_j37 locs 0 0 (MQ below (py_Qv E L f s.heap.size (fun L1 f1 => WF E G L1 f1 ∧ RP E G f f1 ∧ KP G [7, 34, 35, 32, 21] false f f1)) ([.ref h, .int a, .int b, .int q, .long v] : List Value).toArray s 0 0 (va_A (va_pl L f) s.heap.size)) (F0 m 37 ls []) := by
            intro n_37
            induction n_37 using Nat.strongRecOn with
            | _ n_37 ih_37 =>
              intro v_51 L_j37 f_j37 H_j37 locs ls hn_37 bv_51 hWF hRP hKP hw hl
              refine lv_iload G0.1 G0.2.1 dX6_spread_37 (lv_at hl 0 rfl) ?_
              refine lv_if_lt (tgt := 101) G0.1 G0.2.1 dX6_spread_39 (by decide) (fun c_52 => ?_) (fun c_52 => ?_)
              · skip
                have tc_52 := ti_lt c_52
                obtain ⟨x_53, ex_53⟩ : ∃ y : Int32, y = v_28 + 1 := ⟨_, rfl⟩
                first | have tx_53 := ti_add ex_53 (by omega) (by omega) | skip
                refine lv_iinc (v := x_53) (lv' := [(6, .int x_53), (7, .int v_51), (0, .ref h), (1, .int a), (2, .int b), (3, .int q), (4, .long v)]) G0.1 G0.2.1 dX6_spread_101 hl (k := 1) rfl (show _ + (1 : Int32) = _ from ex_53.symm) (by decide) rfl (fun ls hl => ?_)
                refine lv_goto (tgt := 27) G0.1 G0.2.1 dX6_spread_104 (by decide) ?_
                exact ih_27 ((2147483647 - x_53.toInt).toNat) (by omega) x_53 L_j37 f_j37 _ _ ls rfl ⟨by omega, by omega⟩ hWF hRP hKP hw (lv_sub hl [0, 2, 3, 4, 5, 6] rfl)
              · skip
                have tc_52 := ti_nlt c_52
                refine lv_aload_n G0.1 G0.2.1 dX6_spread_42 rfl (lv_at hl 2 rfl) ?_
                obtain ⟨r_54, r_55, r_56, y_57, hr_61, ty_58, ty_59, ty_60⟩ := wg_6 hWF Th
                refine py_get (C := RX6) (T := TX6) (N := 7) (k := 1) (v := .ref (G.2 h 1)) G0 hw in_X6_spread_X6 rfl hr_61 (by decide) (by decide +kernel) rfl dX6_spread_43 ?_
                refine lv_iload G0.1 G0.2.1 dX6_spread_46 (lv_at hl 0 rfl) ?_
                obtain ⟨g_62, ha_63⟩ := wf_j34 hWF t_4
                have rg_64 : vp_in v_51 22 := ti_in (by omega) (by omega)
                refine py_lald G0 hw ha_63 rg_64 dX6_spread_48 ?_
                refine lv_topl (fun y_65 ey_65 => ?_)
                refine lv_aload_n G0.1 G0.2.1 dX6_spread_49 rfl (lv_at hl 2 rfl) ?_
                refine py_get (C := RX6) (T := TX6) (N := 7) (k := 2) (v := .ref (G.2 h 2)) G0 hw in_X6_spread_X6 rfl hr_61 (by decide) (by decide +kernel) rfl dX6_spread_50 ?_
                obtain ⟨t_66, t_67, t_68, t_69, t_70, t_71, t_72, t_73, t_74⟩ := wt_2 hG t_5
                obtain ⟨r_75, y_76, v_77, hr_80, ty_78, b_79⟩ := wg_2 hWF t_5
                have tq_81 := fo_eq hr_80
                have tq_82 := fv_now hRP hKP (by decide) hWF t_5
                refine py_get (C := RX2) (T := TX2) (N := 12) (k := 9) (v := .ref r_75) G0 hw in_X6_spread_X2 rfl hr_80 (by decide) (by decide +kernel) rfl dX6_spread_53 ?_
                obtain ⟨t_83, t_84, t_85, t_86, t_87, t_88, t_89, t_90⟩ := wt_9 hG ty_78
                obtain ⟨v_91, v_92, hr_95, b_93, b_94⟩ := wg_9 hWF ty_78
                have tq_96 := va_eq hr_95
                refine py_get (C := RX9) (T := TX9) (N := 10) (k := 2) (v := .ref (G.2 r_75 2)) G0 hw in_X6_spread_X9 rfl hr_95 (by decide) (by decide +kernel) rfl dX6_spread_56 ?_
                refine lv_iload_n G0.1 G0.2.1 dX6_spread_59 rfl (lv_at hl 3 rfl) ?_
                obtain ⟨g_97, ha_98, hi_99⟩ := wf_arr (n := 8) (lo := (-2147483648)) (hi := 2147483647) hWF t_85 (by decide) (fun _ => rfl)
                have rg_100 : vp_in a 8 := ti_in (by omega) (by omega)
                refine py_iald G0 hw ha_98 rg_100 dX6_spread_60 ?_
                refine lv_topi (fun x_101 ex_101 => ?_)
                have bx_101 := wf_free x_101
                refine lv_i2l (v := x_101.toInt64) G0.1 G0.2.1 dX6_spread_61 rfl ?_
                refine lv_lmul G0.1 G0.2.1 dX6_spread_62 ?_
                refine lv_topl (fun y_102 ey_102 => ?_)
                refine lv_ldc2 (v := 100) G0.1 G0.2.1 G0.2.2.2.1 (G0.2.2.2.2 (Cond.constantLong RX6 76 (100)) (by decide +kernel)) dX6_spread_63 ?_
                refine lv_ldiv G0.1 G0.2.1 dX6_spread_66 (by decide) ?_
                refine lv_topl (fun y_103 ey_103 => ?_)
                refine lv_lstore (lv' := [(8, .long y_103), (7, .int v_51), (6, .int v_28), (0, .ref h), (1, .int a), (2, .int b), (3, .int q), (4, .long v)]) G0.1 G0.2.1 dX6_spread_67 hl (by decide) rfl (fun ls hl => ?_)
                refine lv_aload_n G0.1 G0.2.1 dX6_spread_69 rfl (lv_at hl 3 rfl) ?_
                refine py_get (C := RX6) (T := TX6) (N := 7) (k := 1) (v := .ref (G.2 h 1)) G0 hw in_X6_spread_X6 rfl hr_61 (by decide) (by decide +kernel) rfl dX6_spread_70 ?_
                refine lv_iload G0.1 G0.2.1 dX6_spread_73 (lv_at hl 1 rfl) ?_
                refine lv_dup2_11 G0.1 G0.2.1 dX6_spread_75 rfl rfl ?_
                obtain ⟨g_104, ha_105⟩ := wf_j34 hWF t_4
                have rg_106 : vp_in v_51 22 := ti_in (by omega) (by omega)
                refine py_lald G0 hw ha_105 rg_106 dX6_spread_76 ?_
                refine lv_topl (fun y_107 ey_107 => ?_)
                refine lv_lload G0.1 G0.2.1 dX6_spread_77 (lv_at hl 0 rfl) ?_
                refine lv_lsub G0.1 G0.2.1 dX6_spread_79 ?_
                refine lv_topl (fun y_108 ey_108 => ?_)
                obtain ⟨g_109, ha_110⟩ := wf_j34 hWF t_4
                have rg_111 : vp_in v_51 22 := ti_in (by omega) (by omega)
                refine py_last G0 hw ha_110 rg_111 dX6_spread_80 (fun f_112 H_113 locs h_114 x_115 hw => ?_)
                have hKP := hKP.upd hWF x_115 t_4 (Or.inl (by decide))
                have hRP := hRP.trans (rp_upd hG hWF x_115 ha_110.2 h_114.2 (rp_code hG t_4 (by decide)) rfl)
                have hWF := wf_upd hWF h_114 x_115 (by rw [t_4]; exact ⟨_, rfl⟩)
                have hr_61 := hr_61.ext x_115 (py_ne_arr hr_61 ha_110)
                have hr_80 := hr_80.ext x_115 (py_ne_arr hr_80 ha_110)
                have tq_116 := fo_eq hr_80
                have tq_117 := fv_now hRP hKP (by decide) hWF t_5
                have hr_95 := hr_95.ext x_115 (py_ne_arr hr_95 ha_110)
                have tq_118 := va_eq hr_95
                refine lv_aload_n G0.1 G0.2.1 dX6_spread_81 rfl (lv_at hl 3 rfl) ?_
                refine py_get (C := RX6) (T := TX6) (N := 7) (k := 1) (v := .ref (G.2 h 1)) G0 hw in_X6_spread_X6 rfl hr_61 (by decide) (by decide +kernel) rfl dX6_spread_82 ?_
                refine lv_iload G0.1 G0.2.1 dX6_spread_85 (lv_at hl 1 rfl) ?_
                refine lv_iconst (v := 1) G0.1 G0.2.1 dX6_spread_87 (by decide) ?_
                refine lv_iadd G0.1 G0.2.1 dX6_spread_88 ?_
                refine lv_topi (fun x_119 ex_119 => ?_)
                first | have tx_119 := ti_add ex_119 (by omega) (by omega) | skip
                refine lv_dup2_11 G0.1 G0.2.1 dX6_spread_89 rfl rfl ?_
                obtain ⟨g_120, ha_121⟩ := wf_j34 hWF t_4
                have rg_122 : vp_in x_119 22 := ti_in (by omega) (by omega)
                refine py_lald G0 hw ha_121 rg_122 dX6_spread_90 ?_
                refine lv_topl (fun y_123 ey_123 => ?_)
                refine lv_lload G0.1 G0.2.1 dX6_spread_91 (lv_at hl 0 rfl) ?_
                refine lv_ladd G0.1 G0.2.1 dX6_spread_93 ?_
                refine lv_topl (fun y_124 ey_124 => ?_)
                obtain ⟨g_125, ha_126⟩ := wf_j34 hWF t_4
                have rg_127 : vp_in x_119 22 := ti_in (by omega) (by omega)
                refine py_last G0 hw ha_126 rg_127 dX6_spread_94 (fun f_128 H_129 locs h_130 x_131 hw => ?_)
                have hKP := hKP.upd hWF x_131 t_4 (Or.inl (by decide))
                have hRP := hRP.trans (rp_upd hG hWF x_131 ha_126.2 h_130.2 (rp_code hG t_4 (by decide)) rfl)
                have hWF := wf_upd hWF h_130 x_131 (by rw [t_4]; exact ⟨_, rfl⟩)
                have hr_61 := hr_61.ext x_131 (py_ne_arr hr_61 ha_126)
                have hr_80 := hr_80.ext x_131 (py_ne_arr hr_80 ha_126)
                have tq_132 := fo_eq hr_80
                have tq_133 := fv_now hRP hKP (by decide) hWF t_5
                have hr_95 := hr_95.ext x_131 (py_ne_arr hr_95 ha_126)
                have tq_134 := va_eq hr_95
                obtain ⟨x_135, ex_135⟩ : ∃ y : Int32, y = v_51 + (-1) := ⟨_, rfl⟩
                first | have tx_135 := ti_add ex_135 (by omega) (by omega) | skip
                refine lv_iinc (v := x_135) (lv' := [(7, .int x_135), (8, .long y_103), (6, .int v_28), (0, .ref h), (1, .int a), (2, .int b), (3, .int q), (4, .long v)]) G0.1 G0.2.1 dX6_spread_95 hl (k := 1) rfl (show _ + ((-1) : Int32) = _ from ex_135.symm) (by decide) rfl (fun ls hl => ?_)
                refine lv_goto (tgt := 37) G0.1 G0.2.1 dX6_spread_98 (by decide) ?_
                exact ih_37 ((x_135.toInt + 1).toNat) (by omega) x_135 L_j37 f_128 _ _ ls rfl ⟨by omega, by omega⟩ hWF hRP hKP hw (lv_sub hl [0, 2, 3, 4, 5, 6, 7] rfl)
          exact lo_37 _ v_28 L_j27 f_j27 _ _ ls rfl ⟨by omega, by omega⟩ hWF hRP hKP hw (lv_sub hl [0, 1, 2, 3, 4, 5, 6] rfl)
    exact lo_27 _ 0 L_14 f_24 _ _ ls rfl ⟨by omega, by omega⟩ hWF hRP hKP hw (lv_sub hl [0, 1, 2, 3, 4, 5] rfl)
  · skip
    have tc_2 := ti_eq c_2
    exact py_vret G0 hr hlk hw ⟨hWF, hRP, hKP⟩ dX6_spread_7

def w_X6_pass : List Cond := .code yX6_pass cX6_pass 11 none :: ([Cond.fieldLink RX6 26 "HeadYear$Odds" "after" "[J", Cond.methodLink RX6 41 yJ7_fill_d0a16, Cond.static yJ7_fill_d0a16, Cond.initialized RJ7, Cond.fieldLink RX6 33 "HeadYear$Odds" "folk" "LHeadYear$Folk;", Cond.fieldLink RX6 59 "HeadYear$Folk" "valley" "LHeadYear$Valley;", Cond.fieldLink RX6 73 "HeadYear$Valley" "levels" "I", Cond.fieldLink RX6 23 "HeadYear$Odds" "parts" "[J", Cond.constantLong RX6 76 (100), Cond.methodLink RX6 78 yX6_spread, Cond.instanceMethod yX6_spread, Cond.selects RX6 yX6_spread yX6_spread, Cond.initialized RX6] ++ (u_ws RX6 TX6 7 ++ (u_ws RX2 TX2 12 ++ (u_ws RX9 TX9 10 ++ (w_J7_fill_d0a16 ++ (w_X6_spread ++ ([])))))))
theorem in_X6_pass_X6 : ∀ w ∈ u_ws RX6 TX6 7, w ∈ w_X6_pass := fun _ h => List.mem_cons_of_mem _ (List.mem_append_right _ (List.mem_append_left _ h))
theorem in_X6_pass_X2 : ∀ w ∈ u_ws RX2 TX2 12, w ∈ w_X6_pass := fun _ h => List.mem_cons_of_mem _ (List.mem_append_right _ (List.mem_append_right _ (List.mem_append_left _ h)))
theorem in_X6_pass_X9 : ∀ w ∈ u_ws RX9 TX9 10, w ∈ w_X6_pass := fun _ h => List.mem_cons_of_mem _ (List.mem_append_right _ (List.mem_append_right _ (List.mem_append_right _ (List.mem_append_left _ h))))
theorem gg_X6_pass_J7_fill_d0a16 : GoodIn w_X6_pass w_J7_fill_d0a16 := goodIn_sub (fun _ h => List.mem_cons_of_mem _ (List.mem_append_right _ (List.mem_append_right _ (List.mem_append_right _ (List.mem_append_right _ (List.mem_append_left _ h)))))) (by decide +kernel)
theorem gg_X6_pass_X6_spread : GoodIn w_X6_pass w_X6_spread := goodIn_sub (fun _ h => List.mem_cons_of_mem _ (List.mem_append_right _ (List.mem_append_right _ (List.mem_append_right _ (List.mem_append_right _ (List.mem_append_right _ (List.mem_append_left _ h))))))) (by decide +kernel)
theorem g_X6_pass_J7_fill_d0a16_41 : GoodIn w_X6_pass (va_wsS RX6 41 yJ7_fill_d0a16 w_J7_fill_d0a16) := goodIn_app (goodIn_of _ (by decide +kernel)) gg_X6_pass_J7_fill_d0a16
theorem g_X6_pass_X6_spread_78 : GoodIn w_X6_pass (wsV RX6 78 RX6 yX6_spread w_X6_spread) := goodIn_app (goodIn_of _ (by decide +kernel)) gg_X6_pass_X6_spread
set_option maxHeartbeats 4000000 in
set_option maxRecDepth 100000 in
theorem c_X6_pass (l : Launch) (E : py_E) (G : wf_G) (L : List Nat) (f : py_F) (sz : Nat) (h : Nat) (a : Int32) (b : Int32) (hG : GT G) (hWF : WF E G L f) (Th : G.1 h = 7) : Met l yX6_pass w_X6_pass ({ frames := 4, cells := 0, slots := 0, locals := 104 }) (py_Pc E [.ref h, .int a, .int b] L f sz) (py_Qv E L f sz (fun L1 f1 => WF E G L1 f1 ∧ RP E G f f1 ∧ KP G [7, 34, 35, 32, 21] false f f1)) 0 0 (va_A (va_pl L f) sz) := by
  refine Met.ofW (cc := cX6_pass) (maxL := 11) (ret := none) (by decide) rfl ?_
  intro p e s m args below meth c s₁ B hml hv
  obtain ⟨rfl, rfl, hw⟩ := py_start hv
  have G0 : CallFix p m c cX6_pass 11 s _ w_X6_pass RX6 := ⟨B.exec, B.bytes, hml, findClass_of_methodNamed B.named, atoms_spec (ws := w_X6_pass) B.pre⟩
  have hr := B.returns
  have hlk := B.notSynchronized
  have kcm1 : (-1 : Int32).toInt = -1 := rfl
  have kc0 : (0 : Int32).toInt = 0 := rfl
  have kc1 : (1 : Int32).toInt = 1 := rfl
  have kc2 : (2 : Int32).toInt = 2 := rfl
  have kc21 : (21 : Int32).toInt = 21 := rfl
  have hl := lv_entry ([.ref h, .int a, .int b]) (n := 11) (Nat.le_of_ble_eq_true rfl)
  rw [lg_entry_eq]
  generalize (lg_sl ([.ref h, .int a, .int b]) ++ List.replicate (11 - (lg_sl ([.ref h, .int a, .int b])).length) Slot.unset).toArray = ls at hl ⊢
  have hl : lv_has ls 11 [(0, .ref h), (1, .int a), (2, .int b)] := hl
  have hRP : RP E G f f := RP.refl
  have hKP : KP G [7, 34, 35, 32, 21] false f f := KP.refl
  refine lv_aload_n G0.1 G0.2.1 dX6_pass_0 rfl (lv_at hl 0 rfl) ?_
  obtain ⟨t_1, t_2, t_3⟩ := wt_6 hG Th
  obtain ⟨r_4, r_5, r_6, y_7, hr_11, ty_8, ty_9, ty_10⟩ := wg_6 hWF Th
  refine py_get (C := RX6) (T := TX6) (N := 7) (k := 4) (v := .ref r_5) G0 hw in_X6_pass_X6 rfl hr_11 (by decide) (by decide +kernel) rfl dX6_pass_1 ?_
  refine lv_lconst (v := 0) G0.1 G0.2.1 dX6_pass_4 (by decide) ?_
  refine py_callv hw (va_runS (As := [.ref r_5, .long 0]) (rest := []) G0 (c_J7_fill_d0a1635 l E G L f s.heap.size r_5 0 hG hWF ty_9) (va_cwS 2 G0.2.2.2.2 g_X6_pass_J7_fill_d0a16_41 rfl rfl rfl (by decide +kernel) ⟨(Nat.le_of_ble_eq_true rfl), (Nat.le_of_ble_eq_true rfl)⟩) (py_preS hw) rfl rfl hl.1 rfl (lv_room (Nat.le_of_ble_eq_true rfl)) dX6_pass_5 ⟨(Nat.le_of_ble_eq_true rfl), (Nat.le_of_ble_eq_true rfl)⟩) (fun L_12 f_13 H_14 locs hp_15 hw => ?_)
  obtain ⟨hWF, hq_17, kp_18⟩ := hp_15
  have hRP := hRP.trans hq_17
  have hKP := hKP.trans kp_18 (by decide) (by decide)
  have hr_11 := kp_at kp_18 hWF Th (by decide) (by decide) (by decide) hr_11
  refine lv_iconst (v := 0) G0.1 G0.2.1 dX6_pass_8 (by decide) ?_
  refine lv_istore_n (lv' := [(3, .int 0), (0, .ref h), (1, .int a), (2, .int b)]) G0.1 G0.2.1 dX6_pass_9 rfl hl (by decide) rfl (fun ls hl => ?_)
  have lo_10 : ∀ n_10 : Nat, ∀ (v_19 : Int32) (L_j10 : List Nat) (f_j10 : py_F) (H_j10 : Heap) (locs : List Loc) (ls : Array Slot), (2147483647 - v_19.toInt).toNat = n_10 → (0 ≤ v_19.toInt ∧ v_19.toInt ≤ 2147483647) → WF E G L_j10 f_j10 → RP E G f f_j10 → KP G [7, 34, 35, 32, 21] false f f_j10 → py_W E (va_A (va_pl L f) s.heap.size) s L_j10 f_j10 H_j10 locs → lv_has ls 11 [(3, .int v_19), (0, .ref h), (1, .int a), (2, .int b)] → W p l e (headSpec w_X6_pass ({ frames := 4, cells := 0, slots := 0, locals := 104 })).room s m ([.ref h, .int a, .int b] : List Value).toArray below meth c H_j10 locs 0 0 (MQ below (py_Qv E L f s.heap.size (fun L1 f1 => WF E G L1 f1 ∧ RP E G f f1 ∧ KP G [7, 34, 35, 32, 21] false f f1)) ([.ref h, .int a, .int b] : List Value).toArray s 0 0 (va_A (va_pl L f) s.heap.size)) (F0 m 10 ls []) := by
    intro n_10
    induction n_10 using Nat.strongRecOn with
    | _ n_10 ih_10 =>
      intro v_19 L_j10 f_j10 H_j10 locs ls hn_10 bv_19 hWF hRP hKP hw hl
      refine lv_iload_n G0.1 G0.2.1 dX6_pass_10 rfl (lv_at hl 0 rfl) ?_
      refine lv_aload_n G0.1 G0.2.1 dX6_pass_11 rfl (lv_at hl 1 rfl) ?_
      obtain ⟨r_20, r_21, r_22, y_23, hr_27, ty_24, ty_25, ty_26⟩ := wg_6 hWF Th
      refine py_get (C := RX6) (T := TX6) (N := 7) (k := 2) (v := .ref (G.2 h 2)) G0 hw in_X6_pass_X6 rfl hr_27 (by decide) (by decide +kernel) rfl dX6_pass_12 ?_
      obtain ⟨t_28, t_29, t_30, t_31, t_32, t_33, t_34, t_35, t_36⟩ := wt_2 hG t_3
      obtain ⟨r_37, y_38, v_39, hr_42, ty_40, b_41⟩ := wg_2 hWF t_3
      have tq_43 := fo_eq hr_42
      have tq_44 := fv_now hRP hKP (by decide) hWF t_3
      refine py_get (C := RX2) (T := TX2) (N := 12) (k := 9) (v := .ref r_37) G0 hw in_X6_pass_X2 rfl hr_42 (by decide) (by decide +kernel) rfl dX6_pass_15 ?_
      obtain ⟨t_45, t_46, t_47, t_48, t_49, t_50, t_51, t_52⟩ := wt_9 hG ty_40
      obtain ⟨v_53, v_54, hr_57, b_55, b_56⟩ := wg_9 hWF ty_40
      have tq_58 := va_eq hr_57
      refine py_get (C := RX9) (T := TX9) (N := 10) (k := 8) (v := .int v_53) G0 hw in_X6_pass_X9 rfl hr_57 (by decide) (by decide +kernel) rfl dX6_pass_18 ?_
      refine lv_icmp_ge (tgt := 118) G0.1 G0.2.1 dX6_pass_21 (by decide) (fun c_59 => ?_) (fun c_59 => ?_)
      · skip
        have tc_59 := ti_le c_59
        refine lv_aload_n G0.1 G0.2.1 dX6_pass_118 rfl (lv_at hl 1 rfl) ?_
        refine py_get (C := RX6) (T := TX6) (N := 7) (k := 3) (v := .ref r_20) G0 hw in_X6_pass_X6 rfl hr_27 (by decide) (by decide +kernel) rfl dX6_pass_119 ?_
        refine lv_astore_n (lv' := [(3, .ref r_20), (0, .ref h), (1, .int a), (2, .int b)]) G0.1 G0.2.1 dX6_pass_122 rfl hl (by decide) rfl (fun ls hl => ?_)
        refine lv_aload_n G0.1 G0.2.1 dX6_pass_123 rfl (lv_at hl 1 rfl) ?_
        refine lv_aload_n G0.1 G0.2.1 dX6_pass_124 rfl (lv_at hl 1 rfl) ?_
        refine py_get (C := RX6) (T := TX6) (N := 7) (k := 4) (v := .ref r_21) G0 hw in_X6_pass_X6 rfl hr_27 (by decide) (by decide +kernel) rfl dX6_pass_125 ?_
        refine py_put (C := RX6) (T := TX6) (N := 7) (k := 3) (v := .ref r_21) (fs' := [.ref (G.2 h 0), .ref (G.2 h 1), .ref (G.2 h 2), .ref r_21, .ref r_21, .ref r_22, .long y_23]) (ty0 := tyX6) G0 hw tyX6_ok nmX6 in_X6_pass_X6 rfl hr_27 (by decide) (by decide +kernel) rfl rfl rfl rfl (Nat.le_of_ble_eq_true rfl) rfl dX6_pass_128 (fun f_60 H_61 locs h_62 x_63 hw => ?_)
        have hKP := hKP.upd hWF x_63 Th (Or.inl (by decide))
        have hRP := hRP.trans (rp_upd hG hWF x_63 hr_27.2 h_62.2 (rp_code hG Th (by decide)) rfl)
        have hWF := wf_upd hWF h_62 x_63 (by rw [Th]; exact ⟨r_21, r_21, r_22, y_23, rfl, ty_25, ty_25, ty_26⟩)
        have hr_42 := hr_42.ext x_63 (py_ne_kind hr_42 hr_27 (by decide))
        have tq_64 := fo_eq hr_42
        have tq_65 := fv_now hRP hKP (by decide) hWF t_3
        have hr_57 := hr_57.ext x_63 (py_ne_kind hr_57 hr_27 (by decide))
        have tq_66 := va_eq hr_57
        refine lv_aload_n G0.1 G0.2.1 dX6_pass_131 rfl (lv_at hl 1 rfl) ?_
        refine lv_aload_n G0.1 G0.2.1 dX6_pass_132 rfl (lv_at hl 0 rfl) ?_
        refine py_put (C := RX6) (T := TX6) (N := 7) (k := 4) (v := .ref r_20) (fs' := [.ref (G.2 h 0), .ref (G.2 h 1), .ref (G.2 h 2), .ref r_21, .ref r_20, .ref r_22, .long y_23]) (ty0 := tyX6) G0 hw tyX6_ok nmX6 in_X6_pass_X6 rfl h_62 (by decide) (by decide +kernel) rfl rfl rfl rfl (Nat.le_of_ble_eq_true rfl) rfl dX6_pass_133 (fun f_67 H_68 locs h_69 x_70 hw => ?_)
        have hKP := hKP.upd hWF x_70 Th (Or.inl (by decide))
        have hRP := hRP.trans (rp_upd hG hWF x_70 h_62.2 h_69.2 (rp_code hG Th (by decide)) rfl)
        have hWF := wf_upd hWF h_69 x_70 (by rw [Th]; exact ⟨r_21, r_20, r_22, y_23, rfl, ty_25, ty_24, ty_26⟩)
        have hr_42 := hr_42.ext x_70 (py_ne_kind hr_42 h_62 (by decide))
        have tq_71 := fo_eq hr_42
        have tq_72 := fv_now hRP hKP (by decide) hWF t_3
        have hr_57 := hr_57.ext x_70 (py_ne_kind hr_57 h_62 (by decide))
        have tq_73 := va_eq hr_57
        exact py_vret G0 hr hlk hw ⟨hWF, hRP, hKP⟩ dX6_pass_136
      · skip
        have tc_59 := ti_nle c_59
        refine lv_iconst (v := 1) G0.1 G0.2.1 dX6_pass_24 (by decide) ?_
        refine lv_istore (lv' := [(4, .int 1), (3, .int v_19), (0, .ref h), (1, .int a), (2, .int b)]) G0.1 G0.2.1 dX6_pass_25 hl (by decide) rfl (fun ls hl => ?_)
        have lo_27 : ∀ n_27 : Nat, ∀ (v_74 : Int32) (L_j27 : List Nat) (f_j27 : py_F) (H_j27 : Heap) (locs : List Loc) (ls : Array Slot), (2147483647 - v_74.toInt).toNat = n_27 → (1 ≤ v_74.toInt ∧ v_74.toInt ≤ 2147483647) → WF E G L_j27 f_j27 → RP E G f f_j27 → KP G [7, 34, 35, 32, 21] false f f_j27 → py_W E (va_A (va_pl L f) s.heap.size) s L_j27 f_j27 H_j27 locs → lv_has ls 11 [(4, .int v_74), (3, .int v_19), (0, .ref h), (1, .int a), (2, .int b)] → W p l e (headSpec w_X6_pass ({ frames := 4, cells := 0, slots := 0, locals := 104 })).room s m ([.ref h, .int a, .int b] : List Value).toArray below meth c H_j27 locs 0 0 (MQ below (py_Qv E L f s.heap.size (fun L1 f1 => WF E G L1 f1 ∧ RP E G f f1 ∧ KP G [7, 34, 35, 32, 21] false f f1)) ([.ref h, .int a, .int b] : List Value).toArray s 0 0 (va_A (va_pl L f) s.heap.size)) (F0 m 27 ls []) := by
          intro n_27
          induction n_27 using Nat.strongRecOn with
          | _ n_27 ih_27 =>
            intro v_74 L_j27 f_j27 H_j27 locs ls hn_27 bv_74 hWF hRP hKP hw hl
            refine lv_iload G0.1 G0.2.1 dX6_pass_27 (lv_at hl 0 rfl) ?_
            refine lv_bipush (v := 21) G0.1 G0.2.1 dX6_pass_29 (by decide) ?_
            refine lv_icmp_ge (tgt := 112) G0.1 G0.2.1 dX6_pass_31 (by decide) (fun c_75 => ?_) (fun c_75 => ?_)
            · skip
              have tc_75 := ti_le c_75
              obtain ⟨x_76, ex_76⟩ : ∃ y : Int32, y = v_19 + 1 := ⟨_, rfl⟩
              first | have tx_76 := ti_add ex_76 (by omega) (by omega) | skip
              refine lv_iinc (v := x_76) (lv' := [(3, .int x_76), (4, .int v_74), (0, .ref h), (1, .int a), (2, .int b)]) G0.1 G0.2.1 dX6_pass_112 hl (k := 1) rfl (show _ + (1 : Int32) = _ from ex_76.symm) (by decide) rfl (fun ls hl => ?_)
              refine lv_goto (tgt := 10) G0.1 G0.2.1 dX6_pass_115 (by decide) ?_
              exact ih_10 ((2147483647 - x_76.toInt).toNat) (by omega) x_76 L_j27 f_j27 _ _ ls rfl ⟨by omega, by omega⟩ hWF hRP hKP hw (lv_sub hl [0, 2, 3, 4] rfl)
            · skip
              have tc_75 := ti_nle c_75
              refine lv_aload_n G0.1 G0.2.1 dX6_pass_34 rfl (lv_at hl 2 rfl) ?_
              obtain ⟨r_77, r_78, r_79, y_80, hr_84, ty_81, ty_82, ty_83⟩ := wg_6 hWF Th
              refine py_get (C := RX6) (T := TX6) (N := 7) (k := 3) (v := .ref r_77) G0 hw in_X6_pass_X6 rfl hr_84 (by decide) (by decide +kernel) rfl dX6_pass_35 ?_
              refine lv_iload_n G0.1 G0.2.1 dX6_pass_38 rfl (lv_at hl 1 rfl) ?_
              refine lv_bipush (v := 21) G0.1 G0.2.1 dX6_pass_39 (by decide) ?_
              refine lv_imul G0.1 G0.2.1 dX6_pass_41 ?_
              refine lv_topi (fun x_85 ex_85 => ?_)
              first | have tx_85 := ti_mulc ex_85 kc21 (by omega) (by omega) | skip
              refine lv_iload G0.1 G0.2.1 dX6_pass_42 (lv_at hl 0 rfl) ?_
              refine lv_iadd G0.1 G0.2.1 dX6_pass_44 ?_
              refine lv_topi (fun x_86 ex_86 => ?_)
              first | have tx_86 := ti_add ex_86 (by omega) (by omega) | skip
              obtain ⟨g_87, ha_88⟩ := wf_j35 hWF ty_81
              have rg_89 : vp_in x_86 168 := ti_in (by omega) (by omega)
              refine py_lald G0 hw ha_88 rg_89 dX6_pass_45 ?_
              refine lv_topl (fun y_90 ey_90 => ?_)
              refine lv_lstore (lv' := [(5, .long y_90), (4, .int v_74), (3, .int v_19), (0, .ref h), (1, .int a), (2, .int b)]) G0.1 G0.2.1 dX6_pass_46 hl (by decide) rfl (fun ls hl => ?_)
              refine lv_lload G0.1 G0.2.1 dX6_pass_48 (lv_at hl 0 rfl) ?_
              refine lv_iload_n G0.1 G0.2.1 dX6_pass_50 rfl (lv_at hl 4 rfl) ?_
              refine lv_i2l (v := a.toInt64) G0.1 G0.2.1 dX6_pass_51 rfl ?_
              refine lv_lmul G0.1 G0.2.1 dX6_pass_52 ?_
              refine lv_topl (fun y_91 ey_91 => ?_)
              refine lv_ldc2 (v := 100) G0.1 G0.2.1 G0.2.2.2.1 (G0.2.2.2.2 (Cond.constantLong RX6 76 (100)) (by decide +kernel)) dX6_pass_53 ?_
              refine lv_ldiv G0.1 G0.2.1 dX6_pass_56 (by decide) ?_
              refine lv_topl (fun y_92 ey_92 => ?_)
              refine lv_lstore (lv' := [(7, .long y_92), (5, .long y_90), (4, .int v_74), (3, .int v_19), (0, .ref h), (1, .int a), (2, .int b)]) G0.1 G0.2.1 dX6_pass_57 hl (by decide) rfl (fun ls hl => ?_)
              refine lv_lload G0.1 G0.2.1 dX6_pass_59 (lv_at hl 0 rfl) ?_
              refine lv_iload_n G0.1 G0.2.1 dX6_pass_61 rfl (lv_at hl 6 rfl) ?_
              refine lv_i2l (v := b.toInt64) G0.1 G0.2.1 dX6_pass_62 rfl ?_
              refine lv_lmul G0.1 G0.2.1 dX6_pass_63 ?_
              refine lv_topl (fun y_93 ey_93 => ?_)
              refine lv_ldc2 (v := 100) G0.1 G0.2.1 G0.2.2.2.1 (G0.2.2.2.2 (Cond.constantLong RX6 76 (100)) (by decide +kernel)) dX6_pass_64 ?_
              refine lv_ldiv G0.1 G0.2.1 dX6_pass_67 (by decide) ?_
              refine lv_topl (fun y_94 ey_94 => ?_)
              refine lv_lstore (lv' := [(9, .long y_94), (7, .long y_92), (5, .long y_90), (4, .int v_74), (3, .int v_19), (0, .ref h), (1, .int a), (2, .int b)]) G0.1 G0.2.1 dX6_pass_68 hl (by decide) rfl (fun ls hl => ?_)
              have hnw := fv_now hRP hKP (by decide) hWF t_3
              refine lv_aload_n G0.1 G0.2.1 dX6_pass_70 rfl (lv_at hl 5 rfl) ?_
              refine lv_iload_n G0.1 G0.2.1 dX6_pass_71 rfl (lv_at hl 4 rfl) ?_
              refine lv_iload G0.1 G0.2.1 dX6_pass_72 (lv_at hl 3 rfl) ?_
              refine lv_iconst (v := 0) G0.1 G0.2.1 dX6_pass_74 (by decide) ?_
              refine lv_lload G0.1 G0.2.1 dX6_pass_75 (lv_at hl 2 rfl) ?_
              refine lv_lload G0.1 G0.2.1 dX6_pass_77 (lv_at hl 1 rfl) ?_
              refine lv_lsub G0.1 G0.2.1 dX6_pass_79 ?_
              refine lv_topl (fun y_95 ey_95 => ?_)
              refine py_callv hw (va_runV (As := [.int v_19, .int v_74, .int 0, .long y_95]) (rest := []) G0 (c_X6_spread l E G L_j27 f_j27 H_j27.size h v_19 v_74 0 y_95 hG hWF Th ⟨by omega, by omega⟩ ⟨by omega, by omega⟩ ⟨by omega, by omega⟩ (show v_19.toInt < fv_l f_j27 (G.2 h 2) by omega)) (cwV 4 G0.2.2.2.2 g_X6_pass_X6_spread_78 rfl rfl rfl (by decide +kernel) ⟨(Nat.le_of_ble_eq_true rfl), (Nat.le_of_ble_eq_true rfl)⟩) (py_preV hw (C := RX6) (T := TX6) (N := 7) rfl hr_84) rfl rfl hl.1 rfl (lv_room (Nat.le_of_ble_eq_true rfl)) dX6_pass_80 ⟨(Nat.le_of_ble_eq_true rfl), (Nat.le_of_ble_eq_true rfl)⟩) (fun L_96 f_97 H_98 locs hp_99 hw => ?_)
              obtain ⟨hWF, hq_101, kp_102⟩ := hp_99
              have hRP := hRP.trans hq_101
              have hKP := hKP.trans kp_102 (by decide) (by decide)
              have hnw := fv_now hRP hKP (by decide) hWF t_3
              refine lv_aload_n G0.1 G0.2.1 dX6_pass_83 rfl (lv_at hl 5 rfl) ?_
              refine lv_iload_n G0.1 G0.2.1 dX6_pass_84 rfl (lv_at hl 4 rfl) ?_
              refine lv_iload G0.1 G0.2.1 dX6_pass_85 (lv_at hl 3 rfl) ?_
              refine lv_iconst (v := 1) G0.1 G0.2.1 dX6_pass_87 (by decide) ?_
              refine lv_lload G0.1 G0.2.1 dX6_pass_88 (lv_at hl 1 rfl) ?_
              refine lv_lload G0.1 G0.2.1 dX6_pass_90 (lv_at hl 0 rfl) ?_
              refine lv_lsub G0.1 G0.2.1 dX6_pass_92 ?_
              refine lv_topl (fun y_103 ey_103 => ?_)
              obtain ⟨r_104, r_105, r_106, y_107, hr_111, ty_108, ty_109, ty_110⟩ := wg_6 hWF Th
              refine py_callv hw (va_runV (As := [.int v_19, .int v_74, .int 1, .long y_103]) (rest := []) G0 (c_X6_spread l E G L_96 f_97 H_98.size h v_19 v_74 1 y_103 hG hWF Th ⟨by omega, by omega⟩ ⟨by omega, by omega⟩ ⟨by omega, by omega⟩ (show v_19.toInt < fv_l f_97 (G.2 h 2) by omega)) (cwV 4 G0.2.2.2.2 g_X6_pass_X6_spread_78 rfl rfl rfl (by decide +kernel) ⟨(Nat.le_of_ble_eq_true rfl), (Nat.le_of_ble_eq_true rfl)⟩) (py_preV hw (C := RX6) (T := TX6) (N := 7) rfl hr_111) rfl rfl hl.1 rfl (lv_room (Nat.le_of_ble_eq_true rfl)) dX6_pass_93 ⟨(Nat.le_of_ble_eq_true rfl), (Nat.le_of_ble_eq_true rfl)⟩) (fun L_112 f_113 H_114 locs hp_115 hw => ?_)
              obtain ⟨hWF, hq_117, kp_118⟩ := hp_115
              have hRP := hRP.trans hq_117
              have hKP := hKP.trans kp_118 (by decide) (by decide)
              have hnw := fv_now hRP hKP (by decide) hWF t_3
              refine lv_aload_n G0.1 G0.2.1 dX6_pass_96 rfl (lv_at hl 5 rfl) ?_
              refine lv_iload_n G0.1 G0.2.1 dX6_pass_97 rfl (lv_at hl 4 rfl) ?_
              refine lv_iload G0.1 G0.2.1 dX6_pass_98 (lv_at hl 3 rfl) ?_
              refine lv_iconst (v := 2) G0.1 G0.2.1 dX6_pass_100 (by decide) ?_
              refine lv_lload G0.1 G0.2.1 dX6_pass_101 (lv_at hl 0 rfl) ?_
              obtain ⟨r_119, r_120, r_121, y_122, hr_126, ty_123, ty_124, ty_125⟩ := wg_6 hWF Th
              refine py_callv hw (va_runV (As := [.int v_19, .int v_74, .int 2, .long y_94]) (rest := []) G0 (c_X6_spread l E G L_112 f_113 H_114.size h v_19 v_74 2 y_94 hG hWF Th ⟨by omega, by omega⟩ ⟨by omega, by omega⟩ ⟨by omega, by omega⟩ (show v_19.toInt < fv_l f_113 (G.2 h 2) by omega)) (cwV 4 G0.2.2.2.2 g_X6_pass_X6_spread_78 rfl rfl rfl (by decide +kernel) ⟨(Nat.le_of_ble_eq_true rfl), (Nat.le_of_ble_eq_true rfl)⟩) (py_preV hw (C := RX6) (T := TX6) (N := 7) rfl hr_126) rfl rfl hl.1 rfl (lv_room (Nat.le_of_ble_eq_true rfl)) dX6_pass_103 ⟨(Nat.le_of_ble_eq_true rfl), (Nat.le_of_ble_eq_true rfl)⟩) (fun L_127 f_128 H_129 locs hp_130 hw => ?_)
              obtain ⟨hWF, hq_132, kp_133⟩ := hp_130
              have hRP := hRP.trans hq_132
              have hKP := hKP.trans kp_133 (by decide) (by decide)
              obtain ⟨x_134, ex_134⟩ : ∃ y : Int32, y = v_74 + 1 := ⟨_, rfl⟩
              first | have tx_134 := ti_add ex_134 (by omega) (by omega) | skip
              refine lv_iinc (v := x_134) (lv' := [(4, .int x_134), (9, .long y_94), (7, .long y_92), (5, .long y_90), (3, .int v_19), (0, .ref h), (1, .int a), (2, .int b)]) G0.1 G0.2.1 dX6_pass_106 hl (k := 3) rfl (show _ + (1 : Int32) = _ from ex_134.symm) (by decide) rfl (fun ls hl => ?_)
              refine lv_goto (tgt := 27) G0.1 G0.2.1 dX6_pass_109 (by decide) ?_
              exact ih_27 ((2147483647 - x_134.toInt).toNat) (by omega) x_134 L_127 f_128 _ _ ls rfl ⟨by omega, by omega⟩ hWF hRP hKP hw (lv_sub hl [0, 4, 5, 6, 7] rfl)
        exact lo_27 _ 1 L_j10 f_j10 _ _ ls rfl ⟨by omega, by omega⟩ hWF hRP hKP hw (lv_sub hl [0, 1, 2, 3, 4] rfl)
  exact lo_10 _ 0 L_12 f_13 _ _ ls rfl ⟨by omega, by omega⟩ hWF hRP hKP hw (lv_sub hl [0, 1, 2, 3] rfl)

def w_X6_run : List Cond := .code yX6_run cX6_run 5 none :: ([Cond.fieldLink RX6 37 "HeadYear$Odds" "law" "LHeadYear$Law;", Cond.fieldLink RX6 29 "HeadYear$Odds" "gone" "J", Cond.fieldLink RX6 23 "HeadYear$Odds" "parts" "[J", Cond.methodLink RX6 41 yJ7_fill_d0a16, Cond.static yJ7_fill_d0a16, Cond.initialized RJ7, Cond.fieldLink RX6 33 "HeadYear$Odds" "folk" "LHeadYear$Folk;", Cond.fieldLink RX6 47 "HeadYear$Folk" "level" "[I", Cond.fieldLink RX6 50 "HeadYear$Folk" "heads" "[I", Cond.constantLong RX6 53 (1000000000), Cond.fieldLink RX6 11 "HeadYear$Odds" "letters" "[I", Cond.fieldLink RX6 55 "HeadYear$Folk" "years" "I", Cond.fieldLink RX6 59 "HeadYear$Folk" "valley" "LHeadYear$Valley;", Cond.fieldLink RX6 63 "HeadYear$Valley" "birth" "[I", Cond.fieldLink RX6 66 "HeadYear$Valley" "twin" "[I", Cond.methodLink RX6 69 yX6_pass, Cond.instanceMethod yX6_pass, Cond.selects RX6 yX6_pass yX6_pass, Cond.initialized RX6] ++ (u_ws RX6 TX6 7 ++ (u_ws RX2 TX2 12 ++ (u_ws RX9 TX9 10 ++ (w_J7_fill_d0a16 ++ (w_X6_pass ++ ([])))))))
theorem in_X6_run_X6 : ∀ w ∈ u_ws RX6 TX6 7, w ∈ w_X6_run := fun _ h => List.mem_cons_of_mem _ (List.mem_append_right _ (List.mem_append_left _ h))
theorem in_X6_run_X2 : ∀ w ∈ u_ws RX2 TX2 12, w ∈ w_X6_run := fun _ h => List.mem_cons_of_mem _ (List.mem_append_right _ (List.mem_append_right _ (List.mem_append_left _ h)))
theorem in_X6_run_X9 : ∀ w ∈ u_ws RX9 TX9 10, w ∈ w_X6_run := fun _ h => List.mem_cons_of_mem _ (List.mem_append_right _ (List.mem_append_right _ (List.mem_append_right _ (List.mem_append_left _ h))))
theorem gg_X6_run_J7_fill_d0a16 : GoodIn w_X6_run w_J7_fill_d0a16 := goodIn_sub (fun _ h => List.mem_cons_of_mem _ (List.mem_append_right _ (List.mem_append_right _ (List.mem_append_right _ (List.mem_append_right _ (List.mem_append_left _ h)))))) (by decide +kernel)
theorem gg_X6_run_X6_pass : GoodIn w_X6_run w_X6_pass := goodIn_sub (fun _ h => List.mem_cons_of_mem _ (List.mem_append_right _ (List.mem_append_right _ (List.mem_append_right _ (List.mem_append_right _ (List.mem_append_right _ (List.mem_append_left _ h))))))) (by decide +kernel)
theorem g_X6_run_J7_fill_d0a16_41 : GoodIn w_X6_run (va_wsS RX6 41 yJ7_fill_d0a16 w_J7_fill_d0a16) := goodIn_app (goodIn_of _ (by decide +kernel)) gg_X6_run_J7_fill_d0a16
theorem g_X6_run_X6_pass_69 : GoodIn w_X6_run (wsV RX6 69 RX6 yX6_pass w_X6_pass) := goodIn_app (goodIn_of _ (by decide +kernel)) gg_X6_run_X6_pass
set_option maxHeartbeats 4000000 in
set_option maxRecDepth 100000 in
theorem c_X6_run (l : Launch) (E : py_E) (G : wf_G) (L : List Nat) (f : py_F) (sz : Nat) (h : Nat) (a : Int32) (q : Nat) (b : Int32) (hG : GT G) (hWF : WF E G L f) (Th : G.1 h = 7) (Ba : (0 ≤ a.toInt ∧ a.toInt ≤ 9)) (Tq : G.1 q = 4) (Bb : (0 ≤ b.toInt ∧ b.toInt ≤ 9)) (hp0 : 0 ≤ ari f (G.2 (G.2 h 2) 1) a) : Met l yX6_run w_X6_run ({ frames := 5, cells := 0, slots := 0, locals := 134 }) (py_Pc E [.ref h, .int a, .ref q, .int b] L f sz) (py_Qv E L f sz (fun L1 f1 => WF E G L1 f1 ∧ RP E G f f1 ∧ KP G [7, 34, 35, 32, 21] false f f1)) 0 0 (va_A (va_pl L f) sz) := by
  refine Met.ofW (cc := cX6_run) (maxL := 5) (ret := none) (by decide) rfl ?_
  intro p e s m args below meth c s₁ B hml hv
  obtain ⟨rfl, rfl, hw⟩ := py_start hv
  have G0 : CallFix p m c cX6_run 5 s _ w_X6_run RX6 := ⟨B.exec, B.bytes, hml, findClass_of_methodNamed B.named, atoms_spec (ws := w_X6_run) B.pre⟩
  have hr := B.returns
  have hlk := B.notSynchronized
  have kcm1 : (-1 : Int32).toInt = -1 := rfl
  have kc0 : (0 : Int32).toInt = 0 := rfl
  have kc1 : (1 : Int32).toInt = 1 := rfl
  have kc5 : (5 : Int32).toInt = 5 := rfl
  have kc21 : (21 : Int32).toInt = 21 := rfl
  have hl := lv_entry ([.ref h, .int a, .ref q, .int b]) (n := 5) (Nat.le_of_ble_eq_true rfl)
  rw [lg_entry_eq]
  generalize (lg_sl ([.ref h, .int a, .ref q, .int b]) ++ List.replicate (5 - (lg_sl ([.ref h, .int a, .ref q, .int b])).length) Slot.unset).toArray = ls at hl ⊢
  have hl : lv_has ls 5 [(0, .ref h), (1, .int a), (2, .ref q), (3, .int b)] := hl
  have hRP : RP E G f f := RP.refl
  have hKP : KP G [7, 34, 35, 32, 21] false f f := KP.refl
  refine lv_aload_n G0.1 G0.2.1 dX6_run_0 rfl (lv_at hl 0 rfl) ?_
  refine lv_aload_n G0.1 G0.2.1 dX6_run_1 rfl (lv_at hl 2 rfl) ?_
  obtain ⟨t_1, t_2, t_3⟩ := wt_6 hG Th
  obtain ⟨r_4, r_5, r_6, y_7, hr_11, ty_8, ty_9, ty_10⟩ := wg_6 hWF Th
  refine py_put (C := RX6) (T := TX6) (N := 7) (k := 5) (v := .ref q) (fs' := [.ref (G.2 h 0), .ref (G.2 h 1), .ref (G.2 h 2), .ref r_4, .ref r_5, .ref q, .long y_7]) (ty0 := tyX6) G0 hw tyX6_ok nmX6 in_X6_run_X6 rfl hr_11 (by decide) (by decide +kernel) rfl rfl rfl rfl (Nat.le_of_ble_eq_true rfl) rfl dX6_run_2 (fun f_12 H_13 locs h_14 x_15 hw => ?_)
  obtain ⟨t_16, t_17, t_18, t_19, t_20, t_21, t_22, t_23, t_24⟩ := wt_2 hG t_3
  have aq_25 := ari_kp (x_15 _ (hWF _ (by rw [t_17]; omega)).1 (wf_ne t_17 Th (by omega))).2 a
  have hKP := hKP.upd hWF x_15 Th (Or.inl (by decide))
  have hRP := hRP.trans (rp_upd hG hWF x_15 hr_11.2 h_14.2 (rp_code hG Th (by decide)) rfl)
  have hWF := wf_upd hWF h_14 x_15 (by rw [Th]; exact ⟨r_4, r_5, q, y_7, rfl, ty_8, ty_9, Tq⟩)
  refine lv_aload_n G0.1 G0.2.1 dX6_run_5 rfl (lv_at hl 0 rfl) ?_
  refine lv_lconst (v := 0) G0.1 G0.2.1 dX6_run_6 (by decide) ?_
  refine py_put (C := RX6) (T := TX6) (N := 7) (k := 6) (v := .long 0) (fs' := [.ref (G.2 h 0), .ref (G.2 h 1), .ref (G.2 h 2), .ref r_4, .ref r_5, .ref q, .long 0]) (ty0 := tyX6) G0 hw tyX6_ok nmX6 in_X6_run_X6 rfl h_14 (by decide) (by decide +kernel) rfl rfl rfl rfl (Nat.le_of_ble_eq_true rfl) rfl dX6_run_7 (fun f_26 H_27 locs h_28 x_29 hw => ?_)
  have aq_30 := ari_kp (x_29 _ (hWF _ (by rw [t_17]; omega)).1 (wf_ne t_17 Th (by omega))).2 a
  have hKP := hKP.upd hWF x_29 Th (Or.inl (by decide))
  have hRP := hRP.trans (rp_upd hG hWF x_29 h_14.2 h_28.2 (rp_code hG Th (by decide)) rfl)
  have hWF := wf_upd hWF h_28 x_29 (by rw [Th]; exact ⟨r_4, r_5, q, 0, rfl, ty_8, ty_9, Tq⟩)
  refine lv_aload_n G0.1 G0.2.1 dX6_run_10 rfl (lv_at hl 0 rfl) ?_
  refine py_get (C := RX6) (T := TX6) (N := 7) (k := 3) (v := .ref r_4) G0 hw in_X6_run_X6 rfl h_28 (by decide) (by decide +kernel) rfl dX6_run_11 ?_
  refine lv_lconst (v := 0) G0.1 G0.2.1 dX6_run_14 (by decide) ?_
  refine py_callv hw (va_runS (As := [.ref r_4, .long 0]) (rest := []) G0 (c_J7_fill_d0a1635 l E G L f_26 H_27.size r_4 0 hG hWF ty_8) (va_cwS 2 G0.2.2.2.2 g_X6_run_J7_fill_d0a16_41 rfl rfl rfl (by decide +kernel) ⟨(Nat.le_of_ble_eq_true rfl), (Nat.le_of_ble_eq_true rfl)⟩) (py_preS hw) rfl rfl hl.1 rfl (lv_room (Nat.le_of_ble_eq_true rfl)) dX6_run_15 ⟨(Nat.le_of_ble_eq_true rfl), (Nat.le_of_ble_eq_true rfl)⟩) (fun L_31 f_32 H_33 locs hp_34 hw => ?_)
  obtain ⟨hWF, hq_36, kp_37⟩ := hp_34
  have aq_38 := ari_kp (kp_f kp_37 t_17 (by omega) (by simp <;> omega) (fun q => absurd q (by decide))) a
  have hRP := hRP.trans hq_36
  have hKP := hKP.trans kp_37 (by decide) (by decide)
  have h_28 := kp_at kp_37 hWF Th (by decide) (by decide) (by decide) h_28
  refine lv_aload_n G0.1 G0.2.1 dX6_run_18 rfl (lv_at hl 0 rfl) ?_
  refine py_get (C := RX6) (T := TX6) (N := 7) (k := 3) (v := .ref r_4) G0 hw in_X6_run_X6 rfl h_28 (by decide) (by decide +kernel) rfl dX6_run_19 ?_
  refine lv_aload_n G0.1 G0.2.1 dX6_run_22 rfl (lv_at hl 0 rfl) ?_
  refine py_get (C := RX6) (T := TX6) (N := 7) (k := 2) (v := .ref (G.2 h 2)) G0 hw in_X6_run_X6 rfl h_28 (by decide) (by decide +kernel) rfl dX6_run_23 ?_
  obtain ⟨r_39, y_40, v_41, hr_44, ty_42, b_43⟩ := wg_2 hWF t_3
  refine py_get (C := RX2) (T := TX2) (N := 12) (k := 1) (v := .ref (G.2 (G.2 h 2) 1)) G0 hw in_X6_run_X2 rfl hr_44 (by decide) (by decide +kernel) rfl dX6_run_26 ?_
  refine lv_iload_n G0.1 G0.2.1 dX6_run_29 rfl (lv_at hl 1 rfl) ?_
  obtain ⟨g_45, ha_46, hi_47⟩ := wf_arr (n := 10) (lo := (-1)) (hi := 7) hWF t_17 (by omega) (wf_own1 E G _ (G.2 h 2))
  have rg_48 : vp_in a 10 := ti_in (by omega) (by omega)
  refine py_iald G0 hw ha_46 rg_48 dX6_run_30 ?_
  refine lv_topi (fun x_49 ex_49 => ?_)
  have bx_49 := ti_at hi_47 rg_48 ex_49
  have qx_49 := ari_ld ha_46 ex_49
  refine lv_bipush (v := 21) G0.1 G0.2.1 dX6_run_31 (by decide) ?_
  refine lv_imul G0.1 G0.2.1 dX6_run_33 ?_
  refine lv_topi (fun x_50 ex_50 => ?_)
  first | have tx_50 := ti_mulc ex_50 kc21 (by omega) (by omega) | skip
  refine lv_aload_n G0.1 G0.2.1 dX6_run_34 rfl (lv_at hl 0 rfl) ?_
  refine py_get (C := RX6) (T := TX6) (N := 7) (k := 2) (v := .ref (G.2 h 2)) G0 hw in_X6_run_X6 rfl h_28 (by decide) (by decide +kernel) rfl dX6_run_35 ?_
  refine py_get (C := RX2) (T := TX2) (N := 12) (k := 0) (v := .ref (G.2 (G.2 h 2) 0)) G0 hw in_X6_run_X2 rfl hr_44 (by decide) (by decide +kernel) rfl dX6_run_38 ?_
  refine lv_iload_n G0.1 G0.2.1 dX6_run_41 rfl (lv_at hl 1 rfl) ?_
  obtain ⟨g_51, ha_52, hi_53⟩ := wf_arr (n := 10) (lo := 0) (hi := 20) hWF t_16 (by omega) (wf_own0 E G _ (G.2 h 2))
  have rg_54 : vp_in a 10 := ti_in (by omega) (by omega)
  refine py_iald G0 hw ha_52 rg_54 dX6_run_42 ?_
  refine lv_topi (fun x_55 ex_55 => ?_)
  have bx_55 := ti_at hi_53 rg_54 ex_55
  have qx_55 := ari_ld ha_52 ex_55
  refine lv_iadd G0.1 G0.2.1 dX6_run_43 ?_
  refine lv_topi (fun x_56 ex_56 => ?_)
  first | have tx_56 := ti_add ex_56 (by omega) (by omega) | skip
  refine lv_ldc2 (v := 1000000000) G0.1 G0.2.1 G0.2.2.2.1 (G0.2.2.2.2 (Cond.constantLong RX6 53 (1000000000)) (by decide +kernel)) dX6_run_44 ?_
  obtain ⟨g_57, ha_58⟩ := wf_j35 hWF ty_8
  have rg_59 : vp_in x_56 168 := ti_in (by omega) (by omega)
  refine py_last G0 hw ha_58 rg_59 dX6_run_47 (fun f_60 H_61 locs h_62 x_63 hw => ?_)
  have aq_64 := ari_kp (x_63 _ (hWF _ (by rw [t_17]; omega)).1 (wf_ne t_17 ty_8 (by omega))).2 a
  have hKP := hKP.upd hWF x_63 ty_8 (Or.inl (by decide))
  have hRP := hRP.trans (rp_upd hG hWF x_63 ha_58.2 h_62.2 (rp_code hG ty_8 (by decide)) rfl)
  have hWF := wf_upd hWF h_62 x_63 (by rw [ty_8]; exact ⟨_, rfl⟩)
  have h_28 := h_28.ext x_63 (py_ne_arr h_28 ha_58)
  have hr_44 := hr_44.ext x_63 (py_ne_arr hr_44 ha_58)
  refine lv_iconst (v := 1) G0.1 G0.2.1 dX6_run_48 (by decide) ?_
  refine lv_istore (lv' := [(4, .int 1), (0, .ref h), (1, .int a), (2, .ref q), (3, .int b)]) G0.1 G0.2.1 dX6_run_49 hl (by decide) rfl (fun ls hl => ?_)
  have lo_51 : ∀ n_51 : Nat, ∀ (v_65 : Int32) (L_j51 : List Nat) (f_j51 : py_F) (H_j51 : Heap) (locs : List Loc) (ls : Array Slot), (2147483647 - v_65.toInt).toNat = n_51 → (1 ≤ v_65.toInt ∧ v_65.toInt ≤ 2147483647) → WF E G L_j51 f_j51 → RP E G f f_j51 → KP G [7, 34, 35, 32, 21] false f f_j51 → py_W E (va_A (va_pl L f) s.heap.size) s L_j51 f_j51 H_j51 locs → lv_has ls 5 [(4, .int v_65), (0, .ref h), (1, .int a), (2, .ref q), (3, .int b)] → W p l e (headSpec w_X6_run ({ frames := 5, cells := 0, slots := 0, locals := 134 })).room s m ([.ref h, .int a, .ref q, .int b] : List Value).toArray below meth c H_j51 locs 0 0 (MQ below (py_Qv E L f s.heap.size (fun L1 f1 => WF E G L1 f1 ∧ RP E G f f1 ∧ KP G [7, 34, 35, 32, 21] false f f1)) ([.ref h, .int a, .ref q, .int b] : List Value).toArray s 0 0 (va_A (va_pl L f) s.heap.size)) (F0 m 51 ls []) := by
    intro n_51
    induction n_51 using Nat.strongRecOn with
    | _ n_51 ih_51 =>
      intro v_65 L_j51 f_j51 H_j51 locs ls hn_51 bv_65 hWF hRP hKP hw hl
      refine lv_iload G0.1 G0.2.1 dX6_run_51 (lv_at hl 0 rfl) ?_
      refine lv_iload_n G0.1 G0.2.1 dX6_run_53 rfl (lv_at hl 4 rfl) ?_
      refine lv_icmp_gt (tgt := 107) G0.1 G0.2.1 dX6_run_54 (by decide) (fun c_66 => ?_) (fun c_66 => ?_)
      · skip
        have tc_66 := ti_lt c_66
        exact py_vret G0 hr hlk hw ⟨hWF, hRP, hKP⟩ dX6_run_107
      · skip
        have tc_66 := ti_nlt c_66
        refine lv_aload_n G0.1 G0.2.1 dX6_run_57 rfl (lv_at hl 1 rfl) ?_
        obtain ⟨r_67, r_68, r_69, y_70, hr_74, ty_71, ty_72, ty_73⟩ := wg_6 hWF Th
        refine py_get (C := RX6) (T := TX6) (N := 7) (k := 0) (v := .ref (G.2 h 0)) G0 hw in_X6_run_X6 rfl hr_74 (by decide) (by decide +kernel) rfl dX6_run_58 ?_
        refine lv_iconst (v := 5) G0.1 G0.2.1 dX6_run_61 (by decide) ?_
        refine lv_aload_n G0.1 G0.2.1 dX6_run_62 rfl (lv_at hl 1 rfl) ?_
        refine py_get (C := RX6) (T := TX6) (N := 7) (k := 2) (v := .ref (G.2 h 2)) G0 hw in_X6_run_X6 rfl hr_74 (by decide) (by decide +kernel) rfl dX6_run_63 ?_
        obtain ⟨r_75, y_76, v_77, hr_80, ty_78, b_79⟩ := wg_2 hWF t_3
        refine py_get (C := RX2) (T := TX2) (N := 12) (k := 11) (v := .int v_77) G0 hw in_X6_run_X2 rfl hr_80 (by decide) (by decide +kernel) rfl dX6_run_66 ?_
        refine lv_iload G0.1 G0.2.1 dX6_run_69 (lv_at hl 0 rfl) ?_
        refine lv_iadd G0.1 G0.2.1 dX6_run_71 ?_
        refine lv_topi (fun x_81 ex_81 => ?_)
        first | have tx_81 := ti_add ex_81 (by omega) (by omega) | skip
        obtain ⟨g_82, ha_83, hi_84⟩ := wf_arr (n := 6) (lo := (-2147483648)) (hi := 2147483647) hWF t_1 (by decide) (fun _ => rfl)
        have rg_85 : vp_in 5 6 := ti_in (by omega) (by omega)
        refine py_iast G0 hw ha_83 rg_85 dX6_run_72 (fun f_86 H_87 locs h_88 x_89 hw => ?_)
        have aq_90 := ari_kp (x_89 _ (hWF _ (by rw [t_17]; omega)).1 (wf_ne t_17 t_1 (by omega))).2 a
        have hKP := hKP.upd hWF x_89 t_1 (Or.inl (by decide))
        have hRP := hRP.trans (rp_upd hG hWF x_89 ha_83.2 h_88.2 (rp_code hG t_1 (by decide)) rfl)
        have hi_91 := wf_inu (k := (5 : Int32).toNatClampNeg) (x := x_81) hi_84 (wf_free x_81).1 (wf_free x_81).2
        have hWF := wf_upd hWF h_88 x_89 (by rw [t_1]; exact ⟨_, rfl, hi_91⟩)
        have hr_74 := hr_74.ext x_89 (py_ne_arr hr_74 ha_83)
        have hr_80 := hr_80.ext x_89 (py_ne_arr hr_80 ha_83)
        refine lv_aload_n G0.1 G0.2.1 dX6_run_73 rfl (lv_at hl 1 rfl) ?_
        refine lv_aload_n G0.1 G0.2.1 dX6_run_74 rfl (lv_at hl 1 rfl) ?_
        refine py_get (C := RX6) (T := TX6) (N := 7) (k := 2) (v := .ref (G.2 h 2)) G0 hw in_X6_run_X6 rfl hr_74 (by decide) (by decide +kernel) rfl dX6_run_75 ?_
        refine py_get (C := RX2) (T := TX2) (N := 12) (k := 9) (v := .ref r_75) G0 hw in_X6_run_X2 rfl hr_80 (by decide) (by decide +kernel) rfl dX6_run_78 ?_
        obtain ⟨t_92, t_93, t_94, t_95, t_96, t_97, t_98, t_99⟩ := wt_9 hG ty_78
        obtain ⟨v_100, v_101, hr_104, b_102, b_103⟩ := wg_9 hWF ty_78
        have tq_105 := va_eq hr_104
        refine py_get (C := RX9) (T := TX9) (N := 10) (k := 6) (v := .ref (G.2 r_75 6)) G0 hw in_X6_run_X9 rfl hr_104 (by decide) (by decide +kernel) rfl dX6_run_81 ?_
        refine lv_iload_n G0.1 G0.2.1 dX6_run_84 rfl (lv_at hl 2 rfl) ?_
        obtain ⟨g_106, ha_107, hi_108⟩ := wf_arr (n := 10) (lo := (-2147483648)) (hi := 2147483647) hWF t_98 (by decide) (fun _ => rfl)
        have rg_109 : vp_in a 10 := ti_in (by omega) (by omega)
        refine py_iald G0 hw ha_107 rg_109 dX6_run_85 ?_
        refine lv_topi (fun x_110 ex_110 => ?_)
        have bx_110 := wf_free x_110
        have qx_110 := ari_ld ha_107 ex_110
        refine lv_aload_n G0.1 G0.2.1 dX6_run_86 rfl (lv_at hl 1 rfl) ?_
        refine py_get (C := RX6) (T := TX6) (N := 7) (k := 2) (v := .ref (G.2 h 2)) G0 hw in_X6_run_X6 rfl hr_74 (by decide) (by decide +kernel) rfl dX6_run_87 ?_
        refine py_get (C := RX2) (T := TX2) (N := 12) (k := 9) (v := .ref r_75) G0 hw in_X6_run_X2 rfl hr_80 (by decide) (by decide +kernel) rfl dX6_run_90 ?_
        refine py_get (C := RX9) (T := TX9) (N := 10) (k := 7) (v := .ref (G.2 r_75 7)) G0 hw in_X6_run_X9 rfl hr_104 (by decide) (by decide +kernel) rfl dX6_run_93 ?_
        refine lv_iload_n G0.1 G0.2.1 dX6_run_96 rfl (lv_at hl 2 rfl) ?_
        obtain ⟨g_111, ha_112, hi_113⟩ := wf_arr (n := 10) (lo := (-2147483648)) (hi := 2147483647) hWF t_99 (by decide) (fun _ => rfl)
        have rg_114 : vp_in a 10 := ti_in (by omega) (by omega)
        refine py_iald G0 hw ha_112 rg_114 dX6_run_97 ?_
        refine lv_topi (fun x_115 ex_115 => ?_)
        have bx_115 := wf_free x_115
        have qx_115 := ari_ld ha_112 ex_115
        refine py_callv hw (va_runV (As := [.int x_110, .int x_115]) (rest := []) G0 (c_X6_pass l E G L_j51 f_86 H_87.size h x_110 x_115 hG hWF Th) (cwV 2 G0.2.2.2.2 g_X6_run_X6_pass_69 rfl rfl rfl (by decide +kernel) ⟨(Nat.le_of_ble_eq_true rfl), (Nat.le_of_ble_eq_true rfl)⟩) (py_preV hw (C := RX6) (T := TX6) (N := 7) rfl hr_74) rfl rfl hl.1 rfl (lv_room (Nat.le_of_ble_eq_true rfl)) dX6_run_98 ⟨(Nat.le_of_ble_eq_true rfl), (Nat.le_of_ble_eq_true rfl)⟩) (fun L_116 f_117 H_118 locs hp_119 hw => ?_)
        obtain ⟨hWF, hq_121, kp_122⟩ := hp_119
        have aq_123 := ari_kp (kp_f kp_122 t_17 (by omega) (by simp <;> omega) (fun q => absurd q (by decide))) a
        have hRP := hRP.trans hq_121
        have hKP := hKP.trans kp_122 (by decide) (by decide)
        have hr_80 := kp_at kp_122 hWF t_3 (by decide) (by decide) (by decide) hr_80
        have hr_104 := kp_at kp_122 hWF ty_78 (by decide) (by decide) (by decide) hr_104
        have tq_124 := va_eq hr_104
        have ha_107 := kp_at kp_122 hWF t_98 (by decide) (by decide) (by decide) ha_107
        have ha_112 := kp_at kp_122 hWF t_99 (by decide) (by decide) (by decide) ha_112
        obtain ⟨x_125, ex_125⟩ : ∃ y : Int32, y = v_65 + 1 := ⟨_, rfl⟩
        first | have tx_125 := ti_add ex_125 (by omega) (by omega) | skip
        refine lv_iinc (v := x_125) (lv' := [(4, .int x_125), (0, .ref h), (1, .int a), (2, .ref q), (3, .int b)]) G0.1 G0.2.1 dX6_run_101 hl (k := 0) rfl (show _ + (1 : Int32) = _ from ex_125.symm) (by decide) rfl (fun ls hl => ?_)
        refine lv_goto (tgt := 51) G0.1 G0.2.1 dX6_run_104 (by decide) ?_
        exact ih_51 ((2147483647 - x_125.toInt).toNat) (by omega) x_125 L_116 f_117 _ _ ls rfl ⟨by omega, by omega⟩ hWF hRP hKP hw (lv_sub hl [0, 1, 2, 3, 4] rfl)
  exact lo_51 _ 1 L_31 f_60 _ _ ls rfl ⟨by omega, by omega⟩ hWF hRP hKP hw (lv_sub hl [0, 1, 2, 3, 4] rfl)

def w_X6_partsAt : List Cond := .code yX6_partsAt cX6_partsAt 5 (some .long) :: ([Cond.fieldLink RX6 23 "HeadYear$Odds" "parts" "[J"] ++ (u_ws RX6 TX6 7 ++ ([])))
theorem in_X6_partsAt_X6 : ∀ w ∈ u_ws RX6 TX6 7, w ∈ w_X6_partsAt := fun _ h => List.mem_cons_of_mem _ (List.mem_append_right _ (List.mem_append_left _ h))
set_option maxHeartbeats 4000000 in
set_option maxRecDepth 100000 in
theorem c_X6_partsAt (l : Launch) (E : py_E) (G : wf_G) (L : List Nat) (f : py_F) (sz : Nat) (h : Nat) (a : Int32) (hG : GT G) (hWF : WF E G L f) (Th : G.1 h = 7) (Ba : (0 ≤ a.toInt ∧ a.toInt ≤ 7)) : Met l yX6_partsAt w_X6_partsAt ({ frames := 0, cells := 0, slots := 0, locals := 0 }) (py_Pc E [.ref h, .int a] L f sz) (py_Ql E L f sz (fun _ L1 f1 => L = L1 ∧ f = f1)) 0 0 (va_A (va_pl L f) sz) := by
  refine Met.ofW (cc := cX6_partsAt) (maxL := 5) (ret := (some .long)) (by decide) rfl ?_
  intro p e s m args below meth c s₁ B hml hv
  obtain ⟨rfl, rfl, hw⟩ := py_start hv
  have G0 : CallFix p m c cX6_partsAt 5 s _ w_X6_partsAt RX6 := ⟨B.exec, B.bytes, hml, findClass_of_methodNamed B.named, atoms_spec (ws := w_X6_partsAt) B.pre⟩
  have hr := B.returns
  have hlk := B.notSynchronized
  have kcm1 : (-1 : Int32).toInt = -1 := rfl
  have kc0 : (0 : Int32).toInt = 0 := rfl
  have kc1 : (1 : Int32).toInt = 1 := rfl
  have kc21 : (21 : Int32).toInt = 21 := rfl
  have hl := lv_entry ([.ref h, .int a]) (n := 5) (Nat.le_of_ble_eq_true rfl)
  rw [lg_entry_eq]
  generalize (lg_sl ([.ref h, .int a]) ++ List.replicate (5 - (lg_sl ([.ref h, .int a])).length) Slot.unset).toArray = ls at hl ⊢
  have hl : lv_has ls 5 [(0, .ref h), (1, .int a)] := hl
  have hRP : RP E G f f := RP.refl
  refine lv_lconst (v := 0) G0.1 G0.2.1 dX6_partsAt_0 (by decide) ?_
  refine lv_lstore_n (lv' := [(2, .long 0), (0, .ref h), (1, .int a)]) G0.1 G0.2.1 dX6_partsAt_1 rfl hl (by decide) rfl (fun ls hl => ?_)
  refine lv_iconst (v := 1) G0.1 G0.2.1 dX6_partsAt_2 (by decide) ?_
  refine lv_istore (lv' := [(4, .int 1), (2, .long 0), (0, .ref h), (1, .int a)]) G0.1 G0.2.1 dX6_partsAt_3 hl (by decide) rfl (fun ls hl => ?_)
  have lo_5 : ∀ n_5 : Nat, ∀ (v_1 : Int32) (v_2 : Int64) (H_j5 : Heap) (locs : List Loc) (ls : Array Slot), (2147483647 - v_1.toInt).toNat = n_5 → (1 ≤ v_1.toInt ∧ v_1.toInt ≤ 2147483647) → py_W E (va_A (va_pl L f) s.heap.size) s L f H_j5 locs → lv_has ls 5 [(4, .int v_1), (2, .long v_2), (0, .ref h), (1, .int a)] → W p l e (headSpec w_X6_partsAt ({ frames := 0, cells := 0, slots := 0, locals := 0 })).room s m ([.ref h, .int a] : List Value).toArray below meth c H_j5 locs 0 0 (MQ below (py_Ql E L f s.heap.size (fun _ L1 f1 => L = L1 ∧ f = f1)) ([.ref h, .int a] : List Value).toArray s 0 0 (va_A (va_pl L f) s.heap.size)) (F0 m 5 ls []) := by
    intro n_5
    induction n_5 using Nat.strongRecOn with
    | _ n_5 ih_5 =>
      intro v_1 v_2 H_j5 locs ls hn_5 bv_1 hw hl
      refine lv_iload G0.1 G0.2.1 dX6_partsAt_5 (lv_at hl 0 rfl) ?_
      refine lv_bipush (v := 21) G0.1 G0.2.1 dX6_partsAt_7 (by decide) ?_
      refine lv_icmp_ge (tgt := 33) G0.1 G0.2.1 dX6_partsAt_9 (by decide) (fun c_3 => ?_) (fun c_3 => ?_)
      · skip
        have tc_3 := ti_le c_3
        refine lv_lload_n G0.1 G0.2.1 dX6_partsAt_33 rfl (lv_at hl 1 rfl) ?_
        exact py_lret G0 hr hlk hw ⟨rfl, rfl⟩ dX6_partsAt_34
      · skip
        have tc_3 := ti_nle c_3
        refine lv_lload_n G0.1 G0.2.1 dX6_partsAt_12 rfl (lv_at hl 1 rfl) ?_
        refine lv_aload_n G0.1 G0.2.1 dX6_partsAt_13 rfl (lv_at hl 2 rfl) ?_
        obtain ⟨t_4, t_5, t_6⟩ := wt_6 hG Th
        obtain ⟨r_7, r_8, r_9, y_10, hr_14, ty_11, ty_12, ty_13⟩ := wg_6 hWF Th
        refine py_get (C := RX6) (T := TX6) (N := 7) (k := 3) (v := .ref r_7) G0 hw in_X6_partsAt_X6 rfl hr_14 (by decide) (by decide +kernel) rfl dX6_partsAt_14 ?_
        refine lv_iload_n G0.1 G0.2.1 dX6_partsAt_17 rfl (lv_at hl 3 rfl) ?_
        refine lv_bipush (v := 21) G0.1 G0.2.1 dX6_partsAt_18 (by decide) ?_
        refine lv_imul G0.1 G0.2.1 dX6_partsAt_20 ?_
        refine lv_topi (fun x_15 ex_15 => ?_)
        first | have tx_15 := ti_mulc ex_15 kc21 (by omega) (by omega) | skip
        refine lv_iload G0.1 G0.2.1 dX6_partsAt_21 (lv_at hl 0 rfl) ?_
        refine lv_iadd G0.1 G0.2.1 dX6_partsAt_23 ?_
        refine lv_topi (fun x_16 ex_16 => ?_)
        first | have tx_16 := ti_add ex_16 (by omega) (by omega) | skip
        obtain ⟨g_17, ha_18⟩ := wf_j35 hWF ty_11
        have rg_19 : vp_in x_16 168 := ti_in (by omega) (by omega)
        refine py_lald G0 hw ha_18 rg_19 dX6_partsAt_24 ?_
        refine lv_topl (fun y_20 ey_20 => ?_)
        refine lv_ladd G0.1 G0.2.1 dX6_partsAt_25 ?_
        refine lv_topl (fun y_21 ey_21 => ?_)
        refine lv_lstore_n (lv' := [(2, .long y_21), (4, .int v_1), (0, .ref h), (1, .int a)]) G0.1 G0.2.1 dX6_partsAt_26 rfl hl (by decide) rfl (fun ls hl => ?_)
        obtain ⟨x_22, ex_22⟩ : ∃ y : Int32, y = v_1 + 1 := ⟨_, rfl⟩
        first | have tx_22 := ti_add ex_22 (by omega) (by omega) | skip
        refine lv_iinc (v := x_22) (lv' := [(4, .int x_22), (2, .long y_21), (0, .ref h), (1, .int a)]) G0.1 G0.2.1 dX6_partsAt_27 hl (k := 1) rfl (show _ + (1 : Int32) = _ from ex_22.symm) (by decide) rfl (fun ls hl => ?_)
        refine lv_goto (tgt := 5) G0.1 G0.2.1 dX6_partsAt_30 (by decide) ?_
        exact ih_5 ((2147483647 - x_22.toInt).toNat) (by omega) x_22 y_21 _ _ ls rfl ⟨by omega, by omega⟩ hw (lv_sub hl [0, 1, 2, 3] rfl)
  exact lo_5 _ 1 0 _ _ ls rfl ⟨by omega, by omega⟩ hw (lv_sub hl [0, 1, 2, 3] rfl)

def w_X6_partsTimesHeads : List Cond := .code yX6_partsTimesHeads cX6_partsTimesHeads 4 (some .long) :: ([Cond.fieldLink RX6 23 "HeadYear$Odds" "parts" "[J"] ++ (u_ws RX6 TX6 7 ++ ([])))
theorem in_X6_partsTimesHeads_X6 : ∀ w ∈ u_ws RX6 TX6 7, w ∈ w_X6_partsTimesHeads := fun _ h => List.mem_cons_of_mem _ (List.mem_append_right _ (List.mem_append_left _ h))
set_option maxHeartbeats 4000000 in
set_option maxRecDepth 100000 in
theorem c_X6_partsTimesHeads (l : Launch) (E : py_E) (G : wf_G) (L : List Nat) (f : py_F) (sz : Nat) (h : Nat) (hG : GT G) (hWF : WF E G L f) (Th : G.1 h = 7) : Met l yX6_partsTimesHeads w_X6_partsTimesHeads ({ frames := 0, cells := 0, slots := 0, locals := 0 }) (py_Pc E [.ref h] L f sz) (py_Ql E L f sz (fun _ L1 f1 => L = L1 ∧ f = f1)) 0 0 (va_A (va_pl L f) sz) := by
  refine Met.ofW (cc := cX6_partsTimesHeads) (maxL := 4) (ret := (some .long)) (by decide) rfl ?_
  intro p e s m args below meth c s₁ B hml hv
  obtain ⟨rfl, rfl, hw⟩ := py_start hv
  have G0 : CallFix p m c cX6_partsTimesHeads 4 s _ w_X6_partsTimesHeads RX6 := ⟨B.exec, B.bytes, hml, findClass_of_methodNamed B.named, atoms_spec (ws := w_X6_partsTimesHeads) B.pre⟩
  have hr := B.returns
  have hlk := B.notSynchronized
  have kcm1 : (-1 : Int32).toInt = -1 := rfl
  have kc0 : (0 : Int32).toInt = 0 := rfl
  have kc1 : (1 : Int32).toInt = 1 := rfl
  have kc21 : (21 : Int32).toInt = 21 := rfl
  have kc168 : (168 : Int32).toInt = 168 := rfl
  have hl := lv_entry ([.ref h]) (n := 4) (Nat.le_of_ble_eq_true rfl)
  rw [lg_entry_eq]
  generalize (lg_sl ([.ref h]) ++ List.replicate (4 - (lg_sl ([.ref h])).length) Slot.unset).toArray = ls at hl ⊢
  have hl : lv_has ls 4 [(0, .ref h)] := hl
  have hRP : RP E G f f := RP.refl
  refine lv_lconst (v := 0) G0.1 G0.2.1 dX6_partsTimesHeads_0 (by decide) ?_
  refine lv_lstore_n (lv' := [(1, .long 0), (0, .ref h)]) G0.1 G0.2.1 dX6_partsTimesHeads_1 rfl hl (by decide) rfl (fun ls hl => ?_)
  refine lv_iconst (v := 0) G0.1 G0.2.1 dX6_partsTimesHeads_2 (by decide) ?_
  refine lv_istore_n (lv' := [(3, .int 0), (1, .long 0), (0, .ref h)]) G0.1 G0.2.1 dX6_partsTimesHeads_3 rfl hl (by decide) rfl (fun ls hl => ?_)
  have lo_4 : ∀ n_4 : Nat, ∀ (v_1 : Int32) (v_2 : Int64) (H_j4 : Heap) (locs : List Loc) (ls : Array Slot), (2147483647 - v_1.toInt).toNat = n_4 → (0 ≤ v_1.toInt ∧ v_1.toInt ≤ 2147483647) → py_W E (va_A (va_pl L f) s.heap.size) s L f H_j4 locs → lv_has ls 4 [(3, .int v_1), (1, .long v_2), (0, .ref h)] → W p l e (headSpec w_X6_partsTimesHeads ({ frames := 0, cells := 0, slots := 0, locals := 0 })).room s m ([.ref h] : List Value).toArray below meth c H_j4 locs 0 0 (MQ below (py_Ql E L f s.heap.size (fun _ L1 f1 => L = L1 ∧ f = f1)) ([.ref h] : List Value).toArray s 0 0 (va_A (va_pl L f) s.heap.size)) (F0 m 4 ls []) := by
    intro n_4
    induction n_4 using Nat.strongRecOn with
    | _ n_4 ih_4 =>
      intro v_1 v_2 H_j4 locs ls hn_4 bv_1 hw hl
      refine lv_iload_n G0.1 G0.2.1 dX6_partsTimesHeads_4 rfl (lv_at hl 0 rfl) ?_
      refine lv_aload_n G0.1 G0.2.1 dX6_partsTimesHeads_5 rfl (lv_at hl 2 rfl) ?_
      obtain ⟨t_3, t_4, t_5⟩ := wt_6 hG Th
      obtain ⟨r_6, r_7, r_8, y_9, hr_13, ty_10, ty_11, ty_12⟩ := wg_6 hWF Th
      refine py_get (C := RX6) (T := TX6) (N := 7) (k := 3) (v := .ref r_6) G0 hw in_X6_partsTimesHeads_X6 rfl hr_13 (by decide) (by decide +kernel) rfl dX6_partsTimesHeads_6 ?_
      obtain ⟨g_14, ha_15⟩ := wf_j35 hWF ty_10
      refine py_jlen (v := 168) G0 hw ha_15 rfl dX6_partsTimesHeads_9 ?_
      refine lv_icmp_ge (tgt := 34) G0.1 G0.2.1 dX6_partsTimesHeads_10 (by decide) (fun c_16 => ?_) (fun c_16 => ?_)
      · skip
        have tc_16 := ti_le c_16
        refine lv_lload_n G0.1 G0.2.1 dX6_partsTimesHeads_34 rfl (lv_at hl 1 rfl) ?_
        exact py_lret G0 hr hlk hw ⟨rfl, rfl⟩ dX6_partsTimesHeads_35
      · skip
        have tc_16 := ti_nle c_16
        refine lv_lload_n G0.1 G0.2.1 dX6_partsTimesHeads_13 rfl (lv_at hl 1 rfl) ?_
        refine lv_aload_n G0.1 G0.2.1 dX6_partsTimesHeads_14 rfl (lv_at hl 2 rfl) ?_
        refine py_get (C := RX6) (T := TX6) (N := 7) (k := 3) (v := .ref r_6) G0 hw in_X6_partsTimesHeads_X6 rfl hr_13 (by decide) (by decide +kernel) rfl dX6_partsTimesHeads_15 ?_
        refine lv_iload_n G0.1 G0.2.1 dX6_partsTimesHeads_18 rfl (lv_at hl 0 rfl) ?_
        obtain ⟨g_17, ha_18⟩ := wf_j35 hWF ty_10
        have rg_19 : vp_in v_1 168 := ti_in (by omega) (by omega)
        refine py_lald G0 hw ha_18 rg_19 dX6_partsTimesHeads_19 ?_
        refine lv_topl (fun y_20 ey_20 => ?_)
        refine lv_iload_n G0.1 G0.2.1 dX6_partsTimesHeads_20 rfl (lv_at hl 0 rfl) ?_
        refine lv_bipush (v := 21) G0.1 G0.2.1 dX6_partsTimesHeads_21 (by decide) ?_
        refine lv_irem G0.1 G0.2.1 dX6_partsTimesHeads_23 (by decide) ?_
        refine lv_topi (fun x_21 ex_21 => ?_)
        refine lv_i2l (v := x_21.toInt64) G0.1 G0.2.1 dX6_partsTimesHeads_24 rfl ?_
        refine lv_lmul G0.1 G0.2.1 dX6_partsTimesHeads_25 ?_
        refine lv_topl (fun y_22 ey_22 => ?_)
        refine lv_ladd G0.1 G0.2.1 dX6_partsTimesHeads_26 ?_
        refine lv_topl (fun y_23 ey_23 => ?_)
        refine lv_lstore_n (lv' := [(1, .long y_23), (3, .int v_1), (0, .ref h)]) G0.1 G0.2.1 dX6_partsTimesHeads_27 rfl hl (by decide) rfl (fun ls hl => ?_)
        obtain ⟨x_24, ex_24⟩ : ∃ y : Int32, y = v_1 + 1 := ⟨_, rfl⟩
        first | have tx_24 := ti_add ex_24 (by omega) (by omega) | skip
        refine lv_iinc (v := x_24) (lv' := [(3, .int x_24), (1, .long y_23), (0, .ref h)]) G0.1 G0.2.1 dX6_partsTimesHeads_28 hl (k := 1) rfl (show _ + (1 : Int32) = _ from ex_24.symm) (by decide) rfl (fun ls hl => ?_)
        refine lv_goto (tgt := 4) G0.1 G0.2.1 dX6_partsTimesHeads_31 (by decide) ?_
        exact ih_4 ((2147483647 - x_24.toInt).toNat) (by omega) x_24 y_23 _ _ ls rfl ⟨by omega, by omega⟩ hw (lv_sub hl [0, 1, 2] rfl)
  exact lo_4 _ 0 0 _ _ ls rfl ⟨by omega, by omega⟩ hw (lv_sub hl [0, 1, 2] rfl)
