theorem dX0_init_0 : decode cX0_init 0 = .ok (.aload_n 0, 1) := by decide +kernel
theorem dX0_init_1 : decode cX0_init 1 = .ok (.invokespecial 1, 3) := by decide +kernel
theorem dX0_init_4 : decode cX0_init 4 = .ok (.aload_n 0, 1) := by decide +kernel
theorem dX0_init_5 : decode cX0_init 5 = .ok (.bipush 40, 2) := by decide +kernel
theorem dX0_init_7 : decode cX0_init 7 = .ok (.newarray .int, 2) := by decide +kernel
theorem dX0_init_9 : decode cX0_init 9 = .ok (.putfield 9, 3) := by decide +kernel
theorem dX0_init_12 : decode cX0_init 12 = .ok (.aload_n 0, 1) := by decide +kernel
theorem dX0_init_13 : decode cX0_init 13 = .ok (.bipush 40, 2) := by decide +kernel
theorem dX0_init_15 : decode cX0_init 15 = .ok (.newarray .int, 2) := by decide +kernel
theorem dX0_init_17 : decode cX0_init 17 = .ok (.putfield 13, 3) := by decide +kernel
theorem dX0_init_20 : decode cX0_init 20 = .ok (.aload_n 0, 1) := by decide +kernel
theorem dX0_init_21 : decode cX0_init 21 = .ok (.bipush 40, 2) := by decide +kernel
theorem dX0_init_23 : decode cX0_init 23 = .ok (.newarray .int, 2) := by decide +kernel
theorem dX0_init_25 : decode cX0_init 25 = .ok (.putfield 16, 3) := by decide +kernel
theorem dX0_init_28 : decode cX0_init 28 = .ok (.aload_n 0, 1) := by decide +kernel
theorem dX0_init_29 : decode cX0_init 29 = .ok (.iconst 0, 1) := by decide +kernel
theorem dX0_init_30 : decode cX0_init 30 = .ok (.putfield 19, 3) := by decide +kernel
theorem dX0_init_33 : decode cX0_init 33 = .ok (.aload_n 0, 1) := by decide +kernel
theorem dX0_init_34 : decode cX0_init 34 = .ok (.bipush 10, 2) := by decide +kernel
theorem dX0_init_36 : decode cX0_init 36 = .ok (.putfield 23, 3) := by decide +kernel
theorem dX0_init_39 : decode cX0_init 39 = .ok (.return_, 1) := by decide +kernel
theorem dX10_init_0 : decode cX10_init 0 = .ok (.aload_n 0, 1) := by decide +kernel
theorem dX10_init_1 : decode cX10_init 1 = .ok (.invokespecial 3, 3) := by decide +kernel
theorem dX10_init_4 : decode cX10_init 4 = .ok (.aload_n 0, 1) := by decide +kernel
theorem dX10_init_5 : decode cX10_init 5 = .ok (.iconst 4, 1) := by decide +kernel
theorem dX10_init_6 : decode cX10_init 6 = .ok (.newarray .int, 2) := by decide +kernel
theorem dX10_init_8 : decode cX10_init 8 = .ok (.putfield 11, 3) := by decide +kernel
theorem dX10_init_11 : decode cX10_init 11 = .ok (.aload_n 0, 1) := by decide +kernel
theorem dX10_init_12 : decode cX10_init 12 = .ok (.new 15, 3) := by decide +kernel
theorem dX10_init_15 : decode cX10_init 15 = .ok (.dup, 1) := by decide +kernel
theorem dX10_init_16 : decode cX10_init 16 = .ok (.invokespecial 17, 3) := by decide +kernel
theorem dX10_init_19 : decode cX10_init 19 = .ok (.putfield 18, 3) := by decide +kernel
theorem dX10_init_22 : decode cX10_init 22 = .ok (.return_, 1) := by decide +kernel
theorem dX11_init_0 : decode cX11_init 0 = .ok (.aload_n 0, 1) := by decide +kernel
theorem dX11_init_1 : decode cX11_init 1 = .ok (.invokespecial 1, 3) := by decide +kernel
theorem dX11_init_4 : decode cX11_init 4 = .ok (.aload_n 0, 1) := by decide +kernel
theorem dX11_init_5 : decode cX11_init 5 = .ok (.new 7, 3) := by decide +kernel
theorem dX11_init_8 : decode cX11_init 8 = .ok (.dup, 1) := by decide +kernel
theorem dX11_init_9 : decode cX11_init 9 = .ok (.invokespecial 9, 3) := by decide +kernel
theorem dX11_init_12 : decode cX11_init 12 = .ok (.putfield 10, 3) := by decide +kernel
theorem dX11_init_15 : decode cX11_init 15 = .ok (.aload_n 0, 1) := by decide +kernel
theorem dX11_init_16 : decode cX11_init 16 = .ok (.new 16, 3) := by decide +kernel
theorem dX11_init_19 : decode cX11_init 19 = .ok (.dup, 1) := by decide +kernel
theorem dX11_init_20 : decode cX11_init 20 = .ok (.invokespecial 18, 3) := by decide +kernel
theorem dX11_init_23 : decode cX11_init 23 = .ok (.putfield 19, 3) := by decide +kernel
theorem dX11_init_26 : decode cX11_init 26 = .ok (.aload_n 0, 1) := by decide +kernel
theorem dX11_init_27 : decode cX11_init 27 = .ok (.new 23, 3) := by decide +kernel
theorem dX11_init_30 : decode cX11_init 30 = .ok (.dup, 1) := by decide +kernel
theorem dX11_init_31 : decode cX11_init 31 = .ok (.invokespecial 25, 3) := by decide +kernel
theorem dX11_init_34 : decode cX11_init 34 = .ok (.putfield 26, 3) := by decide +kernel
theorem dX11_init_37 : decode cX11_init 37 = .ok (.aload_n 0, 1) := by decide +kernel
theorem dX11_init_38 : decode cX11_init 38 = .ok (.iconst 4, 1) := by decide +kernel
theorem dX11_init_39 : decode cX11_init 39 = .ok (.anewarray 30, 3) := by decide +kernel
theorem dX11_init_42 : decode cX11_init 42 = .ok (.putfield 32, 3) := by decide +kernel
theorem dX11_init_45 : decode cX11_init 45 = .ok (.aload_n 0, 1) := by decide +kernel
theorem dX11_init_46 : decode cX11_init 46 = .ok (.invokestatic 36, 3) := by decide +kernel
theorem dX11_init_49 : decode cX11_init 49 = .ok (.putfield 40, 3) := by decide +kernel
theorem dX11_init_52 : decode cX11_init 52 = .ok (.aload_n 0, 1) := by decide +kernel
theorem dX11_init_53 : decode cX11_init 53 = .ok (.new 44, 3) := by decide +kernel
theorem dX11_init_56 : decode cX11_init 56 = .ok (.dup, 1) := by decide +kernel
theorem dX11_init_57 : decode cX11_init 57 = .ok (.invokespecial 46, 3) := by decide +kernel
theorem dX11_init_60 : decode cX11_init 60 = .ok (.putfield 47, 3) := by decide +kernel
theorem dX11_init_63 : decode cX11_init 63 = .ok (.aload_n 0, 1) := by decide +kernel
theorem dX11_init_64 : decode cX11_init 64 = .ok (.new 44, 3) := by decide +kernel
theorem dX11_init_67 : decode cX11_init 67 = .ok (.dup, 1) := by decide +kernel
theorem dX11_init_68 : decode cX11_init 68 = .ok (.invokespecial 46, 3) := by decide +kernel
theorem dX11_init_71 : decode cX11_init 71 = .ok (.putfield 51, 3) := by decide +kernel
theorem dX11_init_74 : decode cX11_init 74 = .ok (.aload_n 0, 1) := by decide +kernel
theorem dX11_init_75 : decode cX11_init 75 = .ok (.new 44, 3) := by decide +kernel
theorem dX11_init_78 : decode cX11_init 78 = .ok (.dup, 1) := by decide +kernel
theorem dX11_init_79 : decode cX11_init 79 = .ok (.invokespecial 46, 3) := by decide +kernel
theorem dX11_init_82 : decode cX11_init 82 = .ok (.putfield 54, 3) := by decide +kernel
theorem dX11_init_85 : decode cX11_init 85 = .ok (.aload_n 0, 1) := by decide +kernel
theorem dX11_init_86 : decode cX11_init 86 = .ok (.new 57, 3) := by decide +kernel
theorem dX11_init_89 : decode cX11_init 89 = .ok (.dup, 1) := by decide +kernel
theorem dX11_init_90 : decode cX11_init 90 = .ok (.invokespecial 59, 3) := by decide +kernel
theorem dX11_init_93 : decode cX11_init 93 = .ok (.putfield 60, 3) := by decide +kernel
theorem dX11_init_96 : decode cX11_init 96 = .ok (.aload_n 0, 1) := by decide +kernel
theorem dX11_init_97 : decode cX11_init 97 = .ok (.new 64, 3) := by decide +kernel
theorem dX11_init_100 : decode cX11_init 100 = .ok (.dup, 1) := by decide +kernel
theorem dX11_init_101 : decode cX11_init 101 = .ok (.invokespecial 66, 3) := by decide +kernel
theorem dX11_init_104 : decode cX11_init 104 = .ok (.putfield 67, 3) := by decide +kernel
theorem dX11_init_107 : decode cX11_init 107 = .ok (.aload_n 0, 1) := by decide +kernel
theorem dX11_init_108 : decode cX11_init 108 = .ok (.new 71, 3) := by decide +kernel
theorem dX11_init_111 : decode cX11_init 111 = .ok (.dup, 1) := by decide +kernel
theorem dX11_init_112 : decode cX11_init 112 = .ok (.invokespecial 73, 3) := by decide +kernel
theorem dX11_init_115 : decode cX11_init 115 = .ok (.putfield 74, 3) := by decide +kernel
theorem dX11_init_118 : decode cX11_init 118 = .ok (.aload_n 0, 1) := by decide +kernel
theorem dX11_init_119 : decode cX11_init 119 = .ok (.new 78, 3) := by decide +kernel
theorem dX11_init_122 : decode cX11_init 122 = .ok (.dup, 1) := by decide +kernel
theorem dX11_init_123 : decode cX11_init 123 = .ok (.invokespecial 80, 3) := by decide +kernel
theorem dX11_init_126 : decode cX11_init 126 = .ok (.putfield 81, 3) := by decide +kernel
theorem dX11_init_129 : decode cX11_init 129 = .ok (.aload_n 0, 1) := by decide +kernel
theorem dX11_init_130 : decode cX11_init 130 = .ok (.new 85, 3) := by decide +kernel
theorem dX11_init_133 : decode cX11_init 133 = .ok (.dup, 1) := by decide +kernel
theorem dX11_init_134 : decode cX11_init 134 = .ok (.aload_n 0, 1) := by decide +kernel
theorem dX11_init_135 : decode cX11_init 135 = .ok (.getfield 47, 3) := by decide +kernel
theorem dX11_init_138 : decode cX11_init 138 = .ok (.aload_n 0, 1) := by decide +kernel
theorem dX11_init_139 : decode cX11_init 139 = .ok (.getfield 40, 3) := by decide +kernel
theorem dX11_init_142 : decode cX11_init 142 = .ok (.invokespecial 87, 3) := by decide +kernel
theorem dX11_init_145 : decode cX11_init 145 = .ok (.putfield 90, 3) := by decide +kernel
theorem dX11_init_148 : decode cX11_init 148 = .ok (.aload_n 0, 1) := by decide +kernel
theorem dX11_init_149 : decode cX11_init 149 = .ok (.iconst 0, 1) := by decide +kernel
theorem dX11_init_150 : decode cX11_init 150 = .ok (.putfield 94, 3) := by decide +kernel
theorem dX11_init_153 : decode cX11_init 153 = .ok (.aload_n 0, 1) := by decide +kernel
theorem dX11_init_154 : decode cX11_init 154 = .ok (.iconst (-1), 1) := by decide +kernel
theorem dX11_init_155 : decode cX11_init 155 = .ok (.putfield 98, 3) := by decide +kernel
theorem dX11_init_158 : decode cX11_init 158 = .ok (.aload_n 0, 1) := by decide +kernel
theorem dX11_init_159 : decode cX11_init 159 = .ok (.iconst 0, 1) := by decide +kernel
theorem dX11_init_160 : decode cX11_init 160 = .ok (.putfield 101, 3) := by decide +kernel
theorem dX11_init_163 : decode cX11_init 163 = .ok (.return_, 1) := by decide +kernel
theorem dX1_init_0 : decode cX1_init 0 = .ok (.aload_n 0, 1) := by decide +kernel
theorem dX1_init_1 : decode cX1_init 1 = .ok (.invokespecial 5, 3) := by decide +kernel
theorem dX1_init_4 : decode cX1_init 4 = .ok (.aload_n 0, 1) := by decide +kernel
theorem dX1_init_5 : decode cX1_init 5 = .ok (.sipush 600, 3) := by decide +kernel
theorem dX1_init_8 : decode cX1_init 8 = .ok (.newarray .int, 2) := by decide +kernel
theorem dX1_init_10 : decode cX1_init 10 = .ok (.putfield 13, 3) := by decide +kernel
theorem dX1_init_13 : decode cX1_init 13 = .ok (.aload_n 0, 1) := by decide +kernel
theorem dX1_init_14 : decode cX1_init 14 = .ok (.sipush 600, 3) := by decide +kernel
theorem dX1_init_17 : decode cX1_init 17 = .ok (.newarray .int, 2) := by decide +kernel
theorem dX1_init_19 : decode cX1_init 19 = .ok (.putfield 17, 3) := by decide +kernel
theorem dX1_init_22 : decode cX1_init 22 = .ok (.aload_n 0, 1) := by decide +kernel
theorem dX1_init_23 : decode cX1_init 23 = .ok (.iconst 0, 1) := by decide +kernel
theorem dX1_init_24 : decode cX1_init 24 = .ok (.putfield 20, 3) := by decide +kernel
theorem dX1_init_27 : decode cX1_init 27 = .ok (.return_, 1) := by decide +kernel
theorem dX2_init_0 : decode cX2_init 0 = .ok (.aload_n 0, 1) := by decide +kernel
theorem dX2_init_1 : decode cX2_init 1 = .ok (.invokespecial 3, 3) := by decide +kernel
theorem dX2_init_4 : decode cX2_init 4 = .ok (.aload_n 0, 1) := by decide +kernel
theorem dX2_init_5 : decode cX2_init 5 = .ok (.bipush 10, 2) := by decide +kernel
theorem dX2_init_7 : decode cX2_init 7 = .ok (.newarray .int, 2) := by decide +kernel
theorem dX2_init_9 : decode cX2_init 9 = .ok (.putfield 11, 3) := by decide +kernel
theorem dX2_init_12 : decode cX2_init 12 = .ok (.aload_n 0, 1) := by decide +kernel
theorem dX2_init_13 : decode cX2_init 13 = .ok (.bipush 10, 2) := by decide +kernel
theorem dX2_init_15 : decode cX2_init 15 = .ok (.newarray .int, 2) := by decide +kernel
theorem dX2_init_17 : decode cX2_init 17 = .ok (.putfield 17, 3) := by decide +kernel
theorem dX2_init_20 : decode cX2_init 20 = .ok (.aload_n 0, 1) := by decide +kernel
theorem dX2_init_21 : decode cX2_init 21 = .ok (.bipush 10, 2) := by decide +kernel
theorem dX2_init_23 : decode cX2_init 23 = .ok (.newarray .int, 2) := by decide +kernel
theorem dX2_init_25 : decode cX2_init 25 = .ok (.putfield 20, 3) := by decide +kernel
theorem dX2_init_28 : decode cX2_init 28 = .ok (.aload_n 0, 1) := by decide +kernel
theorem dX2_init_29 : decode cX2_init 29 = .ok (.bipush 10, 2) := by decide +kernel
theorem dX2_init_31 : decode cX2_init 31 = .ok (.newarray .int, 2) := by decide +kernel
theorem dX2_init_33 : decode cX2_init 33 = .ok (.putfield 23, 3) := by decide +kernel
theorem dX2_init_36 : decode cX2_init 36 = .ok (.aload_n 0, 1) := by decide +kernel
theorem dX2_init_37 : decode cX2_init 37 = .ok (.bipush 10, 2) := by decide +kernel
theorem dX2_init_39 : decode cX2_init 39 = .ok (.newarray .int, 2) := by decide +kernel
theorem dX2_init_41 : decode cX2_init 41 = .ok (.putfield 26, 3) := by decide +kernel
theorem dX2_init_44 : decode cX2_init 44 = .ok (.aload_n 0, 1) := by decide +kernel
theorem dX2_init_45 : decode cX2_init 45 = .ok (.bipush 10, 2) := by decide +kernel
theorem dX2_init_47 : decode cX2_init 47 = .ok (.newarray .int, 2) := by decide +kernel
theorem dX2_init_49 : decode cX2_init 49 = .ok (.putfield 29, 3) := by decide +kernel
theorem dX2_init_52 : decode cX2_init 52 = .ok (.aload_n 0, 1) := by decide +kernel
theorem dX2_init_53 : decode cX2_init 53 = .ok (.bipush 10, 2) := by decide +kernel
theorem dX2_init_55 : decode cX2_init 55 = .ok (.newarray .int, 2) := by decide +kernel
theorem dX2_init_57 : decode cX2_init 57 = .ok (.putfield 32, 3) := by decide +kernel
theorem dX2_init_60 : decode cX2_init 60 = .ok (.aload_n 0, 1) := by decide +kernel
theorem dX2_init_61 : decode cX2_init 61 = .ok (.bipush 10, 2) := by decide +kernel
theorem dX2_init_63 : decode cX2_init 63 = .ok (.newarray .int, 2) := by decide +kernel
theorem dX2_init_65 : decode cX2_init 65 = .ok (.putfield 35, 3) := by decide +kernel
theorem dX2_init_68 : decode cX2_init 68 = .ok (.aload_n 0, 1) := by decide +kernel
theorem dX2_init_69 : decode cX2_init 69 = .ok (.bipush 10, 2) := by decide +kernel
theorem dX2_init_71 : decode cX2_init 71 = .ok (.newarray .boolean, 2) := by decide +kernel
theorem dX2_init_73 : decode cX2_init 73 = .ok (.putfield 38, 3) := by decide +kernel
theorem dX2_init_76 : decode cX2_init 76 = .ok (.aload_n 0, 1) := by decide +kernel
theorem dX2_init_77 : decode cX2_init 77 = .ok (.new 9, 3) := by decide +kernel
theorem dX2_init_80 : decode cX2_init 80 = .ok (.dup, 1) := by decide +kernel
theorem dX2_init_81 : decode cX2_init 81 = .ok (.invokespecial 42, 3) := by decide +kernel
theorem dX2_init_84 : decode cX2_init 84 = .ok (.putfield 43, 3) := by decide +kernel
theorem dX2_init_87 : decode cX2_init 87 = .ok (.aload_n 0, 1) := by decide +kernel
theorem dX2_init_88 : decode cX2_init 88 = .ok (.lconst 0, 1) := by decide +kernel
theorem dX2_init_89 : decode cX2_init 89 = .ok (.putfield 47, 3) := by decide +kernel
theorem dX2_init_92 : decode cX2_init 92 = .ok (.aload_n 0, 1) := by decide +kernel
theorem dX2_init_93 : decode cX2_init 93 = .ok (.iconst 0, 1) := by decide +kernel
theorem dX2_init_94 : decode cX2_init 94 = .ok (.putfield 51, 3) := by decide +kernel
theorem dX2_init_97 : decode cX2_init 97 = .ok (.return_, 1) := by decide +kernel
theorem dX4_init_0 : decode cX4_init 0 = .ok (.aload_n 0, 1) := by decide +kernel
theorem dX4_init_1 : decode cX4_init 1 = .ok (.invokespecial 3, 3) := by decide +kernel
theorem dX4_init_4 : decode cX4_init 4 = .ok (.aload_n 0, 1) := by decide +kernel
theorem dX4_init_5 : decode cX4_init 5 = .ok (.new 9, 3) := by decide +kernel
theorem dX4_init_8 : decode cX4_init 8 = .ok (.dup, 1) := by decide +kernel
theorem dX4_init_9 : decode cX4_init 9 = .ok (.invokespecial 11, 3) := by decide +kernel
theorem dX4_init_12 : decode cX4_init 12 = .ok (.putfield 12, 3) := by decide +kernel
theorem dX4_init_15 : decode cX4_init 15 = .ok (.return_, 1) := by decide +kernel
theorem dX5_init_0 : decode cX5_init 0 = .ok (.aload_n 0, 1) := by decide +kernel
theorem dX5_init_1 : decode cX5_init 1 = .ok (.invokespecial 3, 3) := by decide +kernel
theorem dX5_init_4 : decode cX5_init 4 = .ok (.aload_n 0, 1) := by decide +kernel
theorem dX5_init_5 : decode cX5_init 5 = .ok (.bipush 8, 2) := by decide +kernel
theorem dX5_init_7 : decode cX5_init 7 = .ok (.newarray .int, 2) := by decide +kernel
theorem dX5_init_9 : decode cX5_init 9 = .ok (.putfield 11, 3) := by decide +kernel
theorem dX5_init_12 : decode cX5_init 12 = .ok (.return_, 1) := by decide +kernel
theorem dX6_init_0 : decode cX6_init 0 = .ok (.aload_n 0, 1) := by decide +kernel
theorem dX6_init_1 : decode cX6_init 1 = .ok (.invokespecial 3, 3) := by decide +kernel
theorem dX6_init_4 : decode cX6_init 4 = .ok (.aload_n 0, 1) := by decide +kernel
theorem dX6_init_5 : decode cX6_init 5 = .ok (.bipush 6, 2) := by decide +kernel
theorem dX6_init_7 : decode cX6_init 7 = .ok (.newarray .int, 2) := by decide +kernel
theorem dX6_init_9 : decode cX6_init 9 = .ok (.putfield 11, 3) := by decide +kernel
theorem dX6_init_12 : decode cX6_init 12 = .ok (.aload_n 0, 1) := by decide +kernel
theorem dX6_init_13 : decode cX6_init 13 = .ok (.bipush 22, 2) := by decide +kernel
theorem dX6_init_15 : decode cX6_init 15 = .ok (.newarray .long, 2) := by decide +kernel
theorem dX6_init_17 : decode cX6_init 17 = .ok (.putfield 17, 3) := by decide +kernel
theorem dX6_init_20 : decode cX6_init 20 = .ok (.aload_n 0, 1) := by decide +kernel
theorem dX6_init_21 : decode cX6_init 21 = .ok (.sipush 168, 3) := by decide +kernel
theorem dX6_init_24 : decode cX6_init 24 = .ok (.newarray .long, 2) := by decide +kernel
theorem dX6_init_26 : decode cX6_init 26 = .ok (.putfield 23, 3) := by decide +kernel
theorem dX6_init_29 : decode cX6_init 29 = .ok (.aload_n 0, 1) := by decide +kernel
theorem dX6_init_30 : decode cX6_init 30 = .ok (.sipush 168, 3) := by decide +kernel
theorem dX6_init_33 : decode cX6_init 33 = .ok (.newarray .long, 2) := by decide +kernel
theorem dX6_init_35 : decode cX6_init 35 = .ok (.putfield 26, 3) := by decide +kernel
theorem dX6_init_38 : decode cX6_init 38 = .ok (.aload_n 0, 1) := by decide +kernel
theorem dX6_init_39 : decode cX6_init 39 = .ok (.lconst 0, 1) := by decide +kernel
theorem dX6_init_40 : decode cX6_init 40 = .ok (.putfield 29, 3) := by decide +kernel
theorem dX6_init_43 : decode cX6_init 43 = .ok (.aload_n 0, 1) := by decide +kernel
theorem dX6_init_44 : decode cX6_init 44 = .ok (.aload_n 1, 1) := by decide +kernel
theorem dX6_init_45 : decode cX6_init 45 = .ok (.putfield 33, 3) := by decide +kernel
theorem dX6_init_48 : decode cX6_init 48 = .ok (.aload_n 0, 1) := by decide +kernel
theorem dX6_init_49 : decode cX6_init 49 = .ok (.aload_n 2, 1) := by decide +kernel
theorem dX6_init_50 : decode cX6_init 50 = .ok (.putfield 37, 3) := by decide +kernel
theorem dX6_init_53 : decode cX6_init 53 = .ok (.return_, 1) := by decide +kernel
theorem dX7_init_0 : decode cX7_init 0 = .ok (.aload_n 0, 1) := by decide +kernel
theorem dX7_init_1 : decode cX7_init 1 = .ok (.invokespecial 3, 3) := by decide +kernel
theorem dX7_init_4 : decode cX7_init 4 = .ok (.aload_n 0, 1) := by decide +kernel
theorem dX7_init_5 : decode cX7_init 5 = .ok (.bipush 8, 2) := by decide +kernel
theorem dX7_init_7 : decode cX7_init 7 = .ok (.newarray .int, 2) := by decide +kernel
theorem dX7_init_9 : decode cX7_init 9 = .ok (.putfield 11, 3) := by decide +kernel
theorem dX7_init_12 : decode cX7_init 12 = .ok (.aload_n 0, 1) := by decide +kernel
theorem dX7_init_13 : decode cX7_init 13 = .ok (.bipush 6, 2) := by decide +kernel
theorem dX7_init_15 : decode cX7_init 15 = .ok (.newarray .int, 2) := by decide +kernel
theorem dX7_init_17 : decode cX7_init 17 = .ok (.putfield 19, 3) := by decide +kernel
theorem dX7_init_20 : decode cX7_init 20 = .ok (.aload_n 0, 1) := by decide +kernel
theorem dX7_init_21 : decode cX7_init 21 = .ok (.bipush 10, 2) := by decide +kernel
theorem dX7_init_23 : decode cX7_init 23 = .ok (.newarray .int, 2) := by decide +kernel
theorem dX7_init_25 : decode cX7_init 25 = .ok (.putfield 22, 3) := by decide +kernel
theorem dX7_init_28 : decode cX7_init 28 = .ok (.aload_n 0, 1) := by decide +kernel
theorem dX7_init_29 : decode cX7_init 29 = .ok (.bipush 50, 2) := by decide +kernel
theorem dX7_init_31 : decode cX7_init 31 = .ok (.putfield 25, 3) := by decide +kernel
theorem dX7_init_34 : decode cX7_init 34 = .ok (.aload_n 0, 1) := by decide +kernel
theorem dX7_init_35 : decode cX7_init 35 = .ok (.iconst 0, 1) := by decide +kernel
theorem dX7_init_36 : decode cX7_init 36 = .ok (.putfield 29, 3) := by decide +kernel
theorem dX7_init_39 : decode cX7_init 39 = .ok (.return_, 1) := by decide +kernel
theorem dX8_init_0 : decode cX8_init 0 = .ok (.aload_n 0, 1) := by decide +kernel
theorem dX8_init_1 : decode cX8_init 1 = .ok (.invokespecial 1, 3) := by decide +kernel
theorem dX8_init_4 : decode cX8_init 4 = .ok (.aload_n 0, 1) := by decide +kernel
theorem dX8_init_5 : decode cX8_init 5 = .ok (.sipush 160, 3) := by decide +kernel
theorem dX8_init_8 : decode cX8_init 8 = .ok (.newarray .int, 2) := by decide +kernel
theorem dX8_init_10 : decode cX8_init 10 = .ok (.putfield 9, 3) := by decide +kernel
theorem dX8_init_13 : decode cX8_init 13 = .ok (.aload_n 0, 1) := by decide +kernel
theorem dX8_init_14 : decode cX8_init 14 = .ok (.iconst 0, 1) := by decide +kernel
theorem dX8_init_15 : decode cX8_init 15 = .ok (.putfield 13, 3) := by decide +kernel
theorem dX8_init_18 : decode cX8_init 18 = .ok (.aload_n 0, 1) := by decide +kernel
theorem dX8_init_19 : decode cX8_init 19 = .ok (.iconst 0, 1) := by decide +kernel
theorem dX8_init_20 : decode cX8_init 20 = .ok (.putfield 17, 3) := by decide +kernel
theorem dX8_init_23 : decode cX8_init 23 = .ok (.aload_n 0, 1) := by decide +kernel
theorem dX8_init_24 : decode cX8_init 24 = .ok (.iconst 0, 1) := by decide +kernel
theorem dX8_init_25 : decode cX8_init 25 = .ok (.putfield 20, 3) := by decide +kernel
theorem dX8_init_28 : decode cX8_init 28 = .ok (.return_, 1) := by decide +kernel
theorem dX9_init_0 : decode cX9_init 0 = .ok (.aload_n 0, 1) := by decide +kernel
theorem dX9_init_1 : decode cX9_init 1 = .ok (.invokespecial 1, 3) := by decide +kernel
theorem dX9_init_4 : decode cX9_init 4 = .ok (.aload_n 0, 1) := by decide +kernel
theorem dX9_init_5 : decode cX9_init 5 = .ok (.bipush 8, 2) := by decide +kernel
theorem dX9_init_7 : decode cX9_init 7 = .ok (.newarray .int, 2) := by decide +kernel
theorem dX9_init_9 : decode cX9_init 9 = .ok (.putfield 9, 3) := by decide +kernel
theorem dX9_init_12 : decode cX9_init 12 = .ok (.aload_n 0, 1) := by decide +kernel
theorem dX9_init_13 : decode cX9_init 13 = .ok (.bipush 8, 2) := by decide +kernel
theorem dX9_init_15 : decode cX9_init 15 = .ok (.newarray .int, 2) := by decide +kernel
theorem dX9_init_17 : decode cX9_init 17 = .ok (.putfield 13, 3) := by decide +kernel
theorem dX9_init_20 : decode cX9_init 20 = .ok (.aload_n 0, 1) := by decide +kernel
theorem dX9_init_21 : decode cX9_init 21 = .ok (.bipush 8, 2) := by decide +kernel
theorem dX9_init_23 : decode cX9_init 23 = .ok (.newarray .int, 2) := by decide +kernel
theorem dX9_init_25 : decode cX9_init 25 = .ok (.putfield 16, 3) := by decide +kernel
theorem dX9_init_28 : decode cX9_init 28 = .ok (.aload_n 0, 1) := by decide +kernel
theorem dX9_init_29 : decode cX9_init 29 = .ok (.bipush 8, 2) := by decide +kernel
theorem dX9_init_31 : decode cX9_init 31 = .ok (.newarray .int, 2) := by decide +kernel
theorem dX9_init_33 : decode cX9_init 33 = .ok (.putfield 19, 3) := by decide +kernel
theorem dX9_init_36 : decode cX9_init 36 = .ok (.aload_n 0, 1) := by decide +kernel
theorem dX9_init_37 : decode cX9_init 37 = .ok (.bipush 10, 2) := by decide +kernel
theorem dX9_init_39 : decode cX9_init 39 = .ok (.newarray .int, 2) := by decide +kernel
theorem dX9_init_41 : decode cX9_init 41 = .ok (.putfield 22, 3) := by decide +kernel
theorem dX9_init_44 : decode cX9_init 44 = .ok (.aload_n 0, 1) := by decide +kernel
theorem dX9_init_45 : decode cX9_init 45 = .ok (.bipush 10, 2) := by decide +kernel
theorem dX9_init_47 : decode cX9_init 47 = .ok (.newarray .int, 2) := by decide +kernel
theorem dX9_init_49 : decode cX9_init 49 = .ok (.putfield 25, 3) := by decide +kernel
theorem dX9_init_52 : decode cX9_init 52 = .ok (.aload_n 0, 1) := by decide +kernel
theorem dX9_init_53 : decode cX9_init 53 = .ok (.bipush 10, 2) := by decide +kernel
theorem dX9_init_55 : decode cX9_init 55 = .ok (.newarray .int, 2) := by decide +kernel
theorem dX9_init_57 : decode cX9_init 57 = .ok (.putfield 28, 3) := by decide +kernel
theorem dX9_init_60 : decode cX9_init 60 = .ok (.aload_n 0, 1) := by decide +kernel
theorem dX9_init_61 : decode cX9_init 61 = .ok (.bipush 10, 2) := by decide +kernel
theorem dX9_init_63 : decode cX9_init 63 = .ok (.newarray .int, 2) := by decide +kernel
theorem dX9_init_65 : decode cX9_init 65 = .ok (.putfield 31, 3) := by decide +kernel
theorem dX9_init_68 : decode cX9_init 68 = .ok (.aload_n 0, 1) := by decide +kernel
theorem dX9_init_69 : decode cX9_init 69 = .ok (.iconst 0, 1) := by decide +kernel
theorem dX9_init_70 : decode cX9_init 70 = .ok (.putfield 34, 3) := by decide +kernel
theorem dX9_init_73 : decode cX9_init 73 = .ok (.aload_n 0, 1) := by decide +kernel
theorem dX9_init_74 : decode cX9_init 74 = .ok (.iconst 0, 1) := by decide +kernel
theorem dX9_init_75 : decode cX9_init 75 = .ok (.putfield 38, 3) := by decide +kernel
theorem dX9_init_78 : decode cX9_init 78 = .ok (.return_, 1) := by decide +kernel
def w_X8_init : List Cond := .code yX8_init cX8_init 1 none :: ([Cond.methodLink RX8 1 objectInit, Cond.instanceMethod objectInit, Cond.code objectInit ⟨#[0xb1]⟩ 1 none, Cond.arrayClass .int, Cond.fieldLink RX8 9 "HeadYear$Tape" "bytes" "[I", Cond.fieldLink RX8 13 "HeadYear$Tape" "length" "I", Cond.fieldLink RX8 17 "HeadYear$Tape" "at" "I", Cond.fieldLink RX8 20 "HeadYear$Tape" "number" "I"] ++ (u_ws RX8 TX8 4 ++ ([])))
theorem in_X8_init_X8 : ∀ w ∈ u_ws RX8 TX8 4, w ∈ w_X8_init := fun _ h => List.mem_cons_of_mem _ (List.mem_append_right _ (List.mem_append_left _ h))
set_option maxHeartbeats 4000000 in
set_option maxRecDepth 100000 in
theorem c_X8_init (l : Launch) (E : py_E) (G : wf_G) (L : List Nat) (f : py_F) (sz : Nat) (h : Nat) (hZ : GZ E G L f) (hh : py_at L f h (.inr (8, [.null, .int 0, .int 0, .int 0]))) (uh : G.1 h = 0) : Met l yX8_init w_X8_init ({ frames := 1, cells := 1, slots := 160, locals := 12 }) (py_Pc E [.ref h] L f sz) (py_Qv E L f sz (fun L1 f1 => ∃ G1 : wf_G, GX G G1 ∧ GZ E G1 L1 f1 ∧ G1.1 h = 9 ∧ NTR L f G h L1 f1 G1)) 1 160 (va_A (va_pl L f) sz) := by
  refine Met.ofW (cc := cX8_init) (maxL := 1) (ret := none) (by decide) rfl ?_
  intro p e s m args below meth c s₁ B hml hv
  obtain ⟨rfl, rfl, hw⟩ := py_start hv
  have G0 : CallFix p m c cX8_init 1 s _ w_X8_init RX8 := ⟨B.exec, B.bytes, hml, findClass_of_methodNamed B.named, atoms_spec (ws := w_X8_init) B.pre⟩
  have hr := B.returns
  have hlk := B.notSynchronized
  have hin : meth.name = "<init>" := (name_of_methodNamed B.named B.method).1
  have hl := lv_entry ([.ref h]) (n := 1) (Nat.le_of_ble_eq_true rfl)
  rw [lg_entry_eq]
  generalize (lg_sl ([.ref h]) ++ List.replicate (1 - (lg_sl ([.ref h])).length) Slot.unset).toArray = ls at hl ⊢
  have hl : lv_has ls 1 [(0, .ref h)] := hl
  have hT : NTR L f G h L f G := NTR.refl
  have hX : GX G G := GX.refl
  refine lv_aload_n G0.1 G0.2.1 dX8_init_0 rfl (lv_at hl 0 rfl) ?_
  refine py_objInit G0 hl.1 (by decide +kernel) (by decide +kernel) (by decide +kernel) dX8_init_1 (Nat.le_of_ble_eq_true rfl) (Nat.le_of_ble_eq_true rfl) ?_
  refine lv_aload_n G0.1 G0.2.1 dX8_init_4 rfl (lv_at hl 0 rfl) ?_
  refine lv_sipush (v := 160) G0.1 G0.2.1 dX8_init_5 (by decide) ?_
  refine py_newI (N := 160) G0 hw (by decide +kernel) (by decide) (by decide) (Nat.le_of_ble_eq_true rfl) (Nat.le_of_ble_eq_true rfl) (Nat.le_of_ble_eq_true rfl) dX8_init_8 (fun q_1 L_2 f_3 H_4 hq_5 h_6 x_7 hw => ?_)
  have u_8 := hZ.un hq_5
  have nq_9 := hT.ne hq_5
  have ne_10 : h ≠ q_1 := py_ne_new hh hq_5
  have hh := hh.all x_7
  have hZ := hZ.all x_7
  have hT := hT.all x_7
  obtain ⟨G_13, gx_11, hZ, ty_12, ee_13⟩ := hZ.arr (c := 20) (n := 160) (lo := (-2147483648)) (hi := 2147483647) u_8 (by decide) (by decide) h_6 (fun _ _ => rfl) (fun _ => rfl) (by decide) (by decide)
  have hX := hX.trans gx_11
  have uh := (ee_13 h ne_10).trans uh
  have hT := hT.ty ee_13 nq_9
  refine py_putF (C := RX8) (T := TX8) (N := 4) (k := 0) (v := .ref q_1) (fs' := [.ref q_1, .int 0, .int 0, .int 0]) (ty0 := tyX8) G0 hin hw tyX8_ok nmX8 in_X8_init_X8 rfl hh (by decide) (by decide +kernel) rfl rfl rfl rfl rfl (Nat.le_of_ble_eq_true rfl) rfl dX8_init_10 (fun f_14 H_15 locs h_16 x_17 hw => ?_)
  have hZ := hZ.unt uh x_17
  have hT := hT.ext x_17
  refine lv_aload_n G0.1 G0.2.1 dX8_init_13 rfl (lv_at hl 0 rfl) ?_
  refine lv_iconst (v := 0) G0.1 G0.2.1 dX8_init_14 (by decide) ?_
  refine py_put (C := RX8) (T := TX8) (N := 4) (k := 1) (v := .int 0) (fs' := [.ref q_1, .int 0, .int 0, .int 0]) (ty0 := tyX8) G0 hw tyX8_ok nmX8 in_X8_init_X8 rfl h_16 (by decide) (by decide +kernel) rfl rfl rfl rfl (Nat.le_of_ble_eq_true rfl) rfl dX8_init_15 (fun f_18 H_19 locs h_20 x_21 hw => ?_)
  have hZ := hZ.unt uh x_21
  have hT := hT.ext x_21
  refine lv_aload_n G0.1 G0.2.1 dX8_init_18 rfl (lv_at hl 0 rfl) ?_
  refine lv_iconst (v := 0) G0.1 G0.2.1 dX8_init_19 (by decide) ?_
  refine py_put (C := RX8) (T := TX8) (N := 4) (k := 2) (v := .int 0) (fs' := [.ref q_1, .int 0, .int 0, .int 0]) (ty0 := tyX8) G0 hw tyX8_ok nmX8 in_X8_init_X8 rfl h_20 (by decide) (by decide +kernel) rfl rfl rfl rfl (Nat.le_of_ble_eq_true rfl) rfl dX8_init_20 (fun f_22 H_23 locs h_24 x_25 hw => ?_)
  have hZ := hZ.unt uh x_25
  have hT := hT.ext x_25
  refine lv_aload_n G0.1 G0.2.1 dX8_init_23 rfl (lv_at hl 0 rfl) ?_
  refine lv_iconst (v := 0) G0.1 G0.2.1 dX8_init_24 (by decide) ?_
  refine py_put (C := RX8) (T := TX8) (N := 4) (k := 3) (v := .int 0) (fs' := [.ref q_1, .int 0, .int 0, .int 0]) (ty0 := tyX8) G0 hw tyX8_ok nmX8 in_X8_init_X8 rfl h_24 (by decide) (by decide +kernel) rfl rfl rfl rfl (Nat.le_of_ble_eq_true rfl) rfl dX8_init_25 (fun f_26 H_27 locs h_28 x_29 hw => ?_)
  have hZ := hZ.unt uh x_29
  have hT := hT.ext x_29
  obtain ⟨G_31, gx_30, hZ, hth, hrr, ee_31⟩ := hZ.ty (c := 9) (r := (fun j => match j with | 0 => q_1 | _ => 0)) uh (by decide) h_28.1 (fun G1 gg e1 hr => ⟨0, 0, 0, by rw [hr 0]; exact h_28.2, ⟨by decide, by decide⟩, ⟨by decide, by decide⟩⟩) (fun G1 gg e1 hr => (show G1.1 (G1.2 h 0) = 20 from by rw [hr 0]; exact gg.ty ty_12 (by decide))) (fun e => absurd e (by decide))
  have ty_12 := gx_30.ty ty_12 (by decide)
  have hX := hX.trans gx_30
  have hT : NTR L f G h _ _ G_31 := fun b hb hn => ⟨(hT b hb hn).1, (hT b hb hn).2.1, (ee_31 b hn).trans (hT b hb hn).2.2⟩
  exact py_vret G0 hr hlk hw ⟨G_31, hX, hZ, hth, hT⟩ dX8_init_28

def w_X9_init : List Cond := .code yX9_init cX9_init 1 none :: ([Cond.methodLink RX9 1 objectInit, Cond.instanceMethod objectInit, Cond.code objectInit ⟨#[0xb1]⟩ 1 none, Cond.arrayClass .int, Cond.fieldLink RX9 9 "HeadYear$Valley" "huts" "[I", Cond.fieldLink RX9 13 "HeadYear$Valley" "food" "[I", Cond.fieldLink RX9 16 "HeadYear$Valley" "danger" "[I", Cond.fieldLink RX9 19 "HeadYear$Valley" "brow" "[I", Cond.fieldLink RX9 22 "HeadYear$Valley" "firstHeads" "[I", Cond.fieldLink RX9 25 "HeadYear$Valley" "firstLevel" "[I", Cond.fieldLink RX9 28 "HeadYear$Valley" "birth" "[I", Cond.fieldLink RX9 31 "HeadYear$Valley" "twin" "[I", Cond.fieldLink RX9 34 "HeadYear$Valley" "levels" "I", Cond.fieldLink RX9 38 "HeadYear$Valley" "families" "I"] ++ (u_ws RX9 TX9 10 ++ ([])))
theorem in_X9_init_X9 : ∀ w ∈ u_ws RX9 TX9 10, w ∈ w_X9_init := fun _ h => List.mem_cons_of_mem _ (List.mem_append_right _ (List.mem_append_left _ h))
set_option maxHeartbeats 4000000 in
set_option maxRecDepth 100000 in
theorem c_X9_init (l : Launch) (E : py_E) (G : wf_G) (L : List Nat) (f : py_F) (sz : Nat) (h : Nat) (hZ : GZ E G L f) (hh : py_at L f h (.inr (9, [.null, .null, .null, .null, .null, .null, .null, .null, .int 0, .int 0]))) (uh : G.1 h = 0) : Met l yX9_init w_X9_init ({ frames := 1, cells := 8, slots := 72, locals := 12 }) (py_Pc E [.ref h] L f sz) (py_Qv E L f sz (fun L1 f1 => ∃ G1 : wf_G, GX G G1 ∧ GZ E G1 L1 f1 ∧ G1.1 h = 10 ∧ NTR L f G h L1 f1 G1 ∧ va_l f1 h = 0 ∧ va_f f1 h = 0)) 8 72 (va_A (va_pl L f) sz) := by
  refine Met.ofW (cc := cX9_init) (maxL := 1) (ret := none) (by decide) rfl ?_
  intro p e s m args below meth c s₁ B hml hv
  obtain ⟨rfl, rfl, hw⟩ := py_start hv
  have G0 : CallFix p m c cX9_init 1 s _ w_X9_init RX9 := ⟨B.exec, B.bytes, hml, findClass_of_methodNamed B.named, atoms_spec (ws := w_X9_init) B.pre⟩
  have hr := B.returns
  have hlk := B.notSynchronized
  have hin : meth.name = "<init>" := (name_of_methodNamed B.named B.method).1
  have hl := lv_entry ([.ref h]) (n := 1) (Nat.le_of_ble_eq_true rfl)
  rw [lg_entry_eq]
  generalize (lg_sl ([.ref h]) ++ List.replicate (1 - (lg_sl ([.ref h])).length) Slot.unset).toArray = ls at hl ⊢
  have hl : lv_has ls 1 [(0, .ref h)] := hl
  have hT : NTR L f G h L f G := NTR.refl
  have hX : GX G G := GX.refl
  refine lv_aload_n G0.1 G0.2.1 dX9_init_0 rfl (lv_at hl 0 rfl) ?_
  refine py_objInit G0 hl.1 (by decide +kernel) (by decide +kernel) (by decide +kernel) dX9_init_1 (Nat.le_of_ble_eq_true rfl) (Nat.le_of_ble_eq_true rfl) ?_
  refine lv_aload_n G0.1 G0.2.1 dX9_init_4 rfl (lv_at hl 0 rfl) ?_
  refine lv_bipush (v := 8) G0.1 G0.2.1 dX9_init_5 (by decide) ?_
  refine py_newI (N := 8) G0 hw (by decide +kernel) (by decide) (by decide) (Nat.le_of_ble_eq_true rfl) (Nat.le_of_ble_eq_true rfl) (Nat.le_of_ble_eq_true rfl) dX9_init_7 (fun q_1 L_2 f_3 H_4 hq_5 h_6 x_7 hw => ?_)
  have u_8 := hZ.un hq_5
  have nq_9 := hT.ne hq_5
  have ne_10 : h ≠ q_1 := py_ne_new hh hq_5
  have hh := hh.all x_7
  have hZ := hZ.all x_7
  have hT := hT.all x_7
  obtain ⟨G_13, gx_11, hZ, ty_12, ee_13⟩ := hZ.arr (c := 24) (n := 8) (lo := (-2147483648)) (hi := 2147483647) u_8 (by decide) (by decide) h_6 (fun _ _ => rfl) (fun _ => rfl) (by decide) (by decide)
  have hX := hX.trans gx_11
  have uh := (ee_13 h ne_10).trans uh
  have hT := hT.ty ee_13 nq_9
  refine py_putF (C := RX9) (T := TX9) (N := 10) (k := 0) (v := .ref q_1) (fs' := [.ref q_1, .null, .null, .null, .null, .null, .null, .null, .int 0, .int 0]) (ty0 := tyX9) G0 hin hw tyX9_ok nmX9 in_X9_init_X9 rfl hh (by decide) (by decide +kernel) rfl rfl rfl rfl rfl (Nat.le_of_ble_eq_true rfl) rfl dX9_init_9 (fun f_14 H_15 locs h_16 x_17 hw => ?_)
  have hZ := hZ.unt uh x_17
  have hT := hT.ext x_17
  refine lv_aload_n G0.1 G0.2.1 dX9_init_12 rfl (lv_at hl 0 rfl) ?_
  refine lv_bipush (v := 8) G0.1 G0.2.1 dX9_init_13 (by decide) ?_
  refine py_newI (N := 8) G0 hw (by decide +kernel) (by decide) (by decide) (Nat.le_of_ble_eq_true rfl) (Nat.le_of_ble_eq_true rfl) (Nat.le_of_ble_eq_true rfl) dX9_init_15 (fun q_18 L_19 f_20 H_21 hq_22 h_23 x_24 hw => ?_)
  have u_25 := hZ.un hq_22
  have nq_26 := hT.ne hq_22
  have ne_27 : h ≠ q_18 := py_ne_new h_16 hq_22
  have h_16 := h_16.all x_24
  have hZ := hZ.all x_24
  have hT := hT.all x_24
  obtain ⟨G_30, gx_28, hZ, ty_29, ee_30⟩ := hZ.arr (c := 24) (n := 8) (lo := (-2147483648)) (hi := 2147483647) u_25 (by decide) (by decide) h_23 (fun _ _ => rfl) (fun _ => rfl) (by decide) (by decide)
  have ty_12 := gx_28.ty ty_12 (by decide)
  have hX := hX.trans gx_28
  have uh := (ee_30 h ne_27).trans uh
  have hT := hT.ty ee_30 nq_26
  refine py_putF (C := RX9) (T := TX9) (N := 10) (k := 1) (v := .ref q_18) (fs' := [.ref q_1, .ref q_18, .null, .null, .null, .null, .null, .null, .int 0, .int 0]) (ty0 := tyX9) G0 hin hw tyX9_ok nmX9 in_X9_init_X9 rfl h_16 (by decide) (by decide +kernel) rfl rfl rfl rfl rfl (Nat.le_of_ble_eq_true rfl) rfl dX9_init_17 (fun f_31 H_32 locs h_33 x_34 hw => ?_)
  have hZ := hZ.unt uh x_34
  have hT := hT.ext x_34
  refine lv_aload_n G0.1 G0.2.1 dX9_init_20 rfl (lv_at hl 0 rfl) ?_
  refine lv_bipush (v := 8) G0.1 G0.2.1 dX9_init_21 (by decide) ?_
  refine py_newI (N := 8) G0 hw (by decide +kernel) (by decide) (by decide) (Nat.le_of_ble_eq_true rfl) (Nat.le_of_ble_eq_true rfl) (Nat.le_of_ble_eq_true rfl) dX9_init_23 (fun q_35 L_36 f_37 H_38 hq_39 h_40 x_41 hw => ?_)
  have u_42 := hZ.un hq_39
  have nq_43 := hT.ne hq_39
  have ne_44 : h ≠ q_35 := py_ne_new h_33 hq_39
  have h_33 := h_33.all x_41
  have hZ := hZ.all x_41
  have hT := hT.all x_41
  obtain ⟨G_47, gx_45, hZ, ty_46, ee_47⟩ := hZ.arr (c := 24) (n := 8) (lo := (-2147483648)) (hi := 2147483647) u_42 (by decide) (by decide) h_40 (fun _ _ => rfl) (fun _ => rfl) (by decide) (by decide)
  have ty_12 := gx_45.ty ty_12 (by decide)
  have ty_29 := gx_45.ty ty_29 (by decide)
  have hX := hX.trans gx_45
  have uh := (ee_47 h ne_44).trans uh
  have hT := hT.ty ee_47 nq_43
  refine py_putF (C := RX9) (T := TX9) (N := 10) (k := 2) (v := .ref q_35) (fs' := [.ref q_1, .ref q_18, .ref q_35, .null, .null, .null, .null, .null, .int 0, .int 0]) (ty0 := tyX9) G0 hin hw tyX9_ok nmX9 in_X9_init_X9 rfl h_33 (by decide) (by decide +kernel) rfl rfl rfl rfl rfl (Nat.le_of_ble_eq_true rfl) rfl dX9_init_25 (fun f_48 H_49 locs h_50 x_51 hw => ?_)
  have hZ := hZ.unt uh x_51
  have hT := hT.ext x_51
  refine lv_aload_n G0.1 G0.2.1 dX9_init_28 rfl (lv_at hl 0 rfl) ?_
  refine lv_bipush (v := 8) G0.1 G0.2.1 dX9_init_29 (by decide) ?_
  refine py_newI (N := 8) G0 hw (by decide +kernel) (by decide) (by decide) (Nat.le_of_ble_eq_true rfl) (Nat.le_of_ble_eq_true rfl) (Nat.le_of_ble_eq_true rfl) dX9_init_31 (fun q_52 L_53 f_54 H_55 hq_56 h_57 x_58 hw => ?_)
  have u_59 := hZ.un hq_56
  have nq_60 := hT.ne hq_56
  have ne_61 : h ≠ q_52 := py_ne_new h_50 hq_56
  have h_50 := h_50.all x_58
  have hZ := hZ.all x_58
  have hT := hT.all x_58
  obtain ⟨G_64, gx_62, hZ, ty_63, ee_64⟩ := hZ.arr (c := 24) (n := 8) (lo := (-2147483648)) (hi := 2147483647) u_59 (by decide) (by decide) h_57 (fun _ _ => rfl) (fun _ => rfl) (by decide) (by decide)
  have ty_12 := gx_62.ty ty_12 (by decide)
  have ty_29 := gx_62.ty ty_29 (by decide)
  have ty_46 := gx_62.ty ty_46 (by decide)
  have hX := hX.trans gx_62
  have uh := (ee_64 h ne_61).trans uh
  have hT := hT.ty ee_64 nq_60
  refine py_putF (C := RX9) (T := TX9) (N := 10) (k := 3) (v := .ref q_52) (fs' := [.ref q_1, .ref q_18, .ref q_35, .ref q_52, .null, .null, .null, .null, .int 0, .int 0]) (ty0 := tyX9) G0 hin hw tyX9_ok nmX9 in_X9_init_X9 rfl h_50 (by decide) (by decide +kernel) rfl rfl rfl rfl rfl (Nat.le_of_ble_eq_true rfl) rfl dX9_init_33 (fun f_65 H_66 locs h_67 x_68 hw => ?_)
  have hZ := hZ.unt uh x_68
  have hT := hT.ext x_68
  refine lv_aload_n G0.1 G0.2.1 dX9_init_36 rfl (lv_at hl 0 rfl) ?_
  refine lv_bipush (v := 10) G0.1 G0.2.1 dX9_init_37 (by decide) ?_
  refine py_newI (N := 10) G0 hw (by decide +kernel) (by decide) (by decide) (Nat.le_of_ble_eq_true rfl) (Nat.le_of_ble_eq_true rfl) (Nat.le_of_ble_eq_true rfl) dX9_init_39 (fun q_69 L_70 f_71 H_72 hq_73 h_74 x_75 hw => ?_)
  have u_76 := hZ.un hq_73
  have nq_77 := hT.ne hq_73
  have ne_78 : h ≠ q_69 := py_ne_new h_67 hq_73
  have h_67 := h_67.all x_75
  have hZ := hZ.all x_75
  have hT := hT.all x_75
  obtain ⟨G_81, gx_79, hZ, ty_80, ee_81⟩ := hZ.arr (c := 27) (n := 10) (lo := 0) (hi := 20) u_76 (by decide) (by decide) h_74 (fun _ _ => rfl) (fun _ => rfl) (by decide) (by decide)
  have ty_12 := gx_79.ty ty_12 (by decide)
  have ty_29 := gx_79.ty ty_29 (by decide)
  have ty_46 := gx_79.ty ty_46 (by decide)
  have ty_63 := gx_79.ty ty_63 (by decide)
  have hX := hX.trans gx_79
  have uh := (ee_81 h ne_78).trans uh
  have hT := hT.ty ee_81 nq_77
  refine py_putF (C := RX9) (T := TX9) (N := 10) (k := 4) (v := .ref q_69) (fs' := [.ref q_1, .ref q_18, .ref q_35, .ref q_52, .ref q_69, .null, .null, .null, .int 0, .int 0]) (ty0 := tyX9) G0 hin hw tyX9_ok nmX9 in_X9_init_X9 rfl h_67 (by decide) (by decide +kernel) rfl rfl rfl rfl rfl (Nat.le_of_ble_eq_true rfl) rfl dX9_init_41 (fun f_82 H_83 locs h_84 x_85 hw => ?_)
  have hZ := hZ.unt uh x_85
  have hT := hT.ext x_85
  refine lv_aload_n G0.1 G0.2.1 dX9_init_44 rfl (lv_at hl 0 rfl) ?_
  refine lv_bipush (v := 10) G0.1 G0.2.1 dX9_init_45 (by decide) ?_
  refine py_newI (N := 10) G0 hw (by decide +kernel) (by decide) (by decide) (Nat.le_of_ble_eq_true rfl) (Nat.le_of_ble_eq_true rfl) (Nat.le_of_ble_eq_true rfl) dX9_init_47 (fun q_86 L_87 f_88 H_89 hq_90 h_91 x_92 hw => ?_)
  have u_93 := hZ.un hq_90
  have nq_94 := hT.ne hq_90
  have ne_95 : h ≠ q_86 := py_ne_new h_84 hq_90
  have h_84 := h_84.all x_92
  have hZ := hZ.all x_92
  have hT := hT.all x_92
  obtain ⟨G_98, gx_96, hZ, ty_97, ee_98⟩ := hZ.arr (c := 25) (n := 10) (lo := 0) (hi := 7) u_93 (by decide) (by decide) h_91 (fun _ _ => rfl) (fun _ => rfl) (by decide) (by decide)
  have ty_12 := gx_96.ty ty_12 (by decide)
  have ty_29 := gx_96.ty ty_29 (by decide)
  have ty_46 := gx_96.ty ty_46 (by decide)
  have ty_63 := gx_96.ty ty_63 (by decide)
  have ty_80 := gx_96.ty ty_80 (by decide)
  have hX := hX.trans gx_96
  have uh := (ee_98 h ne_95).trans uh
  have hT := hT.ty ee_98 nq_94
  refine py_putF (C := RX9) (T := TX9) (N := 10) (k := 5) (v := .ref q_86) (fs' := [.ref q_1, .ref q_18, .ref q_35, .ref q_52, .ref q_69, .ref q_86, .null, .null, .int 0, .int 0]) (ty0 := tyX9) G0 hin hw tyX9_ok nmX9 in_X9_init_X9 rfl h_84 (by decide) (by decide +kernel) rfl rfl rfl rfl rfl (Nat.le_of_ble_eq_true rfl) rfl dX9_init_49 (fun f_99 H_100 locs h_101 x_102 hw => ?_)
  have hZ := hZ.unt uh x_102
  have hT := hT.ext x_102
  refine lv_aload_n G0.1 G0.2.1 dX9_init_52 rfl (lv_at hl 0 rfl) ?_
  refine lv_bipush (v := 10) G0.1 G0.2.1 dX9_init_53 (by decide) ?_
  refine py_newI (N := 10) G0 hw (by decide +kernel) (by decide) (by decide) (Nat.le_of_ble_eq_true rfl) (Nat.le_of_ble_eq_true rfl) (Nat.le_of_ble_eq_true rfl) dX9_init_55 (fun q_103 L_104 f_105 H_106 hq_107 h_108 x_109 hw => ?_)
  have u_110 := hZ.un hq_107
  have nq_111 := hT.ne hq_107
  have ne_112 : h ≠ q_103 := py_ne_new h_101 hq_107
  have h_101 := h_101.all x_109
  have hZ := hZ.all x_109
  have hT := hT.all x_109
  obtain ⟨G_115, gx_113, hZ, ty_114, ee_115⟩ := hZ.arr (c := 26) (n := 10) (lo := (-2147483648)) (hi := 2147483647) u_110 (by decide) (by decide) h_108 (fun _ _ => rfl) (fun _ => rfl) (by decide) (by decide)
  have ty_12 := gx_113.ty ty_12 (by decide)
  have ty_29 := gx_113.ty ty_29 (by decide)
  have ty_46 := gx_113.ty ty_46 (by decide)
  have ty_63 := gx_113.ty ty_63 (by decide)
  have ty_80 := gx_113.ty ty_80 (by decide)
  have ty_97 := gx_113.ty ty_97 (by decide)
  have hX := hX.trans gx_113
  have uh := (ee_115 h ne_112).trans uh
  have hT := hT.ty ee_115 nq_111
  refine py_putF (C := RX9) (T := TX9) (N := 10) (k := 6) (v := .ref q_103) (fs' := [.ref q_1, .ref q_18, .ref q_35, .ref q_52, .ref q_69, .ref q_86, .ref q_103, .null, .int 0, .int 0]) (ty0 := tyX9) G0 hin hw tyX9_ok nmX9 in_X9_init_X9 rfl h_101 (by decide) (by decide +kernel) rfl rfl rfl rfl rfl (Nat.le_of_ble_eq_true rfl) rfl dX9_init_57 (fun f_116 H_117 locs h_118 x_119 hw => ?_)
  have hZ := hZ.unt uh x_119
  have hT := hT.ext x_119
  refine lv_aload_n G0.1 G0.2.1 dX9_init_60 rfl (lv_at hl 0 rfl) ?_
  refine lv_bipush (v := 10) G0.1 G0.2.1 dX9_init_61 (by decide) ?_
  refine py_newI (N := 10) G0 hw (by decide +kernel) (by decide) (by decide) (Nat.le_of_ble_eq_true rfl) (Nat.le_of_ble_eq_true rfl) (Nat.le_of_ble_eq_true rfl) dX9_init_63 (fun q_120 L_121 f_122 H_123 hq_124 h_125 x_126 hw => ?_)
  have u_127 := hZ.un hq_124
  have nq_128 := hT.ne hq_124
  have ne_129 : h ≠ q_120 := py_ne_new h_118 hq_124
  have h_118 := h_118.all x_126
  have hZ := hZ.all x_126
  have hT := hT.all x_126
  obtain ⟨G_132, gx_130, hZ, ty_131, ee_132⟩ := hZ.arr (c := 26) (n := 10) (lo := (-2147483648)) (hi := 2147483647) u_127 (by decide) (by decide) h_125 (fun _ _ => rfl) (fun _ => rfl) (by decide) (by decide)
  have ty_12 := gx_130.ty ty_12 (by decide)
  have ty_29 := gx_130.ty ty_29 (by decide)
  have ty_46 := gx_130.ty ty_46 (by decide)
  have ty_63 := gx_130.ty ty_63 (by decide)
  have ty_80 := gx_130.ty ty_80 (by decide)
  have ty_97 := gx_130.ty ty_97 (by decide)
  have ty_114 := gx_130.ty ty_114 (by decide)
  have hX := hX.trans gx_130
  have uh := (ee_132 h ne_129).trans uh
  have hT := hT.ty ee_132 nq_128
  refine py_putF (C := RX9) (T := TX9) (N := 10) (k := 7) (v := .ref q_120) (fs' := [.ref q_1, .ref q_18, .ref q_35, .ref q_52, .ref q_69, .ref q_86, .ref q_103, .ref q_120, .int 0, .int 0]) (ty0 := tyX9) G0 hin hw tyX9_ok nmX9 in_X9_init_X9 rfl h_118 (by decide) (by decide +kernel) rfl rfl rfl rfl rfl (Nat.le_of_ble_eq_true rfl) rfl dX9_init_65 (fun f_133 H_134 locs h_135 x_136 hw => ?_)
  have hZ := hZ.unt uh x_136
  have hT := hT.ext x_136
  refine lv_aload_n G0.1 G0.2.1 dX9_init_68 rfl (lv_at hl 0 rfl) ?_
  refine lv_iconst (v := 0) G0.1 G0.2.1 dX9_init_69 (by decide) ?_
  refine py_put (C := RX9) (T := TX9) (N := 10) (k := 8) (v := .int 0) (fs' := [.ref q_1, .ref q_18, .ref q_35, .ref q_52, .ref q_69, .ref q_86, .ref q_103, .ref q_120, .int 0, .int 0]) (ty0 := tyX9) G0 hw tyX9_ok nmX9 in_X9_init_X9 rfl h_135 (by decide) (by decide +kernel) rfl rfl rfl rfl (Nat.le_of_ble_eq_true rfl) rfl dX9_init_70 (fun f_137 H_138 locs h_139 x_140 hw => ?_)
  have hZ := hZ.unt uh x_140
  have hT := hT.ext x_140
  refine lv_aload_n G0.1 G0.2.1 dX9_init_73 rfl (lv_at hl 0 rfl) ?_
  refine lv_iconst (v := 0) G0.1 G0.2.1 dX9_init_74 (by decide) ?_
  refine py_put (C := RX9) (T := TX9) (N := 10) (k := 9) (v := .int 0) (fs' := [.ref q_1, .ref q_18, .ref q_35, .ref q_52, .ref q_69, .ref q_86, .ref q_103, .ref q_120, .int 0, .int 0]) (ty0 := tyX9) G0 hw tyX9_ok nmX9 in_X9_init_X9 rfl h_139 (by decide) (by decide +kernel) rfl rfl rfl rfl (Nat.le_of_ble_eq_true rfl) rfl dX9_init_75 (fun f_141 H_142 locs h_143 x_144 hw => ?_)
  have hZ := hZ.unt uh x_144
  have hT := hT.ext x_144
  obtain ⟨G_146, gx_145, hZ, hth, hrr, ee_146⟩ := hZ.ty (c := 10) (r := (fun j => match j with | 0 => q_1 | 1 => q_18 | 2 => q_35 | 3 => q_52 | 4 => q_69 | 5 => q_86 | 6 => q_103 | 7 => q_120 | _ => 0)) uh (by decide) h_143.1 (fun G1 gg e1 hr => ⟨0, 0, by rw [hr 0, hr 1, hr 2, hr 3, hr 4, hr 5, hr 6, hr 7]; exact h_143.2, ⟨by decide, by decide⟩, ⟨by decide, by decide⟩⟩) (fun G1 gg e1 hr => ⟨by rw [hr 0]; exact gg.ty ty_12 (by decide), by rw [hr 1]; exact gg.ty ty_29 (by decide), by rw [hr 2]; exact gg.ty ty_46 (by decide), by rw [hr 3]; exact gg.ty ty_63 (by decide), by rw [hr 4]; exact gg.ty ty_80 (by decide), by rw [hr 5]; exact gg.ty ty_97 (by decide), by rw [hr 6]; exact gg.ty ty_114 (by decide), by rw [hr 7]; exact gg.ty ty_131 (by decide)⟩) (fun e => absurd e (by decide))
  have ty_12 := gx_145.ty ty_12 (by decide)
  have ty_29 := gx_145.ty ty_29 (by decide)
  have ty_46 := gx_145.ty ty_46 (by decide)
  have ty_63 := gx_145.ty ty_63 (by decide)
  have ty_80 := gx_145.ty ty_80 (by decide)
  have ty_97 := gx_145.ty ty_97 (by decide)
  have ty_114 := gx_145.ty ty_114 (by decide)
  have ty_131 := gx_145.ty ty_131 (by decide)
  have hX := hX.trans gx_145
  have hT : NTR L f G h _ _ G_146 := fun b hb hn => ⟨(hT b hb hn).1, (hT b hb hn).2.1, (ee_146 b hn).trans (hT b hb hn).2.2⟩
  exact py_vret G0 hr hlk hw ⟨G_146, hX, hZ, hth, hT, (va_eq h_143)⟩ dX9_init_78

def w_X10_init : List Cond := .code yX10_init cX10_init 1 none :: ([Cond.methodLink RX10 3 objectInit, Cond.instanceMethod objectInit, Cond.code objectInit ⟨#[0xb1]⟩ 1 none, Cond.arrayClass .int, Cond.fieldLink RX10 11 "HeadYear$ValleyReader" "items" "[I", Cond.classLink RX10 15 RX9, Cond.instantiable RX9 10, Cond.initialized RX9, Cond.instanceMethod yX9_init, Cond.fieldLink RX10 18 "HeadYear$ValleyReader" "draft" "LHeadYear$Valley;"] ++ (u_ws RX10 TX10 2 ++ (u_ws RX9 TX9 10 ++ (w_X9_init ++ ([])))))
theorem in_X10_init_X10 : ∀ w ∈ u_ws RX10 TX10 2, w ∈ w_X10_init := fun _ h => List.mem_cons_of_mem _ (List.mem_append_right _ (List.mem_append_left _ h))
theorem in_X10_init_X9 : ∀ w ∈ u_ws RX9 TX9 10, w ∈ w_X10_init := fun _ h => List.mem_cons_of_mem _ (List.mem_append_right _ (List.mem_append_right _ (List.mem_append_left _ h)))
theorem gg_X10_init_X9_init : GoodIn w_X10_init w_X9_init := goodIn_sub (fun _ h => List.mem_cons_of_mem _ (List.mem_append_right _ (List.mem_append_right _ (List.mem_append_right _ (List.mem_append_left _ h))))) (by decide +kernel)
theorem g_X10_init_X9_init_17 : GoodIn w_X10_init w_X9_init := gg_X10_init_X9_init
set_option maxHeartbeats 4000000 in
set_option maxRecDepth 100000 in
theorem c_X10_init (l : Launch) (E : py_E) (G : wf_G) (L : List Nat) (f : py_F) (sz : Nat) (h : Nat) (hZ : GZ E G L f) (hh : py_at L f h (.inr (10, [.null, .null]))) (uh : G.1 h = 0) : Met l yX10_init w_X10_init ({ frames := 2, cells := 10, slots := 86, locals := 32 }) (py_Pc E [.ref h] L f sz) (py_Qv E L f sz (fun L1 f1 => ∃ G1 : wf_G, GX G G1 ∧ GZ E G1 L1 f1 ∧ G1.1 h = 11 ∧ NTR L f G h L1 f1 G1 ∧ ∃ D : Nat, D ∉ L ∧ D ∈ L1 ∧ dr_v (f1 h) = D)) 10 86 (va_A (va_pl L f) sz) := by
  refine Met.ofW (cc := cX10_init) (maxL := 1) (ret := none) (by decide) rfl ?_
  intro p e s m args below meth c s₁ B hml hv
  obtain ⟨rfl, rfl, hw⟩ := py_start hv
  have G0 : CallFix p m c cX10_init 1 s _ w_X10_init RX10 := ⟨B.exec, B.bytes, hml, findClass_of_methodNamed B.named, atoms_spec (ws := w_X10_init) B.pre⟩
  have hr := B.returns
  have hlk := B.notSynchronized
  have hin : meth.name = "<init>" := (name_of_methodNamed B.named B.method).1
  have hl := lv_entry ([.ref h]) (n := 1) (Nat.le_of_ble_eq_true rfl)
  rw [lg_entry_eq]
  generalize (lg_sl ([.ref h]) ++ List.replicate (1 - (lg_sl ([.ref h])).length) Slot.unset).toArray = ls at hl ⊢
  have hl : lv_has ls 1 [(0, .ref h)] := hl
  have hT : NTR L f G h L f G := NTR.refl
  have hX : GX G G := GX.refl
  refine lv_aload_n G0.1 G0.2.1 dX10_init_0 rfl (lv_at hl 0 rfl) ?_
  refine py_objInit G0 hl.1 (by decide +kernel) (by decide +kernel) (by decide +kernel) dX10_init_1 (Nat.le_of_ble_eq_true rfl) (Nat.le_of_ble_eq_true rfl) ?_
  refine lv_aload_n G0.1 G0.2.1 dX10_init_4 rfl (lv_at hl 0 rfl) ?_
  refine lv_iconst (v := 4) G0.1 G0.2.1 dX10_init_5 (by decide) ?_
  refine py_newI (N := 4) G0 hw (by decide +kernel) (by decide) (by decide) (Nat.le_of_ble_eq_true rfl) (Nat.le_of_ble_eq_true rfl) (Nat.le_of_ble_eq_true rfl) dX10_init_6 (fun q_1 L_2 f_3 H_4 hq_5 h_6 x_7 hw => ?_)
  have u_8 := hZ.un hq_5
  have nq_9 := hT.ne hq_5
  have ne_10 : h ≠ q_1 := py_ne_new hh hq_5
  have hh := hh.all x_7
  have hZ := hZ.all x_7
  have hT := hT.all x_7
  obtain ⟨G_13, gx_11, hZ, ty_12, ee_13⟩ := hZ.arr (c := 36) (n := 4) (lo := (-2147483648)) (hi := 2147483647) u_8 (by decide) (by decide) h_6 (fun _ _ => rfl) (fun _ => rfl) (by decide) (by decide)
  have hX := hX.trans gx_11
  have uh := (ee_13 h ne_10).trans uh
  have hT := hT.ty ee_13 nq_9
  refine py_putF (C := RX10) (T := TX10) (N := 2) (k := 0) (v := .ref q_1) (fs' := [.ref q_1, .null]) (ty0 := tyX10) G0 hin hw tyX10_ok nmX10 in_X10_init_X10 rfl hh (by decide) (by decide +kernel) rfl rfl rfl rfl rfl (Nat.le_of_ble_eq_true rfl) rfl dX10_init_8 (fun f_14 H_15 locs h_16 x_17 hw => ?_)
  have hZ := hZ.unt uh x_17
  have hT := hT.ext x_17
  refine lv_aload_n G0.1 G0.2.1 dX10_init_11 rfl (lv_at hl 0 rfl) ?_
  refine py_new (C := RX9) (T := TX9) (N := 10) (ci := 9) (fs := [.null, .null, .null, .null, .null, .null, .null, .null, .int 0, .int 0]) (ty0 := tyX9) G0 hw tyX9_ok in_X10_init_X9 rfl (by decide +kernel) (by decide +kernel) (by decide +kernel) (fun j hj => match j, hj with | 0, _ => rfl | 1, _ => rfl | 2, _ => rfl | 3, _ => rfl | 4, _ => rfl | 5, _ => rfl | 6, _ => rfl | 7, _ => rfl | 8, _ => rfl | 9, _ => rfl | n + 10, h => absurd h (by omega)) (Nat.le_of_ble_eq_true rfl) (Nat.le_of_ble_eq_true rfl) dX10_init_12 (fun q_18 L_19 f_20 H_21 hq_22 h_23 x_24 hw => ?_)
  have u_25 := hZ.un hq_22
  have nq_26 := hT.ne hq_22
  have ne_27 : h ≠ q_18 := py_ne_new h_16 hq_22
  have h_16 := h_16.all x_24
  have hZ := hZ.all x_24
  have hT := hT.all x_24
  refine lv_dup G0.1 G0.2.1 dX10_init_15 rfl ?_
  refine py_callv hw (va_runIN (As := []) (rest := [.ref q_18, .ref h]) G0 (c_X9_init l E G_13 L_19 f_20 H_21.size q_18 hZ h_23 u_25) ⟨va_cnB 0 G0.2.2.2.2 g_X10_init_X9_init_17 rfl rfl rfl (hw.1.2.2 (RX10, 17, yX9_init) (List.mem_of_getElem? (i := 2) rfl)) (G0.2.2.2.2 (Cond.initialized RX9) (by decide +kernel)) (by decide +kernel) ⟨(Nat.le_of_ble_eq_true rfl), (Nat.le_of_ble_eq_true rfl)⟩, rfl, G0.2.2.2.2 (Cond.instanceMethod yX9_init) (by decide +kernel)⟩ (py_preS hw) rfl rfl hl.1 rfl (lv_room (Nat.le_of_ble_eq_true rfl)) dX10_init_16 ⟨(Nat.le_of_ble_eq_true rfl), (Nat.le_of_ble_eq_true rfl)⟩) (fun L_28 f_29 H_30 locs hp_31 hw => ?_)
  obtain ⟨G_35, gx_33, hZ, ty_34, nt_35, hv_36⟩ := hp_31
  have ty_12 := gx_33.ty ty_12 (by decide)
  have hX := hX.trans gx_33
  have u_z := (nt_35 h h_16.1 ne_27).2.2
  have h_16 := nt_35.at h_16 ne_27
  have uh := u_z.trans uh
  have hT := hT.sub nt_35 nq_26
  refine py_put (C := RX10) (T := TX10) (N := 2) (k := 1) (v := .ref q_18) (fs' := [.ref q_1, .ref q_18]) (ty0 := tyX10) G0 hw tyX10_ok nmX10 in_X10_init_X10 rfl h_16 (by decide) (by decide +kernel) rfl rfl rfl rfl (Nat.le_of_ble_eq_true rfl) rfl dX10_init_19 (fun f_37 H_38 locs h_39 x_40 hw => ?_)
  have hZ := hZ.unt uh x_40
  have hT := hT.ext x_40
  obtain ⟨G_42, gx_41, hZ, hth, hrr, ee_42⟩ := hZ.ty (c := 11) (r := (fun j => match j with | 0 => q_1 | _ => 0)) uh (by decide) h_39.1 (fun G1 gg e1 hr => ⟨q_18, by rw [hr 0]; exact h_39.2, gg.ty ty_34 (by decide)⟩) (fun G1 gg e1 hr => (show G1.1 (G1.2 h 0) = 36 from by rw [hr 0]; exact gg.ty ty_12 (by decide))) (fun e => absurd e (by decide))
  have ty_12 := gx_41.ty ty_12 (by decide)
  have ty_34 := gx_41.ty ty_34 (by decide)
  have hX := hX.trans gx_41
  have hT : NTR L f G h _ _ G_42 := fun b hb hn => ⟨(hT b hb hn).1, (hT b hb hn).2.1, (ee_42 b hn).trans (hT b hb hn).2.2⟩
  exact py_vret G0 hr hlk hw ⟨G_42, hX, hZ, hth, hT, ⟨q_18, fun z => nq_26 q_18 z (Ne.symm ne_27) rfl, (hZ.2.1 q_18 (by rw [ty_34]; decide)).1, by rw [h_39.2]; rfl⟩⟩ dX10_init_22

def w_X4_init : List Cond := .code yX4_init cX4_init 1 none :: ([Cond.methodLink RX4 3 objectInit, Cond.instanceMethod objectInit, Cond.code objectInit ⟨#[0xb1]⟩ 1 none, Cond.classLink RX4 9 RX3, Cond.instantiable RX3 3, Cond.initialized RX3, Cond.instanceMethod yX3_init, Cond.fieldLink RX4 12 "HeadYear$LawReader" "draft" "LHeadYear$Law;"] ++ (u_ws RX3 TX3 3 ++ (u_ws RX4 TX4 1 ++ (w_X3_init ++ ([])))))
theorem in_X4_init_X3 : ∀ w ∈ u_ws RX3 TX3 3, w ∈ w_X4_init := fun _ h => List.mem_cons_of_mem _ (List.mem_append_right _ (List.mem_append_left _ h))
theorem in_X4_init_X4 : ∀ w ∈ u_ws RX4 TX4 1, w ∈ w_X4_init := fun _ h => List.mem_cons_of_mem _ (List.mem_append_right _ (List.mem_append_right _ (List.mem_append_left _ h)))
theorem gg_X4_init_X3_init : GoodIn w_X4_init w_X3_init := goodIn_sub (fun _ h => List.mem_cons_of_mem _ (List.mem_append_right _ (List.mem_append_right _ (List.mem_append_right _ (List.mem_append_left _ h))))) (by decide +kernel)
theorem g_X4_init_X3_init_11 : GoodIn w_X4_init w_X3_init := gg_X4_init_X3_init
set_option maxHeartbeats 4000000 in
set_option maxRecDepth 100000 in
theorem c_X4_init (l : Launch) (E : py_E) (G : wf_G) (L : List Nat) (f : py_F) (sz : Nat) (h : Nat) (hZ : GZ E G L f) (hh : py_at L f h (.inr (4, [.null]))) (uh : G.1 h = 0) : Met l yX4_init w_X4_init ({ frames := 2, cells := 3, slots := 195, locals := 32 }) (py_Pc E [.ref h] L f sz) (py_Qv E L f sz (fun L1 f1 => ∃ G1 : wf_G, GX G G1 ∧ GZ E G1 L1 f1 ∧ G1.1 h = 5 ∧ NTR L f G h L1 f1 G1)) 3 195 (va_A (va_pl L f) sz) := by
  refine Met.ofW (cc := cX4_init) (maxL := 1) (ret := none) (by decide) rfl ?_
  intro p e s m args below meth c s₁ B hml hv
  obtain ⟨rfl, rfl, hw⟩ := py_start hv
  have G0 : CallFix p m c cX4_init 1 s _ w_X4_init RX4 := ⟨B.exec, B.bytes, hml, findClass_of_methodNamed B.named, atoms_spec (ws := w_X4_init) B.pre⟩
  have hr := B.returns
  have hlk := B.notSynchronized
  have hin : meth.name = "<init>" := (name_of_methodNamed B.named B.method).1
  have hl := lv_entry ([.ref h]) (n := 1) (Nat.le_of_ble_eq_true rfl)
  rw [lg_entry_eq]
  generalize (lg_sl ([.ref h]) ++ List.replicate (1 - (lg_sl ([.ref h])).length) Slot.unset).toArray = ls at hl ⊢
  have hl : lv_has ls 1 [(0, .ref h)] := hl
  have hT : NTR L f G h L f G := NTR.refl
  have hX : GX G G := GX.refl
  refine lv_aload_n G0.1 G0.2.1 dX4_init_0 rfl (lv_at hl 0 rfl) ?_
  refine py_objInit G0 hl.1 (by decide +kernel) (by decide +kernel) (by decide +kernel) dX4_init_1 (Nat.le_of_ble_eq_true rfl) (Nat.le_of_ble_eq_true rfl) ?_
  refine lv_aload_n G0.1 G0.2.1 dX4_init_4 rfl (lv_at hl 0 rfl) ?_
  refine py_new (C := RX3) (T := TX3) (N := 3) (ci := 3) (fs := [.null, .null, .int 0]) (ty0 := tyX3) G0 hw tyX3_ok in_X4_init_X3 rfl (by decide +kernel) (by decide +kernel) (by decide +kernel) (fun j hj => match j, hj with | 0, _ => rfl | 1, _ => rfl | 2, _ => rfl | n + 3, h => absurd h (by omega)) (Nat.le_of_ble_eq_true rfl) (Nat.le_of_ble_eq_true rfl) dX4_init_5 (fun q_1 L_2 f_3 H_4 hq_5 h_6 x_7 hw => ?_)
  have u_8 := hZ.un hq_5
  have nq_9 := hT.ne hq_5
  have ne_10 : h ≠ q_1 := py_ne_new hh hq_5
  have hh := hh.all x_7
  have hZ := hZ.all x_7
  have hT := hT.all x_7
  refine lv_dup G0.1 G0.2.1 dX4_init_8 rfl ?_
  refine py_callv hw (va_runIN (As := []) (rest := [.ref q_1, .ref h]) G0 (c_X3_init l E L_2 f_3 H_4.size q_1 h_6) ⟨va_cnB 0 G0.2.2.2.2 g_X4_init_X3_init_11 rfl rfl rfl (hw.1.2.2 (RX4, 11, yX3_init) (List.mem_of_getElem? (i := 4) rfl)) (G0.2.2.2.2 (Cond.initialized RX3) (by decide +kernel)) (by decide +kernel) ⟨(Nat.le_of_ble_eq_true rfl), (Nat.le_of_ble_eq_true rfl)⟩, rfl, G0.2.2.2.2 (Cond.instanceMethod yX3_init) (by decide +kernel)⟩ (py_preS hw) rfl rfl hl.1 rfl (lv_room (Nat.le_of_ble_eq_true rfl)) dX4_init_9 ⟨(Nat.le_of_ble_eq_true rfl), (Nat.le_of_ble_eq_true rfl)⟩) (fun L_11 f_12 H_13 locs hp_14 hw => ?_)
  obtain ⟨co_16, st_17, h_18, hco_19, hst_20, nco_21, nst_22, ncs_23, x_24⟩ := hp_14
  have u_25 := hZ.un nco_21
  have u_26 := hZ.un nst_22
  have nq_27 := hT.ne nco_21
  have nq_28 := hT.ne nst_22
  have ne_29 := py_ne_new hh nco_21
  have ne_30 := py_ne_new hh nst_22
  have ne_31 := py_ne_new h_6 nco_21
  have ne_32 := py_ne_new h_6 nst_22
  have hZ := hZ.unt u_8 x_24
  have hT := hT.extq x_24 nq_9
  have hh := hh.ext x_24 ne_10
  obtain ⟨G_35, gx_33, hZ, ty_34, ee_35⟩ := hZ.arrK (c := 20) u_25 (by decide) (by decide) hco_19 (fun _ => ⟨_, rfl, fun i _ => wf_free _⟩) (fun _ => rfl)
  have hX := hX.trans gx_33
  have uh := (ee_35 h ne_29).trans uh
  have u_8 := (ee_35 q_1 ne_31).trans u_8
  have u_26 := (ee_35 st_17 (Ne.symm ncs_23)).trans u_26
  have hT := hT.ty ee_35 nq_27
  obtain ⟨G_38, gx_36, hZ, ty_37, ee_38⟩ := hZ.arrK (c := 21) u_26 (by decide) (by decide) hst_20 (fun _ => ⟨_, rfl, fun i _ => wf_free _⟩) (fun _ => rfl)
  have ty_34 := gx_36.ty ty_34 (by decide)
  have hX := hX.trans gx_36
  have uh := (ee_38 h ne_30).trans uh
  have u_8 := (ee_38 q_1 ne_32).trans u_8
  have hT := hT.ty ee_38 nq_28
  obtain ⟨G_41, gx_39, hZ, ty_40, -, ee_41⟩ := hZ.ty (c := 4) (r := (fun j => match j with | 0 => co_16 | 1 => st_17 | _ => 0)) u_8 (by decide) h_18.1 (fun G1 gg e1 hr => ⟨0, by rw [hr 0, hr 1]; exact h_18.2, ⟨by decide, by decide⟩⟩) (fun G1 gg e1 hr => ⟨by rw [hr 0]; exact gg.ty ty_34 (by decide), by rw [hr 1]; exact gg.ty ty_37 (by decide)⟩) (fun e => absurd e (by decide))
  have ty_34 := gx_39.ty ty_34 (by decide)
  have ty_37 := gx_39.ty ty_37 (by decide)
  have hX := hX.trans gx_39
  have uh := (ee_41 h ne_10).trans uh
  have hT := hT.ty ee_41 nq_9
  refine py_put (C := RX4) (T := TX4) (N := 1) (k := 0) (v := .ref q_1) (fs' := [.ref q_1]) (ty0 := tyX4) G0 hw tyX4_ok nmX4 in_X4_init_X4 rfl hh (by decide) (by decide +kernel) rfl rfl rfl rfl (Nat.le_of_ble_eq_true rfl) rfl dX4_init_12 (fun f_42 H_43 locs h_44 x_45 hw => ?_)
  have hZ := hZ.unt uh x_45
  have hT := hT.ext x_45
  obtain ⟨G_47, gx_46, hZ, hth, hrr, ee_47⟩ := hZ.ty (c := 5) (r := (fun j => match j with | _ => 0)) uh (by decide) h_44.1 (fun G1 gg e1 hr => ⟨q_1, by exact h_44.2, gg.ty ty_40 (by decide)⟩) (fun G1 gg e1 hr => trivial) (fun e => absurd e (by decide))
  have ty_34 := gx_46.ty ty_34 (by decide)
  have ty_37 := gx_46.ty ty_37 (by decide)
  have ty_40 := gx_46.ty ty_40 (by decide)
  have hX := hX.trans gx_46
  have hT : NTR L f G h _ _ G_47 := fun b hb hn => ⟨(hT b hb hn).1, (hT b hb hn).2.1, (ee_47 b hn).trans (hT b hb hn).2.2⟩
  exact py_vret G0 hr hlk hw ⟨G_47, hX, hZ, hth, hT⟩ dX4_init_15

def w_X2_init : List Cond := .code yX2_init cX2_init 1 none :: ([Cond.methodLink RX2 3 objectInit, Cond.instanceMethod objectInit, Cond.code objectInit ⟨#[0xb1]⟩ 1 none, Cond.arrayClass .int, Cond.fieldLink RX2 11 "HeadYear$Folk" "heads" "[I", Cond.fieldLink RX2 17 "HeadYear$Folk" "level" "[I", Cond.fieldLink RX2 20 "HeadYear$Folk" "hut" "[I", Cond.fieldLink RX2 23 "HeadYear$Folk" "debt" "[I", Cond.fieldLink RX2 26 "HeadYear$Folk" "born" "[I", Cond.fieldLink RX2 29 "HeadYear$Folk" "dead" "[I", Cond.fieldLink RX2 32 "HeadYear$Folk" "bought" "[I", Cond.fieldLink RX2 35 "HeadYear$Folk" "spent" "[I", Cond.arrayClass .boolean, Cond.fieldLink RX2 38 "HeadYear$Folk" "hushed" "[Z", Cond.classLink RX2 9 RX9, Cond.instantiable RX9 10, Cond.initialized RX9, Cond.instanceMethod yX9_init, Cond.fieldLink RX2 43 "HeadYear$Folk" "valley" "LHeadYear$Valley;", Cond.fieldLink RX2 47 "HeadYear$Folk" "x" "J", Cond.fieldLink RX2 51 "HeadYear$Folk" "years" "I"] ++ (u_ws RX2 TX2 12 ++ (u_ws RX9 TX9 10 ++ (w_X9_init ++ ([])))))
theorem in_X2_init_X2 : ∀ w ∈ u_ws RX2 TX2 12, w ∈ w_X2_init := fun _ h => List.mem_cons_of_mem _ (List.mem_append_right _ (List.mem_append_left _ h))
theorem in_X2_init_X9 : ∀ w ∈ u_ws RX9 TX9 10, w ∈ w_X2_init := fun _ h => List.mem_cons_of_mem _ (List.mem_append_right _ (List.mem_append_right _ (List.mem_append_left _ h)))
theorem gg_X2_init_X9_init : GoodIn w_X2_init w_X9_init := goodIn_sub (fun _ h => List.mem_cons_of_mem _ (List.mem_append_right _ (List.mem_append_right _ (List.mem_append_right _ (List.mem_append_left _ h))))) (by decide +kernel)
theorem g_X2_init_X9_init_42 : GoodIn w_X2_init w_X9_init := gg_X2_init_X9_init
set_option maxHeartbeats 4000000 in
set_option maxRecDepth 100000 in
theorem c_X2_init (l : Launch) (E : py_E) (G : wf_G) (L : List Nat) (f : py_F) (sz : Nat) (h : Nat) (hZ : GZ E G L f) (hh : py_at L f h (.inr (2, [.null, .null, .null, .null, .null, .null, .null, .null, .null, .null, .long 0, .int 0]))) (uh : G.1 h = 0) : Met l yX2_init w_X2_init ({ frames := 2, cells := 18, slots := 172, locals := 32 }) (py_Pc E [.ref h] L f sz) (py_Qv E L f sz (fun L1 f1 => ∃ G1 : wf_G, GX G G1 ∧ GZ E G1 L1 f1 ∧ G1.1 h = 3 ∧ NTR L f G h L1 f1 G1 ∧ ∃ V : Nat, V ∉ L ∧ fo_v f1 h = V ∧ fo_y f1 h = 0 ∧ fv_l f1 h = 0 ∧ fv_f f1 h = 0)) 18 172 (va_A (va_pl L f) sz) := by
  refine Met.ofW (cc := cX2_init) (maxL := 1) (ret := none) (by decide) rfl ?_
  intro p e s m args below meth c s₁ B hml hv
  obtain ⟨rfl, rfl, hw⟩ := py_start hv
  have G0 : CallFix p m c cX2_init 1 s _ w_X2_init RX2 := ⟨B.exec, B.bytes, hml, findClass_of_methodNamed B.named, atoms_spec (ws := w_X2_init) B.pre⟩
  have hr := B.returns
  have hlk := B.notSynchronized
  have hin : meth.name = "<init>" := (name_of_methodNamed B.named B.method).1
  have hl := lv_entry ([.ref h]) (n := 1) (Nat.le_of_ble_eq_true rfl)
  rw [lg_entry_eq]
  generalize (lg_sl ([.ref h]) ++ List.replicate (1 - (lg_sl ([.ref h])).length) Slot.unset).toArray = ls at hl ⊢
  have hl : lv_has ls 1 [(0, .ref h)] := hl
  have hT : NTR L f G h L f G := NTR.refl
  have hX : GX G G := GX.refl
  refine lv_aload_n G0.1 G0.2.1 dX2_init_0 rfl (lv_at hl 0 rfl) ?_
  refine py_objInit G0 hl.1 (by decide +kernel) (by decide +kernel) (by decide +kernel) dX2_init_1 (Nat.le_of_ble_eq_true rfl) (Nat.le_of_ble_eq_true rfl) ?_
  refine lv_aload_n G0.1 G0.2.1 dX2_init_4 rfl (lv_at hl 0 rfl) ?_
  refine lv_bipush (v := 10) G0.1 G0.2.1 dX2_init_5 (by decide) ?_
  refine py_newI (N := 10) G0 hw (by decide +kernel) (by decide) (by decide) (Nat.le_of_ble_eq_true rfl) (Nat.le_of_ble_eq_true rfl) (Nat.le_of_ble_eq_true rfl) dX2_init_7 (fun q_1 L_2 f_3 H_4 hq_5 h_6 x_7 hw => ?_)
  have u_8 := hZ.un hq_5
  have nq_9 := hT.ne hq_5
  have ne_10 : h ≠ q_1 := py_ne_new hh hq_5
  have hh := hh.all x_7
  have hZ := hZ.all x_7
  have hT := hT.all x_7
  have hz0 := h_6
  obtain ⟨G_13, gx_11, hZ, ty_12, ee_13⟩ := hZ.arr (c := 1000 + 2 * h) (n := 10) (lo := 0) (hi := 20) u_8 (by omega) (by omega) h_6 (fun G1 e => wf_own0 E G1 q_1 h e) (fun G1 => wt_own G1 q_1 (2 * h)) (by decide) (by decide)
  have hX := hX.trans gx_11
  have uh := (ee_13 h ne_10).trans uh
  have hT := hT.ty ee_13 nq_9
  refine py_putF (C := RX2) (T := TX2) (N := 12) (k := 0) (v := .ref q_1) (fs' := [.ref q_1, .null, .null, .null, .null, .null, .null, .null, .null, .null, .long 0, .int 0]) (ty0 := tyX2) G0 hin hw tyX2_ok nmX2 in_X2_init_X2 rfl hh (by decide) (by decide +kernel) rfl rfl rfl rfl rfl (Nat.le_of_ble_eq_true rfl) rfl dX2_init_9 (fun f_14 H_15 locs h_16 x_17 hw => ?_)
  have hZ := hZ.unt uh x_17
  have hT := hT.ext x_17
  have hz0 := hz0.ext x_17 (un_ne ty_12 uh (by omega))
  refine lv_aload_n G0.1 G0.2.1 dX2_init_12 rfl (lv_at hl 0 rfl) ?_
  refine lv_bipush (v := 10) G0.1 G0.2.1 dX2_init_13 (by decide) ?_
  refine py_newI (N := 10) G0 hw (by decide +kernel) (by decide) (by decide) (Nat.le_of_ble_eq_true rfl) (Nat.le_of_ble_eq_true rfl) (Nat.le_of_ble_eq_true rfl) dX2_init_15 (fun q_18 L_19 f_20 H_21 hq_22 h_23 x_24 hw => ?_)
  have u_25 := hZ.un hq_22
  have nq_26 := hT.ne hq_22
  have ne_27 : h ≠ q_18 := py_ne_new h_16 hq_22
  have h_16 := h_16.all x_24
  have hz0 := hz0.all x_24
  have hZ := hZ.all x_24
  have hT := hT.all x_24
  obtain ⟨G_30, gx_28, hZ, ty_29, ee_30⟩ := hZ.arr (c := 1000 + 2 * h + 1) (n := 10) (lo := (-1)) (hi := 7) u_25 (by omega) (by omega) h_23 (fun G1 e => wf_own1 E G1 q_18 h e) (fun G1 => wt_own G1 q_18 (2 * h + 1)) (by decide) (by decide)
  have ty_12 := gx_28.ty ty_12 (by omega)
  have hX := hX.trans gx_28
  have uh := (ee_30 h ne_27).trans uh
  have hT := hT.ty ee_30 nq_26
  refine py_putF (C := RX2) (T := TX2) (N := 12) (k := 1) (v := .ref q_18) (fs' := [.ref q_1, .ref q_18, .null, .null, .null, .null, .null, .null, .null, .null, .long 0, .int 0]) (ty0 := tyX2) G0 hin hw tyX2_ok nmX2 in_X2_init_X2 rfl h_16 (by decide) (by decide +kernel) rfl rfl rfl rfl rfl (Nat.le_of_ble_eq_true rfl) rfl dX2_init_17 (fun f_31 H_32 locs h_33 x_34 hw => ?_)
  have hZ := hZ.unt uh x_34
  have hT := hT.ext x_34
  have hz0 := hz0.ext x_34 (un_ne ty_12 uh (by omega))
  refine lv_aload_n G0.1 G0.2.1 dX2_init_20 rfl (lv_at hl 0 rfl) ?_
  refine lv_bipush (v := 10) G0.1 G0.2.1 dX2_init_21 (by decide) ?_
  refine py_newI (N := 10) G0 hw (by decide +kernel) (by decide) (by decide) (Nat.le_of_ble_eq_true rfl) (Nat.le_of_ble_eq_true rfl) (Nat.le_of_ble_eq_true rfl) dX2_init_23 (fun q_35 L_36 f_37 H_38 hq_39 h_40 x_41 hw => ?_)
  have u_42 := hZ.un hq_39
  have nq_43 := hT.ne hq_39
  have ne_44 : h ≠ q_35 := py_ne_new h_33 hq_39
  have h_33 := h_33.all x_41
  have hz0 := hz0.all x_41
  have hZ := hZ.all x_41
  have hT := hT.all x_41
  obtain ⟨G_47, gx_45, hZ, ty_46, ee_47⟩ := hZ.arr (c := 26) (n := 10) (lo := (-2147483648)) (hi := 2147483647) u_42 (by decide) (by decide) h_40 (fun _ _ => rfl) (fun _ => rfl) (by decide) (by decide)
  have ty_12 := gx_45.ty ty_12 (by omega)
  have ty_29 := gx_45.ty ty_29 (by omega)
  have hX := hX.trans gx_45
  have uh := (ee_47 h ne_44).trans uh
  have hT := hT.ty ee_47 nq_43
  refine py_putF (C := RX2) (T := TX2) (N := 12) (k := 2) (v := .ref q_35) (fs' := [.ref q_1, .ref q_18, .ref q_35, .null, .null, .null, .null, .null, .null, .null, .long 0, .int 0]) (ty0 := tyX2) G0 hin hw tyX2_ok nmX2 in_X2_init_X2 rfl h_33 (by decide) (by decide +kernel) rfl rfl rfl rfl rfl (Nat.le_of_ble_eq_true rfl) rfl dX2_init_25 (fun f_48 H_49 locs h_50 x_51 hw => ?_)
  have hZ := hZ.unt uh x_51
  have hT := hT.ext x_51
  have hz0 := hz0.ext x_51 (un_ne ty_12 uh (by omega))
  refine lv_aload_n G0.1 G0.2.1 dX2_init_28 rfl (lv_at hl 0 rfl) ?_
  refine lv_bipush (v := 10) G0.1 G0.2.1 dX2_init_29 (by decide) ?_
  refine py_newI (N := 10) G0 hw (by decide +kernel) (by decide) (by decide) (Nat.le_of_ble_eq_true rfl) (Nat.le_of_ble_eq_true rfl) (Nat.le_of_ble_eq_true rfl) dX2_init_31 (fun q_52 L_53 f_54 H_55 hq_56 h_57 x_58 hw => ?_)
  have u_59 := hZ.un hq_56
  have nq_60 := hT.ne hq_56
  have ne_61 : h ≠ q_52 := py_ne_new h_50 hq_56
  have h_50 := h_50.all x_58
  have hz0 := hz0.all x_58
  have hZ := hZ.all x_58
  have hT := hT.all x_58
  obtain ⟨G_64, gx_62, hZ, ty_63, ee_64⟩ := hZ.arr (c := 37) (n := 10) (lo := (-2147483648)) (hi := 2147483647) u_59 (by decide) (by decide) h_57 (fun _ _ => rfl) (fun _ => rfl) (by decide) (by decide)
  have ty_12 := gx_62.ty ty_12 (by omega)
  have ty_29 := gx_62.ty ty_29 (by omega)
  have ty_46 := gx_62.ty ty_46 (by decide)
  have hX := hX.trans gx_62
  have uh := (ee_64 h ne_61).trans uh
  have hT := hT.ty ee_64 nq_60
  refine py_putF (C := RX2) (T := TX2) (N := 12) (k := 3) (v := .ref q_52) (fs' := [.ref q_1, .ref q_18, .ref q_35, .ref q_52, .null, .null, .null, .null, .null, .null, .long 0, .int 0]) (ty0 := tyX2) G0 hin hw tyX2_ok nmX2 in_X2_init_X2 rfl h_50 (by decide) (by decide +kernel) rfl rfl rfl rfl rfl (Nat.le_of_ble_eq_true rfl) rfl dX2_init_33 (fun f_65 H_66 locs h_67 x_68 hw => ?_)
  have hZ := hZ.unt uh x_68
  have hT := hT.ext x_68
  have hz0 := hz0.ext x_68 (un_ne ty_12 uh (by omega))
  refine lv_aload_n G0.1 G0.2.1 dX2_init_36 rfl (lv_at hl 0 rfl) ?_
  refine lv_bipush (v := 10) G0.1 G0.2.1 dX2_init_37 (by decide) ?_
  refine py_newI (N := 10) G0 hw (by decide +kernel) (by decide) (by decide) (Nat.le_of_ble_eq_true rfl) (Nat.le_of_ble_eq_true rfl) (Nat.le_of_ble_eq_true rfl) dX2_init_39 (fun q_69 L_70 f_71 H_72 hq_73 h_74 x_75 hw => ?_)
  have u_76 := hZ.un hq_73
  have nq_77 := hT.ne hq_73
  have ne_78 : h ≠ q_69 := py_ne_new h_67 hq_73
  have h_67 := h_67.all x_75
  have hz0 := hz0.all x_75
  have hZ := hZ.all x_75
  have hT := hT.all x_75
  obtain ⟨G_81, gx_79, hZ, ty_80, ee_81⟩ := hZ.arr (c := 26) (n := 10) (lo := (-2147483648)) (hi := 2147483647) u_76 (by decide) (by decide) h_74 (fun _ _ => rfl) (fun _ => rfl) (by decide) (by decide)
  have ty_12 := gx_79.ty ty_12 (by omega)
  have ty_29 := gx_79.ty ty_29 (by omega)
  have ty_46 := gx_79.ty ty_46 (by decide)
  have ty_63 := gx_79.ty ty_63 (by decide)
  have hX := hX.trans gx_79
  have uh := (ee_81 h ne_78).trans uh
  have hT := hT.ty ee_81 nq_77
  refine py_putF (C := RX2) (T := TX2) (N := 12) (k := 4) (v := .ref q_69) (fs' := [.ref q_1, .ref q_18, .ref q_35, .ref q_52, .ref q_69, .null, .null, .null, .null, .null, .long 0, .int 0]) (ty0 := tyX2) G0 hin hw tyX2_ok nmX2 in_X2_init_X2 rfl h_67 (by decide) (by decide +kernel) rfl rfl rfl rfl rfl (Nat.le_of_ble_eq_true rfl) rfl dX2_init_41 (fun f_82 H_83 locs h_84 x_85 hw => ?_)
  have hZ := hZ.unt uh x_85
  have hT := hT.ext x_85
  have hz0 := hz0.ext x_85 (un_ne ty_12 uh (by omega))
  refine lv_aload_n G0.1 G0.2.1 dX2_init_44 rfl (lv_at hl 0 rfl) ?_
  refine lv_bipush (v := 10) G0.1 G0.2.1 dX2_init_45 (by decide) ?_
  refine py_newI (N := 10) G0 hw (by decide +kernel) (by decide) (by decide) (Nat.le_of_ble_eq_true rfl) (Nat.le_of_ble_eq_true rfl) (Nat.le_of_ble_eq_true rfl) dX2_init_47 (fun q_86 L_87 f_88 H_89 hq_90 h_91 x_92 hw => ?_)
  have u_93 := hZ.un hq_90
  have nq_94 := hT.ne hq_90
  have ne_95 : h ≠ q_86 := py_ne_new h_84 hq_90
  have h_84 := h_84.all x_92
  have hz0 := hz0.all x_92
  have hZ := hZ.all x_92
  have hT := hT.all x_92
  obtain ⟨G_98, gx_96, hZ, ty_97, ee_98⟩ := hZ.arr (c := 26) (n := 10) (lo := (-2147483648)) (hi := 2147483647) u_93 (by decide) (by decide) h_91 (fun _ _ => rfl) (fun _ => rfl) (by decide) (by decide)
  have ty_12 := gx_96.ty ty_12 (by omega)
  have ty_29 := gx_96.ty ty_29 (by omega)
  have ty_46 := gx_96.ty ty_46 (by decide)
  have ty_63 := gx_96.ty ty_63 (by decide)
  have ty_80 := gx_96.ty ty_80 (by decide)
  have hX := hX.trans gx_96
  have uh := (ee_98 h ne_95).trans uh
  have hT := hT.ty ee_98 nq_94
  refine py_putF (C := RX2) (T := TX2) (N := 12) (k := 5) (v := .ref q_86) (fs' := [.ref q_1, .ref q_18, .ref q_35, .ref q_52, .ref q_69, .ref q_86, .null, .null, .null, .null, .long 0, .int 0]) (ty0 := tyX2) G0 hin hw tyX2_ok nmX2 in_X2_init_X2 rfl h_84 (by decide) (by decide +kernel) rfl rfl rfl rfl rfl (Nat.le_of_ble_eq_true rfl) rfl dX2_init_49 (fun f_99 H_100 locs h_101 x_102 hw => ?_)
  have hZ := hZ.unt uh x_102
  have hT := hT.ext x_102
  have hz0 := hz0.ext x_102 (un_ne ty_12 uh (by omega))
  refine lv_aload_n G0.1 G0.2.1 dX2_init_52 rfl (lv_at hl 0 rfl) ?_
  refine lv_bipush (v := 10) G0.1 G0.2.1 dX2_init_53 (by decide) ?_
  refine py_newI (N := 10) G0 hw (by decide +kernel) (by decide) (by decide) (Nat.le_of_ble_eq_true rfl) (Nat.le_of_ble_eq_true rfl) (Nat.le_of_ble_eq_true rfl) dX2_init_55 (fun q_103 L_104 f_105 H_106 hq_107 h_108 x_109 hw => ?_)
  have u_110 := hZ.un hq_107
  have nq_111 := hT.ne hq_107
  have ne_112 : h ≠ q_103 := py_ne_new h_101 hq_107
  have h_101 := h_101.all x_109
  have hz0 := hz0.all x_109
  have hZ := hZ.all x_109
  have hT := hT.all x_109
  obtain ⟨G_115, gx_113, hZ, ty_114, ee_115⟩ := hZ.arr (c := 26) (n := 10) (lo := (-2147483648)) (hi := 2147483647) u_110 (by decide) (by decide) h_108 (fun _ _ => rfl) (fun _ => rfl) (by decide) (by decide)
  have ty_12 := gx_113.ty ty_12 (by omega)
  have ty_29 := gx_113.ty ty_29 (by omega)
  have ty_46 := gx_113.ty ty_46 (by decide)
  have ty_63 := gx_113.ty ty_63 (by decide)
  have ty_80 := gx_113.ty ty_80 (by decide)
  have ty_97 := gx_113.ty ty_97 (by decide)
  have hX := hX.trans gx_113
  have uh := (ee_115 h ne_112).trans uh
  have hT := hT.ty ee_115 nq_111
  refine py_putF (C := RX2) (T := TX2) (N := 12) (k := 6) (v := .ref q_103) (fs' := [.ref q_1, .ref q_18, .ref q_35, .ref q_52, .ref q_69, .ref q_86, .ref q_103, .null, .null, .null, .long 0, .int 0]) (ty0 := tyX2) G0 hin hw tyX2_ok nmX2 in_X2_init_X2 rfl h_101 (by decide) (by decide +kernel) rfl rfl rfl rfl rfl (Nat.le_of_ble_eq_true rfl) rfl dX2_init_57 (fun f_116 H_117 locs h_118 x_119 hw => ?_)
  have hZ := hZ.unt uh x_119
  have hT := hT.ext x_119
  have hz0 := hz0.ext x_119 (un_ne ty_12 uh (by omega))
  refine lv_aload_n G0.1 G0.2.1 dX2_init_60 rfl (lv_at hl 0 rfl) ?_
  refine lv_bipush (v := 10) G0.1 G0.2.1 dX2_init_61 (by decide) ?_
  refine py_newI (N := 10) G0 hw (by decide +kernel) (by decide) (by decide) (Nat.le_of_ble_eq_true rfl) (Nat.le_of_ble_eq_true rfl) (Nat.le_of_ble_eq_true rfl) dX2_init_63 (fun q_120 L_121 f_122 H_123 hq_124 h_125 x_126 hw => ?_)
  have u_127 := hZ.un hq_124
  have nq_128 := hT.ne hq_124
  have ne_129 : h ≠ q_120 := py_ne_new h_118 hq_124
  have h_118 := h_118.all x_126
  have hz0 := hz0.all x_126
  have hZ := hZ.all x_126
  have hT := hT.all x_126
  obtain ⟨G_132, gx_130, hZ, ty_131, ee_132⟩ := hZ.arr (c := 26) (n := 10) (lo := (-2147483648)) (hi := 2147483647) u_127 (by decide) (by decide) h_125 (fun _ _ => rfl) (fun _ => rfl) (by decide) (by decide)
  have ty_12 := gx_130.ty ty_12 (by omega)
  have ty_29 := gx_130.ty ty_29 (by omega)
  have ty_46 := gx_130.ty ty_46 (by decide)
  have ty_63 := gx_130.ty ty_63 (by decide)
  have ty_80 := gx_130.ty ty_80 (by decide)
  have ty_97 := gx_130.ty ty_97 (by decide)
  have ty_114 := gx_130.ty ty_114 (by decide)
  have hX := hX.trans gx_130
  have uh := (ee_132 h ne_129).trans uh
  have hT := hT.ty ee_132 nq_128
  refine py_putF (C := RX2) (T := TX2) (N := 12) (k := 7) (v := .ref q_120) (fs' := [.ref q_1, .ref q_18, .ref q_35, .ref q_52, .ref q_69, .ref q_86, .ref q_103, .ref q_120, .null, .null, .long 0, .int 0]) (ty0 := tyX2) G0 hin hw tyX2_ok nmX2 in_X2_init_X2 rfl h_118 (by decide) (by decide +kernel) rfl rfl rfl rfl rfl (Nat.le_of_ble_eq_true rfl) rfl dX2_init_65 (fun f_133 H_134 locs h_135 x_136 hw => ?_)
  have hZ := hZ.unt uh x_136
  have hT := hT.ext x_136
  have hz0 := hz0.ext x_136 (un_ne ty_12 uh (by omega))
  refine lv_aload_n G0.1 G0.2.1 dX2_init_68 rfl (lv_at hl 0 rfl) ?_
  refine lv_bipush (v := 10) G0.1 G0.2.1 dX2_init_69 (by decide) ?_
  refine py_newZ (N := 10) G0 hw (by decide +kernel) (by decide) (by decide) (Nat.le_of_ble_eq_true rfl) (Nat.le_of_ble_eq_true rfl) (Nat.le_of_ble_eq_true rfl) dX2_init_71 (fun q_137 L_138 f_139 H_140 hq_141 h_142 x_143 hw => ?_)
  have u_144 := hZ.un hq_141
  have nq_145 := hT.ne hq_141
  have ne_146 : h ≠ q_137 := py_ne_new h_135 hq_141
  have h_135 := h_135.all x_143
  have hz0 := hz0.all x_143
  have hZ := hZ.all x_143
  have hT := hT.all x_143
  obtain ⟨G_149, gx_147, hZ, ty_148, ee_149⟩ := hZ.arrK (c := 30) u_144 (by decide) (by decide) h_142 (fun _ => ⟨_, rfl⟩) (fun _ => rfl)
  have ty_12 := gx_147.ty ty_12 (by omega)
  have ty_29 := gx_147.ty ty_29 (by omega)
  have ty_46 := gx_147.ty ty_46 (by decide)
  have ty_63 := gx_147.ty ty_63 (by decide)
  have ty_80 := gx_147.ty ty_80 (by decide)
  have ty_97 := gx_147.ty ty_97 (by decide)
  have ty_114 := gx_147.ty ty_114 (by decide)
  have ty_131 := gx_147.ty ty_131 (by decide)
  have hX := hX.trans gx_147
  have uh := (ee_149 h ne_146).trans uh
  have hT := hT.ty ee_149 nq_145
  refine py_putF (C := RX2) (T := TX2) (N := 12) (k := 8) (v := .ref q_137) (fs' := [.ref q_1, .ref q_18, .ref q_35, .ref q_52, .ref q_69, .ref q_86, .ref q_103, .ref q_120, .ref q_137, .null, .long 0, .int 0]) (ty0 := tyX2) G0 hin hw tyX2_ok nmX2 in_X2_init_X2 rfl h_135 (by decide) (by decide +kernel) rfl rfl rfl rfl rfl (Nat.le_of_ble_eq_true rfl) rfl dX2_init_73 (fun f_150 H_151 locs h_152 x_153 hw => ?_)
  have hZ := hZ.unt uh x_153
  have hT := hT.ext x_153
  have hz0 := hz0.ext x_153 (un_ne ty_12 uh (by omega))
  refine lv_aload_n G0.1 G0.2.1 dX2_init_76 rfl (lv_at hl 0 rfl) ?_
  refine py_new (C := RX9) (T := TX9) (N := 10) (ci := 9) (fs := [.null, .null, .null, .null, .null, .null, .null, .null, .int 0, .int 0]) (ty0 := tyX9) G0 hw tyX9_ok in_X2_init_X9 rfl (by decide +kernel) (by decide +kernel) (by decide +kernel) (fun j hj => match j, hj with | 0, _ => rfl | 1, _ => rfl | 2, _ => rfl | 3, _ => rfl | 4, _ => rfl | 5, _ => rfl | 6, _ => rfl | 7, _ => rfl | 8, _ => rfl | 9, _ => rfl | n + 10, h => absurd h (by omega)) (Nat.le_of_ble_eq_true rfl) (Nat.le_of_ble_eq_true rfl) dX2_init_77 (fun q_154 L_155 f_156 H_157 hq_158 h_159 x_160 hw => ?_)
  have u_161 := hZ.un hq_158
  have nq_162 := hT.ne hq_158
  have ne_163 : h ≠ q_154 := py_ne_new h_152 hq_158
  have h_152 := h_152.all x_160
  have hz0 := hz0.all x_160
  have hZ := hZ.all x_160
  have hT := hT.all x_160
  refine lv_dup G0.1 G0.2.1 dX2_init_80 rfl ?_
  have nr_164 : q_1 ≠ q_154 := un_ne ty_12 u_161 (by omega)
  refine py_callv hw (va_runIN (As := []) (rest := [.ref q_154, .ref h]) G0 (c_X9_init l E G_149 L_155 f_156 H_157.size q_154 hZ h_159 u_161) ⟨va_cnB 0 G0.2.2.2.2 g_X2_init_X9_init_42 rfl rfl rfl (hw.1.2.2 (RX2, 42, yX9_init) (List.mem_of_getElem? (i := 6) rfl)) (G0.2.2.2.2 (Cond.initialized RX9) (by decide +kernel)) (by decide +kernel) ⟨(Nat.le_of_ble_eq_true rfl), (Nat.le_of_ble_eq_true rfl)⟩, rfl, G0.2.2.2.2 (Cond.instanceMethod yX9_init) (by decide +kernel)⟩ (py_preS hw) rfl rfl hl.1 rfl (lv_room (Nat.le_of_ble_eq_true rfl)) dX2_init_81 ⟨(Nat.le_of_ble_eq_true rfl), (Nat.le_of_ble_eq_true rfl)⟩) (fun L_165 f_166 H_167 locs hp_168 hw => ?_)
  obtain ⟨G_172, gx_170, hZ, ty_171, nt_172, hv_173⟩ := hp_168
  have ty_12 := gx_170.ty ty_12 (by omega)
  have ty_29 := gx_170.ty ty_29 (by omega)
  have ty_46 := gx_170.ty ty_46 (by decide)
  have ty_63 := gx_170.ty ty_63 (by decide)
  have ty_80 := gx_170.ty ty_80 (by decide)
  have ty_97 := gx_170.ty ty_97 (by decide)
  have ty_114 := gx_170.ty ty_114 (by decide)
  have ty_131 := gx_170.ty ty_131 (by decide)
  have ty_148 := gx_170.ty ty_148 (by decide)
  have hX := hX.trans gx_170
  have u_z := (nt_172 h h_152.1 ne_163).2.2
  have h_152 := nt_172.at h_152 ne_163
  have uh := u_z.trans uh
  have hz0 := nt_172.at hz0 nr_164
  have hT := hT.sub nt_172 nq_162
  obtain ⟨lv_174, nv_175, hV_176, -, -⟩ := wg_9 hZ.2.1 ty_171
  have hlv : lv_174.toInt = 0 ∧ nv_175.toInt = 0 := by have z := va_eq hV_176; have z2 := hv_173; omega
  refine py_put (C := RX2) (T := TX2) (N := 12) (k := 9) (v := .ref q_154) (fs' := [.ref q_1, .ref q_18, .ref q_35, .ref q_52, .ref q_69, .ref q_86, .ref q_103, .ref q_120, .ref q_137, .ref q_154, .long 0, .int 0]) (ty0 := tyX2) G0 hw tyX2_ok nmX2 in_X2_init_X2 rfl h_152 (by decide) (by decide +kernel) rfl rfl rfl rfl (Nat.le_of_ble_eq_true rfl) rfl dX2_init_84 (fun f_177 H_178 locs h_179 x_180 hw => ?_)
  have hZ := hZ.unt uh x_180
  have hT := hT.ext x_180
  have hz0 := hz0.ext x_180 (un_ne ty_12 uh (by omega))
  have hV_176 := hV_176.ext x_180 (un_ne ty_171 uh (by decide))
  refine lv_aload_n G0.1 G0.2.1 dX2_init_87 rfl (lv_at hl 0 rfl) ?_
  refine lv_lconst (v := 0) G0.1 G0.2.1 dX2_init_88 (by decide) ?_
  refine py_put (C := RX2) (T := TX2) (N := 12) (k := 10) (v := .long 0) (fs' := [.ref q_1, .ref q_18, .ref q_35, .ref q_52, .ref q_69, .ref q_86, .ref q_103, .ref q_120, .ref q_137, .ref q_154, .long 0, .int 0]) (ty0 := tyX2) G0 hw tyX2_ok nmX2 in_X2_init_X2 rfl h_179 (by decide) (by decide +kernel) rfl rfl rfl rfl (Nat.le_of_ble_eq_true rfl) rfl dX2_init_89 (fun f_181 H_182 locs h_183 x_184 hw => ?_)
  have hZ := hZ.unt uh x_184
  have hT := hT.ext x_184
  have hz0 := hz0.ext x_184 (un_ne ty_12 uh (by omega))
  have hV_176 := hV_176.ext x_184 (un_ne ty_171 uh (by decide))
  refine lv_aload_n G0.1 G0.2.1 dX2_init_92 rfl (lv_at hl 0 rfl) ?_
  refine lv_iconst (v := 0) G0.1 G0.2.1 dX2_init_93 (by decide) ?_
  refine py_put (C := RX2) (T := TX2) (N := 12) (k := 11) (v := .int 0) (fs' := [.ref q_1, .ref q_18, .ref q_35, .ref q_52, .ref q_69, .ref q_86, .ref q_103, .ref q_120, .ref q_137, .ref q_154, .long 0, .int 0]) (ty0 := tyX2) G0 hw tyX2_ok nmX2 in_X2_init_X2 rfl h_183 (by decide) (by decide +kernel) rfl rfl rfl rfl (Nat.le_of_ble_eq_true rfl) rfl dX2_init_94 (fun f_185 H_186 locs h_187 x_188 hw => ?_)
  have hZ := hZ.unt uh x_188
  have hT := hT.ext x_188
  have hz0 := hz0.ext x_188 (un_ne ty_12 uh (by omega))
  have hV_176 := hV_176.ext x_188 (un_ne ty_171 uh (by decide))
  obtain ⟨G_190, gx_189, hZ, hth, hrr, ee_190⟩ := hZ.ty (c := 3) (r := (fun j => match j with | 0 => q_1 | 1 => q_18 | 2 => q_35 | 3 => q_52 | 4 => q_69 | 5 => q_86 | 6 => q_103 | 7 => q_120 | 8 => q_137 | _ => 0)) uh (by decide) h_187.1 (fun G1 gg e1 hr => ⟨q_154, 0, 0, by rw [hr 0, hr 1, hr 2, hr 3, hr 4, hr 5, hr 6, hr 7, hr 8]; exact h_187.2, gg.ty ty_171 (by decide), ⟨by decide, by decide⟩⟩) (fun G1 gg e1 hr => ⟨by rw [hr 0]; exact gg.ty ty_12 (by omega), by rw [hr 1]; exact gg.ty ty_29 (by omega), by rw [hr 2]; exact gg.ty ty_46 (by decide), by rw [hr 3]; exact gg.ty ty_63 (by decide), by rw [hr 4]; exact gg.ty ty_80 (by decide), by rw [hr 5]; exact gg.ty ty_97 (by decide), by rw [hr 6]; exact gg.ty ty_114 (by decide), by rw [hr 7]; exact gg.ty ty_131 (by decide), by rw [hr 8]; exact gg.ty ty_148 (by decide)⟩) (fun _ gh q i hi => by rw [in_inj (q.symm.trans hz0.2)]; show (0 : Int32).toInt ≤ 0; decide)
  have ty_12 := gx_189.ty ty_12 (by omega)
  have ty_29 := gx_189.ty ty_29 (by omega)
  have ty_46 := gx_189.ty ty_46 (by decide)
  have ty_63 := gx_189.ty ty_63 (by decide)
  have ty_80 := gx_189.ty ty_80 (by decide)
  have ty_97 := gx_189.ty ty_97 (by decide)
  have ty_114 := gx_189.ty ty_114 (by decide)
  have ty_131 := gx_189.ty ty_131 (by decide)
  have ty_148 := gx_189.ty ty_148 (by decide)
  have ty_171 := gx_189.ty ty_171 (by decide)
  have hX := hX.trans gx_189
  have hT : NTR L f G h _ _ G_190 := fun b hb hn => ⟨(hT b hb hn).1, (hT b hb hn).2.1, (ee_190 b hn).trans (hT b hb hn).2.2⟩
  exact py_vret G0 hr hlk hw ⟨G_190, hX, hZ, hth, hT, ⟨q_154, fun z => nq_162 q_154 z (Ne.symm ne_163) rfl, (fo_eq h_187).1, (fo_eq h_187).2.1, by rw [(fo_eq h_187).2.2.1, (va_eq hV_176).1]; exact hlv.1, by rw [(fo_eq h_187).2.2.2, (va_eq hV_176).2]; exact hlv.2⟩⟩ dX2_init_97

def w_X1_init : List Cond := .code yX1_init cX1_init 1 none :: ([Cond.methodLink RX1 5 objectInit, Cond.instanceMethod objectInit, Cond.code objectInit ⟨#[0xb1]⟩ 1 none, Cond.arrayClass .int, Cond.fieldLink RX1 13 "HeadYear$Diary" "level" "[I", Cond.fieldLink RX1 17 "HeadYear$Diary" "heads" "[I", Cond.fieldLink RX1 20 "HeadYear$Diary" "years" "I"] ++ (u_ws RX1 TX1 3 ++ ([])))
theorem in_X1_init_X1 : ∀ w ∈ u_ws RX1 TX1 3, w ∈ w_X1_init := fun _ h => List.mem_cons_of_mem _ (List.mem_append_right _ (List.mem_append_left _ h))
set_option maxHeartbeats 4000000 in
set_option maxRecDepth 100000 in
theorem c_X1_init (l : Launch) (E : py_E) (G : wf_G) (L : List Nat) (f : py_F) (sz : Nat) (h : Nat) (hZ : GZ E G L f) (hh : py_at L f h (.inr (1, [.null, .null, .int 0]))) (uh : G.1 h = 0) : Met l yX1_init w_X1_init ({ frames := 1, cells := 2, slots := 1200, locals := 12 }) (py_Pc E [.ref h] L f sz) (py_Qv E L f sz (fun L1 f1 => ∃ G1 : wf_G, GX G G1 ∧ GZ E G1 L1 f1 ∧ G1.1 h = 2 ∧ NTR L f G h L1 f1 G1)) 2 1200 (va_A (va_pl L f) sz) := by
  refine Met.ofW (cc := cX1_init) (maxL := 1) (ret := none) (by decide) rfl ?_
  intro p e s m args below meth c s₁ B hml hv
  obtain ⟨rfl, rfl, hw⟩ := py_start hv
  have G0 : CallFix p m c cX1_init 1 s _ w_X1_init RX1 := ⟨B.exec, B.bytes, hml, findClass_of_methodNamed B.named, atoms_spec (ws := w_X1_init) B.pre⟩
  have hr := B.returns
  have hlk := B.notSynchronized
  have hin : meth.name = "<init>" := (name_of_methodNamed B.named B.method).1
  have hl := lv_entry ([.ref h]) (n := 1) (Nat.le_of_ble_eq_true rfl)
  rw [lg_entry_eq]
  generalize (lg_sl ([.ref h]) ++ List.replicate (1 - (lg_sl ([.ref h])).length) Slot.unset).toArray = ls at hl ⊢
  have hl : lv_has ls 1 [(0, .ref h)] := hl
  have hT : NTR L f G h L f G := NTR.refl
  have hX : GX G G := GX.refl
  refine lv_aload_n G0.1 G0.2.1 dX1_init_0 rfl (lv_at hl 0 rfl) ?_
  refine py_objInit G0 hl.1 (by decide +kernel) (by decide +kernel) (by decide +kernel) dX1_init_1 (Nat.le_of_ble_eq_true rfl) (Nat.le_of_ble_eq_true rfl) ?_
  refine lv_aload_n G0.1 G0.2.1 dX1_init_4 rfl (lv_at hl 0 rfl) ?_
  refine lv_sipush (v := 600) G0.1 G0.2.1 dX1_init_5 (by decide) ?_
  refine py_newI (N := 600) G0 hw (by decide +kernel) (by decide) (by decide) (Nat.le_of_ble_eq_true rfl) (Nat.le_of_ble_eq_true rfl) (Nat.le_of_ble_eq_true rfl) dX1_init_8 (fun q_1 L_2 f_3 H_4 hq_5 h_6 x_7 hw => ?_)
  have u_8 := hZ.un hq_5
  have nq_9 := hT.ne hq_5
  have ne_10 : h ≠ q_1 := py_ne_new hh hq_5
  have hh := hh.all x_7
  have hZ := hZ.all x_7
  have hT := hT.all x_7
  obtain ⟨G_13, gx_11, hZ, ty_12, ee_13⟩ := hZ.arr (c := 31) (n := 600) (lo := (-2147483648)) (hi := 2147483647) u_8 (by decide) (by decide) h_6 (fun _ _ => rfl) (fun _ => rfl) (by decide) (by decide)
  have hX := hX.trans gx_11
  have uh := (ee_13 h ne_10).trans uh
  have hT := hT.ty ee_13 nq_9
  refine py_putF (C := RX1) (T := TX1) (N := 3) (k := 0) (v := .ref q_1) (fs' := [.ref q_1, .null, .int 0]) (ty0 := tyX1) G0 hin hw tyX1_ok nmX1 in_X1_init_X1 rfl hh (by decide) (by decide +kernel) rfl rfl rfl rfl rfl (Nat.le_of_ble_eq_true rfl) rfl dX1_init_10 (fun f_14 H_15 locs h_16 x_17 hw => ?_)
  have hZ := hZ.unt uh x_17
  have hT := hT.ext x_17
  refine lv_aload_n G0.1 G0.2.1 dX1_init_13 rfl (lv_at hl 0 rfl) ?_
  refine lv_sipush (v := 600) G0.1 G0.2.1 dX1_init_14 (by decide) ?_
  refine py_newI (N := 600) G0 hw (by decide +kernel) (by decide) (by decide) (Nat.le_of_ble_eq_true rfl) (Nat.le_of_ble_eq_true rfl) (Nat.le_of_ble_eq_true rfl) dX1_init_17 (fun q_18 L_19 f_20 H_21 hq_22 h_23 x_24 hw => ?_)
  have u_25 := hZ.un hq_22
  have nq_26 := hT.ne hq_22
  have ne_27 : h ≠ q_18 := py_ne_new h_16 hq_22
  have h_16 := h_16.all x_24
  have hZ := hZ.all x_24
  have hT := hT.all x_24
  obtain ⟨G_30, gx_28, hZ, ty_29, ee_30⟩ := hZ.arr (c := 31) (n := 600) (lo := (-2147483648)) (hi := 2147483647) u_25 (by decide) (by decide) h_23 (fun _ _ => rfl) (fun _ => rfl) (by decide) (by decide)
  have ty_12 := gx_28.ty ty_12 (by decide)
  have hX := hX.trans gx_28
  have uh := (ee_30 h ne_27).trans uh
  have hT := hT.ty ee_30 nq_26
  refine py_putF (C := RX1) (T := TX1) (N := 3) (k := 1) (v := .ref q_18) (fs' := [.ref q_1, .ref q_18, .int 0]) (ty0 := tyX1) G0 hin hw tyX1_ok nmX1 in_X1_init_X1 rfl h_16 (by decide) (by decide +kernel) rfl rfl rfl rfl rfl (Nat.le_of_ble_eq_true rfl) rfl dX1_init_19 (fun f_31 H_32 locs h_33 x_34 hw => ?_)
  have hZ := hZ.unt uh x_34
  have hT := hT.ext x_34
  refine lv_aload_n G0.1 G0.2.1 dX1_init_22 rfl (lv_at hl 0 rfl) ?_
  refine lv_iconst (v := 0) G0.1 G0.2.1 dX1_init_23 (by decide) ?_
  refine py_put (C := RX1) (T := TX1) (N := 3) (k := 2) (v := .int 0) (fs' := [.ref q_1, .ref q_18, .int 0]) (ty0 := tyX1) G0 hw tyX1_ok nmX1 in_X1_init_X1 rfl h_33 (by decide) (by decide +kernel) rfl rfl rfl rfl (Nat.le_of_ble_eq_true rfl) rfl dX1_init_24 (fun f_35 H_36 locs h_37 x_38 hw => ?_)
  have hZ := hZ.unt uh x_38
  have hT := hT.ext x_38
  obtain ⟨G_40, gx_39, hZ, hth, hrr, ee_40⟩ := hZ.ty (c := 2) (r := (fun j => match j with | 0 => q_1 | 1 => q_18 | _ => 0)) uh (by decide) h_37.1 (fun G1 gg e1 hr => ⟨0, by rw [hr 0, hr 1]; exact h_37.2, ⟨by decide, by decide⟩⟩) (fun G1 gg e1 hr => ⟨by rw [hr 0]; exact gg.ty ty_12 (by decide), by rw [hr 1]; exact gg.ty ty_29 (by decide)⟩) (fun e => absurd e (by decide))
  have ty_12 := gx_39.ty ty_12 (by decide)
  have ty_29 := gx_39.ty ty_29 (by decide)
  have hX := hX.trans gx_39
  have hT : NTR L f G h _ _ G_40 := fun b hb hn => ⟨(hT b hb hn).1, (hT b hb hn).2.1, (ee_40 b hn).trans (hT b hb hn).2.2⟩
  exact py_vret G0 hr hlk hw ⟨G_40, hX, hZ, hth, hT⟩ dX1_init_27

def w_X0_init : List Cond := .code yX0_init cX0_init 1 none :: ([Cond.methodLink RX0 1 objectInit, Cond.instanceMethod objectInit, Cond.code objectInit ⟨#[0xb1]⟩ 1 none, Cond.arrayClass .int, Cond.fieldLink RX0 9 "HeadYear$Buyings" "family" "[I", Cond.fieldLink RX0 13 "HeadYear$Buyings" "levels" "[I", Cond.fieldLink RX0 16 "HeadYear$Buyings" "cost" "[I", Cond.fieldLink RX0 19 "HeadYear$Buyings" "count" "I", Cond.fieldLink RX0 23 "HeadYear$Buyings" "price" "I"] ++ (u_ws RX0 TX0 5 ++ ([])))
theorem in_X0_init_X0 : ∀ w ∈ u_ws RX0 TX0 5, w ∈ w_X0_init := fun _ h => List.mem_cons_of_mem _ (List.mem_append_right _ (List.mem_append_left _ h))
set_option maxHeartbeats 4000000 in
set_option maxRecDepth 100000 in
theorem c_X0_init (l : Launch) (E : py_E) (G : wf_G) (L : List Nat) (f : py_F) (sz : Nat) (h : Nat) (hZ : GZ E G L f) (hh : py_at L f h (.inr (0, [.null, .null, .null, .int 0, .int 0]))) (uh : G.1 h = 0) : Met l yX0_init w_X0_init ({ frames := 1, cells := 3, slots := 120, locals := 12 }) (py_Pc E [.ref h] L f sz) (py_Qv E L f sz (fun L1 f1 => ∃ G1 : wf_G, GX G G1 ∧ GZ E G1 L1 f1 ∧ G1.1 h = 1 ∧ NTR L f G h L1 f1 G1)) 3 120 (va_A (va_pl L f) sz) := by
  refine Met.ofW (cc := cX0_init) (maxL := 1) (ret := none) (by decide) rfl ?_
  intro p e s m args below meth c s₁ B hml hv
  obtain ⟨rfl, rfl, hw⟩ := py_start hv
  have G0 : CallFix p m c cX0_init 1 s _ w_X0_init RX0 := ⟨B.exec, B.bytes, hml, findClass_of_methodNamed B.named, atoms_spec (ws := w_X0_init) B.pre⟩
  have hr := B.returns
  have hlk := B.notSynchronized
  have hin : meth.name = "<init>" := (name_of_methodNamed B.named B.method).1
  have hl := lv_entry ([.ref h]) (n := 1) (Nat.le_of_ble_eq_true rfl)
  rw [lg_entry_eq]
  generalize (lg_sl ([.ref h]) ++ List.replicate (1 - (lg_sl ([.ref h])).length) Slot.unset).toArray = ls at hl ⊢
  have hl : lv_has ls 1 [(0, .ref h)] := hl
  have hT : NTR L f G h L f G := NTR.refl
  have hX : GX G G := GX.refl
  refine lv_aload_n G0.1 G0.2.1 dX0_init_0 rfl (lv_at hl 0 rfl) ?_
  refine py_objInit G0 hl.1 (by decide +kernel) (by decide +kernel) (by decide +kernel) dX0_init_1 (Nat.le_of_ble_eq_true rfl) (Nat.le_of_ble_eq_true rfl) ?_
  refine lv_aload_n G0.1 G0.2.1 dX0_init_4 rfl (lv_at hl 0 rfl) ?_
  refine lv_bipush (v := 40) G0.1 G0.2.1 dX0_init_5 (by decide) ?_
  refine py_newI (N := 40) G0 hw (by decide +kernel) (by decide) (by decide) (Nat.le_of_ble_eq_true rfl) (Nat.le_of_ble_eq_true rfl) (Nat.le_of_ble_eq_true rfl) dX0_init_7 (fun q_1 L_2 f_3 H_4 hq_5 h_6 x_7 hw => ?_)
  have u_8 := hZ.un hq_5
  have nq_9 := hT.ne hq_5
  have ne_10 : h ≠ q_1 := py_ne_new hh hq_5
  have hh := hh.all x_7
  have hZ := hZ.all x_7
  have hT := hT.all x_7
  obtain ⟨G_13, gx_11, hZ, ty_12, ee_13⟩ := hZ.arr (c := 28) (n := 40) (lo := 0) (hi := 9) u_8 (by decide) (by decide) h_6 (fun _ _ => rfl) (fun _ => rfl) (by decide) (by decide)
  have hX := hX.trans gx_11
  have uh := (ee_13 h ne_10).trans uh
  have hT := hT.ty ee_13 nq_9
  refine py_putF (C := RX0) (T := TX0) (N := 5) (k := 0) (v := .ref q_1) (fs' := [.ref q_1, .null, .null, .int 0, .int 0]) (ty0 := tyX0) G0 hin hw tyX0_ok nmX0 in_X0_init_X0 rfl hh (by decide) (by decide +kernel) rfl rfl rfl rfl rfl (Nat.le_of_ble_eq_true rfl) rfl dX0_init_9 (fun f_14 H_15 locs h_16 x_17 hw => ?_)
  have hZ := hZ.unt uh x_17
  have hT := hT.ext x_17
  refine lv_aload_n G0.1 G0.2.1 dX0_init_12 rfl (lv_at hl 0 rfl) ?_
  refine lv_bipush (v := 40) G0.1 G0.2.1 dX0_init_13 (by decide) ?_
  refine py_newI (N := 40) G0 hw (by decide +kernel) (by decide) (by decide) (Nat.le_of_ble_eq_true rfl) (Nat.le_of_ble_eq_true rfl) (Nat.le_of_ble_eq_true rfl) dX0_init_15 (fun q_18 L_19 f_20 H_21 hq_22 h_23 x_24 hw => ?_)
  have u_25 := hZ.un hq_22
  have nq_26 := hT.ne hq_22
  have ne_27 : h ≠ q_18 := py_ne_new h_16 hq_22
  have h_16 := h_16.all x_24
  have hZ := hZ.all x_24
  have hT := hT.all x_24
  obtain ⟨G_30, gx_28, hZ, ty_29, ee_30⟩ := hZ.arr (c := 29) (n := 40) (lo := (-2147483648)) (hi := 2147483647) u_25 (by decide) (by decide) h_23 (fun _ _ => rfl) (fun _ => rfl) (by decide) (by decide)
  have ty_12 := gx_28.ty ty_12 (by decide)
  have hX := hX.trans gx_28
  have uh := (ee_30 h ne_27).trans uh
  have hT := hT.ty ee_30 nq_26
  refine py_putF (C := RX0) (T := TX0) (N := 5) (k := 1) (v := .ref q_18) (fs' := [.ref q_1, .ref q_18, .null, .int 0, .int 0]) (ty0 := tyX0) G0 hin hw tyX0_ok nmX0 in_X0_init_X0 rfl h_16 (by decide) (by decide +kernel) rfl rfl rfl rfl rfl (Nat.le_of_ble_eq_true rfl) rfl dX0_init_17 (fun f_31 H_32 locs h_33 x_34 hw => ?_)
  have hZ := hZ.unt uh x_34
  have hT := hT.ext x_34
  refine lv_aload_n G0.1 G0.2.1 dX0_init_20 rfl (lv_at hl 0 rfl) ?_
  refine lv_bipush (v := 40) G0.1 G0.2.1 dX0_init_21 (by decide) ?_
  refine py_newI (N := 40) G0 hw (by decide +kernel) (by decide) (by decide) (Nat.le_of_ble_eq_true rfl) (Nat.le_of_ble_eq_true rfl) (Nat.le_of_ble_eq_true rfl) dX0_init_23 (fun q_35 L_36 f_37 H_38 hq_39 h_40 x_41 hw => ?_)
  have u_42 := hZ.un hq_39
  have nq_43 := hT.ne hq_39
  have ne_44 : h ≠ q_35 := py_ne_new h_33 hq_39
  have h_33 := h_33.all x_41
  have hZ := hZ.all x_41
  have hT := hT.all x_41
  obtain ⟨G_47, gx_45, hZ, ty_46, ee_47⟩ := hZ.arr (c := 29) (n := 40) (lo := (-2147483648)) (hi := 2147483647) u_42 (by decide) (by decide) h_40 (fun _ _ => rfl) (fun _ => rfl) (by decide) (by decide)
  have ty_12 := gx_45.ty ty_12 (by decide)
  have ty_29 := gx_45.ty ty_29 (by decide)
  have hX := hX.trans gx_45
  have uh := (ee_47 h ne_44).trans uh
  have hT := hT.ty ee_47 nq_43
  refine py_putF (C := RX0) (T := TX0) (N := 5) (k := 2) (v := .ref q_35) (fs' := [.ref q_1, .ref q_18, .ref q_35, .int 0, .int 0]) (ty0 := tyX0) G0 hin hw tyX0_ok nmX0 in_X0_init_X0 rfl h_33 (by decide) (by decide +kernel) rfl rfl rfl rfl rfl (Nat.le_of_ble_eq_true rfl) rfl dX0_init_25 (fun f_48 H_49 locs h_50 x_51 hw => ?_)
  have hZ := hZ.unt uh x_51
  have hT := hT.ext x_51
  refine lv_aload_n G0.1 G0.2.1 dX0_init_28 rfl (lv_at hl 0 rfl) ?_
  refine lv_iconst (v := 0) G0.1 G0.2.1 dX0_init_29 (by decide) ?_
  refine py_put (C := RX0) (T := TX0) (N := 5) (k := 3) (v := .int 0) (fs' := [.ref q_1, .ref q_18, .ref q_35, .int 0, .int 0]) (ty0 := tyX0) G0 hw tyX0_ok nmX0 in_X0_init_X0 rfl h_50 (by decide) (by decide +kernel) rfl rfl rfl rfl (Nat.le_of_ble_eq_true rfl) rfl dX0_init_30 (fun f_52 H_53 locs h_54 x_55 hw => ?_)
  have hZ := hZ.unt uh x_55
  have hT := hT.ext x_55
  refine lv_aload_n G0.1 G0.2.1 dX0_init_33 rfl (lv_at hl 0 rfl) ?_
  refine lv_bipush (v := 10) G0.1 G0.2.1 dX0_init_34 (by decide) ?_
  refine py_put (C := RX0) (T := TX0) (N := 5) (k := 4) (v := .int 10) (fs' := [.ref q_1, .ref q_18, .ref q_35, .int 0, .int 10]) (ty0 := tyX0) G0 hw tyX0_ok nmX0 in_X0_init_X0 rfl h_54 (by decide) (by decide +kernel) rfl rfl rfl rfl (Nat.le_of_ble_eq_true rfl) rfl dX0_init_36 (fun f_56 H_57 locs h_58 x_59 hw => ?_)
  have hZ := hZ.unt uh x_59
  have hT := hT.ext x_59
  obtain ⟨G_61, gx_60, hZ, hth, hrr, ee_61⟩ := hZ.ty (c := 1) (r := (fun j => match j with | 0 => q_1 | 1 => q_18 | 2 => q_35 | _ => 0)) uh (by decide) h_58.1 (fun G1 gg e1 hr => ⟨0, 10, by rw [hr 0, hr 1, hr 2]; exact h_58.2, ⟨by decide, by decide⟩, ⟨by decide, by decide⟩⟩) (fun G1 gg e1 hr => ⟨by rw [hr 0]; exact gg.ty ty_12 (by decide), by rw [hr 1]; exact gg.ty ty_29 (by decide), by rw [hr 2]; exact gg.ty ty_46 (by decide)⟩) (fun e => absurd e (by decide))
  have ty_12 := gx_60.ty ty_12 (by decide)
  have ty_29 := gx_60.ty ty_29 (by decide)
  have ty_46 := gx_60.ty ty_46 (by decide)
  have hX := hX.trans gx_60
  have hT : NTR L f G h _ _ G_61 := fun b hb hn => ⟨(hT b hb hn).1, (hT b hb hn).2.1, (ee_61 b hn).trans (hT b hb hn).2.2⟩
  exact py_vret G0 hr hlk hw ⟨G_61, hX, hZ, hth, hT⟩ dX0_init_39

def w_X7_init : List Cond := .code yX7_init cX7_init 1 none :: ([Cond.methodLink RX7 3 objectInit, Cond.instanceMethod objectInit, Cond.code objectInit ⟨#[0xb1]⟩ 1 none, Cond.arrayClass .int, Cond.fieldLink RX7 11 "HeadYear$Seasons" "lacks" "[I", Cond.fieldLink RX7 19 "HeadYear$Seasons" "letters" "[I", Cond.fieldLink RX7 22 "HeadYear$Seasons" "ring" "[I", Cond.fieldLink RX7 25 "HeadYear$Seasons" "find" "I", Cond.fieldLink RX7 29 "HeadYear$Seasons" "luck" "Z"] ++ (u_ws RX7 TX7 5 ++ ([])))
theorem in_X7_init_X7 : ∀ w ∈ u_ws RX7 TX7 5, w ∈ w_X7_init := fun _ h => List.mem_cons_of_mem _ (List.mem_append_right _ (List.mem_append_left _ h))
set_option maxHeartbeats 4000000 in
set_option maxRecDepth 100000 in
theorem c_X7_init (l : Launch) (E : py_E) (G : wf_G) (L : List Nat) (f : py_F) (sz : Nat) (h : Nat) (hZ : GZ E G L f) (hh : py_at L f h (.inr (7, [.null, .null, .null, .int 0, .int 0]))) (uh : G.1 h = 0) : Met l yX7_init w_X7_init ({ frames := 1, cells := 3, slots := 24, locals := 12 }) (py_Pc E [.ref h] L f sz) (py_Qv E L f sz (fun L1 f1 => ∃ G1 : wf_G, GX G G1 ∧ GZ E G1 L1 f1 ∧ G1.1 h = 8 ∧ NTR L f G h L1 f1 G1)) 3 24 (va_A (va_pl L f) sz) := by
  refine Met.ofW (cc := cX7_init) (maxL := 1) (ret := none) (by decide) rfl ?_
  intro p e s m args below meth c s₁ B hml hv
  obtain ⟨rfl, rfl, hw⟩ := py_start hv
  have G0 : CallFix p m c cX7_init 1 s _ w_X7_init RX7 := ⟨B.exec, B.bytes, hml, findClass_of_methodNamed B.named, atoms_spec (ws := w_X7_init) B.pre⟩
  have hr := B.returns
  have hlk := B.notSynchronized
  have hin : meth.name = "<init>" := (name_of_methodNamed B.named B.method).1
  have hl := lv_entry ([.ref h]) (n := 1) (Nat.le_of_ble_eq_true rfl)
  rw [lg_entry_eq]
  generalize (lg_sl ([.ref h]) ++ List.replicate (1 - (lg_sl ([.ref h])).length) Slot.unset).toArray = ls at hl ⊢
  have hl : lv_has ls 1 [(0, .ref h)] := hl
  have hT : NTR L f G h L f G := NTR.refl
  have hX : GX G G := GX.refl
  refine lv_aload_n G0.1 G0.2.1 dX7_init_0 rfl (lv_at hl 0 rfl) ?_
  refine py_objInit G0 hl.1 (by decide +kernel) (by decide +kernel) (by decide +kernel) dX7_init_1 (Nat.le_of_ble_eq_true rfl) (Nat.le_of_ble_eq_true rfl) ?_
  refine lv_aload_n G0.1 G0.2.1 dX7_init_4 rfl (lv_at hl 0 rfl) ?_
  refine lv_bipush (v := 8) G0.1 G0.2.1 dX7_init_5 (by decide) ?_
  refine py_newI (N := 8) G0 hw (by decide +kernel) (by decide) (by decide) (Nat.le_of_ble_eq_true rfl) (Nat.le_of_ble_eq_true rfl) (Nat.le_of_ble_eq_true rfl) dX7_init_7 (fun q_1 L_2 f_3 H_4 hq_5 h_6 x_7 hw => ?_)
  have u_8 := hZ.un hq_5
  have nq_9 := hT.ne hq_5
  have ne_10 : h ≠ q_1 := py_ne_new hh hq_5
  have hh := hh.all x_7
  have hZ := hZ.all x_7
  have hT := hT.all x_7
  obtain ⟨G_13, gx_11, hZ, ty_12, ee_13⟩ := hZ.arr (c := 24) (n := 8) (lo := (-2147483648)) (hi := 2147483647) u_8 (by decide) (by decide) h_6 (fun _ _ => rfl) (fun _ => rfl) (by decide) (by decide)
  have hX := hX.trans gx_11
  have uh := (ee_13 h ne_10).trans uh
  have hT := hT.ty ee_13 nq_9
  refine py_putF (C := RX7) (T := TX7) (N := 5) (k := 0) (v := .ref q_1) (fs' := [.ref q_1, .null, .null, .int 0, .int 0]) (ty0 := tyX7) G0 hin hw tyX7_ok nmX7 in_X7_init_X7 rfl hh (by decide) (by decide +kernel) rfl rfl rfl rfl rfl (Nat.le_of_ble_eq_true rfl) rfl dX7_init_9 (fun f_14 H_15 locs h_16 x_17 hw => ?_)
  have hZ := hZ.unt uh x_17
  have hT := hT.ext x_17
  refine lv_aload_n G0.1 G0.2.1 dX7_init_12 rfl (lv_at hl 0 rfl) ?_
  refine lv_bipush (v := 6) G0.1 G0.2.1 dX7_init_13 (by decide) ?_
  refine py_newI (N := 6) G0 hw (by decide +kernel) (by decide) (by decide) (Nat.le_of_ble_eq_true rfl) (Nat.le_of_ble_eq_true rfl) (Nat.le_of_ble_eq_true rfl) dX7_init_15 (fun q_18 L_19 f_20 H_21 hq_22 h_23 x_24 hw => ?_)
  have u_25 := hZ.un hq_22
  have nq_26 := hT.ne hq_22
  have ne_27 : h ≠ q_18 := py_ne_new h_16 hq_22
  have h_16 := h_16.all x_24
  have hZ := hZ.all x_24
  have hT := hT.all x_24
  obtain ⟨G_30, gx_28, hZ, ty_29, ee_30⟩ := hZ.arr (c := 32) (n := 6) (lo := (-2147483648)) (hi := 2147483647) u_25 (by decide) (by decide) h_23 (fun _ _ => rfl) (fun _ => rfl) (by decide) (by decide)
  have ty_12 := gx_28.ty ty_12 (by decide)
  have hX := hX.trans gx_28
  have uh := (ee_30 h ne_27).trans uh
  have hT := hT.ty ee_30 nq_26
  refine py_putF (C := RX7) (T := TX7) (N := 5) (k := 1) (v := .ref q_18) (fs' := [.ref q_1, .ref q_18, .null, .int 0, .int 0]) (ty0 := tyX7) G0 hin hw tyX7_ok nmX7 in_X7_init_X7 rfl h_16 (by decide) (by decide +kernel) rfl rfl rfl rfl rfl (Nat.le_of_ble_eq_true rfl) rfl dX7_init_17 (fun f_31 H_32 locs h_33 x_34 hw => ?_)
  have hZ := hZ.unt uh x_34
  have hT := hT.ext x_34
  refine lv_aload_n G0.1 G0.2.1 dX7_init_20 rfl (lv_at hl 0 rfl) ?_
  refine lv_bipush (v := 10) G0.1 G0.2.1 dX7_init_21 (by decide) ?_
  refine py_newI (N := 10) G0 hw (by decide +kernel) (by decide) (by decide) (Nat.le_of_ble_eq_true rfl) (Nat.le_of_ble_eq_true rfl) (Nat.le_of_ble_eq_true rfl) dX7_init_23 (fun q_35 L_36 f_37 H_38 hq_39 h_40 x_41 hw => ?_)
  have u_42 := hZ.un hq_39
  have nq_43 := hT.ne hq_39
  have ne_44 : h ≠ q_35 := py_ne_new h_33 hq_39
  have h_33 := h_33.all x_41
  have hZ := hZ.all x_41
  have hT := hT.all x_41
  obtain ⟨G_47, gx_45, hZ, ty_46, ee_47⟩ := hZ.arr (c := 33) (n := 10) (lo := 0) (hi := 9) u_42 (by decide) (by decide) h_40 (fun _ _ => rfl) (fun _ => rfl) (by decide) (by decide)
  have ty_12 := gx_45.ty ty_12 (by decide)
  have ty_29 := gx_45.ty ty_29 (by decide)
  have hX := hX.trans gx_45
  have uh := (ee_47 h ne_44).trans uh
  have hT := hT.ty ee_47 nq_43
  refine py_putF (C := RX7) (T := TX7) (N := 5) (k := 2) (v := .ref q_35) (fs' := [.ref q_1, .ref q_18, .ref q_35, .int 0, .int 0]) (ty0 := tyX7) G0 hin hw tyX7_ok nmX7 in_X7_init_X7 rfl h_33 (by decide) (by decide +kernel) rfl rfl rfl rfl rfl (Nat.le_of_ble_eq_true rfl) rfl dX7_init_25 (fun f_48 H_49 locs h_50 x_51 hw => ?_)
  have hZ := hZ.unt uh x_51
  have hT := hT.ext x_51
  refine lv_aload_n G0.1 G0.2.1 dX7_init_28 rfl (lv_at hl 0 rfl) ?_
  refine lv_bipush (v := 50) G0.1 G0.2.1 dX7_init_29 (by decide) ?_
  refine py_put (C := RX7) (T := TX7) (N := 5) (k := 3) (v := .int 50) (fs' := [.ref q_1, .ref q_18, .ref q_35, .int 50, .int 0]) (ty0 := tyX7) G0 hw tyX7_ok nmX7 in_X7_init_X7 rfl h_50 (by decide) (by decide +kernel) rfl rfl rfl rfl (Nat.le_of_ble_eq_true rfl) rfl dX7_init_31 (fun f_52 H_53 locs h_54 x_55 hw => ?_)
  have hZ := hZ.unt uh x_55
  have hT := hT.ext x_55
  refine lv_aload_n G0.1 G0.2.1 dX7_init_34 rfl (lv_at hl 0 rfl) ?_
  refine lv_iconst (v := 0) G0.1 G0.2.1 dX7_init_35 (by decide) ?_
  refine py_put (C := RX7) (T := TX7) (N := 5) (k := 4) (v := .int 0) (fs' := [.ref q_1, .ref q_18, .ref q_35, .int 50, .int 0]) (ty0 := tyX7) G0 hw tyX7_ok nmX7 in_X7_init_X7 rfl h_54 (by decide) (by decide +kernel) rfl rfl rfl rfl (Nat.le_of_ble_eq_true rfl) rfl dX7_init_36 (fun f_56 H_57 locs h_58 x_59 hw => ?_)
  have hZ := hZ.unt uh x_59
  have hT := hT.ext x_59
  obtain ⟨G_61, gx_60, hZ, hth, hrr, ee_61⟩ := hZ.ty (c := 8) (r := (fun j => match j with | 0 => q_1 | 1 => q_18 | 2 => q_35 | _ => 0)) uh (by decide) h_58.1 (fun G1 gg e1 hr => ⟨50, 0, by rw [hr 0, hr 1, hr 2]; exact h_58.2, ⟨by decide, by decide⟩⟩) (fun G1 gg e1 hr => ⟨by rw [hr 0]; exact gg.ty ty_12 (by decide), by rw [hr 1]; exact gg.ty ty_29 (by decide), by rw [hr 2]; exact gg.ty ty_46 (by decide)⟩) (fun e => absurd e (by decide))
  have ty_12 := gx_60.ty ty_12 (by decide)
  have ty_29 := gx_60.ty ty_29 (by decide)
  have ty_46 := gx_60.ty ty_46 (by decide)
  have hX := hX.trans gx_60
  have hT : NTR L f G h _ _ G_61 := fun b hb hn => ⟨(hT b hb hn).1, (hT b hb hn).2.1, (ee_61 b hn).trans (hT b hb hn).2.2⟩
  exact py_vret G0 hr hlk hw ⟨G_61, hX, hZ, hth, hT⟩ dX7_init_39

def w_X5_init : List Cond := .code yX5_init cX5_init 1 none :: ([Cond.methodLink RX5 3 objectInit, Cond.instanceMethod objectInit, Cond.code objectInit ⟨#[0xb1]⟩ 1 none, Cond.arrayClass .int, Cond.fieldLink RX5 11 "HeadYear$Moves" "there" "[I"] ++ (u_ws RX5 TX5 1 ++ ([])))
theorem in_X5_init_X5 : ∀ w ∈ u_ws RX5 TX5 1, w ∈ w_X5_init := fun _ h => List.mem_cons_of_mem _ (List.mem_append_right _ (List.mem_append_left _ h))
set_option maxHeartbeats 4000000 in
set_option maxRecDepth 100000 in
theorem c_X5_init (l : Launch) (E : py_E) (G : wf_G) (L : List Nat) (f : py_F) (sz : Nat) (h : Nat) (hZ : GZ E G L f) (hh : py_at L f h (.inr (5, [.null]))) (uh : G.1 h = 0) : Met l yX5_init w_X5_init ({ frames := 1, cells := 1, slots := 8, locals := 12 }) (py_Pc E [.ref h] L f sz) (py_Qv E L f sz (fun L1 f1 => ∃ G1 : wf_G, GX G G1 ∧ GZ E G1 L1 f1 ∧ G1.1 h = 6 ∧ NTR L f G h L1 f1 G1)) 1 8 (va_A (va_pl L f) sz) := by
  refine Met.ofW (cc := cX5_init) (maxL := 1) (ret := none) (by decide) rfl ?_
  intro p e s m args below meth c s₁ B hml hv
  obtain ⟨rfl, rfl, hw⟩ := py_start hv
  have G0 : CallFix p m c cX5_init 1 s _ w_X5_init RX5 := ⟨B.exec, B.bytes, hml, findClass_of_methodNamed B.named, atoms_spec (ws := w_X5_init) B.pre⟩
  have hr := B.returns
  have hlk := B.notSynchronized
  have hin : meth.name = "<init>" := (name_of_methodNamed B.named B.method).1
  have hl := lv_entry ([.ref h]) (n := 1) (Nat.le_of_ble_eq_true rfl)
  rw [lg_entry_eq]
  generalize (lg_sl ([.ref h]) ++ List.replicate (1 - (lg_sl ([.ref h])).length) Slot.unset).toArray = ls at hl ⊢
  have hl : lv_has ls 1 [(0, .ref h)] := hl
  have hT : NTR L f G h L f G := NTR.refl
  have hX : GX G G := GX.refl
  refine lv_aload_n G0.1 G0.2.1 dX5_init_0 rfl (lv_at hl 0 rfl) ?_
  refine py_objInit G0 hl.1 (by decide +kernel) (by decide +kernel) (by decide +kernel) dX5_init_1 (Nat.le_of_ble_eq_true rfl) (Nat.le_of_ble_eq_true rfl) ?_
  refine lv_aload_n G0.1 G0.2.1 dX5_init_4 rfl (lv_at hl 0 rfl) ?_
  refine lv_bipush (v := 8) G0.1 G0.2.1 dX5_init_5 (by decide) ?_
  refine py_newI (N := 8) G0 hw (by decide +kernel) (by decide) (by decide) (Nat.le_of_ble_eq_true rfl) (Nat.le_of_ble_eq_true rfl) (Nat.le_of_ble_eq_true rfl) dX5_init_7 (fun q_1 L_2 f_3 H_4 hq_5 h_6 x_7 hw => ?_)
  have u_8 := hZ.un hq_5
  have nq_9 := hT.ne hq_5
  have ne_10 : h ≠ q_1 := py_ne_new hh hq_5
  have hh := hh.all x_7
  have hZ := hZ.all x_7
  have hT := hT.all x_7
  obtain ⟨G_13, gx_11, hZ, ty_12, ee_13⟩ := hZ.arr (c := 24) (n := 8) (lo := (-2147483648)) (hi := 2147483647) u_8 (by decide) (by decide) h_6 (fun _ _ => rfl) (fun _ => rfl) (by decide) (by decide)
  have hX := hX.trans gx_11
  have uh := (ee_13 h ne_10).trans uh
  have hT := hT.ty ee_13 nq_9
  refine py_putF (C := RX5) (T := TX5) (N := 1) (k := 0) (v := .ref q_1) (fs' := [.ref q_1]) (ty0 := tyX5) G0 hin hw tyX5_ok nmX5 in_X5_init_X5 rfl hh (by decide) (by decide +kernel) rfl rfl rfl rfl rfl (Nat.le_of_ble_eq_true rfl) rfl dX5_init_9 (fun f_14 H_15 locs h_16 x_17 hw => ?_)
  have hZ := hZ.unt uh x_17
  have hT := hT.ext x_17
  obtain ⟨G_19, gx_18, hZ, hth, hrr, ee_19⟩ := hZ.ty (c := 6) (r := (fun j => match j with | 0 => q_1 | _ => 0)) uh (by decide) h_16.1 (fun G1 gg e1 hr => (show f_14 h = .inr (5, [.ref (G1.2 h 0)]) from by rw [hr 0]; exact h_16.2)) (fun G1 gg e1 hr => (show G1.1 (G1.2 h 0) = 24 from by rw [hr 0]; exact gg.ty ty_12 (by decide))) (fun e => absurd e (by decide))
  have ty_12 := gx_18.ty ty_12 (by decide)
  have hX := hX.trans gx_18
  have hT : NTR L f G h _ _ G_19 := fun b hb hn => ⟨(hT b hb hn).1, (hT b hb hn).2.1, (ee_19 b hn).trans (hT b hb hn).2.2⟩
  exact py_vret G0 hr hlk hw ⟨G_19, hX, hZ, hth, hT⟩ dX5_init_12

def w_X6_init : List Cond := .code yX6_init cX6_init 3 none :: ([Cond.methodLink RX6 3 objectInit, Cond.instanceMethod objectInit, Cond.code objectInit ⟨#[0xb1]⟩ 1 none, Cond.arrayClass .int, Cond.fieldLink RX6 11 "HeadYear$Odds" "letters" "[I", Cond.arrayClass .long, Cond.fieldLink RX6 17 "HeadYear$Odds" "dying" "[J", Cond.fieldLink RX6 23 "HeadYear$Odds" "parts" "[J", Cond.fieldLink RX6 26 "HeadYear$Odds" "after" "[J", Cond.fieldLink RX6 29 "HeadYear$Odds" "gone" "J", Cond.fieldLink RX6 33 "HeadYear$Odds" "folk" "LHeadYear$Folk;", Cond.fieldLink RX6 37 "HeadYear$Odds" "law" "LHeadYear$Law;"] ++ (u_ws RX6 TX6 7 ++ ([])))
theorem in_X6_init_X6 : ∀ w ∈ u_ws RX6 TX6 7, w ∈ w_X6_init := fun _ h => List.mem_cons_of_mem _ (List.mem_append_right _ (List.mem_append_left _ h))
set_option maxHeartbeats 4000000 in
set_option maxRecDepth 100000 in
theorem c_X6_init (l : Launch) (E : py_E) (G : wf_G) (L : List Nat) (f : py_F) (sz : Nat) (h : Nat) (fo : Nat) (nl : Nat) (hZ : GZ E G L f) (hh : py_at L f h (.inr (6, [.null, .null, .null, .null, .null, .null, .long 0]))) (uh : G.1 h = 0) (Tfo : G.1 fo = 3) (Tnl : G.1 nl = 4) : Met l yX6_init w_X6_init ({ frames := 1, cells := 4, slots := 364, locals := 12 }) (py_Pc E [.ref h, .ref fo, .ref nl] L f sz) (py_Qv E L f sz (fun L1 f1 => ∃ G1 : wf_G, GX G G1 ∧ GZ E G1 L1 f1 ∧ G1.1 h = 7 ∧ NTR L f G h L1 f1 G1 ∧ G1.2 h 2 = fo)) 4 364 (va_A (va_pl L f) sz) := by
  refine Met.ofW (cc := cX6_init) (maxL := 3) (ret := none) (by decide) rfl ?_
  intro p e s m args below meth c s₁ B hml hv
  obtain ⟨rfl, rfl, hw⟩ := py_start hv
  have G0 : CallFix p m c cX6_init 3 s _ w_X6_init RX6 := ⟨B.exec, B.bytes, hml, findClass_of_methodNamed B.named, atoms_spec (ws := w_X6_init) B.pre⟩
  have hr := B.returns
  have hlk := B.notSynchronized
  have hin : meth.name = "<init>" := (name_of_methodNamed B.named B.method).1
  have hl := lv_entry ([.ref h, .ref fo, .ref nl]) (n := 3) (Nat.le_of_ble_eq_true rfl)
  rw [lg_entry_eq]
  generalize (lg_sl ([.ref h, .ref fo, .ref nl]) ++ List.replicate (3 - (lg_sl ([.ref h, .ref fo, .ref nl])).length) Slot.unset).toArray = ls at hl ⊢
  have hl : lv_has ls 3 [(0, .ref h), (1, .ref fo), (2, .ref nl)] := hl
  have hT : NTR L f G h L f G := NTR.refl
  have hX : GX G G := GX.refl
  refine lv_aload_n G0.1 G0.2.1 dX6_init_0 rfl (lv_at hl 0 rfl) ?_
  refine py_objInit G0 hl.1 (by decide +kernel) (by decide +kernel) (by decide +kernel) dX6_init_1 (Nat.le_of_ble_eq_true rfl) (Nat.le_of_ble_eq_true rfl) ?_
  refine lv_aload_n G0.1 G0.2.1 dX6_init_4 rfl (lv_at hl 0 rfl) ?_
  refine lv_bipush (v := 6) G0.1 G0.2.1 dX6_init_5 (by decide) ?_
  refine py_newI (N := 6) G0 hw (by decide +kernel) (by decide) (by decide) (Nat.le_of_ble_eq_true rfl) (Nat.le_of_ble_eq_true rfl) (Nat.le_of_ble_eq_true rfl) dX6_init_7 (fun q_1 L_2 f_3 H_4 hq_5 h_6 x_7 hw => ?_)
  have u_8 := hZ.un hq_5
  have nq_9 := hT.ne hq_5
  have ne_10 : h ≠ q_1 := py_ne_new hh hq_5
  have hh := hh.all x_7
  have hZ := hZ.all x_7
  have hT := hT.all x_7
  obtain ⟨G_13, gx_11, hZ, ty_12, ee_13⟩ := hZ.arr (c := 32) (n := 6) (lo := (-2147483648)) (hi := 2147483647) u_8 (by decide) (by decide) h_6 (fun _ _ => rfl) (fun _ => rfl) (by decide) (by decide)
  have Tfo := gx_11.ty Tfo (by decide)
  have Tnl := gx_11.ty Tnl (by decide)
  have hX := hX.trans gx_11
  have uh := (ee_13 h ne_10).trans uh
  have hT := hT.ty ee_13 nq_9
  refine py_putF (C := RX6) (T := TX6) (N := 7) (k := 0) (v := .ref q_1) (fs' := [.ref q_1, .null, .null, .null, .null, .null, .long 0]) (ty0 := tyX6) G0 hin hw tyX6_ok nmX6 in_X6_init_X6 rfl hh (by decide) (by decide +kernel) rfl rfl rfl rfl rfl (Nat.le_of_ble_eq_true rfl) rfl dX6_init_9 (fun f_14 H_15 locs h_16 x_17 hw => ?_)
  have hZ := hZ.unt uh x_17
  have hT := hT.ext x_17
  refine lv_aload_n G0.1 G0.2.1 dX6_init_12 rfl (lv_at hl 0 rfl) ?_
  refine lv_bipush (v := 22) G0.1 G0.2.1 dX6_init_13 (by decide) ?_
  refine py_newJ (N := 22) G0 hw (by decide +kernel) (by decide) (by decide) (Nat.le_of_ble_eq_true rfl) (Nat.le_of_ble_eq_true rfl) (Nat.le_of_ble_eq_true rfl) dX6_init_15 (fun q_18 L_19 f_20 H_21 hq_22 h_23 x_24 hw => ?_)
  have u_25 := hZ.un hq_22
  have nq_26 := hT.ne hq_22
  have ne_27 : h ≠ q_18 := py_ne_new h_16 hq_22
  have h_16 := h_16.all x_24
  have hZ := hZ.all x_24
  have hT := hT.all x_24
  obtain ⟨G_30, gx_28, hZ, ty_29, ee_30⟩ := hZ.arrK (c := 34) u_25 (by decide) (by decide) h_23 (fun _ => ⟨_, rfl⟩) (fun _ => rfl)
  have Tfo := gx_28.ty Tfo (by decide)
  have Tnl := gx_28.ty Tnl (by decide)
  have ty_12 := gx_28.ty ty_12 (by decide)
  have hX := hX.trans gx_28
  have uh := (ee_30 h ne_27).trans uh
  have hT := hT.ty ee_30 nq_26
  refine py_putF (C := RX6) (T := TX6) (N := 7) (k := 1) (v := .ref q_18) (fs' := [.ref q_1, .ref q_18, .null, .null, .null, .null, .long 0]) (ty0 := tyX6) G0 hin hw tyX6_ok nmX6 in_X6_init_X6 rfl h_16 (by decide) (by decide +kernel) rfl rfl rfl rfl rfl (Nat.le_of_ble_eq_true rfl) rfl dX6_init_17 (fun f_31 H_32 locs h_33 x_34 hw => ?_)
  have hZ := hZ.unt uh x_34
  have hT := hT.ext x_34
  refine lv_aload_n G0.1 G0.2.1 dX6_init_20 rfl (lv_at hl 0 rfl) ?_
  refine lv_sipush (v := 168) G0.1 G0.2.1 dX6_init_21 (by decide) ?_
  refine py_newJ (N := 168) G0 hw (by decide +kernel) (by decide) (by decide) (Nat.le_of_ble_eq_true rfl) (Nat.le_of_ble_eq_true rfl) (Nat.le_of_ble_eq_true rfl) dX6_init_24 (fun q_35 L_36 f_37 H_38 hq_39 h_40 x_41 hw => ?_)
  have u_42 := hZ.un hq_39
  have nq_43 := hT.ne hq_39
  have ne_44 : h ≠ q_35 := py_ne_new h_33 hq_39
  have h_33 := h_33.all x_41
  have hZ := hZ.all x_41
  have hT := hT.all x_41
  obtain ⟨G_47, gx_45, hZ, ty_46, ee_47⟩ := hZ.arrK (c := 35) u_42 (by decide) (by decide) h_40 (fun _ => ⟨_, rfl⟩) (fun _ => rfl)
  have Tfo := gx_45.ty Tfo (by decide)
  have Tnl := gx_45.ty Tnl (by decide)
  have ty_12 := gx_45.ty ty_12 (by decide)
  have ty_29 := gx_45.ty ty_29 (by decide)
  have hX := hX.trans gx_45
  have uh := (ee_47 h ne_44).trans uh
  have hT := hT.ty ee_47 nq_43
  refine py_put (C := RX6) (T := TX6) (N := 7) (k := 3) (v := .ref q_35) (fs' := [.ref q_1, .ref q_18, .null, .ref q_35, .null, .null, .long 0]) (ty0 := tyX6) G0 hw tyX6_ok nmX6 in_X6_init_X6 rfl h_33 (by decide) (by decide +kernel) rfl rfl rfl rfl (Nat.le_of_ble_eq_true rfl) rfl dX6_init_26 (fun f_48 H_49 locs h_50 x_51 hw => ?_)
  have hZ := hZ.unt uh x_51
  have hT := hT.ext x_51
  refine lv_aload_n G0.1 G0.2.1 dX6_init_29 rfl (lv_at hl 0 rfl) ?_
  refine lv_sipush (v := 168) G0.1 G0.2.1 dX6_init_30 (by decide) ?_
  refine py_newJ (N := 168) G0 hw (by decide +kernel) (by decide) (by decide) (Nat.le_of_ble_eq_true rfl) (Nat.le_of_ble_eq_true rfl) (Nat.le_of_ble_eq_true rfl) dX6_init_33 (fun q_52 L_53 f_54 H_55 hq_56 h_57 x_58 hw => ?_)
  have u_59 := hZ.un hq_56
  have nq_60 := hT.ne hq_56
  have ne_61 : h ≠ q_52 := py_ne_new h_50 hq_56
  have h_50 := h_50.all x_58
  have hZ := hZ.all x_58
  have hT := hT.all x_58
  obtain ⟨G_64, gx_62, hZ, ty_63, ee_64⟩ := hZ.arrK (c := 35) u_59 (by decide) (by decide) h_57 (fun _ => ⟨_, rfl⟩) (fun _ => rfl)
  have Tfo := gx_62.ty Tfo (by decide)
  have Tnl := gx_62.ty Tnl (by decide)
  have ty_12 := gx_62.ty ty_12 (by decide)
  have ty_29 := gx_62.ty ty_29 (by decide)
  have ty_46 := gx_62.ty ty_46 (by decide)
  have hX := hX.trans gx_62
  have uh := (ee_64 h ne_61).trans uh
  have hT := hT.ty ee_64 nq_60
  refine py_put (C := RX6) (T := TX6) (N := 7) (k := 4) (v := .ref q_52) (fs' := [.ref q_1, .ref q_18, .null, .ref q_35, .ref q_52, .null, .long 0]) (ty0 := tyX6) G0 hw tyX6_ok nmX6 in_X6_init_X6 rfl h_50 (by decide) (by decide +kernel) rfl rfl rfl rfl (Nat.le_of_ble_eq_true rfl) rfl dX6_init_35 (fun f_65 H_66 locs h_67 x_68 hw => ?_)
  have hZ := hZ.unt uh x_68
  have hT := hT.ext x_68
  refine lv_aload_n G0.1 G0.2.1 dX6_init_38 rfl (lv_at hl 0 rfl) ?_
  refine lv_lconst (v := 0) G0.1 G0.2.1 dX6_init_39 (by decide) ?_
  refine py_put (C := RX6) (T := TX6) (N := 7) (k := 6) (v := .long 0) (fs' := [.ref q_1, .ref q_18, .null, .ref q_35, .ref q_52, .null, .long 0]) (ty0 := tyX6) G0 hw tyX6_ok nmX6 in_X6_init_X6 rfl h_67 (by decide) (by decide +kernel) rfl rfl rfl rfl (Nat.le_of_ble_eq_true rfl) rfl dX6_init_40 (fun f_69 H_70 locs h_71 x_72 hw => ?_)
  have hZ := hZ.unt uh x_72
  have hT := hT.ext x_72
  refine lv_aload_n G0.1 G0.2.1 dX6_init_43 rfl (lv_at hl 0 rfl) ?_
  refine lv_aload_n G0.1 G0.2.1 dX6_init_44 rfl (lv_at hl 1 rfl) ?_
  refine py_putF (C := RX6) (T := TX6) (N := 7) (k := 2) (v := .ref fo) (fs' := [.ref q_1, .ref q_18, .ref fo, .ref q_35, .ref q_52, .null, .long 0]) (ty0 := tyX6) G0 hin hw tyX6_ok nmX6 in_X6_init_X6 rfl h_71 (by decide) (by decide +kernel) rfl rfl rfl rfl rfl (Nat.le_of_ble_eq_true rfl) rfl dX6_init_45 (fun f_73 H_74 locs h_75 x_76 hw => ?_)
  have hZ := hZ.unt uh x_76
  have hT := hT.ext x_76
  refine lv_aload_n G0.1 G0.2.1 dX6_init_48 rfl (lv_at hl 0 rfl) ?_
  refine lv_aload_n G0.1 G0.2.1 dX6_init_49 rfl (lv_at hl 2 rfl) ?_
  refine py_put (C := RX6) (T := TX6) (N := 7) (k := 5) (v := .ref nl) (fs' := [.ref q_1, .ref q_18, .ref fo, .ref q_35, .ref q_52, .ref nl, .long 0]) (ty0 := tyX6) G0 hw tyX6_ok nmX6 in_X6_init_X6 rfl h_75 (by decide) (by decide +kernel) rfl rfl rfl rfl (Nat.le_of_ble_eq_true rfl) rfl dX6_init_50 (fun f_77 H_78 locs h_79 x_80 hw => ?_)
  have hZ := hZ.unt uh x_80
  have hT := hT.ext x_80
  obtain ⟨G_82, gx_81, hZ, hth, hrr, ee_82⟩ := hZ.ty (c := 7) (r := (fun j => match j with | 0 => q_1 | 1 => q_18 | 2 => fo | _ => 0)) uh (by decide) h_79.1 (fun G1 gg e1 hr => ⟨q_35, q_52, nl, 0, by rw [hr 0, hr 1, hr 2]; exact h_79.2, gg.ty ty_46 (by decide), gg.ty ty_63 (by decide), gg.ty Tnl (by decide)⟩) (fun G1 gg e1 hr => ⟨by rw [hr 0]; exact gg.ty ty_12 (by decide), by rw [hr 1]; exact gg.ty ty_29 (by decide), by rw [hr 2]; exact gg.ty Tfo (by decide)⟩) (fun e => absurd e (by decide))
  have Tfo := gx_81.ty Tfo (by decide)
  have Tnl := gx_81.ty Tnl (by decide)
  have ty_12 := gx_81.ty ty_12 (by decide)
  have ty_29 := gx_81.ty ty_29 (by decide)
  have ty_46 := gx_81.ty ty_46 (by decide)
  have ty_63 := gx_81.ty ty_63 (by decide)
  have hX := hX.trans gx_81
  have hT : NTR L f G h _ _ G_82 := fun b hb hn => ⟨(hT b hb hn).1, (hT b hb hn).2.1, (ee_82 b hn).trans (hT b hb hn).2.2⟩
  exact py_vret G0 hr hlk hw ⟨G_82, hX, hZ, hth, hT, (hrr 2)⟩ dX6_init_53

def w_X11_init : List Cond := .code yX11_init cX11_init 1 none :: ([Cond.methodLink RX11 1 objectInit, Cond.instanceMethod objectInit, Cond.code objectInit ⟨#[0xb1]⟩ 1 none, Cond.classLink RX11 7 RX8, Cond.instantiable RX8 4, Cond.initialized RX8, Cond.instanceMethod yX8_init, Cond.fieldLink RX11 10 "HeadYear" "tape" "LHeadYear$Tape;", Cond.classLink RX11 16 RX10, Cond.instantiable RX10 2, Cond.initialized RX10, Cond.instanceMethod yX10_init, Cond.fieldLink RX11 19 "HeadYear" "valleyReader" "LHeadYear$ValleyReader;", Cond.classLink RX11 23 RX4, Cond.instantiable RX4 1, Cond.initialized RX4, Cond.instanceMethod yX4_init, Cond.fieldLink RX11 26 "HeadYear" "lawReader" "LHeadYear$LawReader;", Cond.classLink RX11 30 RX3, Cond.fieldLink RX11 32 "HeadYear" "laws" "[LHeadYear$Law;", Cond.methodLink RX11 36 yX3_bornLessDead, Cond.static yX3_bornLessDead, Cond.initialized RX3, Cond.fieldLink RX11 40 "HeadYear" "noLaw" "LHeadYear$Law;", Cond.classLink RX11 44 RX2, Cond.instantiable RX2 12, Cond.initialized RX2, Cond.instanceMethod yX2_init, Cond.fieldLink RX11 47 "HeadYear" "folk" "LHeadYear$Folk;", Cond.fieldLink RX11 51 "HeadYear" "trial" "LHeadYear$Folk;", Cond.fieldLink RX11 54 "HeadYear" "imageFolk" "LHeadYear$Folk;", Cond.classLink RX11 57 RX1, Cond.instantiable RX1 3, Cond.initialized RX1, Cond.instanceMethod yX1_init, Cond.fieldLink RX11 60 "HeadYear" "diary" "LHeadYear$Diary;", Cond.classLink RX11 64 RX0, Cond.instantiable RX0 5, Cond.initialized RX0, Cond.instanceMethod yX0_init, Cond.fieldLink RX11 67 "HeadYear" "buyings" "LHeadYear$Buyings;", Cond.classLink RX11 71 RX7, Cond.instantiable RX7 5, Cond.initialized RX7, Cond.instanceMethod yX7_init, Cond.fieldLink RX11 74 "HeadYear" "seasons" "LHeadYear$Seasons;", Cond.classLink RX11 78 RX5, Cond.instantiable RX5 1, Cond.initialized RX5, Cond.instanceMethod yX5_init, Cond.fieldLink RX11 81 "HeadYear" "moves" "LHeadYear$Moves;", Cond.classLink RX11 85 RX6, Cond.instantiable RX6 7, Cond.initialized RX6, Cond.methodLink RX11 87 yX6_init, Cond.instanceMethod yX6_init, Cond.fieldLink RX11 90 "HeadYear" "chances" "LHeadYear$Odds;", Cond.fieldLink RX11 94 "HeadYear" "lawCount" "I", Cond.fieldLink RX11 98 "HeadYear" "heldLaw" "I", Cond.fieldLink RX11 101 "HeadYear" "imaged" "Z"] ++ (u_ws RX8 TX8 4 ++ (u_ws RX11 TX11 16 ++ (u_ws RX10 TX10 2 ++ (u_ws RX4 TX4 1 ++ (u_ws RX2 TX2 12 ++ (u_ws RX1 TX1 3 ++ (u_ws RX0 TX0 5 ++ (u_ws RX7 TX7 5 ++ (u_ws RX5 TX5 1 ++ (u_ws RX6 TX6 7 ++ (w_X8_init ++ (w_X10_init ++ (w_X4_init ++ (w_X3_bornLessDead ++ (w_X2_init ++ (w_X1_init ++ (w_X0_init ++ (w_X7_init ++ (w_X5_init ++ (w_X6_init ++ ([]))))))))))))))))))))))
theorem in_X11_init_X8 : ∀ w ∈ u_ws RX8 TX8 4, w ∈ w_X11_init := fun _ h => List.mem_cons_of_mem _ (List.mem_append_right _ (List.mem_append_left _ h))
theorem in_X11_init_X11 : ∀ w ∈ u_ws RX11 TX11 16, w ∈ w_X11_init := fun _ h => List.mem_cons_of_mem _ (List.mem_append_right _ (List.mem_append_right _ (List.mem_append_left _ h)))
theorem in_X11_init_X10 : ∀ w ∈ u_ws RX10 TX10 2, w ∈ w_X11_init := fun _ h => List.mem_cons_of_mem _ (List.mem_append_right _ (List.mem_append_right _ (List.mem_append_right _ (List.mem_append_left _ h))))
theorem in_X11_init_X4 : ∀ w ∈ u_ws RX4 TX4 1, w ∈ w_X11_init := fun _ h => List.mem_cons_of_mem _ (List.mem_append_right _ (List.mem_append_right _ (List.mem_append_right _ (List.mem_append_right _ (List.mem_append_left _ h)))))
theorem in_X11_init_X2 : ∀ w ∈ u_ws RX2 TX2 12, w ∈ w_X11_init := fun _ h => List.mem_cons_of_mem _ (List.mem_append_right _ (List.mem_append_right _ (List.mem_append_right _ (List.mem_append_right _ (List.mem_append_right _ (List.mem_append_left _ h))))))
theorem in_X11_init_X1 : ∀ w ∈ u_ws RX1 TX1 3, w ∈ w_X11_init := fun _ h => List.mem_cons_of_mem _ (List.mem_append_right _ (List.mem_append_right _ (List.mem_append_right _ (List.mem_append_right _ (List.mem_append_right _ (List.mem_append_right _ (List.mem_append_left _ h)))))))
theorem in_X11_init_X0 : ∀ w ∈ u_ws RX0 TX0 5, w ∈ w_X11_init := fun _ h => List.mem_cons_of_mem _ (List.mem_append_right _ (List.mem_append_right _ (List.mem_append_right _ (List.mem_append_right _ (List.mem_append_right _ (List.mem_append_right _ (List.mem_append_right _ (List.mem_append_left _ h))))))))
theorem in_X11_init_X7 : ∀ w ∈ u_ws RX7 TX7 5, w ∈ w_X11_init := fun _ h => List.mem_cons_of_mem _ (List.mem_append_right _ (List.mem_append_right _ (List.mem_append_right _ (List.mem_append_right _ (List.mem_append_right _ (List.mem_append_right _ (List.mem_append_right _ (List.mem_append_right _ (List.mem_append_left _ h)))))))))
theorem in_X11_init_X5 : ∀ w ∈ u_ws RX5 TX5 1, w ∈ w_X11_init := fun _ h => List.mem_cons_of_mem _ (List.mem_append_right _ (List.mem_append_right _ (List.mem_append_right _ (List.mem_append_right _ (List.mem_append_right _ (List.mem_append_right _ (List.mem_append_right _ (List.mem_append_right _ (List.mem_append_right _ (List.mem_append_left _ h))))))))))
theorem in_X11_init_X6 : ∀ w ∈ u_ws RX6 TX6 7, w ∈ w_X11_init := fun _ h => List.mem_cons_of_mem _ (List.mem_append_right _ (List.mem_append_right _ (List.mem_append_right _ (List.mem_append_right _ (List.mem_append_right _ (List.mem_append_right _ (List.mem_append_right _ (List.mem_append_right _ (List.mem_append_right _ (List.mem_append_right _ (List.mem_append_left _ h)))))))))))
theorem gg_X11_init_X8_init : GoodIn w_X11_init w_X8_init := goodIn_sub (fun _ h => List.mem_cons_of_mem _ (List.mem_append_right _ (List.mem_append_right _ (List.mem_append_right _ (List.mem_append_right _ (List.mem_append_right _ (List.mem_append_right _ (List.mem_append_right _ (List.mem_append_right _ (List.mem_append_right _ (List.mem_append_right _ (List.mem_append_right _ (List.mem_append_left _ h))))))))))))) (by decide +kernel)
theorem gg_X11_init_X10_init : GoodIn w_X11_init w_X10_init := goodIn_sub (fun _ h => List.mem_cons_of_mem _ (List.mem_append_right _ (List.mem_append_right _ (List.mem_append_right _ (List.mem_append_right _ (List.mem_append_right _ (List.mem_append_right _ (List.mem_append_right _ (List.mem_append_right _ (List.mem_append_right _ (List.mem_append_right _ (List.mem_append_right _ (List.mem_append_right _ (List.mem_append_left _ h)))))))))))))) (by decide +kernel)
theorem gg_X11_init_X4_init : GoodIn w_X11_init w_X4_init := goodIn_sub (fun _ h => List.mem_cons_of_mem _ (List.mem_append_right _ (List.mem_append_right _ (List.mem_append_right _ (List.mem_append_right _ (List.mem_append_right _ (List.mem_append_right _ (List.mem_append_right _ (List.mem_append_right _ (List.mem_append_right _ (List.mem_append_right _ (List.mem_append_right _ (List.mem_append_right _ (List.mem_append_right _ (List.mem_append_left _ h))))))))))))))) (by decide +kernel)
theorem gg_X11_init_X3_bornLessDead : GoodIn w_X11_init w_X3_bornLessDead := goodIn_sub (fun _ h => List.mem_cons_of_mem _ (List.mem_append_right _ (List.mem_append_right _ (List.mem_append_right _ (List.mem_append_right _ (List.mem_append_right _ (List.mem_append_right _ (List.mem_append_right _ (List.mem_append_right _ (List.mem_append_right _ (List.mem_append_right _ (List.mem_append_right _ (List.mem_append_right _ (List.mem_append_right _ (List.mem_append_right _ (List.mem_append_left _ h)))))))))))))))) (by decide +kernel)
theorem gg_X11_init_X2_init : GoodIn w_X11_init w_X2_init := goodIn_sub (fun _ h => List.mem_cons_of_mem _ (List.mem_append_right _ (List.mem_append_right _ (List.mem_append_right _ (List.mem_append_right _ (List.mem_append_right _ (List.mem_append_right _ (List.mem_append_right _ (List.mem_append_right _ (List.mem_append_right _ (List.mem_append_right _ (List.mem_append_right _ (List.mem_append_right _ (List.mem_append_right _ (List.mem_append_right _ (List.mem_append_right _ (List.mem_append_left _ h))))))))))))))))) (by decide +kernel)
theorem gg_X11_init_X1_init : GoodIn w_X11_init w_X1_init := goodIn_sub (fun _ h => List.mem_cons_of_mem _ (List.mem_append_right _ (List.mem_append_right _ (List.mem_append_right _ (List.mem_append_right _ (List.mem_append_right _ (List.mem_append_right _ (List.mem_append_right _ (List.mem_append_right _ (List.mem_append_right _ (List.mem_append_right _ (List.mem_append_right _ (List.mem_append_right _ (List.mem_append_right _ (List.mem_append_right _ (List.mem_append_right _ (List.mem_append_right _ (List.mem_append_left _ h)))))))))))))))))) (by decide +kernel)
theorem gg_X11_init_X0_init : GoodIn w_X11_init w_X0_init := goodIn_sub (fun _ h => List.mem_cons_of_mem _ (List.mem_append_right _ (List.mem_append_right _ (List.mem_append_right _ (List.mem_append_right _ (List.mem_append_right _ (List.mem_append_right _ (List.mem_append_right _ (List.mem_append_right _ (List.mem_append_right _ (List.mem_append_right _ (List.mem_append_right _ (List.mem_append_right _ (List.mem_append_right _ (List.mem_append_right _ (List.mem_append_right _ (List.mem_append_right _ (List.mem_append_right _ (List.mem_append_left _ h))))))))))))))))))) (by decide +kernel)
theorem gg_X11_init_X7_init : GoodIn w_X11_init w_X7_init := goodIn_sub (fun _ h => List.mem_cons_of_mem _ (List.mem_append_right _ (List.mem_append_right _ (List.mem_append_right _ (List.mem_append_right _ (List.mem_append_right _ (List.mem_append_right _ (List.mem_append_right _ (List.mem_append_right _ (List.mem_append_right _ (List.mem_append_right _ (List.mem_append_right _ (List.mem_append_right _ (List.mem_append_right _ (List.mem_append_right _ (List.mem_append_right _ (List.mem_append_right _ (List.mem_append_right _ (List.mem_append_right _ (List.mem_append_left _ h)))))))))))))))))))) (by decide +kernel)
theorem gg_X11_init_X5_init : GoodIn w_X11_init w_X5_init := goodIn_sub (fun _ h => List.mem_cons_of_mem _ (List.mem_append_right _ (List.mem_append_right _ (List.mem_append_right _ (List.mem_append_right _ (List.mem_append_right _ (List.mem_append_right _ (List.mem_append_right _ (List.mem_append_right _ (List.mem_append_right _ (List.mem_append_right _ (List.mem_append_right _ (List.mem_append_right _ (List.mem_append_right _ (List.mem_append_right _ (List.mem_append_right _ (List.mem_append_right _ (List.mem_append_right _ (List.mem_append_right _ (List.mem_append_right _ (List.mem_append_left _ h))))))))))))))))))))) (by decide +kernel)
theorem gg_X11_init_X6_init : GoodIn w_X11_init w_X6_init := goodIn_sub (fun _ h => List.mem_cons_of_mem _ (List.mem_append_right _ (List.mem_append_right _ (List.mem_append_right _ (List.mem_append_right _ (List.mem_append_right _ (List.mem_append_right _ (List.mem_append_right _ (List.mem_append_right _ (List.mem_append_right _ (List.mem_append_right _ (List.mem_append_right _ (List.mem_append_right _ (List.mem_append_right _ (List.mem_append_right _ (List.mem_append_right _ (List.mem_append_right _ (List.mem_append_right _ (List.mem_append_right _ (List.mem_append_right _ (List.mem_append_right _ (List.mem_append_left _ h)))))))))))))))))))))) (by decide +kernel)
theorem g_X11_init_X0_init_66 : GoodIn w_X11_init w_X0_init := gg_X11_init_X0_init
theorem g_X11_init_X10_init_18 : GoodIn w_X11_init w_X10_init := gg_X11_init_X10_init
theorem g_X11_init_X1_init_59 : GoodIn w_X11_init w_X1_init := gg_X11_init_X1_init
theorem g_X11_init_X2_init_46 : GoodIn w_X11_init w_X2_init := gg_X11_init_X2_init
theorem g_X11_init_X3_bornLessDead_36 : GoodIn w_X11_init (va_wsS RX11 36 yX3_bornLessDead w_X3_bornLessDead) := goodIn_app (goodIn_of _ (by decide +kernel)) gg_X11_init_X3_bornLessDead
theorem g_X11_init_X4_init_25 : GoodIn w_X11_init w_X4_init := gg_X11_init_X4_init
theorem g_X11_init_X5_init_80 : GoodIn w_X11_init w_X5_init := gg_X11_init_X5_init
theorem g_X11_init_X6_init_87 : GoodIn w_X11_init w_X6_init := gg_X11_init_X6_init
theorem g_X11_init_X7_init_73 : GoodIn w_X11_init w_X7_init := gg_X11_init_X7_init
theorem g_X11_init_X8_init_9 : GoodIn w_X11_init w_X8_init := gg_X11_init_X8_init
set_option maxHeartbeats 4000000 in
set_option maxRecDepth 100000 in
theorem c_X11_init (l : Launch) (E : py_E) (G : wf_G) (L : List Nat) (f : py_F) (sz : Nat) (h : Nat) (hZ : GZ E G L f) (hh : py_at L f h (.inr (11, [.null, .null, .null, .null, .null, .null, .null, .null, .null, .null, .null, .null, .null, .int 0, .int 0, .int 0]))) (uh : G.1 h = 0) : Met l yX11_init w_X11_init ({ frames := 3, cells := 96, slots := 2936, locals := 52 }) (py_Pc E [.ref h] L f sz) (py_Qv E L f sz (fun L1 f1 => ∃ G1 : wf_G, GX G G1 ∧ GZ E G1 L1 f1 ∧ G1.1 h = 12 ∧ NTR L f G h L1 f1 G1 ∧ GI E G1 f1 h)) 96 2936 (va_A (va_pl L f) sz) := by
  refine Met.ofW (cc := cX11_init) (maxL := 1) (ret := none) (by decide) rfl ?_
  intro p e s m args below meth c s₁ B hml hv
  obtain ⟨rfl, rfl, hw⟩ := py_start hv
  have G0 : CallFix p m c cX11_init 1 s _ w_X11_init RX11 := ⟨B.exec, B.bytes, hml, findClass_of_methodNamed B.named, atoms_spec (ws := w_X11_init) B.pre⟩
  have hr := B.returns
  have hlk := B.notSynchronized
  have hin : meth.name = "<init>" := (name_of_methodNamed B.named B.method).1
  have hl := lv_entry ([.ref h]) (n := 1) (Nat.le_of_ble_eq_true rfl)
  rw [lg_entry_eq]
  generalize (lg_sl ([.ref h]) ++ List.replicate (1 - (lg_sl ([.ref h])).length) Slot.unset).toArray = ls at hl ⊢
  have hl : lv_has ls 1 [(0, .ref h)] := hl
  have hT : NTR L f G h L f G := NTR.refl
  have hX : GX G G := GX.refl
  refine lv_aload_n G0.1 G0.2.1 dX11_init_0 rfl (lv_at hl 0 rfl) ?_
  refine py_objInit G0 hl.1 (by decide +kernel) (by decide +kernel) (by decide +kernel) dX11_init_1 (Nat.le_of_ble_eq_true rfl) (Nat.le_of_ble_eq_true rfl) ?_
  refine lv_aload_n G0.1 G0.2.1 dX11_init_4 rfl (lv_at hl 0 rfl) ?_
  refine py_new (C := RX8) (T := TX8) (N := 4) (ci := 8) (fs := [.null, .int 0, .int 0, .int 0]) (ty0 := tyX8) G0 hw tyX8_ok in_X11_init_X8 rfl (by decide +kernel) (by decide +kernel) (by decide +kernel) (fun j hj => match j, hj with | 0, _ => rfl | 1, _ => rfl | 2, _ => rfl | 3, _ => rfl | n + 4, h => absurd h (by omega)) (Nat.le_of_ble_eq_true rfl) (Nat.le_of_ble_eq_true rfl) dX11_init_5 (fun q_1 L_2 f_3 H_4 hq_5 h_6 x_7 hw => ?_)
  have u_8 := hZ.un hq_5
  have nq_9 := hT.ne hq_5
  have ne_10 : h ≠ q_1 := py_ne_new hh hq_5
  have hh := hh.all x_7
  have hZ := hZ.all x_7
  have hT := hT.all x_7
  refine lv_dup G0.1 G0.2.1 dX11_init_8 rfl ?_
  refine py_callv hw (va_runIN (As := []) (rest := [.ref q_1, .ref h]) G0 (c_X8_init l E G L_2 f_3 H_4.size q_1 hZ h_6 u_8) ⟨va_cnB 0 G0.2.2.2.2 g_X11_init_X8_init_9 rfl rfl rfl (hw.1.2.2 (RX11, 9, yX8_init) (List.mem_of_getElem? (i := 0) rfl)) (G0.2.2.2.2 (Cond.initialized RX8) (by decide +kernel)) (by decide +kernel) ⟨(Nat.le_of_ble_eq_true rfl), (Nat.le_of_ble_eq_true rfl)⟩, rfl, G0.2.2.2.2 (Cond.instanceMethod yX8_init) (by decide +kernel)⟩ (py_preS hw) rfl rfl hl.1 rfl (lv_room (Nat.le_of_ble_eq_true rfl)) dX11_init_9 ⟨(Nat.le_of_ble_eq_true rfl), (Nat.le_of_ble_eq_true rfl)⟩) (fun L_11 f_12 H_13 locs hp_14 hw => ?_)
  obtain ⟨G_18, gx_16, hZ, ty_17, nt_18⟩ := hp_14
  have hX := hX.trans gx_16
  have u_z := (nt_18 h hh.1 ne_10).2.2
  have hh := nt_18.at hh ne_10
  have uh := u_z.trans uh
  have hT := hT.sub nt_18 nq_9
  refine py_putF (C := RX11) (T := TX11) (N := 16) (k := 0) (v := .ref q_1) (fs' := [.ref q_1, .null, .null, .null, .null, .null, .null, .null, .null, .null, .null, .null, .null, .int 0, .int 0, .int 0]) (ty0 := tyX11) G0 hin hw tyX11_ok nmX11 in_X11_init_X11 rfl hh (by decide) (by decide +kernel) rfl rfl rfl rfl rfl (Nat.le_of_ble_eq_true rfl) rfl dX11_init_12 (fun f_19 H_20 locs h_21 x_22 hw => ?_)
  have hZ := hZ.unt uh x_22
  have hT := hT.ext x_22
  refine lv_aload_n G0.1 G0.2.1 dX11_init_15 rfl (lv_at hl 0 rfl) ?_
  refine py_new (C := RX10) (T := TX10) (N := 2) (ci := 10) (fs := [.null, .null]) (ty0 := tyX10) G0 hw tyX10_ok in_X11_init_X10 rfl (by decide +kernel) (by decide +kernel) (by decide +kernel) (fun j hj => match j, hj with | 0, _ => rfl | 1, _ => rfl | n + 2, h => absurd h (by omega)) (Nat.le_of_ble_eq_true rfl) (Nat.le_of_ble_eq_true rfl) dX11_init_16 (fun q_23 L_24 f_25 H_26 hq_27 h_28 x_29 hw => ?_)
  have u_30 := hZ.un hq_27
  have nq_31 := hT.ne hq_27
  have ne_32 : h ≠ q_23 := py_ne_new h_21 hq_27
  have h_21 := h_21.all x_29
  have hZ := hZ.all x_29
  have hT := hT.all x_29
  refine lv_dup G0.1 G0.2.1 dX11_init_19 rfl ?_
  refine py_callv hw (va_runIN (As := []) (rest := [.ref q_23, .ref h]) G0 (c_X10_init l E G_18 L_24 f_25 H_26.size q_23 hZ h_28 u_30) ⟨va_cnB 0 G0.2.2.2.2 g_X11_init_X10_init_18 rfl rfl rfl (hw.1.2.2 (RX11, 18, yX10_init) (List.mem_of_getElem? (i := 1) rfl)) (G0.2.2.2.2 (Cond.initialized RX10) (by decide +kernel)) (by decide +kernel) ⟨(Nat.le_of_ble_eq_true rfl), (Nat.le_of_ble_eq_true rfl)⟩, rfl, G0.2.2.2.2 (Cond.instanceMethod yX10_init) (by decide +kernel)⟩ (py_preS hw) rfl rfl hl.1 rfl (lv_room (Nat.le_of_ble_eq_true rfl)) dX11_init_20 ⟨(Nat.le_of_ble_eq_true rfl), (Nat.le_of_ble_eq_true rfl)⟩) (fun L_33 f_34 H_35 locs hp_36 hw => ?_)
  obtain ⟨G_40, gx_38, hZ, ty_39, nt_40, hv_41⟩ := hp_36
  have ty_17 := gx_38.ty ty_17 (by decide)
  have hX := hX.trans gx_38
  have u_z := (nt_40 h h_21.1 ne_32).2.2
  have h_21 := nt_40.at h_21 ne_32
  have uh := u_z.trans uh
  have hT := hT.sub nt_40 nq_31
  obtain ⟨D, nD, mD, hD⟩ := hv_41
  obtain ⟨dr_42, hR_43, tD_44⟩ := wg_10 hZ.2.1 ty_39
  have hDe : dr_42 = D := by rw [← hD, hR_43.2]; rfl
  rw [hDe] at hR_43 tD_44
  refine py_putF (C := RX11) (T := TX11) (N := 16) (k := 1) (v := .ref q_23) (fs' := [.ref q_1, .ref q_23, .null, .null, .null, .null, .null, .null, .null, .null, .null, .null, .null, .int 0, .int 0, .int 0]) (ty0 := tyX11) G0 hin hw tyX11_ok nmX11 in_X11_init_X11 rfl h_21 (by decide) (by decide +kernel) rfl rfl rfl rfl rfl (Nat.le_of_ble_eq_true rfl) rfl dX11_init_23 (fun f_45 H_46 locs h_47 x_48 hw => ?_)
  have hZ := hZ.unt uh x_48
  have hT := hT.ext x_48
  have hR_43 := hR_43.ext x_48 (un_ne ty_39 uh (by decide))
  refine lv_aload_n G0.1 G0.2.1 dX11_init_26 rfl (lv_at hl 0 rfl) ?_
  refine py_new (C := RX4) (T := TX4) (N := 1) (ci := 4) (fs := [.null]) (ty0 := tyX4) G0 hw tyX4_ok in_X11_init_X4 rfl (by decide +kernel) (by decide +kernel) (by decide +kernel) (fun j hj => match j, hj with | 0, _ => rfl | n + 1, h => absurd h (by omega)) (Nat.le_of_ble_eq_true rfl) (Nat.le_of_ble_eq_true rfl) dX11_init_27 (fun q_49 L_50 f_51 H_52 hq_53 h_54 x_55 hw => ?_)
  have u_56 := hZ.un hq_53
  have nq_57 := hT.ne hq_53
  have ne_58 : h ≠ q_49 := py_ne_new h_47 hq_53
  have h_47 := h_47.all x_55
  have hR_43 := hR_43.all x_55
  have hZ := hZ.all x_55
  have hT := hT.all x_55
  refine lv_dup G0.1 G0.2.1 dX11_init_30 rfl ?_
  have nr_59 : q_23 ≠ q_49 := un_ne ty_39 u_56 (by decide)
  refine py_callv hw (va_runIN (As := []) (rest := [.ref q_49, .ref h]) G0 (c_X4_init l E G_40 L_50 f_51 H_52.size q_49 hZ h_54 u_56) ⟨va_cnB 0 G0.2.2.2.2 g_X11_init_X4_init_25 rfl rfl rfl (hw.1.2.2 (RX11, 25, yX4_init) (List.mem_of_getElem? (i := 3) rfl)) (G0.2.2.2.2 (Cond.initialized RX4) (by decide +kernel)) (by decide +kernel) ⟨(Nat.le_of_ble_eq_true rfl), (Nat.le_of_ble_eq_true rfl)⟩, rfl, G0.2.2.2.2 (Cond.instanceMethod yX4_init) (by decide +kernel)⟩ (py_preS hw) rfl rfl hl.1 rfl (lv_room (Nat.le_of_ble_eq_true rfl)) dX11_init_31 ⟨(Nat.le_of_ble_eq_true rfl), (Nat.le_of_ble_eq_true rfl)⟩) (fun L_60 f_61 H_62 locs hp_63 hw => ?_)
  obtain ⟨G_67, gx_65, hZ, ty_66, nt_67⟩ := hp_63
  have ty_17 := gx_65.ty ty_17 (by decide)
  have ty_39 := gx_65.ty ty_39 (by decide)
  have tD_44 := gx_65.ty tD_44 (by decide)
  have hX := hX.trans gx_65
  have u_z := (nt_67 h h_47.1 ne_58).2.2
  have h_47 := nt_67.at h_47 ne_58
  have uh := u_z.trans uh
  have hR_43 := nt_67.at hR_43 nr_59
  have hT := hT.sub nt_67 nq_57
  refine py_putF (C := RX11) (T := TX11) (N := 16) (k := 2) (v := .ref q_49) (fs' := [.ref q_1, .ref q_23, .ref q_49, .null, .null, .null, .null, .null, .null, .null, .null, .null, .null, .int 0, .int 0, .int 0]) (ty0 := tyX11) G0 hin hw tyX11_ok nmX11 in_X11_init_X11 rfl h_47 (by decide) (by decide +kernel) rfl rfl rfl rfl rfl (Nat.le_of_ble_eq_true rfl) rfl dX11_init_34 (fun f_68 H_69 locs h_70 x_71 hw => ?_)
  have hZ := hZ.unt uh x_71
  have hT := hT.ext x_71
  have hR_43 := hR_43.ext x_71 (un_ne ty_39 uh (by decide))
  refine lv_aload_n G0.1 G0.2.1 dX11_init_37 rfl (lv_at hl 0 rfl) ?_
  refine lv_iconst (v := 4) G0.1 G0.2.1 dX11_init_38 (by decide) ?_
  refine py_newR (N := 4) G0 hw (by decide +kernel) (by decide) (by decide) (Nat.le_of_ble_eq_true rfl) (Nat.le_of_ble_eq_true rfl) (Nat.le_of_ble_eq_true rfl) dX11_init_39 (fun q_72 L_73 f_74 H_75 hq_76 h_77 x_78 hw => ?_)
  have u_79 := hZ.un hq_76
  have nq_80 := hT.ne hq_76
  have ne_81 : h ≠ q_72 := py_ne_new h_70 hq_76
  have h_70 := h_70.all x_78
  have hR_43 := hR_43.all x_78
  have hZ := hZ.all x_78
  have hT := hT.all x_78
  obtain ⟨G_84, gx_82, hZ, ty_83, ee_84⟩ := hZ.arrK (c := 22) u_79 (by decide) (by decide) h_77 (fun _ => ⟨_, rfl, fun i z hz => by cases hz⟩) (fun _ => rfl)
  have ty_17 := gx_82.ty ty_17 (by decide)
  have ty_39 := gx_82.ty ty_39 (by decide)
  have tD_44 := gx_82.ty tD_44 (by decide)
  have ty_66 := gx_82.ty ty_66 (by decide)
  have hX := hX.trans gx_82
  have uh := (ee_84 h ne_81).trans uh
  have hT := hT.ty ee_84 nq_80
  have hla := h_77
  refine py_putF (C := RX11) (T := TX11) (N := 16) (k := 3) (v := .ref q_72) (fs' := [.ref q_1, .ref q_23, .ref q_49, .ref q_72, .null, .null, .null, .null, .null, .null, .null, .null, .null, .int 0, .int 0, .int 0]) (ty0 := tyX11) G0 hin hw tyX11_ok nmX11 in_X11_init_X11 rfl h_70 (by decide) (by decide +kernel) rfl rfl rfl rfl rfl (Nat.le_of_ble_eq_true rfl) rfl dX11_init_42 (fun f_85 H_86 locs h_87 x_88 hw => ?_)
  have hZ := hZ.unt uh x_88
  have hT := hT.ext x_88
  have hR_43 := hR_43.ext x_88 (un_ne ty_39 uh (by decide))
  have hla := hla.ext x_88 (un_ne ty_83 uh (by decide))
  refine lv_aload_n G0.1 G0.2.1 dX11_init_45 rfl (lv_at hl 0 rfl) ?_
  refine py_callr hw (va_runS (As := []) (rest := [.ref h]) G0 (c_X3_bornLessDead l E L_73 f_85 H_86.size) (va_cwS 0 G0.2.2.2.2 g_X11_init_X3_bornLessDead_36 rfl rfl rfl (by decide +kernel) ⟨(Nat.le_of_ble_eq_true rfl), (Nat.le_of_ble_eq_true rfl)⟩) (py_preS hw) rfl rfl hl.1 rfl (lv_room (Nat.le_of_ble_eq_true rfl)) dX11_init_46 ⟨(Nat.le_of_ble_eq_true rfl), (Nat.le_of_ble_eq_true rfl)⟩) (fun r_93 L_89 f_90 H_91 locs hp_92 hw => ?_)
  obtain ⟨co_94, st_95, n_96, g_97, g_98, h_99, bn_100, hco_101, hst_102, nr_103, nco_104, nst_105, ncs_106, x_107⟩ := hp_92
  have u_108 := hZ.un nr_103
  have nq_111 := hT.ne nr_103
  have u_109 := hZ.un nco_104
  have nq_112 := hT.ne nco_104
  have u_110 := hZ.un nst_105
  have nq_113 := hT.ne nst_105
  have ne_114 := py_ne_new h_87 nco_104
  have ne_115 := py_ne_new h_87 nst_105
  have ne_116 := py_ne_new h_87 nr_103
  have h_87 := h_87.all x_107
  have hR_43 := hR_43.all x_107
  have hla := hla.all x_107
  have hZ := hZ.all x_107
  have hT := hT.all x_107
  obtain ⟨G_119, gx_117, hZ, ty_118, ee_119⟩ := hZ.arrK (c := 20) u_109 (by decide) (by decide) hco_101 (fun _ => ⟨_, rfl, fun i _ => wf_free _⟩) (fun _ => rfl)
  have ty_17 := gx_117.ty ty_17 (by decide)
  have ty_39 := gx_117.ty ty_39 (by decide)
  have tD_44 := gx_117.ty tD_44 (by decide)
  have ty_66 := gx_117.ty ty_66 (by decide)
  have ty_83 := gx_117.ty ty_83 (by decide)
  have hX := hX.trans gx_117
  have uh := (ee_119 h ne_114).trans uh
  have u_108 := (ee_119 r_93 (py_ne_arr h_99 hco_101)).trans u_108
  have u_110 := (ee_119 st_95 (Ne.symm ncs_106)).trans u_110
  have hT := hT.ty ee_119 nq_112
  obtain ⟨G_122, gx_120, hZ, ty_121, ee_122⟩ := hZ.arrK (c := 21) u_110 (by decide) (by decide) hst_102 (fun _ => ⟨_, rfl, fun i _ => wf_free _⟩) (fun _ => rfl)
  have ty_17 := gx_120.ty ty_17 (by decide)
  have ty_39 := gx_120.ty ty_39 (by decide)
  have tD_44 := gx_120.ty tD_44 (by decide)
  have ty_66 := gx_120.ty ty_66 (by decide)
  have ty_83 := gx_120.ty ty_83 (by decide)
  have ty_118 := gx_120.ty ty_118 (by decide)
  have hX := hX.trans gx_120
  have uh := (ee_122 h ne_115).trans uh
  have u_108 := (ee_122 r_93 (py_ne_arr h_99 hst_102)).trans u_108
  have hT := hT.ty ee_122 nq_113
  obtain ⟨G_125, gx_123, hZ, ty_124, -, ee_125⟩ := hZ.ty (c := 4) (r := (fun j => match j with | 0 => co_94 | 1 => st_95 | _ => 0)) u_108 (by decide) h_99.1 (fun G1 gg e1 hr => ⟨n_96, by rw [hr 0, hr 1]; exact h_99.2, bn_100⟩) (fun G1 gg e1 hr => ⟨by rw [hr 0]; exact gg.ty ty_118 (by decide), by rw [hr 1]; exact gg.ty ty_121 (by decide)⟩) (fun e => absurd e (by decide))
  have ty_17 := gx_123.ty ty_17 (by decide)
  have ty_39 := gx_123.ty ty_39 (by decide)
  have tD_44 := gx_123.ty tD_44 (by decide)
  have ty_66 := gx_123.ty ty_66 (by decide)
  have ty_83 := gx_123.ty ty_83 (by decide)
  have ty_118 := gx_123.ty ty_118 (by decide)
  have ty_121 := gx_123.ty ty_121 (by decide)
  have hX := hX.trans gx_123
  have uh := (ee_125 h ne_116).trans uh
  have hT := hT.ty ee_125 nq_111
  refine py_putF (C := RX11) (T := TX11) (N := 16) (k := 4) (v := .ref r_93) (fs' := [.ref q_1, .ref q_23, .ref q_49, .ref q_72, .ref r_93, .null, .null, .null, .null, .null, .null, .null, .null, .int 0, .int 0, .int 0]) (ty0 := tyX11) G0 hin hw tyX11_ok nmX11 in_X11_init_X11 rfl h_87 (by decide) (by decide +kernel) rfl rfl rfl rfl rfl (Nat.le_of_ble_eq_true rfl) rfl dX11_init_49 (fun f_126 H_127 locs h_128 x_129 hw => ?_)
  have hZ := hZ.unt uh x_129
  have hT := hT.ext x_129
  have hR_43 := hR_43.ext x_129 (un_ne ty_39 uh (by decide))
  have hla := hla.ext x_129 (un_ne ty_83 uh (by decide))
  refine lv_aload_n G0.1 G0.2.1 dX11_init_52 rfl (lv_at hl 0 rfl) ?_
  refine py_new (C := RX2) (T := TX2) (N := 12) (ci := 2) (fs := [.null, .null, .null, .null, .null, .null, .null, .null, .null, .null, .long 0, .int 0]) (ty0 := tyX2) G0 hw tyX2_ok in_X11_init_X2 rfl (by decide +kernel) (by decide +kernel) (by decide +kernel) (fun j hj => match j, hj with | 0, _ => rfl | 1, _ => rfl | 2, _ => rfl | 3, _ => rfl | 4, _ => rfl | 5, _ => rfl | 6, _ => rfl | 7, _ => rfl | 8, _ => rfl | 9, _ => rfl | 10, _ => rfl | 11, _ => rfl | n + 12, h => absurd h (by omega)) (Nat.le_of_ble_eq_true rfl) (Nat.le_of_ble_eq_true rfl) dX11_init_53 (fun q_130 L_131 f_132 H_133 hq_134 h_135 x_136 hw => ?_)
  have u_137 := hZ.un hq_134
  have nq_138 := hT.ne hq_134
  have ne_139 : h ≠ q_130 := py_ne_new h_128 hq_134
  have h_128 := h_128.all x_136
  have hR_43 := hR_43.all x_136
  have hla := hla.all x_136
  have hZ := hZ.all x_136
  have hT := hT.all x_136
  refine lv_dup G0.1 G0.2.1 dX11_init_56 rfl ?_
  have nr_140 : q_23 ≠ q_130 := un_ne ty_39 u_137 (by decide)
  have nr_141 : q_72 ≠ q_130 := un_ne ty_83 u_137 (by decide)
  have mDb := (hZ.2.1 D (by rw [tD_44]; decide)).1
  refine py_callv hw (va_runIN (As := []) (rest := [.ref q_130, .ref h]) G0 (c_X2_init l E G_125 L_131 f_132 H_133.size q_130 hZ h_135 u_137) ⟨va_cnB 0 G0.2.2.2.2 g_X11_init_X2_init_46 rfl rfl rfl (hw.1.2.2 (RX11, 46, yX2_init) (List.mem_of_getElem? (i := 5) rfl)) (G0.2.2.2.2 (Cond.initialized RX2) (by decide +kernel)) (by decide +kernel) ⟨(Nat.le_of_ble_eq_true rfl), (Nat.le_of_ble_eq_true rfl)⟩, rfl, G0.2.2.2.2 (Cond.instanceMethod yX2_init) (by decide +kernel)⟩ (py_preS hw) rfl rfl hl.1 rfl (lv_room (Nat.le_of_ble_eq_true rfl)) dX11_init_57 ⟨(Nat.le_of_ble_eq_true rfl), (Nat.le_of_ble_eq_true rfl)⟩) (fun L_142 f_143 H_144 locs hp_145 hw => ?_)
  obtain ⟨G_149, gx_147, hZ, ty_148, nt_149, hv_150⟩ := hp_145
  have ty_17 := gx_147.ty ty_17 (by decide)
  have ty_39 := gx_147.ty ty_39 (by decide)
  have tD_44 := gx_147.ty tD_44 (by decide)
  have ty_66 := gx_147.ty ty_66 (by decide)
  have ty_83 := gx_147.ty ty_83 (by decide)
  have ty_118 := gx_147.ty ty_118 (by decide)
  have ty_121 := gx_147.ty ty_121 (by decide)
  have ty_124 := gx_147.ty ty_124 (by decide)
  have hX := hX.trans gx_147
  have u_z := (nt_149 h h_128.1 ne_139).2.2
  have h_128 := nt_149.at h_128 ne_139
  have uh := u_z.trans uh
  have hR_43 := nt_149.at hR_43 nr_140
  have hla := nt_149.at hla nr_141
  have hT := hT.sub nt_149 nq_138
  obtain ⟨V, nV, hv, hy, hl0, hf0⟩ := hv_150
  obtain ⟨rv_153, xv_154, yv_155, hF_151, tV, -⟩ := wg_2 hZ.2.1 ty_148
  have hVe : rv_153 = V := (fo_eq hF_151).1.symm.trans hv
  rw [hVe] at hF_151 tV
  obtain ⟨lv, nv, hV_152, -, -⟩ := wg_9 hZ.2.1 tV
  have hnv : nv.toInt = 0 := by have z := (fo_eq hF_151).2.2.2; have z2 := (va_eq hV_152).2; omega
  have hyv : yv_155.toInt = 0 := by have z := (fo_eq hF_151).2.1; omega
  have hVD : V ≠ D := fun e => nV (e ▸ mDb)
  refine py_putF (C := RX11) (T := TX11) (N := 16) (k := 5) (v := .ref q_130) (fs' := [.ref q_1, .ref q_23, .ref q_49, .ref q_72, .ref r_93, .ref q_130, .null, .null, .null, .null, .null, .null, .null, .int 0, .int 0, .int 0]) (ty0 := tyX11) G0 hin hw tyX11_ok nmX11 in_X11_init_X11 rfl h_128 (by decide) (by decide +kernel) rfl rfl rfl rfl rfl (Nat.le_of_ble_eq_true rfl) rfl dX11_init_60 (fun f_156 H_157 locs h_158 x_159 hw => ?_)
  have hZ := hZ.unt uh x_159
  have hT := hT.ext x_159
  have hR_43 := hR_43.ext x_159 (un_ne ty_39 uh (by decide))
  have hla := hla.ext x_159 (un_ne ty_83 uh (by decide))
  have hF_151 := hF_151.ext x_159 (un_ne ty_148 uh (by decide))
  have hV_152 := hV_152.ext x_159 (un_ne tV uh (by decide))
  refine lv_aload_n G0.1 G0.2.1 dX11_init_63 rfl (lv_at hl 0 rfl) ?_
  refine py_new (C := RX2) (T := TX2) (N := 12) (ci := 2) (fs := [.null, .null, .null, .null, .null, .null, .null, .null, .null, .null, .long 0, .int 0]) (ty0 := tyX2) G0 hw tyX2_ok in_X11_init_X2 rfl (by decide +kernel) (by decide +kernel) (by decide +kernel) (fun j hj => match j, hj with | 0, _ => rfl | 1, _ => rfl | 2, _ => rfl | 3, _ => rfl | 4, _ => rfl | 5, _ => rfl | 6, _ => rfl | 7, _ => rfl | 8, _ => rfl | 9, _ => rfl | 10, _ => rfl | 11, _ => rfl | n + 12, h => absurd h (by omega)) (Nat.le_of_ble_eq_true rfl) (Nat.le_of_ble_eq_true rfl) dX11_init_64 (fun q_160 L_161 f_162 H_163 hq_164 h_165 x_166 hw => ?_)
  have u_167 := hZ.un hq_164
  have nq_168 := hT.ne hq_164
  have ne_169 : h ≠ q_160 := py_ne_new h_158 hq_164
  have h_158 := h_158.all x_166
  have hR_43 := hR_43.all x_166
  have hla := hla.all x_166
  have hF_151 := hF_151.all x_166
  have hV_152 := hV_152.all x_166
  have hZ := hZ.all x_166
  have hT := hT.all x_166
  have hn56 : q_130 ≠ q_160 := un_ne ty_148 u_167 (by decide)
  refine lv_dup G0.1 G0.2.1 dX11_init_67 rfl ?_
  have nr_170 : q_23 ≠ q_160 := un_ne ty_39 u_167 (by decide)
  have nr_171 : q_72 ≠ q_160 := un_ne ty_83 u_167 (by decide)
  have nr_172 : q_130 ≠ q_160 := un_ne ty_148 u_167 (by decide)
  have nr_173 : V ≠ q_160 := un_ne tV u_167 (by decide)
  refine py_callv hw (va_runIN (As := []) (rest := [.ref q_160, .ref h]) G0 (c_X2_init l E G_149 L_161 f_162 H_163.size q_160 hZ h_165 u_167) ⟨va_cnB 0 G0.2.2.2.2 g_X11_init_X2_init_46 rfl rfl rfl (hw.1.2.2 (RX11, 46, yX2_init) (List.mem_of_getElem? (i := 5) rfl)) (G0.2.2.2.2 (Cond.initialized RX2) (by decide +kernel)) (by decide +kernel) ⟨(Nat.le_of_ble_eq_true rfl), (Nat.le_of_ble_eq_true rfl)⟩, rfl, G0.2.2.2.2 (Cond.instanceMethod yX2_init) (by decide +kernel)⟩ (py_preS hw) rfl rfl hl.1 rfl (lv_room (Nat.le_of_ble_eq_true rfl)) dX11_init_68 ⟨(Nat.le_of_ble_eq_true rfl), (Nat.le_of_ble_eq_true rfl)⟩) (fun L_174 f_175 H_176 locs hp_177 hw => ?_)
  obtain ⟨G_181, gx_179, hZ, ty_180, nt_181, hv_182⟩ := hp_177
  have ty_17 := gx_179.ty ty_17 (by decide)
  have ty_39 := gx_179.ty ty_39 (by decide)
  have tD_44 := gx_179.ty tD_44 (by decide)
  have ty_66 := gx_179.ty ty_66 (by decide)
  have ty_83 := gx_179.ty ty_83 (by decide)
  have ty_118 := gx_179.ty ty_118 (by decide)
  have ty_121 := gx_179.ty ty_121 (by decide)
  have ty_124 := gx_179.ty ty_124 (by decide)
  have ty_148 := gx_179.ty ty_148 (by decide)
  have tV := gx_179.ty tV (by decide)
  have hX := hX.trans gx_179
  have u_z := (nt_181 h h_158.1 ne_169).2.2
  have h_158 := nt_181.at h_158 ne_169
  have uh := u_z.trans uh
  have hR_43 := nt_181.at hR_43 nr_170
  have hla := nt_181.at hla nr_171
  have hF_151 := nt_181.at hF_151 nr_172
  have hV_152 := nt_181.at hV_152 nr_173
  have hT := hT.sub nt_181 nq_168
  refine py_putF (C := RX11) (T := TX11) (N := 16) (k := 6) (v := .ref q_160) (fs' := [.ref q_1, .ref q_23, .ref q_49, .ref q_72, .ref r_93, .ref q_130, .ref q_160, .null, .null, .null, .null, .null, .null, .int 0, .int 0, .int 0]) (ty0 := tyX11) G0 hin hw tyX11_ok nmX11 in_X11_init_X11 rfl h_158 (by decide) (by decide +kernel) rfl rfl rfl rfl rfl (Nat.le_of_ble_eq_true rfl) rfl dX11_init_71 (fun f_183 H_184 locs h_185 x_186 hw => ?_)
  have hZ := hZ.unt uh x_186
  have hT := hT.ext x_186
  have hR_43 := hR_43.ext x_186 (un_ne ty_39 uh (by decide))
  have hla := hla.ext x_186 (un_ne ty_83 uh (by decide))
  have hF_151 := hF_151.ext x_186 (un_ne ty_148 uh (by decide))
  have hV_152 := hV_152.ext x_186 (un_ne tV uh (by decide))
  refine lv_aload_n G0.1 G0.2.1 dX11_init_74 rfl (lv_at hl 0 rfl) ?_
  refine py_new (C := RX2) (T := TX2) (N := 12) (ci := 2) (fs := [.null, .null, .null, .null, .null, .null, .null, .null, .null, .null, .long 0, .int 0]) (ty0 := tyX2) G0 hw tyX2_ok in_X11_init_X2 rfl (by decide +kernel) (by decide +kernel) (by decide +kernel) (fun j hj => match j, hj with | 0, _ => rfl | 1, _ => rfl | 2, _ => rfl | 3, _ => rfl | 4, _ => rfl | 5, _ => rfl | 6, _ => rfl | 7, _ => rfl | 8, _ => rfl | 9, _ => rfl | 10, _ => rfl | 11, _ => rfl | n + 12, h => absurd h (by omega)) (Nat.le_of_ble_eq_true rfl) (Nat.le_of_ble_eq_true rfl) dX11_init_75 (fun q_187 L_188 f_189 H_190 hq_191 h_192 x_193 hw => ?_)
  have u_194 := hZ.un hq_191
  have nq_195 := hT.ne hq_191
  have ne_196 : h ≠ q_187 := py_ne_new h_185 hq_191
  have h_185 := h_185.all x_193
  have hR_43 := hR_43.all x_193
  have hla := hla.all x_193
  have hF_151 := hF_151.all x_193
  have hV_152 := hV_152.all x_193
  have hZ := hZ.all x_193
  have hT := hT.all x_193
  have hn57 : q_130 ≠ q_187 := un_ne ty_148 u_194 (by decide)
  have hn67 : q_160 ≠ q_187 := un_ne ty_180 u_194 (by decide)
  refine lv_dup G0.1 G0.2.1 dX11_init_78 rfl ?_
  have nr_197 : q_23 ≠ q_187 := un_ne ty_39 u_194 (by decide)
  have nr_198 : q_72 ≠ q_187 := un_ne ty_83 u_194 (by decide)
  have nr_199 : q_130 ≠ q_187 := un_ne ty_148 u_194 (by decide)
  have nr_200 : V ≠ q_187 := un_ne tV u_194 (by decide)
  refine py_callv hw (va_runIN (As := []) (rest := [.ref q_187, .ref h]) G0 (c_X2_init l E G_181 L_188 f_189 H_190.size q_187 hZ h_192 u_194) ⟨va_cnB 0 G0.2.2.2.2 g_X11_init_X2_init_46 rfl rfl rfl (hw.1.2.2 (RX11, 46, yX2_init) (List.mem_of_getElem? (i := 5) rfl)) (G0.2.2.2.2 (Cond.initialized RX2) (by decide +kernel)) (by decide +kernel) ⟨(Nat.le_of_ble_eq_true rfl), (Nat.le_of_ble_eq_true rfl)⟩, rfl, G0.2.2.2.2 (Cond.instanceMethod yX2_init) (by decide +kernel)⟩ (py_preS hw) rfl rfl hl.1 rfl (lv_room (Nat.le_of_ble_eq_true rfl)) dX11_init_79 ⟨(Nat.le_of_ble_eq_true rfl), (Nat.le_of_ble_eq_true rfl)⟩) (fun L_201 f_202 H_203 locs hp_204 hw => ?_)
  obtain ⟨G_208, gx_206, hZ, ty_207, nt_208, hv_209⟩ := hp_204
  have ty_17 := gx_206.ty ty_17 (by decide)
  have ty_39 := gx_206.ty ty_39 (by decide)
  have tD_44 := gx_206.ty tD_44 (by decide)
  have ty_66 := gx_206.ty ty_66 (by decide)
  have ty_83 := gx_206.ty ty_83 (by decide)
  have ty_118 := gx_206.ty ty_118 (by decide)
  have ty_121 := gx_206.ty ty_121 (by decide)
  have ty_124 := gx_206.ty ty_124 (by decide)
  have ty_148 := gx_206.ty ty_148 (by decide)
  have tV := gx_206.ty tV (by decide)
  have ty_180 := gx_206.ty ty_180 (by decide)
  have hX := hX.trans gx_206
  have u_z := (nt_208 h h_185.1 ne_196).2.2
  have h_185 := nt_208.at h_185 ne_196
  have uh := u_z.trans uh
  have hR_43 := nt_208.at hR_43 nr_197
  have hla := nt_208.at hla nr_198
  have hF_151 := nt_208.at hF_151 nr_199
  have hV_152 := nt_208.at hV_152 nr_200
  have hT := hT.sub nt_208 nq_195
  refine py_putF (C := RX11) (T := TX11) (N := 16) (k := 7) (v := .ref q_187) (fs' := [.ref q_1, .ref q_23, .ref q_49, .ref q_72, .ref r_93, .ref q_130, .ref q_160, .ref q_187, .null, .null, .null, .null, .null, .int 0, .int 0, .int 0]) (ty0 := tyX11) G0 hin hw tyX11_ok nmX11 in_X11_init_X11 rfl h_185 (by decide) (by decide +kernel) rfl rfl rfl rfl rfl (Nat.le_of_ble_eq_true rfl) rfl dX11_init_82 (fun f_210 H_211 locs h_212 x_213 hw => ?_)
  have hZ := hZ.unt uh x_213
  have hT := hT.ext x_213
  have hR_43 := hR_43.ext x_213 (un_ne ty_39 uh (by decide))
  have hla := hla.ext x_213 (un_ne ty_83 uh (by decide))
  have hF_151 := hF_151.ext x_213 (un_ne ty_148 uh (by decide))
  have hV_152 := hV_152.ext x_213 (un_ne tV uh (by decide))
  refine lv_aload_n G0.1 G0.2.1 dX11_init_85 rfl (lv_at hl 0 rfl) ?_
  refine py_new (C := RX1) (T := TX1) (N := 3) (ci := 1) (fs := [.null, .null, .int 0]) (ty0 := tyX1) G0 hw tyX1_ok in_X11_init_X1 rfl (by decide +kernel) (by decide +kernel) (by decide +kernel) (fun j hj => match j, hj with | 0, _ => rfl | 1, _ => rfl | 2, _ => rfl | n + 3, h => absurd h (by omega)) (Nat.le_of_ble_eq_true rfl) (Nat.le_of_ble_eq_true rfl) dX11_init_86 (fun q_214 L_215 f_216 H_217 hq_218 h_219 x_220 hw => ?_)
  have u_221 := hZ.un hq_218
  have nq_222 := hT.ne hq_218
  have ne_223 : h ≠ q_214 := py_ne_new h_212 hq_218
  have h_212 := h_212.all x_220
  have hR_43 := hR_43.all x_220
  have hla := hla.all x_220
  have hF_151 := hF_151.all x_220
  have hV_152 := hV_152.all x_220
  have hZ := hZ.all x_220
  have hT := hT.all x_220
  refine lv_dup G0.1 G0.2.1 dX11_init_89 rfl ?_
  have nr_224 : q_23 ≠ q_214 := un_ne ty_39 u_221 (by decide)
  have nr_225 : q_72 ≠ q_214 := un_ne ty_83 u_221 (by decide)
  have nr_226 : q_130 ≠ q_214 := un_ne ty_148 u_221 (by decide)
  have nr_227 : V ≠ q_214 := un_ne tV u_221 (by decide)
  refine py_callv hw (va_runIN (As := []) (rest := [.ref q_214, .ref h]) G0 (c_X1_init l E G_208 L_215 f_216 H_217.size q_214 hZ h_219 u_221) ⟨va_cnB 0 G0.2.2.2.2 g_X11_init_X1_init_59 rfl rfl rfl (hw.1.2.2 (RX11, 59, yX1_init) (List.mem_of_getElem? (i := 7) rfl)) (G0.2.2.2.2 (Cond.initialized RX1) (by decide +kernel)) (by decide +kernel) ⟨(Nat.le_of_ble_eq_true rfl), (Nat.le_of_ble_eq_true rfl)⟩, rfl, G0.2.2.2.2 (Cond.instanceMethod yX1_init) (by decide +kernel)⟩ (py_preS hw) rfl rfl hl.1 rfl (lv_room (Nat.le_of_ble_eq_true rfl)) dX11_init_90 ⟨(Nat.le_of_ble_eq_true rfl), (Nat.le_of_ble_eq_true rfl)⟩) (fun L_228 f_229 H_230 locs hp_231 hw => ?_)
  obtain ⟨G_235, gx_233, hZ, ty_234, nt_235⟩ := hp_231
  have ty_17 := gx_233.ty ty_17 (by decide)
  have ty_39 := gx_233.ty ty_39 (by decide)
  have tD_44 := gx_233.ty tD_44 (by decide)
  have ty_66 := gx_233.ty ty_66 (by decide)
  have ty_83 := gx_233.ty ty_83 (by decide)
  have ty_118 := gx_233.ty ty_118 (by decide)
  have ty_121 := gx_233.ty ty_121 (by decide)
  have ty_124 := gx_233.ty ty_124 (by decide)
  have ty_148 := gx_233.ty ty_148 (by decide)
  have tV := gx_233.ty tV (by decide)
  have ty_180 := gx_233.ty ty_180 (by decide)
  have ty_207 := gx_233.ty ty_207 (by decide)
  have hX := hX.trans gx_233
  have u_z := (nt_235 h h_212.1 ne_223).2.2
  have h_212 := nt_235.at h_212 ne_223
  have uh := u_z.trans uh
  have hR_43 := nt_235.at hR_43 nr_224
  have hla := nt_235.at hla nr_225
  have hF_151 := nt_235.at hF_151 nr_226
  have hV_152 := nt_235.at hV_152 nr_227
  have hT := hT.sub nt_235 nq_222
  refine py_putF (C := RX11) (T := TX11) (N := 16) (k := 8) (v := .ref q_214) (fs' := [.ref q_1, .ref q_23, .ref q_49, .ref q_72, .ref r_93, .ref q_130, .ref q_160, .ref q_187, .ref q_214, .null, .null, .null, .null, .int 0, .int 0, .int 0]) (ty0 := tyX11) G0 hin hw tyX11_ok nmX11 in_X11_init_X11 rfl h_212 (by decide) (by decide +kernel) rfl rfl rfl rfl rfl (Nat.le_of_ble_eq_true rfl) rfl dX11_init_93 (fun f_236 H_237 locs h_238 x_239 hw => ?_)
  have hZ := hZ.unt uh x_239
  have hT := hT.ext x_239
  have hR_43 := hR_43.ext x_239 (un_ne ty_39 uh (by decide))
  have hla := hla.ext x_239 (un_ne ty_83 uh (by decide))
  have hF_151 := hF_151.ext x_239 (un_ne ty_148 uh (by decide))
  have hV_152 := hV_152.ext x_239 (un_ne tV uh (by decide))
  refine lv_aload_n G0.1 G0.2.1 dX11_init_96 rfl (lv_at hl 0 rfl) ?_
  refine py_new (C := RX0) (T := TX0) (N := 5) (ci := 0) (fs := [.null, .null, .null, .int 0, .int 0]) (ty0 := tyX0) G0 hw tyX0_ok in_X11_init_X0 rfl (by decide +kernel) (by decide +kernel) (by decide +kernel) (fun j hj => match j, hj with | 0, _ => rfl | 1, _ => rfl | 2, _ => rfl | 3, _ => rfl | 4, _ => rfl | n + 5, h => absurd h (by omega)) (Nat.le_of_ble_eq_true rfl) (Nat.le_of_ble_eq_true rfl) dX11_init_97 (fun q_240 L_241 f_242 H_243 hq_244 h_245 x_246 hw => ?_)
  have u_247 := hZ.un hq_244
  have nq_248 := hT.ne hq_244
  have ne_249 : h ≠ q_240 := py_ne_new h_238 hq_244
  have h_238 := h_238.all x_246
  have hR_43 := hR_43.all x_246
  have hla := hla.all x_246
  have hF_151 := hF_151.all x_246
  have hV_152 := hV_152.all x_246
  have hZ := hZ.all x_246
  have hT := hT.all x_246
  refine lv_dup G0.1 G0.2.1 dX11_init_100 rfl ?_
  have nr_250 : q_23 ≠ q_240 := un_ne ty_39 u_247 (by decide)
  have nr_251 : q_72 ≠ q_240 := un_ne ty_83 u_247 (by decide)
  have nr_252 : q_130 ≠ q_240 := un_ne ty_148 u_247 (by decide)
  have nr_253 : V ≠ q_240 := un_ne tV u_247 (by decide)
  refine py_callv hw (va_runIN (As := []) (rest := [.ref q_240, .ref h]) G0 (c_X0_init l E G_235 L_241 f_242 H_243.size q_240 hZ h_245 u_247) ⟨va_cnB 0 G0.2.2.2.2 g_X11_init_X0_init_66 rfl rfl rfl (hw.1.2.2 (RX11, 66, yX0_init) (List.mem_of_getElem? (i := 8) rfl)) (G0.2.2.2.2 (Cond.initialized RX0) (by decide +kernel)) (by decide +kernel) ⟨(Nat.le_of_ble_eq_true rfl), (Nat.le_of_ble_eq_true rfl)⟩, rfl, G0.2.2.2.2 (Cond.instanceMethod yX0_init) (by decide +kernel)⟩ (py_preS hw) rfl rfl hl.1 rfl (lv_room (Nat.le_of_ble_eq_true rfl)) dX11_init_101 ⟨(Nat.le_of_ble_eq_true rfl), (Nat.le_of_ble_eq_true rfl)⟩) (fun L_254 f_255 H_256 locs hp_257 hw => ?_)
  obtain ⟨G_261, gx_259, hZ, ty_260, nt_261⟩ := hp_257
  have ty_17 := gx_259.ty ty_17 (by decide)
  have ty_39 := gx_259.ty ty_39 (by decide)
  have tD_44 := gx_259.ty tD_44 (by decide)
  have ty_66 := gx_259.ty ty_66 (by decide)
  have ty_83 := gx_259.ty ty_83 (by decide)
  have ty_118 := gx_259.ty ty_118 (by decide)
  have ty_121 := gx_259.ty ty_121 (by decide)
  have ty_124 := gx_259.ty ty_124 (by decide)
  have ty_148 := gx_259.ty ty_148 (by decide)
  have tV := gx_259.ty tV (by decide)
  have ty_180 := gx_259.ty ty_180 (by decide)
  have ty_207 := gx_259.ty ty_207 (by decide)
  have ty_234 := gx_259.ty ty_234 (by decide)
  have hX := hX.trans gx_259
  have u_z := (nt_261 h h_238.1 ne_249).2.2
  have h_238 := nt_261.at h_238 ne_249
  have uh := u_z.trans uh
  have hR_43 := nt_261.at hR_43 nr_250
  have hla := nt_261.at hla nr_251
  have hF_151 := nt_261.at hF_151 nr_252
  have hV_152 := nt_261.at hV_152 nr_253
  have hT := hT.sub nt_261 nq_248
  refine py_putF (C := RX11) (T := TX11) (N := 16) (k := 9) (v := .ref q_240) (fs' := [.ref q_1, .ref q_23, .ref q_49, .ref q_72, .ref r_93, .ref q_130, .ref q_160, .ref q_187, .ref q_214, .ref q_240, .null, .null, .null, .int 0, .int 0, .int 0]) (ty0 := tyX11) G0 hin hw tyX11_ok nmX11 in_X11_init_X11 rfl h_238 (by decide) (by decide +kernel) rfl rfl rfl rfl rfl (Nat.le_of_ble_eq_true rfl) rfl dX11_init_104 (fun f_262 H_263 locs h_264 x_265 hw => ?_)
  have hZ := hZ.unt uh x_265
  have hT := hT.ext x_265
  have hR_43 := hR_43.ext x_265 (un_ne ty_39 uh (by decide))
  have hla := hla.ext x_265 (un_ne ty_83 uh (by decide))
  have hF_151 := hF_151.ext x_265 (un_ne ty_148 uh (by decide))
  have hV_152 := hV_152.ext x_265 (un_ne tV uh (by decide))
  refine lv_aload_n G0.1 G0.2.1 dX11_init_107 rfl (lv_at hl 0 rfl) ?_
  refine py_new (C := RX7) (T := TX7) (N := 5) (ci := 7) (fs := [.null, .null, .null, .int 0, .int 0]) (ty0 := tyX7) G0 hw tyX7_ok in_X11_init_X7 rfl (by decide +kernel) (by decide +kernel) (by decide +kernel) (fun j hj => match j, hj with | 0, _ => rfl | 1, _ => rfl | 2, _ => rfl | 3, _ => rfl | 4, _ => rfl | n + 5, h => absurd h (by omega)) (Nat.le_of_ble_eq_true rfl) (Nat.le_of_ble_eq_true rfl) dX11_init_108 (fun q_266 L_267 f_268 H_269 hq_270 h_271 x_272 hw => ?_)
  have u_273 := hZ.un hq_270
  have nq_274 := hT.ne hq_270
  have ne_275 : h ≠ q_266 := py_ne_new h_264 hq_270
  have h_264 := h_264.all x_272
  have hR_43 := hR_43.all x_272
  have hla := hla.all x_272
  have hF_151 := hF_151.all x_272
  have hV_152 := hV_152.all x_272
  have hZ := hZ.all x_272
  have hT := hT.all x_272
  refine lv_dup G0.1 G0.2.1 dX11_init_111 rfl ?_
  have nr_276 : q_23 ≠ q_266 := un_ne ty_39 u_273 (by decide)
  have nr_277 : q_72 ≠ q_266 := un_ne ty_83 u_273 (by decide)
  have nr_278 : q_130 ≠ q_266 := un_ne ty_148 u_273 (by decide)
  have nr_279 : V ≠ q_266 := un_ne tV u_273 (by decide)
  refine py_callv hw (va_runIN (As := []) (rest := [.ref q_266, .ref h]) G0 (c_X7_init l E G_261 L_267 f_268 H_269.size q_266 hZ h_271 u_273) ⟨va_cnB 0 G0.2.2.2.2 g_X11_init_X7_init_73 rfl rfl rfl (hw.1.2.2 (RX11, 73, yX7_init) (List.mem_of_getElem? (i := 9) rfl)) (G0.2.2.2.2 (Cond.initialized RX7) (by decide +kernel)) (by decide +kernel) ⟨(Nat.le_of_ble_eq_true rfl), (Nat.le_of_ble_eq_true rfl)⟩, rfl, G0.2.2.2.2 (Cond.instanceMethod yX7_init) (by decide +kernel)⟩ (py_preS hw) rfl rfl hl.1 rfl (lv_room (Nat.le_of_ble_eq_true rfl)) dX11_init_112 ⟨(Nat.le_of_ble_eq_true rfl), (Nat.le_of_ble_eq_true rfl)⟩) (fun L_280 f_281 H_282 locs hp_283 hw => ?_)
  obtain ⟨G_287, gx_285, hZ, ty_286, nt_287⟩ := hp_283
  have ty_17 := gx_285.ty ty_17 (by decide)
  have ty_39 := gx_285.ty ty_39 (by decide)
  have tD_44 := gx_285.ty tD_44 (by decide)
  have ty_66 := gx_285.ty ty_66 (by decide)
  have ty_83 := gx_285.ty ty_83 (by decide)
  have ty_118 := gx_285.ty ty_118 (by decide)
  have ty_121 := gx_285.ty ty_121 (by decide)
  have ty_124 := gx_285.ty ty_124 (by decide)
  have ty_148 := gx_285.ty ty_148 (by decide)
  have tV := gx_285.ty tV (by decide)
  have ty_180 := gx_285.ty ty_180 (by decide)
  have ty_207 := gx_285.ty ty_207 (by decide)
  have ty_234 := gx_285.ty ty_234 (by decide)
  have ty_260 := gx_285.ty ty_260 (by decide)
  have hX := hX.trans gx_285
  have u_z := (nt_287 h h_264.1 ne_275).2.2
  have h_264 := nt_287.at h_264 ne_275
  have uh := u_z.trans uh
  have hR_43 := nt_287.at hR_43 nr_276
  have hla := nt_287.at hla nr_277
  have hF_151 := nt_287.at hF_151 nr_278
  have hV_152 := nt_287.at hV_152 nr_279
  have hT := hT.sub nt_287 nq_274
  refine py_putF (C := RX11) (T := TX11) (N := 16) (k := 10) (v := .ref q_266) (fs' := [.ref q_1, .ref q_23, .ref q_49, .ref q_72, .ref r_93, .ref q_130, .ref q_160, .ref q_187, .ref q_214, .ref q_240, .ref q_266, .null, .null, .int 0, .int 0, .int 0]) (ty0 := tyX11) G0 hin hw tyX11_ok nmX11 in_X11_init_X11 rfl h_264 (by decide) (by decide +kernel) rfl rfl rfl rfl rfl (Nat.le_of_ble_eq_true rfl) rfl dX11_init_115 (fun f_288 H_289 locs h_290 x_291 hw => ?_)
  have hZ := hZ.unt uh x_291
  have hT := hT.ext x_291
  have hR_43 := hR_43.ext x_291 (un_ne ty_39 uh (by decide))
  have hla := hla.ext x_291 (un_ne ty_83 uh (by decide))
  have hF_151 := hF_151.ext x_291 (un_ne ty_148 uh (by decide))
  have hV_152 := hV_152.ext x_291 (un_ne tV uh (by decide))
  refine lv_aload_n G0.1 G0.2.1 dX11_init_118 rfl (lv_at hl 0 rfl) ?_
  refine py_new (C := RX5) (T := TX5) (N := 1) (ci := 5) (fs := [.null]) (ty0 := tyX5) G0 hw tyX5_ok in_X11_init_X5 rfl (by decide +kernel) (by decide +kernel) (by decide +kernel) (fun j hj => match j, hj with | 0, _ => rfl | n + 1, h => absurd h (by omega)) (Nat.le_of_ble_eq_true rfl) (Nat.le_of_ble_eq_true rfl) dX11_init_119 (fun q_292 L_293 f_294 H_295 hq_296 h_297 x_298 hw => ?_)
  have u_299 := hZ.un hq_296
  have nq_300 := hT.ne hq_296
  have ne_301 : h ≠ q_292 := py_ne_new h_290 hq_296
  have h_290 := h_290.all x_298
  have hR_43 := hR_43.all x_298
  have hla := hla.all x_298
  have hF_151 := hF_151.all x_298
  have hV_152 := hV_152.all x_298
  have hZ := hZ.all x_298
  have hT := hT.all x_298
  refine lv_dup G0.1 G0.2.1 dX11_init_122 rfl ?_
  have nr_302 : q_23 ≠ q_292 := un_ne ty_39 u_299 (by decide)
  have nr_303 : q_72 ≠ q_292 := un_ne ty_83 u_299 (by decide)
  have nr_304 : q_130 ≠ q_292 := un_ne ty_148 u_299 (by decide)
  have nr_305 : V ≠ q_292 := un_ne tV u_299 (by decide)
  refine py_callv hw (va_runIN (As := []) (rest := [.ref q_292, .ref h]) G0 (c_X5_init l E G_287 L_293 f_294 H_295.size q_292 hZ h_297 u_299) ⟨va_cnB 0 G0.2.2.2.2 g_X11_init_X5_init_80 rfl rfl rfl (hw.1.2.2 (RX11, 80, yX5_init) (List.mem_of_getElem? (i := 10) rfl)) (G0.2.2.2.2 (Cond.initialized RX5) (by decide +kernel)) (by decide +kernel) ⟨(Nat.le_of_ble_eq_true rfl), (Nat.le_of_ble_eq_true rfl)⟩, rfl, G0.2.2.2.2 (Cond.instanceMethod yX5_init) (by decide +kernel)⟩ (py_preS hw) rfl rfl hl.1 rfl (lv_room (Nat.le_of_ble_eq_true rfl)) dX11_init_123 ⟨(Nat.le_of_ble_eq_true rfl), (Nat.le_of_ble_eq_true rfl)⟩) (fun L_306 f_307 H_308 locs hp_309 hw => ?_)
  obtain ⟨G_313, gx_311, hZ, ty_312, nt_313⟩ := hp_309
  have ty_17 := gx_311.ty ty_17 (by decide)
  have ty_39 := gx_311.ty ty_39 (by decide)
  have tD_44 := gx_311.ty tD_44 (by decide)
  have ty_66 := gx_311.ty ty_66 (by decide)
  have ty_83 := gx_311.ty ty_83 (by decide)
  have ty_118 := gx_311.ty ty_118 (by decide)
  have ty_121 := gx_311.ty ty_121 (by decide)
  have ty_124 := gx_311.ty ty_124 (by decide)
  have ty_148 := gx_311.ty ty_148 (by decide)
  have tV := gx_311.ty tV (by decide)
  have ty_180 := gx_311.ty ty_180 (by decide)
  have ty_207 := gx_311.ty ty_207 (by decide)
  have ty_234 := gx_311.ty ty_234 (by decide)
  have ty_260 := gx_311.ty ty_260 (by decide)
  have ty_286 := gx_311.ty ty_286 (by decide)
  have hX := hX.trans gx_311
  have u_z := (nt_313 h h_290.1 ne_301).2.2
  have h_290 := nt_313.at h_290 ne_301
  have uh := u_z.trans uh
  have hR_43 := nt_313.at hR_43 nr_302
  have hla := nt_313.at hla nr_303
  have hF_151 := nt_313.at hF_151 nr_304
  have hV_152 := nt_313.at hV_152 nr_305
  have hT := hT.sub nt_313 nq_300
  refine py_putF (C := RX11) (T := TX11) (N := 16) (k := 11) (v := .ref q_292) (fs' := [.ref q_1, .ref q_23, .ref q_49, .ref q_72, .ref r_93, .ref q_130, .ref q_160, .ref q_187, .ref q_214, .ref q_240, .ref q_266, .ref q_292, .null, .int 0, .int 0, .int 0]) (ty0 := tyX11) G0 hin hw tyX11_ok nmX11 in_X11_init_X11 rfl h_290 (by decide) (by decide +kernel) rfl rfl rfl rfl rfl (Nat.le_of_ble_eq_true rfl) rfl dX11_init_126 (fun f_314 H_315 locs h_316 x_317 hw => ?_)
  have hZ := hZ.unt uh x_317
  have hT := hT.ext x_317
  have hR_43 := hR_43.ext x_317 (un_ne ty_39 uh (by decide))
  have hla := hla.ext x_317 (un_ne ty_83 uh (by decide))
  have hF_151 := hF_151.ext x_317 (un_ne ty_148 uh (by decide))
  have hV_152 := hV_152.ext x_317 (un_ne tV uh (by decide))
  refine lv_aload_n G0.1 G0.2.1 dX11_init_129 rfl (lv_at hl 0 rfl) ?_
  refine py_new (C := RX6) (T := TX6) (N := 7) (ci := 6) (fs := [.null, .null, .null, .null, .null, .null, .long 0]) (ty0 := tyX6) G0 hw tyX6_ok in_X11_init_X6 rfl (by decide +kernel) (by decide +kernel) (by decide +kernel) (fun j hj => match j, hj with | 0, _ => rfl | 1, _ => rfl | 2, _ => rfl | 3, _ => rfl | 4, _ => rfl | 5, _ => rfl | 6, _ => rfl | n + 7, h => absurd h (by omega)) (Nat.le_of_ble_eq_true rfl) (Nat.le_of_ble_eq_true rfl) dX11_init_130 (fun q_318 L_319 f_320 H_321 hq_322 h_323 x_324 hw => ?_)
  have u_325 := hZ.un hq_322
  have nq_326 := hT.ne hq_322
  have ne_327 : h ≠ q_318 := py_ne_new h_316 hq_322
  have h_316 := h_316.all x_324
  have hR_43 := hR_43.all x_324
  have hla := hla.all x_324
  have hF_151 := hF_151.all x_324
  have hV_152 := hV_152.all x_324
  have hZ := hZ.all x_324
  have hT := hT.all x_324
  refine lv_dup G0.1 G0.2.1 dX11_init_133 rfl ?_
  refine lv_aload_n G0.1 G0.2.1 dX11_init_134 rfl (lv_at hl 0 rfl) ?_
  refine py_get (C := RX11) (T := TX11) (N := 16) (k := 5) (v := .ref q_130) G0 hw in_X11_init_X11 rfl h_316 (by decide) (by decide +kernel) rfl dX11_init_135 ?_
  refine lv_aload_n G0.1 G0.2.1 dX11_init_138 rfl (lv_at hl 0 rfl) ?_
  refine py_get (C := RX11) (T := TX11) (N := 16) (k := 4) (v := .ref r_93) G0 hw in_X11_init_X11 rfl h_316 (by decide) (by decide +kernel) rfl dX11_init_139 ?_
  have nr_328 : q_23 ≠ q_318 := un_ne ty_39 u_325 (by decide)
  have nr_329 : q_72 ≠ q_318 := un_ne ty_83 u_325 (by decide)
  have nr_330 : q_130 ≠ q_318 := un_ne ty_148 u_325 (by decide)
  have nr_331 : V ≠ q_318 := un_ne tV u_325 (by decide)
  refine py_callv hw (va_runI (As := [.ref q_130, .ref r_93]) (rest := [.ref q_318, .ref h]) G0 (c_X6_init l E G_313 L_319 f_320 H_321.size q_318 q_130 r_93 hZ h_323 u_325 ty_148 ty_124) (cwI 2 G0.2.2.2.2 g_X11_init_X6_init_87 rfl rfl rfl (G0.2.2.2.2 (Cond.initialized RX6) (by decide +kernel)) (G0.2.2.2.2 (Cond.methodLink RX11 87 yX6_init) (by decide +kernel)) (G0.2.2.2.2 (Cond.instanceMethod yX6_init) (by decide +kernel)) rfl (by decide +kernel) ⟨(Nat.le_of_ble_eq_true rfl), (Nat.le_of_ble_eq_true rfl)⟩) (py_preS hw) rfl rfl hl.1 rfl (lv_room (Nat.le_of_ble_eq_true rfl)) dX11_init_142 ⟨(Nat.le_of_ble_eq_true rfl), (Nat.le_of_ble_eq_true rfl)⟩) (fun L_332 f_333 H_334 locs hp_335 hw => ?_)
  obtain ⟨G_339, gx_337, hZ, ty_338, nt_339, ho_340⟩ := hp_335
  have ty_17 := gx_337.ty ty_17 (by decide)
  have ty_39 := gx_337.ty ty_39 (by decide)
  have tD_44 := gx_337.ty tD_44 (by decide)
  have ty_66 := gx_337.ty ty_66 (by decide)
  have ty_83 := gx_337.ty ty_83 (by decide)
  have ty_118 := gx_337.ty ty_118 (by decide)
  have ty_121 := gx_337.ty ty_121 (by decide)
  have ty_124 := gx_337.ty ty_124 (by decide)
  have ty_148 := gx_337.ty ty_148 (by decide)
  have tV := gx_337.ty tV (by decide)
  have ty_180 := gx_337.ty ty_180 (by decide)
  have ty_207 := gx_337.ty ty_207 (by decide)
  have ty_234 := gx_337.ty ty_234 (by decide)
  have ty_260 := gx_337.ty ty_260 (by decide)
  have ty_286 := gx_337.ty ty_286 (by decide)
  have ty_312 := gx_337.ty ty_312 (by decide)
  have hX := hX.trans gx_337
  have u_z := (nt_339 h h_316.1 ne_327).2.2
  have h_316 := nt_339.at h_316 ne_327
  have uh := u_z.trans uh
  have hR_43 := nt_339.at hR_43 nr_328
  have hla := nt_339.at hla nr_329
  have hF_151 := nt_339.at hF_151 nr_330
  have hV_152 := nt_339.at hV_152 nr_331
  have hT := hT.sub nt_339 nq_326
  have hod := ho_340
  refine py_putF (C := RX11) (T := TX11) (N := 16) (k := 12) (v := .ref q_318) (fs' := [.ref q_1, .ref q_23, .ref q_49, .ref q_72, .ref r_93, .ref q_130, .ref q_160, .ref q_187, .ref q_214, .ref q_240, .ref q_266, .ref q_292, .ref q_318, .int 0, .int 0, .int 0]) (ty0 := tyX11) G0 hin hw tyX11_ok nmX11 in_X11_init_X11 rfl h_316 (by decide) (by decide +kernel) rfl rfl rfl rfl rfl (Nat.le_of_ble_eq_true rfl) rfl dX11_init_145 (fun f_341 H_342 locs h_343 x_344 hw => ?_)
  have hZ := hZ.unt uh x_344
  have hT := hT.ext x_344
  have hR_43 := hR_43.ext x_344 (un_ne ty_39 uh (by decide))
  have hla := hla.ext x_344 (un_ne ty_83 uh (by decide))
  have hF_151 := hF_151.ext x_344 (un_ne ty_148 uh (by decide))
  have hV_152 := hV_152.ext x_344 (un_ne tV uh (by decide))
  refine lv_aload_n G0.1 G0.2.1 dX11_init_148 rfl (lv_at hl 0 rfl) ?_
  refine lv_iconst (v := 0) G0.1 G0.2.1 dX11_init_149 (by decide) ?_
  refine py_put (C := RX11) (T := TX11) (N := 16) (k := 13) (v := .int 0) (fs' := [.ref q_1, .ref q_23, .ref q_49, .ref q_72, .ref r_93, .ref q_130, .ref q_160, .ref q_187, .ref q_214, .ref q_240, .ref q_266, .ref q_292, .ref q_318, .int 0, .int 0, .int 0]) (ty0 := tyX11) G0 hw tyX11_ok nmX11 in_X11_init_X11 rfl h_343 (by decide) (by decide +kernel) rfl rfl rfl rfl (Nat.le_of_ble_eq_true rfl) rfl dX11_init_150 (fun f_345 H_346 locs h_347 x_348 hw => ?_)
  have hZ := hZ.unt uh x_348
  have hT := hT.ext x_348
  have hR_43 := hR_43.ext x_348 (un_ne ty_39 uh (by decide))
  have hla := hla.ext x_348 (un_ne ty_83 uh (by decide))
  have hF_151 := hF_151.ext x_348 (un_ne ty_148 uh (by decide))
  have hV_152 := hV_152.ext x_348 (un_ne tV uh (by decide))
  refine lv_aload_n G0.1 G0.2.1 dX11_init_153 rfl (lv_at hl 0 rfl) ?_
  refine lv_iconst (v := (-1)) G0.1 G0.2.1 dX11_init_154 (by decide) ?_
  refine py_put (C := RX11) (T := TX11) (N := 16) (k := 14) (v := .int (-1)) (fs' := [.ref q_1, .ref q_23, .ref q_49, .ref q_72, .ref r_93, .ref q_130, .ref q_160, .ref q_187, .ref q_214, .ref q_240, .ref q_266, .ref q_292, .ref q_318, .int 0, .int (-1), .int 0]) (ty0 := tyX11) G0 hw tyX11_ok nmX11 in_X11_init_X11 rfl h_347 (by decide) (by decide +kernel) rfl rfl rfl rfl (Nat.le_of_ble_eq_true rfl) rfl dX11_init_155 (fun f_349 H_350 locs h_351 x_352 hw => ?_)
  have hZ := hZ.unt uh x_352
  have hT := hT.ext x_352
  have hR_43 := hR_43.ext x_352 (un_ne ty_39 uh (by decide))
  have hla := hla.ext x_352 (un_ne ty_83 uh (by decide))
  have hF_151 := hF_151.ext x_352 (un_ne ty_148 uh (by decide))
  have hV_152 := hV_152.ext x_352 (un_ne tV uh (by decide))
  refine lv_aload_n G0.1 G0.2.1 dX11_init_158 rfl (lv_at hl 0 rfl) ?_
  refine lv_iconst (v := 0) G0.1 G0.2.1 dX11_init_159 (by decide) ?_
  refine py_put (C := RX11) (T := TX11) (N := 16) (k := 15) (v := .int 0) (fs' := [.ref q_1, .ref q_23, .ref q_49, .ref q_72, .ref r_93, .ref q_130, .ref q_160, .ref q_187, .ref q_214, .ref q_240, .ref q_266, .ref q_292, .ref q_318, .int 0, .int (-1), .int 0]) (ty0 := tyX11) G0 hw tyX11_ok nmX11 in_X11_init_X11 rfl h_351 (by decide) (by decide +kernel) rfl rfl rfl rfl (Nat.le_of_ble_eq_true rfl) rfl dX11_init_160 (fun f_353 H_354 locs h_355 x_356 hw => ?_)
  have hZ := hZ.unt uh x_356
  have hT := hT.ext x_356
  have hR_43 := hR_43.ext x_356 (un_ne ty_39 uh (by decide))
  have hla := hla.ext x_356 (un_ne ty_83 uh (by decide))
  have hF_151 := hF_151.ext x_356 (un_ne ty_148 uh (by decide))
  have hV_152 := hV_152.ext x_356 (un_ne tV uh (by decide))
  obtain ⟨G_358, gx_357, hZ, hth, hrr, ee_358⟩ := hZ.ty (c := 12) (r := (fun j => match j with | 0 => q_1 | 1 => q_23 | 2 => q_49 | 3 => q_72 | 4 => r_93 | 5 => q_130 | 6 => q_160 | 7 => q_187 | 8 => q_214 | 9 => q_240 | 10 => q_266 | 11 => q_292 | 12 => q_318 | _ => 0)) uh (by decide) h_355.1 (fun G1 gg e1 hr => ⟨0, (-1), 0, by rw [hr 0, hr 1, hr 2, hr 3, hr 4, hr 5, hr 6, hr 7, hr 8, hr 9, hr 10, hr 11, hr 12]; exact h_355.2, ⟨by decide, by decide⟩, ⟨by decide, by decide⟩, ⟨by decide, by decide⟩⟩) (fun G1 gg e1 hr => ⟨by rw [hr 0]; exact gg.ty ty_17 (by decide), by rw [hr 1]; exact gg.ty ty_39 (by decide), by rw [hr 2]; exact gg.ty ty_66 (by decide), by rw [hr 3]; exact gg.ty ty_83 (by decide), by rw [hr 4]; exact gg.ty ty_124 (by decide), by rw [hr 5]; exact gg.ty ty_148 (by decide), by rw [hr 6]; exact gg.ty ty_180 (by decide), by rw [hr 7]; exact gg.ty ty_207 (by decide), by rw [hr 8]; exact gg.ty ty_234 (by decide), by rw [hr 9]; exact gg.ty ty_260 (by decide), by rw [hr 10]; exact gg.ty ty_286 (by decide), by rw [hr 11]; exact gg.ty ty_312 (by decide), by rw [hr 12]; exact gg.ty ty_338 (by decide), by rw [hr 5, hr 6]; exact hn56, by rw [hr 5, hr 7]; exact hn57, by rw [hr 6, hr 7]; exact hn67, by rw [show G1.2 h 12 = q_318 from hr 12, show G1.2 h 5 = q_130 from hr 5, (gg q_318 (by rw [ty_338]; decide)).2 2]; exact hod⟩) (fun e => absurd e (by decide))
  have ty_17 := gx_357.ty ty_17 (by decide)
  have ty_39 := gx_357.ty ty_39 (by decide)
  have tD_44 := gx_357.ty tD_44 (by decide)
  have ty_66 := gx_357.ty ty_66 (by decide)
  have ty_83 := gx_357.ty ty_83 (by decide)
  have ty_118 := gx_357.ty ty_118 (by decide)
  have ty_121 := gx_357.ty ty_121 (by decide)
  have ty_124 := gx_357.ty ty_124 (by decide)
  have ty_148 := gx_357.ty ty_148 (by decide)
  have tV := gx_357.ty tV (by decide)
  have ty_180 := gx_357.ty ty_180 (by decide)
  have ty_207 := gx_357.ty ty_207 (by decide)
  have ty_234 := gx_357.ty ty_234 (by decide)
  have ty_260 := gx_357.ty ty_260 (by decide)
  have ty_286 := gx_357.ty ty_286 (by decide)
  have ty_312 := gx_357.ty ty_312 (by decide)
  have ty_338 := gx_357.ty ty_338 (by decide)
  have hX := hX.trans gx_357
  have hT : NTR L f G h _ _ G_358 := fun b hb hn => ⟨(hT b hb hn).1, (hT b hb hn).2.1, (ee_358 b hn).trans (hT b hb hn).2.2⟩
  exact py_vret G0 hr hlk hw ⟨G_358, hX, hZ, hth, hT, (gi_init (F := q_130) (R := q_23) (V := V) (D := D) hZ.2.2 (hrr 5) (hrr 1) ((fo_eq hF_151).1) (by rw [(fo_eq hF_151).2.1]; exact hyv) (by rw [(fo_eq hF_151).2.2.2, (va_eq hV_152).2]; exact hnv) (by rw [hR_43.2]; rfl) hVD (hy_eq h_355))⟩ dX11_init_163
