theorem dX0_init_0 : decode cX0_init 0 = .ok (.aload_n 0, 1) := by decide +kernel
theorem dX0_init_1 : decode cX0_init 1 = .ok (.invokespecial 1, 3) := by decide +kernel
theorem dX0_init_4 : decode cX0_init 4 = .ok (.aload_n 0, 1) := by decide +kernel
theorem dX0_init_5 : decode cX0_init 5 = .ok (.bipush 40, 2) := by decide +kernel
theorem dX0_init_7 : decode cX0_init 7 = .ok (.newarray .int, 2) := by decide +kernel
theorem dX0_init_9 : decode cX0_init 9 = .ok (.putfield 9, 3) := by decide +kernel
theorem dX0_init_12 : decode cX0_init 12 = .ok (.aload_n 0, 1) := by decide +kernel
theorem dX0_init_13 : decode cX0_init 13 = .ok (.bipush 40, 2) := by decide +kernel
theorem dX0_init_15 : decode cX0_init 15 = .ok (.newarray .int, 2) := by decide +kernel
theorem dX0_init_17 : decode cX0_init 17 = .ok (.putfield 13, 3) := by decide +kernel
theorem dX0_init_20 : decode cX0_init 20 = .ok (.aload_n 0, 1) := by decide +kernel
theorem dX0_init_21 : decode cX0_init 21 = .ok (.bipush 40, 2) := by decide +kernel
theorem dX0_init_23 : decode cX0_init 23 = .ok (.newarray .int, 2) := by decide +kernel
theorem dX0_init_25 : decode cX0_init 25 = .ok (.putfield 16, 3) := by decide +kernel
theorem dX0_init_28 : decode cX0_init 28 = .ok (.aload_n 0, 1) := by decide +kernel
theorem dX0_init_29 : decode cX0_init 29 = .ok (.iconst 0, 1) := by decide +kernel
theorem dX0_init_30 : decode cX0_init 30 = .ok (.putfield 19, 3) := by decide +kernel
theorem dX0_init_33 : decode cX0_init 33 = .ok (.aload_n 0, 1) := by decide +kernel
theorem dX0_init_34 : decode cX0_init 34 = .ok (.bipush 10, 2) := by decide +kernel
theorem dX0_init_36 : decode cX0_init 36 = .ok (.putfield 23, 3) := by decide +kernel
theorem dX0_init_39 : decode cX0_init 39 = .ok (.return_, 1) := by decide +kernel
theorem dX10_init_0 : decode cX10_init 0 = .ok (.aload_n 0, 1) := by decide +kernel
theorem dX10_init_1 : decode cX10_init 1 = .ok (.invokespecial 3, 3) := by decide +kernel
theorem dX10_init_4 : decode cX10_init 4 = .ok (.aload_n 0, 1) := by decide +kernel
theorem dX10_init_5 : decode cX10_init 5 = .ok (.iconst 4, 1) := by decide +kernel
theorem dX10_init_6 : decode cX10_init 6 = .ok (.newarray .int, 2) := by decide +kernel
theorem dX10_init_8 : decode cX10_init 8 = .ok (.putfield 11, 3) := by decide +kernel
theorem dX10_init_11 : decode cX10_init 11 = .ok (.aload_n 0, 1) := by decide +kernel
theorem dX10_init_12 : decode cX10_init 12 = .ok (.new 15, 3) := by decide +kernel
theorem dX10_init_15 : decode cX10_init 15 = .ok (.dup, 1) := by decide +kernel
theorem dX10_init_16 : decode cX10_init 16 = .ok (.invokespecial 17, 3) := by decide +kernel
theorem dX10_init_19 : decode cX10_init 19 = .ok (.putfield 18, 3) := by decide +kernel
theorem dX10_init_22 : decode cX10_init 22 = .ok (.return_, 1) := by decide +kernel
theorem dX11_init_0 : decode cX11_init 0 = .ok (.aload_n 0, 1) := by decide +kernel
theorem dX11_init_1 : decode cX11_init 1 = .ok (.invokespecial 1, 3) := by decide +kernel
theorem dX11_init_4 : decode cX11_init 4 = .ok (.aload_n 0, 1) := by decide +kernel
theorem dX11_init_5 : decode cX11_init 5 = .ok (.new 7, 3) := by decide +kernel
theorem dX11_init_8 : decode cX11_init 8 = .ok (.dup, 1) := by decide +kernel
theorem dX11_init_9 : decode cX11_init 9 = .ok (.invokespecial 9, 3) := by decide +kernel
theorem dX11_init_12 : decode cX11_init 12 = .ok (.putfield 10, 3) := by decide +kernel
theorem dX11_init_15 : decode cX11_init 15 = .ok (.aload_n 0, 1) := by decide +kernel
theorem dX11_init_16 : decode cX11_init 16 = .ok (.new 16, 3) := by decide +kernel
theorem dX11_init_19 : decode cX11_init 19 = .ok (.dup, 1) := by decide +kernel
theorem dX11_init_20 : decode cX11_init 20 = .ok (.invokespecial 18, 3) := by decide +kernel
theorem dX11_init_23 : decode cX11_init 23 = .ok (.putfield 19, 3) := by decide +kernel
theorem dX11_init_26 : decode cX11_init 26 = .ok (.aload_n 0, 1) := by decide +kernel
theorem dX11_init_27 : decode cX11_init 27 = .ok (.new 23, 3) := by decide +kernel
theorem dX11_init_30 : decode cX11_init 30 = .ok (.dup, 1) := by decide +kernel
theorem dX11_init_31 : decode cX11_init 31 = .ok (.invokespecial 25, 3) := by decide +kernel
theorem dX11_init_34 : decode cX11_init 34 = .ok (.putfield 26, 3) := by decide +kernel
theorem dX11_init_37 : decode cX11_init 37 = .ok (.aload_n 0, 1) := by decide +kernel
theorem dX11_init_38 : decode cX11_init 38 = .ok (.iconst 4, 1) := by decide +kernel
theorem dX11_init_39 : decode cX11_init 39 = .ok (.anewarray 30, 3) := by decide +kernel
theorem dX11_init_42 : decode cX11_init 42 = .ok (.putfield 32, 3) := by decide +kernel
theorem dX11_init_45 : decode cX11_init 45 = .ok (.aload_n 0, 1) := by decide +kernel
theorem dX11_init_46 : decode cX11_init 46 = .ok (.invokestatic 36, 3) := by decide +kernel
theorem dX11_init_49 : decode cX11_init 49 = .ok (.putfield 40, 3) := by decide +kernel
theorem dX11_init_52 : decode cX11_init 52 = .ok (.aload_n 0, 1) := by decide +kernel
theorem dX11_init_53 : decode cX11_init 53 = .ok (.new 44, 3) := by decide +kernel
theorem dX11_init_56 : decode cX11_init 56 = .ok (.dup, 1) := by decide +kernel
theorem dX11_init_57 : decode cX11_init 57 = .ok (.invokespecial 46, 3) := by decide +kernel
theorem dX11_init_60 : decode cX11_init 60 = .ok (.putfield 47, 3) := by decide +kernel
theorem dX11_init_63 : decode cX11_init 63 = .ok (.aload_n 0, 1) := by decide +kernel
theorem dX11_init_64 : decode cX11_init 64 = .ok (.new 44, 3) := by decide +kernel
theorem dX11_init_67 : decode cX11_init 67 = .ok (.dup, 1) := by decide +kernel
theorem dX11_init_68 : decode cX11_init 68 = .ok (.invokespecial 46, 3) := by decide +kernel
theorem dX11_init_71 : decode cX11_init 71 = .ok (.putfield 51, 3) := by decide +kernel
theorem dX11_init_74 : decode cX11_init 74 = .ok (.aload_n 0, 1) := by decide +kernel
theorem dX11_init_75 : decode cX11_init 75 = .ok (.new 44, 3) := by decide +kernel
theorem dX11_init_78 : decode cX11_init 78 = .ok (.dup, 1) := by decide +kernel
theorem dX11_init_79 : decode cX11_init 79 = .ok (.invokespecial 46, 3) := by decide +kernel
theorem dX11_init_82 : decode cX11_init 82 = .ok (.putfield 54, 3) := by decide +kernel
theorem dX11_init_85 : decode cX11_init 85 = .ok (.aload_n 0, 1) := by decide +kernel
theorem dX11_init_86 : decode cX11_init 86 = .ok (.new 57, 3) := by decide +kernel
theorem dX11_init_89 : decode cX11_init 89 = .ok (.dup, 1) := by decide +kernel
theorem dX11_init_90 : decode cX11_init 90 = .ok (.invokespecial 59, 3) := by decide +kernel
theorem dX11_init_93 : decode cX11_init 93 = .ok (.putfield 60, 3) := by decide +kernel
theorem dX11_init_96 : decode cX11_init 96 = .ok (.aload_n 0, 1) := by decide +kernel
theorem dX11_init_97 : decode cX11_init 97 = .ok (.new 64, 3) := by decide +kernel
theorem dX11_init_100 : decode cX11_init 100 = .ok (.dup, 1) := by decide +kernel
theorem dX11_init_101 : decode cX11_init 101 = .ok (.invokespecial 66, 3) := by decide +kernel
theorem dX11_init_104 : decode cX11_init 104 = .ok (.putfield 67, 3) := by decide +kernel
theorem dX11_init_107 : decode cX11_init 107 = .ok (.aload_n 0, 1) := by decide +kernel
theorem dX11_init_108 : decode cX11_init 108 = .ok (.new 71, 3) := by decide +kernel
theorem dX11_init_111 : decode cX11_init 111 = .ok (.dup, 1) := by decide +kernel
theorem dX11_init_112 : decode cX11_init 112 = .ok (.invokespecial 73, 3) := by decide +kernel
theorem dX11_init_115 : decode cX11_init 115 = .ok (.putfield 74, 3) := by decide +kernel
theorem dX11_init_118 : decode cX11_init 118 = .ok (.aload_n 0, 1) := by decide +kernel
theorem dX11_init_119 : decode cX11_init 119 = .ok (.new 78, 3) := by decide +kernel
theorem dX11_init_122 : decode cX11_init 122 = .ok (.dup, 1) := by decide +kernel
theorem dX11_init_123 : decode cX11_init 123 = .ok (.invokespecial 80, 3) := by decide +kernel
theorem dX11_init_126 : decode cX11_init 126 = .ok (.putfield 81, 3) := by decide +kernel
theorem dX11_init_129 : decode cX11_init 129 = .ok (.aload_n 0, 1) := by decide +kernel
theorem dX11_init_130 : decode cX11_init 130 = .ok (.new 85, 3) := by decide +kernel
theorem dX11_init_133 : decode cX11_init 133 = .ok (.dup, 1) := by decide +kernel
theorem dX11_init_134 : decode cX11_init 134 = .ok (.aload_n 0, 1) := by decide +kernel
theorem dX11_init_135 : decode cX11_init 135 = .ok (.getfield 47, 3) := by decide +kernel
theorem dX11_init_138 : decode cX11_init 138 = .ok (.aload_n 0, 1) := by decide +kernel
theorem dX11_init_139 : decode cX11_init 139 = .ok (.getfield 40, 3) := by decide +kernel
theorem dX11_init_142 : decode cX11_init 142 = .ok (.invokespecial 87, 3) := by decide +kernel
theorem dX11_init_145 : decode cX11_init 145 = .ok (.putfield 90, 3) := by decide +kernel
theorem dX11_init_148 : decode cX11_init 148 = .ok (.aload_n 0, 1) := by decide +kernel
theorem dX11_init_149 : decode cX11_init 149 = .ok (.iconst 0, 1) := by decide +kernel
theorem dX11_init_150 : decode cX11_init 150 = .ok (.putfield 94, 3) := by decide +kernel
theorem dX11_init_153 : decode cX11_init 153 = .ok (.aload_n 0, 1) := by decide +kernel
theorem dX11_init_154 : decode cX11_init 154 = .ok (.iconst (-1), 1) := by decide +kernel
theorem dX11_init_155 : decode cX11_init 155 = .ok (.putfield 98, 3) := by decide +kernel
theorem dX11_init_158 : decode cX11_init 158 = .ok (.aload_n 0, 1) := by decide +kernel
theorem dX11_init_159 : decode cX11_init 159 = .ok (.iconst 0, 1) := by decide +kernel
theorem dX11_init_160 : decode cX11_init 160 = .ok (.putfield 101, 3) := by decide +kernel
theorem dX11_init_163 : decode cX11_init 163 = .ok (.return_, 1) := by decide +kernel
theorem dX1_init_0 : decode cX1_init 0 = .ok (.aload_n 0, 1) := by decide +kernel
theorem dX1_init_1 : decode cX1_init 1 = .ok (.invokespecial 5, 3) := by decide +kernel
theorem dX1_init_4 : decode cX1_init 4 = .ok (.aload_n 0, 1) := by decide +kernel
theorem dX1_init_5 : decode cX1_init 5 = .ok (.sipush 600, 3) := by decide +kernel
theorem dX1_init_8 : decode cX1_init 8 = .ok (.newarray .int, 2) := by decide +kernel
theorem dX1_init_10 : decode cX1_init 10 = .ok (.putfield 13, 3) := by decide +kernel
theorem dX1_init_13 : decode cX1_init 13 = .ok (.aload_n 0, 1) := by decide +kernel
theorem dX1_init_14 : decode cX1_init 14 = .ok (.sipush 600, 3) := by decide +kernel
theorem dX1_init_17 : decode cX1_init 17 = .ok (.newarray .int, 2) := by decide +kernel
theorem dX1_init_19 : decode cX1_init 19 = .ok (.putfield 17, 3) := by decide +kernel
theorem dX1_init_22 : decode cX1_init 22 = .ok (.aload_n 0, 1) := by decide +kernel
theorem dX1_init_23 : decode cX1_init 23 = .ok (.iconst 0, 1) := by decide +kernel
theorem dX1_init_24 : decode cX1_init 24 = .ok (.putfield 20, 3) := by decide +kernel
theorem dX1_init_27 : decode cX1_init 27 = .ok (.return_, 1) := by decide +kernel
theorem dX2_init_0 : decode cX2_init 0 = .ok (.aload_n 0, 1) := by decide +kernel
theorem dX2_init_1 : decode cX2_init 1 = .ok (.invokespecial 3, 3) := by decide +kernel
theorem dX2_init_4 : decode cX2_init 4 = .ok (.aload_n 0, 1) := by decide +kernel
theorem dX2_init_5 : decode cX2_init 5 = .ok (.bipush 10, 2) := by decide +kernel
theorem dX2_init_7 : decode cX2_init 7 = .ok (.newarray .int, 2) := by decide +kernel
theorem dX2_init_9 : decode cX2_init 9 = .ok (.putfield 11, 3) := by decide +kernel
theorem dX2_init_12 : decode cX2_init 12 = .ok (.aload_n 0, 1) := by decide +kernel
theorem dX2_init_13 : decode cX2_init 13 = .ok (.bipush 10, 2) := by decide +kernel
theorem dX2_init_15 : decode cX2_init 15 = .ok (.newarray .int, 2) := by decide +kernel
theorem dX2_init_17 : decode cX2_init 17 = .ok (.putfield 17, 3) := by decide +kernel
theorem dX2_init_20 : decode cX2_init 20 = .ok (.aload_n 0, 1) := by decide +kernel
theorem dX2_init_21 : decode cX2_init 21 = .ok (.bipush 10, 2) := by decide +kernel
theorem dX2_init_23 : decode cX2_init 23 = .ok (.newarray .int, 2) := by decide +kernel
theorem dX2_init_25 : decode cX2_init 25 = .ok (.putfield 20, 3) := by decide +kernel
theorem dX2_init_28 : decode cX2_init 28 = .ok (.aload_n 0, 1) := by decide +kernel
theorem dX2_init_29 : decode cX2_init 29 = .ok (.bipush 10, 2) := by decide +kernel
theorem dX2_init_31 : decode cX2_init 31 = .ok (.newarray .int, 2) := by decide +kernel
theorem dX2_init_33 : decode cX2_init 33 = .ok (.putfield 23, 3) := by decide +kernel
theorem dX2_init_36 : decode cX2_init 36 = .ok (.aload_n 0, 1) := by decide +kernel
theorem dX2_init_37 : decode cX2_init 37 = .ok (.bipush 10, 2) := by decide +kernel
theorem dX2_init_39 : decode cX2_init 39 = .ok (.newarray .int, 2) := by decide +kernel
theorem dX2_init_41 : decode cX2_init 41 = .ok (.putfield 26, 3) := by decide +kernel
theorem dX2_init_44 : decode cX2_init 44 = .ok (.aload_n 0, 1) := by decide +kernel
theorem dX2_init_45 : decode cX2_init 45 = .ok (.bipush 10, 2) := by decide +kernel
theorem dX2_init_47 : decode cX2_init 47 = .ok (.newarray .int, 2) := by decide +kernel
theorem dX2_init_49 : decode cX2_init 49 = .ok (.putfield 29, 3) := by decide +kernel
theorem dX2_init_52 : decode cX2_init 52 = .ok (.aload_n 0, 1) := by decide +kernel
theorem dX2_init_53 : decode cX2_init 53 = .ok (.bipush 10, 2) := by decide +kernel
theorem dX2_init_55 : decode cX2_init 55 = .ok (.newarray .int, 2) := by decide +kernel
theorem dX2_init_57 : decode cX2_init 57 = .ok (.putfield 32, 3) := by decide +kernel
theorem dX2_init_60 : decode cX2_init 60 = .ok (.aload_n 0, 1) := by decide +kernel
theorem dX2_init_61 : decode cX2_init 61 = .ok (.bipush 10, 2) := by decide +kernel
theorem dX2_init_63 : decode cX2_init 63 = .ok (.newarray .int, 2) := by decide +kernel
theorem dX2_init_65 : decode cX2_init 65 = .ok (.putfield 35, 3) := by decide +kernel
theorem dX2_init_68 : decode cX2_init 68 = .ok (.aload_n 0, 1) := by decide +kernel
theorem dX2_init_69 : decode cX2_init 69 = .ok (.bipush 10, 2) := by decide +kernel
theorem dX2_init_71 : decode cX2_init 71 = .ok (.newarray .boolean, 2) := by decide +kernel
theorem dX2_init_73 : decode cX2_init 73 = .ok (.putfield 38, 3) := by decide +kernel
theorem dX2_init_76 : decode cX2_init 76 = .ok (.aload_n 0, 1) := by decide +kernel
theorem dX2_init_77 : decode cX2_init 77 = .ok (.new 9, 3) := by decide +kernel
theorem dX2_init_80 : decode cX2_init 80 = .ok (.dup, 1) := by decide +kernel
theorem dX2_init_81 : decode cX2_init 81 = .ok (.invokespecial 42, 3) := by decide +kernel
theorem dX2_init_84 : decode cX2_init 84 = .ok (.putfield 43, 3) := by decide +kernel
theorem dX2_init_87 : decode cX2_init 87 = .ok (.aload_n 0, 1) := by decide +kernel
theorem dX2_init_88 : decode cX2_init 88 = .ok (.lconst 0, 1) := by decide +kernel
theorem dX2_init_89 : decode cX2_init 89 = .ok (.putfield 47, 3) := by decide +kernel
theorem dX2_init_92 : decode cX2_init 92 = .ok (.aload_n 0, 1) := by decide +kernel
theorem dX2_init_93 : decode cX2_init 93 = .ok (.iconst 0, 1) := by decide +kernel
theorem dX2_init_94 : decode cX2_init 94 = .ok (.putfield 51, 3) := by decide +kernel
theorem dX2_init_97 : decode cX2_init 97 = .ok (.return_, 1) := by decide +kernel
theorem dX4_init_0 : decode cX4_init 0 = .ok (.aload_n 0, 1) := by decide +kernel
theorem dX4_init_1 : decode cX4_init 1 = .ok (.invokespecial 3, 3) := by decide +kernel
theorem dX4_init_4 : decode cX4_init 4 = .ok (.aload_n 0, 1) := by decide +kernel
theorem dX4_init_5 : decode cX4_init 5 = .ok (.new 9, 3) := by decide +kernel
theorem dX4_init_8 : decode cX4_init 8 = .ok (.dup, 1) := by decide +kernel
theorem dX4_init_9 : decode cX4_init 9 = .ok (.invokespecial 11, 3) := by decide +kernel
theorem dX4_init_12 : decode cX4_init 12 = .ok (.putfield 12, 3) := by decide +kernel
theorem dX4_init_15 : decode cX4_init 15 = .ok (.return_, 1) := by decide +kernel
theorem dX5_init_0 : decode cX5_init 0 = .ok (.aload_n 0, 1) := by decide +kernel
theorem dX5_init_1 : decode cX5_init 1 = .ok (.invokespecial 3, 3) := by decide +kernel
theorem dX5_init_4 : decode cX5_init 4 = .ok (.aload_n 0, 1) := by decide +kernel
theorem dX5_init_5 : decode cX5_init 5 = .ok (.bipush 8, 2) := by decide +kernel
theorem dX5_init_7 : decode cX5_init 7 = .ok (.newarray .int, 2) := by decide +kernel
theorem dX5_init_9 : decode cX5_init 9 = .ok (.putfield 11, 3) := by decide +kernel
theorem dX5_init_12 : decode cX5_init 12 = .ok (.return_, 1) := by decide +kernel
theorem dX6_init_0 : decode cX6_init 0 = .ok (.aload_n 0, 1) := by decide +kernel
theorem dX6_init_1 : decode cX6_init 1 = .ok (.invokespecial 3, 3) := by decide +kernel
theorem dX6_init_4 : decode cX6_init 4 = .ok (.aload_n 0, 1) := by decide +kernel
theorem dX6_init_5 : decode cX6_init 5 = .ok (.bipush 6, 2) := by decide +kernel
theorem dX6_init_7 : decode cX6_init 7 = .ok (.newarray .int, 2) := by decide +kernel
theorem dX6_init_9 : decode cX6_init 9 = .ok (.putfield 11, 3) := by decide +kernel
theorem dX6_init_12 : decode cX6_init 12 = .ok (.aload_n 0, 1) := by decide +kernel
theorem dX6_init_13 : decode cX6_init 13 = .ok (.bipush 22, 2) := by decide +kernel
theorem dX6_init_15 : decode cX6_init 15 = .ok (.newarray .long, 2) := by decide +kernel
theorem dX6_init_17 : decode cX6_init 17 = .ok (.putfield 17, 3) := by decide +kernel
theorem dX6_init_20 : decode cX6_init 20 = .ok (.aload_n 0, 1) := by decide +kernel
theorem dX6_init_21 : decode cX6_init 21 = .ok (.sipush 168, 3) := by decide +kernel
theorem dX6_init_24 : decode cX6_init 24 = .ok (.newarray .long, 2) := by decide +kernel
theorem dX6_init_26 : decode cX6_init 26 = .ok (.putfield 23, 3) := by decide +kernel
theorem dX6_init_29 : decode cX6_init 29 = .ok (.aload_n 0, 1) := by decide +kernel
theorem dX6_init_30 : decode cX6_init 30 = .ok (.sipush 168, 3) := by decide +kernel
theorem dX6_init_33 : decode cX6_init 33 = .ok (.newarray .long, 2) := by decide +kernel
theorem dX6_init_35 : decode cX6_init 35 = .ok (.putfield 26, 3) := by decide +kernel
theorem dX6_init_38 : decode cX6_init 38 = .ok (.aload_n 0, 1) := by decide +kernel
theorem dX6_init_39 : decode cX6_init 39 = .ok (.lconst 0, 1) := by decide +kernel
theorem dX6_init_40 : decode cX6_init 40 = .ok (.putfield 29, 3) := by decide +kernel
theorem dX6_init_43 : decode cX6_init 43 = .ok (.aload_n 0, 1) := by decide +kernel
theorem dX6_init_44 : decode cX6_init 44 = .ok (.aload_n 1, 1) := by decide +kernel
theorem dX6_init_45 : decode cX6_init 45 = .ok (.putfield 33, 3) := by decide +kernel
theorem dX6_init_48 : decode cX6_init 48 = .ok (.aload_n 0, 1) := by decide +kernel
theorem dX6_init_49 : decode cX6_init 49 = .ok (.aload_n 2, 1) := by decide +kernel
theorem dX6_init_50 : decode cX6_init 50 = .ok (.putfield 37, 3) := by decide +kernel
theorem dX6_init_53 : decode cX6_init 53 = .ok (.return_, 1) := by decide +kernel
theorem dX7_init_0 : decode cX7_init 0 = .ok (.aload_n 0, 1) := by decide +kernel
theorem dX7_init_1 : decode cX7_init 1 = .ok (.invokespecial 3, 3) := by decide +kernel
theorem dX7_init_4 : decode cX7_init 4 = .ok (.aload_n 0, 1) := by decide +kernel
theorem dX7_init_5 : decode cX7_init 5 = .ok (.bipush 8, 2) := by decide +kernel
theorem dX7_init_7 : decode cX7_init 7 = .ok (.newarray .int, 2) := by decide +kernel
theorem dX7_init_9 : decode cX7_init 9 = .ok (.putfield 11, 3) := by decide +kernel
theorem dX7_init_12 : decode cX7_init 12 = .ok (.aload_n 0, 1) := by decide +kernel
theorem dX7_init_13 : decode cX7_init 13 = .ok (.bipush 6, 2) := by decide +kernel
theorem dX7_init_15 : decode cX7_init 15 = .ok (.newarray .int, 2) := by decide +kernel
theorem dX7_init_17 : decode cX7_init 17 = .ok (.putfield 19, 3) := by decide +kernel
theorem dX7_init_20 : decode cX7_init 20 = .ok (.aload_n 0, 1) := by decide +kernel
theorem dX7_init_21 : decode cX7_init 21 = .ok (.bipush 10, 2) := by decide +kernel
theorem dX7_init_23 : decode cX7_init 23 = .ok (.newarray .int, 2) := by decide +kernel
theorem dX7_init_25 : decode cX7_init 25 = .ok (.putfield 22, 3) := by decide +kernel
theorem dX7_init_28 : decode cX7_init 28 = .ok (.aload_n 0, 1) := by decide +kernel
theorem dX7_init_29 : decode cX7_init 29 = .ok (.bipush 50, 2) := by decide +kernel
theorem dX7_init_31 : decode cX7_init 31 = .ok (.putfield 25, 3) := by decide +kernel
theorem dX7_init_34 : decode cX7_init 34 = .ok (.aload_n 0, 1) := by decide +kernel
theorem dX7_init_35 : decode cX7_init 35 = .ok (.iconst 0, 1) := by decide +kernel
theorem dX7_init_36 : decode cX7_init 36 = .ok (.putfield 29, 3) := by decide +kernel
theorem dX7_init_39 : decode cX7_init 39 = .ok (.return_, 1) := by decide +kernel
theorem dX8_init_0 : decode cX8_init 0 = .ok (.aload_n 0, 1) := by decide +kernel
theorem dX8_init_1 : decode cX8_init 1 = .ok (.invokespecial 1, 3) := by decide +kernel
theorem dX8_init_4 : decode cX8_init 4 = .ok (.aload_n 0, 1) := by decide +kernel
theorem dX8_init_5 : decode cX8_init 5 = .ok (.sipush 160, 3) := by decide +kernel
theorem dX8_init_8 : decode cX8_init 8 = .ok (.newarray .int, 2) := by decide +kernel
theorem dX8_init_10 : decode cX8_init 10 = .ok (.putfield 9, 3) := by decide +kernel
theorem dX8_init_13 : decode cX8_init 13 = .ok (.aload_n 0, 1) := by decide +kernel
theorem dX8_init_14 : decode cX8_init 14 = .ok (.iconst 0, 1) := by decide +kernel
theorem dX8_init_15 : decode cX8_init 15 = .ok (.putfield 13, 3) := by decide +kernel
theorem dX8_init_18 : decode cX8_init 18 = .ok (.aload_n 0, 1) := by decide +kernel
theorem dX8_init_19 : decode cX8_init 19 = .ok (.iconst 0, 1) := by decide +kernel
theorem dX8_init_20 : decode cX8_init 20 = .ok (.putfield 17, 3) := by decide +kernel
theorem dX8_init_23 : decode cX8_init 23 = .ok (.aload_n 0, 1) := by decide +kernel
theorem dX8_init_24 : decode cX8_init 24 = .ok (.iconst 0, 1) := by decide +kernel
theorem dX8_init_25 : decode cX8_init 25 = .ok (.putfield 20, 3) := by decide +kernel
theorem dX8_init_28 : decode cX8_init 28 = .ok (.return_, 1) := by decide +kernel
theorem dX9_init_0 : decode cX9_init 0 = .ok (.aload_n 0, 1) := by decide +kernel
theorem dX9_init_1 : decode cX9_init 1 = .ok (.invokespecial 1, 3) := by decide +kernel
theorem dX9_init_4 : decode cX9_init 4 = .ok (.aload_n 0, 1) := by decide +kernel
theorem dX9_init_5 : decode cX9_init 5 = .ok (.bipush 8, 2) := by decide +kernel
theorem dX9_init_7 : decode cX9_init 7 = .ok (.newarray .int, 2) := by decide +kernel
theorem dX9_init_9 : decode cX9_init 9 = .ok (.putfield 9, 3) := by decide +kernel
theorem dX9_init_12 : decode cX9_init 12 = .ok (.aload_n 0, 1) := by decide +kernel
theorem dX9_init_13 : decode cX9_init 13 = .ok (.bipush 8, 2) := by decide +kernel
theorem dX9_init_15 : decode cX9_init 15 = .ok (.newarray .int, 2) := by decide +kernel
theorem dX9_init_17 : decode cX9_init 17 = .ok (.putfield 13, 3) := by decide +kernel
theorem dX9_init_20 : decode cX9_init 20 = .ok (.aload_n 0, 1) := by decide +kernel
theorem dX9_init_21 : decode cX9_init 21 = .ok (.bipush 8, 2) := by decide +kernel
theorem dX9_init_23 : decode cX9_init 23 = .ok (.newarray .int, 2) := by decide +kernel
theorem dX9_init_25 : decode cX9_init 25 = .ok (.putfield 16, 3) := by decide +kernel
theorem dX9_init_28 : decode cX9_init 28 = .ok (.aload_n 0, 1) := by decide +kernel
theorem dX9_init_29 : decode cX9_init 29 = .ok (.bipush 8, 2) := by decide +kernel
theorem dX9_init_31 : decode cX9_init 31 = .ok (.newarray .int, 2) := by decide +kernel
theorem dX9_init_33 : decode cX9_init 33 = .ok (.putfield 19, 3) := by decide +kernel
theorem dX9_init_36 : decode cX9_init 36 = .ok (.aload_n 0, 1) := by decide +kernel
theorem dX9_init_37 : decode cX9_init 37 = .ok (.bipush 10, 2) := by decide +kernel
theorem dX9_init_39 : decode cX9_init 39 = .ok (.newarray .int, 2) := by decide +kernel
theorem dX9_init_41 : decode cX9_init 41 = .ok (.putfield 22, 3) := by decide +kernel
theorem dX9_init_44 : decode cX9_init 44 = .ok (.aload_n 0, 1) := by decide +kernel
theorem dX9_init_45 : decode cX9_init 45 = .ok (.bipush 10, 2) := by decide +kernel
theorem dX9_init_47 : decode cX9_init 47 = .ok (.newarray .int, 2) := by decide +kernel
theorem dX9_init_49 : decode cX9_init 49 = .ok (.putfield 25, 3) := by decide +kernel
theorem dX9_init_52 : decode cX9_init 52 = .ok (.aload_n 0, 1) := by decide +kernel
theorem dX9_init_53 : decode cX9_init 53 = .ok (.bipush 10, 2) := by decide +kernel
theorem dX9_init_55 : decode cX9_init 55 = .ok (.newarray .int, 2) := by decide +kernel
theorem dX9_init_57 : decode cX9_init 57 = .ok (.putfield 28, 3) := by decide +kernel
theorem dX9_init_60 : decode cX9_init 60 = .ok (.aload_n 0, 1) := by decide +kernel
theorem dX9_init_61 : decode cX9_init 61 = .ok (.bipush 10, 2) := by decide +kernel
theorem dX9_init_63 : decode cX9_init 63 = .ok (.newarray .int, 2) := by decide +kernel
theorem dX9_init_65 : decode cX9_init 65 = .ok (.putfield 31, 3) := by decide +kernel
theorem dX9_init_68 : decode cX9_init 68 = .ok (.aload_n 0, 1) := by decide +kernel
theorem dX9_init_69 : decode cX9_init 69 = .ok (.iconst 0, 1) := by decide +kernel
theorem dX9_init_70 : decode cX9_init 70 = .ok (.putfield 34, 3) := by decide +kernel
theorem dX9_init_73 : decode cX9_init 73 = .ok (.aload_n 0, 1) := by decide +kernel
theorem dX9_init_74 : decode cX9_init 74 = .ok (.iconst 0, 1) := by decide +kernel
theorem dX9_init_75 : decode cX9_init 75 = .ok (.putfield 38, 3) := by decide +kernel
theorem dX9_init_78 : decode cX9_init 78 = .ok (.return_, 1) := by decide +kernel
def w_X8_init : List Cond := .code yX8_init cX8_init 1 none :: ([Cond.methodLink RX8 1 objectInit, Cond.instanceMethod objectInit, Cond.code objectInit ⟨#[0xb1]⟩ 1 none, Cond.arrayClass .int, Cond.fieldLink RX8 9 "HeadYear$Tape" "bytes" "[I", Cond.fieldLink RX8 13 "HeadYear$Tape" "length" "I", Cond.fieldLink RX8 17 "HeadYear$Tape" "at" "I", Cond.fieldLink RX8 20 "HeadYear$Tape" "number" "I"] ++ (u_ws RX8 TX8 4 ++ ([])))
theorem in_X8_init_X8 : ∀ w ∈ u_ws RX8 TX8 4, w ∈ w_X8_init := fun _ h => List.mem_cons_of_mem _ (List.mem_append_right _ (List.mem_append_left _ h))
set_option maxHeartbeats 4000000 in
set_option maxRecDepth 100000 in
theorem c_X8_init (l : Launch) (E : py_E) (G : wf_G) (L : List Nat) (f : py_F) (sz : Nat) (h : Nat) (hZ : GZ E G L f) (hh : py_at L f h (.inr (8, [.null, .int 0, .int 0, .int 0]))) (uh : G.1 h = 0) : Met l yX8_init w_X8_init ({ frames := 1, cells := 1, slots := 160, locals := 12 }) (py_Pc E [.ref h] L f sz) (py_Qv E L f sz (fun L1 f1 => ∃ G1 : wf_G, GX G G1 ∧ GZ E G1 L1 f1 ∧ G1.1 h = 9 ∧ NTR L f G h L1 f1 G1 ∧ tp_l f1 h = 0)) 1 160 (va_A (va_pl L f) sz) := by
  refine Met.ofW (cc := cX8_init) (maxL := 1) (ret := none) (by decide) rfl ?_
  intro p e s m args below meth c s₁ B hml hv
  obtain ⟨rfl, rfl, hw⟩ := py_start hv
  have G0 : CallFix p m c cX8_init 1 s _ w_X8_init RX8 := ⟨B.exec, B.bytes, hml, findClass_of_methodNamed B.named, atoms_spec (ws := w_X8_init) B.pre⟩
  have hr := B.returns
  have hlk := B.notSynchronized
  have hin : meth.name = "<init>" := (name_of_methodNamed B.named B.method).1
  have hl := lv_entry ([.ref h]) (n := 1) (Nat.le_of_ble_eq_true rfl)
  rw [lg_entry_eq]
  generalize (lg_sl ([.ref h]) ++ List.replicate (1 - (lg_sl ([.ref h])).length) Slot.unset).toArray = ls at hl ⊢
  have hl : lv_has ls 1 [(0, .ref h)] := hl
  have hT : NTR L f G h L f G := NTR.refl
  have hX : GX G G := GX.refl
  refine lv_aload_n G0.1 G0.2.1 dX8_init_0 rfl (lv_at hl 0 rfl) ?_
  refine py_objInit G0 hl.1 (by decide +kernel) (by decide +kernel) (by decide +kernel) dX8_init_1 (Nat.le_of_ble_eq_true rfl) (Nat.le_of_ble_eq_true rfl) ?_
  refine lv_aload_n G0.1 G0.2.1 dX8_init_4 rfl (lv_at hl 0 rfl) ?_
  refine lv_sipush (v := 160) G0.1 G0.2.1 dX8_init_5 (by decide) ?_
  refine py_newI (N := 160) G0 hw (by decide +kernel) (by decide) (by decide) (Nat.le_of_ble_eq_true rfl) (Nat.le_of_ble_eq_true rfl) (Nat.le_of_ble_eq_true rfl) dX8_init_8 (fun q_1 L_2 f_3 H_4 hq_5 h_6 x_7 hw => ?_)
  have u_8 := hZ.un hq_5
  have nq_9 := hT.ne hq_5
  have ne_10 : h ≠ q_1 := py_ne_new hh hq_5
  have hh := hh.all x_7
  have hZ := hZ.all x_7
  have hT := hT.all x_7
  obtain ⟨G_13, gx_11, hZ, ty_12, ee_13⟩ := hZ.arr (c := 38) (n := 160) (lo := (-2147483648)) (hi := 2147483647) u_8 (by decide) (by decide) h_6 (fun _ _ => rfl) (fun _ => rfl) (by decide) (by decide)
  have hX := hX.trans gx_11
  have uh := (ee_13 h ne_10).trans uh
  have hT := hT.ty ee_13 nq_9
  refine py_putF (C := RX8) (T := TX8) (N := 4) (k := 0) (v := .ref q_1) (fs' := [.ref q_1, .int 0, .int 0, .int 0]) (ty0 := tyX8) G0 hin hw tyX8_ok nmX8 in_X8_init_X8 rfl hh (by decide) (by decide +kernel) rfl rfl rfl rfl rfl (Nat.le_of_ble_eq_true rfl) rfl dX8_init_10 (fun f_14 H_15 locs h_16 x_17 hw => ?_)
  have hZ := hZ.unt uh x_17
  have hT := hT.ext x_17
  refine lv_aload_n G0.1 G0.2.1 dX8_init_13 rfl (lv_at hl 0 rfl) ?_
  refine lv_iconst (v := 0) G0.1 G0.2.1 dX8_init_14 (by decide) ?_
  refine py_put (C := RX8) (T := TX8) (N := 4) (k := 1) (v := .int 0) (fs' := [.ref q_1, .int 0, .int 0, .int 0]) (ty0 := tyX8) G0 hw tyX8_ok nmX8 in_X8_init_X8 rfl h_16 (by decide) (by decide +kernel) rfl rfl rfl rfl (Nat.le_of_ble_eq_true rfl) rfl dX8_init_15 (fun f_18 H_19 locs h_20 x_21 hw => ?_)
  have hZ := hZ.unt uh x_21
  have hT := hT.ext x_21
  refine lv_aload_n G0.1 G0.2.1 dX8_init_18 rfl (lv_at hl 0 rfl) ?_
  refine lv_iconst (v := 0) G0.1 G0.2.1 dX8_init_19 (by decide) ?_
  refine py_put (C := RX8) (T := TX8) (N := 4) (k := 2) (v := .int 0) (fs' := [.ref q_1, .int 0, .int 0, .int 0]) (ty0 := tyX8) G0 hw tyX8_ok nmX8 in_X8_init_X8 rfl h_20 (by decide) (by decide +kernel) rfl rfl rfl rfl (Nat.le_of_ble_eq_true rfl) rfl dX8_init_20 (fun f_22 H_23 locs h_24 x_25 hw => ?_)
  have hZ := hZ.unt uh x_25
  have hT := hT.ext x_25
  refine lv_aload_n G0.1 G0.2.1 dX8_init_23 rfl (lv_at hl 0 rfl) ?_
  refine lv_iconst (v := 0) G0.1 G0.2.1 dX8_init_24 (by decide) ?_
  refine py_put (C := RX8) (T := TX8) (N := 4) (k := 3) (v := .int 0) (fs' := [.ref q_1, .int 0, .int 0, .int 0]) (ty0 := tyX8) G0 hw tyX8_ok nmX8 in_X8_init_X8 rfl h_24 (by decide) (by decide +kernel) rfl rfl rfl rfl (Nat.le_of_ble_eq_true rfl) rfl dX8_init_25 (fun f_26 H_27 locs h_28 x_29 hw => ?_)
  have hZ := hZ.unt uh x_29
  have hT := hT.ext x_29
  obtain ⟨G_31, gx_30, hZ, hth, hrr, ee_31⟩ := hZ.ty (c := 9) (r := (fun j => match j with | 0 => q_1 | _ => 0)) uh (by decide) h_28.1 (fun G1 gg e1 hr => ⟨0, 0, 0, by rw [hr 0]; exact h_28.2, ⟨by decide, by decide⟩, ⟨by decide, by decide⟩⟩) (fun G1 gg e1 hr => (show G1.1 (G1.2 h 0) = 38 from by rw [hr 0]; exact gg.ty ty_12 (by decide))) (fun e => absurd e (by decide))
  have ty_12 := gx_30.ty ty_12 (by decide)
  have hX := hX.trans gx_30
  have hT : NTR L f G h _ _ G_31 := fun b hb hn => ⟨(hT b hb hn).1, (hT b hb hn).2.1, (ee_31 b hn).trans (hT b hb hn).2.2⟩
  exact py_vret G0 hr hlk hw ⟨G_31, hX, hZ, hth, hT, (show tp_l _ h = 0 from (tp_eq h_28).1)⟩ dX8_init_28

def w_X9_init : List Cond := .code yX9_init cX9_init 1 none :: ([Cond.methodLink RX9 1 objectInit, Cond.instanceMethod objectInit, Cond.code objectInit ⟨#[0xb1]⟩ 1 none, Cond.arrayClass .int, Cond.fieldLink RX9 9 "HeadYear$Valley" "huts" "[I", Cond.fieldLink RX9 13 "HeadYear$Valley" "food" "[I", Cond.fieldLink RX9 16 "HeadYear$Valley" "danger" "[I", Cond.fieldLink RX9 19 "HeadYear$Valley" "brow" "[I", Cond.fieldLink RX9 22 "HeadYear$Valley" "firstHeads" "[I", Cond.fieldLink RX9 25 "HeadYear$Valley" "firstLevel" "[I", Cond.fieldLink RX9 28 "HeadYear$Valley" "birth" "[I", Cond.fieldLink RX9 31 "HeadYear$Valley" "twin" "[I", Cond.fieldLink RX9 34 "HeadYear$Valley" "levels" "I", Cond.fieldLink RX9 38 "HeadYear$Valley" "families" "I"] ++ (u_ws RX9 TX9 10 ++ ([])))
theorem in_X9_init_X9 : ∀ w ∈ u_ws RX9 TX9 10, w ∈ w_X9_init := fun _ h => List.mem_cons_of_mem _ (List.mem_append_right _ (List.mem_append_left _ h))
set_option maxHeartbeats 4000000 in
set_option maxRecDepth 100000 in
theorem c_X9_init (l : Launch) (E : py_E) (G : wf_G) (L : List Nat) (f : py_F) (sz : Nat) (h : Nat) (hZ : GZ E G L f) (hh : py_at L f h (.inr (9, [.null, .null, .null, .null, .null, .null, .null, .null, .int 0, .int 0]))) (uh : G.1 h = 0) : Met l yX9_init w_X9_init ({ frames := 1, cells := 8, slots := 72, locals := 12 }) (py_Pc E [.ref h] L f sz) (py_Qv E L f sz (fun L1 f1 => ∃ G1 : wf_G, GX G G1 ∧ GZ E G1 L1 f1 ∧ G1.1 h = 10 ∧ NTR L f G h L1 f1 G1 ∧ va_l f1 h = 0 ∧ va_f f1 h = 0)) 8 72 (va_A (va_pl L f) sz) := by
  refine Met.ofW (cc := cX9_init) (maxL := 1) (ret := none) (by decide) rfl ?_
  intro p e s m args below meth c s₁ B hml hv
  obtain ⟨rfl, rfl, hw⟩ := py_start hv
  have G0 : CallFix p m c cX9_init 1 s _ w_X9_init RX9 := ⟨B.exec, B.bytes, hml, findClass_of_methodNamed B.named, atoms_spec (ws := w_X9_init) B.pre⟩
  have hr := B.returns
  have hlk := B.notSynchronized
  have hin : meth.name = "<init>" := (name_of_methodNamed B.named B.method).1
  have hl := lv_entry ([.ref h]) (n := 1) (Nat.le_of_ble_eq_true rfl)
  rw [lg_entry_eq]
  generalize (lg_sl ([.ref h]) ++ List.replicate (1 - (lg_sl ([.ref h])).length) Slot.unset).toArray = ls at hl ⊢
  have hl : lv_has ls 1 [(0, .ref h)] := hl
  have hT : NTR L f G h L f G := NTR.refl
  have hX : GX G G := GX.refl
  refine lv_aload_n G0.1 G0.2.1 dX9_init_0 rfl (lv_at hl 0 rfl) ?_
  refine py_objInit G0 hl.1 (by decide +kernel) (by decide +kernel) (by decide +kernel) dX9_init_1 (Nat.le_of_ble_eq_true rfl) (Nat.le_of_ble_eq_true rfl) ?_
  refine lv_aload_n G0.1 G0.2.1 dX9_init_4 rfl (lv_at hl 0 rfl) ?_
  refine lv_bipush (v := 8) G0.1 G0.2.1 dX9_init_5 (by decide) ?_
  refine py_newI (N := 8) G0 hw (by decide +kernel) (by decide) (by decide) (Nat.le_of_ble_eq_true rfl) (Nat.le_of_ble_eq_true rfl) (Nat.le_of_ble_eq_true rfl) dX9_init_7 (fun q_1 L_2 f_3 H_4 hq_5 h_6 x_7 hw => ?_)
  have u_8 := hZ.un hq_5
  have nq_9 := hT.ne hq_5
  have ne_10 : h ≠ q_1 := py_ne_new hh hq_5
  have hh := hh.all x_7
  have hZ := hZ.all x_7
  have hT := hT.all x_7
  obtain ⟨G_13, gx_11, hZ, ty_12, ee_13⟩ := hZ.arr (c := 80) (n := 8) (lo := (-2147483648)) (hi := 2147483647) u_8 (by decide) (by decide) h_6 (fun _ _ => rfl) (fun _ => rfl) (by decide) (by decide)
  have hX := hX.trans gx_11
  have uh := (ee_13 h ne_10).trans uh
  have hT := hT.ty ee_13 nq_9
  refine py_putF (C := RX9) (T := TX9) (N := 10) (k := 0) (v := .ref q_1) (fs' := [.ref q_1, .null, .null, .null, .null, .null, .null, .null, .int 0, .int 0]) (ty0 := tyX9) G0 hin hw tyX9_ok nmX9 in_X9_init_X9 rfl hh (by decide) (by decide +kernel) rfl rfl rfl rfl rfl (Nat.le_of_ble_eq_true rfl) rfl dX9_init_9 (fun f_14 H_15 locs h_16 x_17 hw => ?_)
  have hZ := hZ.unt uh x_17
  have hT := hT.ext x_17
  refine lv_aload_n G0.1 G0.2.1 dX9_init_12 rfl (lv_at hl 0 rfl) ?_
  refine lv_bipush (v := 8) G0.1 G0.2.1 dX9_init_13 (by decide) ?_
  refine py_newI (N := 8) G0 hw (by decide +kernel) (by decide) (by decide) (Nat.le_of_ble_eq_true rfl) (Nat.le_of_ble_eq_true rfl) (Nat.le_of_ble_eq_true rfl) dX9_init_15 (fun q_18 L_19 f_20 H_21 hq_22 h_23 x_24 hw => ?_)
  have u_25 := hZ.un hq_22
  have nq_26 := hT.ne hq_22
  have ne_27 : h ≠ q_18 := py_ne_new h_16 hq_22
  have h_16 := h_16.all x_24
  have hZ := hZ.all x_24
  have hT := hT.all x_24
  obtain ⟨G_30, gx_28, hZ, ty_29, ee_30⟩ := hZ.arr (c := 24) (n := 8) (lo := (-2147483648)) (hi := 2147483647) u_25 (by decide) (by decide) h_23 (fun _ _ => rfl) (fun _ => rfl) (by decide) (by decide)
  have ty_12 := gx_28.ty ty_12 (by decide)
  have hX := hX.trans gx_28
  have uh := (ee_30 h ne_27).trans uh
  have hT := hT.ty ee_30 nq_26
  refine py_putF (C := RX9) (T := TX9) (N := 10) (k := 1) (v := .ref q_18) (fs' := [.ref q_1, .ref q_18, .null, .null, .null, .null, .null, .null, .int 0, .int 0]) (ty0 := tyX9) G0 hin hw tyX9_ok nmX9 in_X9_init_X9 rfl h_16 (by decide) (by decide +kernel) rfl rfl rfl rfl rfl (Nat.le_of_ble_eq_true rfl) rfl dX9_init_17 (fun f_31 H_32 locs h_33 x_34 hw => ?_)
  have hZ := hZ.unt uh x_34
  have hT := hT.ext x_34
  refine lv_aload_n G0.1 G0.2.1 dX9_init_20 rfl (lv_at hl 0 rfl) ?_
  refine lv_bipush (v := 8) G0.1 G0.2.1 dX9_init_21 (by decide) ?_
  refine py_newI (N := 8) G0 hw (by decide +kernel) (by decide) (by decide) (Nat.le_of_ble_eq_true rfl) (Nat.le_of_ble_eq_true rfl) (Nat.le_of_ble_eq_true rfl) dX9_init_23 (fun q_35 L_36 f_37 H_38 hq_39 h_40 x_41 hw => ?_)
  have u_42 := hZ.un hq_39
  have nq_43 := hT.ne hq_39
  have ne_44 : h ≠ q_35 := py_ne_new h_33 hq_39
  have h_33 := h_33.all x_41
  have hZ := hZ.all x_41
  have hT := hT.all x_41
  obtain ⟨G_47, gx_45, hZ, ty_46, ee_47⟩ := hZ.arr (c := 24) (n := 8) (lo := (-2147483648)) (hi := 2147483647) u_42 (by decide) (by decide) h_40 (fun _ _ => rfl) (fun _ => rfl) (by decide) (by decide)
  have ty_12 := gx_45.ty ty_12 (by decide)
  have ty_29 := gx_45.ty ty_29 (by decide)
  have hX := hX.trans gx_45
  have uh := (ee_47 h ne_44).trans uh
  have hT := hT.ty ee_47 nq_43
  refine py_putF (C := RX9) (T := TX9) (N := 10) (k := 2) (v := .ref q_35) (fs' := [.ref q_1, .ref q_18, .ref q_35, .null, .null, .null, .null, .null, .int 0, .int 0]) (ty0 := tyX9) G0 hin hw tyX9_ok nmX9 in_X9_init_X9 rfl h_33 (by decide) (by decide +kernel) rfl rfl rfl rfl rfl (Nat.le_of_ble_eq_true rfl) rfl dX9_init_25 (fun f_48 H_49 locs h_50 x_51 hw => ?_)
  have hZ := hZ.unt uh x_51
  have hT := hT.ext x_51
  refine lv_aload_n G0.1 G0.2.1 dX9_init_28 rfl (lv_at hl 0 rfl) ?_
  refine lv_bipush (v := 8) G0.1 G0.2.1 dX9_init_29 (by decide) ?_
  refine py_newI (N := 8) G0 hw (by decide +kernel) (by decide) (by decide) (Nat.le_of_ble_eq_true rfl) (Nat.le_of_ble_eq_true rfl) (Nat.le_of_ble_eq_true rfl) dX9_init_31 (fun q_52 L_53 f_54 H_55 hq_56 h_57 x_58 hw => ?_)
  have u_59 := hZ.un hq_56
  have nq_60 := hT.ne hq_56
  have ne_61 : h ≠ q_52 := py_ne_new h_50 hq_56
  have h_50 := h_50.all x_58
  have hZ := hZ.all x_58
  have hT := hT.all x_58
  obtain ⟨G_64, gx_62, hZ, ty_63, ee_64⟩ := hZ.arr (c := 24) (n := 8) (lo := (-2147483648)) (hi := 2147483647) u_59 (by decide) (by decide) h_57 (fun _ _ => rfl) (fun _ => rfl) (by decide) (by decide)
  have ty_12 := gx_62.ty ty_12 (by decide)
  have ty_29 := gx_62.ty ty_29 (by decide)
  have ty_46 := gx_62.ty ty_46 (by decide)
  have hX := hX.trans gx_62
  have uh := (ee_64 h ne_61).trans uh
  have hT := hT.ty ee_64 nq_60
  refine py_putF (C := RX9) (T := TX9) (N := 10) (k := 3) (v := .ref q_52) (fs' := [.ref q_1, .ref q_18, .ref q_35, .ref q_52, .null, .null, .null, .null, .int 0, .int 0]) (ty0 := tyX9) G0 hin hw tyX9_ok nmX9 in_X9_init_X9 rfl h_50 (by decide) (by decide +kernel) rfl rfl rfl rfl rfl (Nat.le_of_ble_eq_true rfl) rfl dX9_init_33 (fun f_65 H_66 locs h_67 x_68 hw => ?_)
  have hZ := hZ.unt uh x_68
  have hT := hT.ext x_68
  refine lv_aload_n G0.1 G0.2.1 dX9_init_36 rfl (lv_at hl 0 rfl) ?_
  refine lv_bipush (v := 10) G0.1 G0.2.1 dX9_init_37 (by decide) ?_
  refine py_newI (N := 10) G0 hw (by decide +kernel) (by decide) (by decide) (Nat.le_of_ble_eq_true rfl) (Nat.le_of_ble_eq_true rfl) (Nat.le_of_ble_eq_true rfl) dX9_init_39 (fun q_69 L_70 f_71 H_72 hq_73 h_74 x_75 hw => ?_)
  have u_76 := hZ.un hq_73
  have nq_77 := hT.ne hq_73
  have ne_78 : h ≠ q_69 := py_ne_new h_67 hq_73
  have h_67 := h_67.all x_75
  have hZ := hZ.all x_75
  have hT := hT.all x_75
  obtain ⟨G_81, gx_79, hZ, ty_80, ee_81⟩ := hZ.arr (c := 27) (n := 10) (lo := 0) (hi := 20) u_76 (by decide) (by decide) h_74 (fun _ _ => rfl) (fun _ => rfl) (by decide) (by decide)
  have ty_12 := gx_79.ty ty_12 (by decide)
  have ty_29 := gx_79.ty ty_29 (by decide)
  have ty_46 := gx_79.ty ty_46 (by decide)
  have ty_63 := gx_79.ty ty_63 (by decide)
  have hX := hX.trans gx_79
  have uh := (ee_81 h ne_78).trans uh
  have hT := hT.ty ee_81 nq_77
  refine py_putF (C := RX9) (T := TX9) (N := 10) (k := 4) (v := .ref q_69) (fs' := [.ref q_1, .ref q_18, .ref q_35, .ref q_52, .ref q_69, .null, .null, .null, .int 0, .int 0]) (ty0 := tyX9) G0 hin hw tyX9_ok nmX9 in_X9_init_X9 rfl h_67 (by decide) (by decide +kernel) rfl rfl rfl rfl rfl (Nat.le_of_ble_eq_true rfl) rfl dX9_init_41 (fun f_82 H_83 locs h_84 x_85 hw => ?_)
  have hZ := hZ.unt uh x_85
  have hT := hT.ext x_85
  refine lv_aload_n G0.1 G0.2.1 dX9_init_44 rfl (lv_at hl 0 rfl) ?_
  refine lv_bipush (v := 10) G0.1 G0.2.1 dX9_init_45 (by decide) ?_
  refine py_newI (N := 10) G0 hw (by decide +kernel) (by decide) (by decide) (Nat.le_of_ble_eq_true rfl) (Nat.le_of_ble_eq_true rfl) (Nat.le_of_ble_eq_true rfl) dX9_init_47 (fun q_86 L_87 f_88 H_89 hq_90 h_91 x_92 hw => ?_)
  have u_93 := hZ.un hq_90
  have nq_94 := hT.ne hq_90
  have ne_95 : h ≠ q_86 := py_ne_new h_84 hq_90
  have h_84 := h_84.all x_92
  have hZ := hZ.all x_92
  have hT := hT.all x_92
  obtain ⟨G_98, gx_96, hZ, ty_97, ee_98⟩ := hZ.arr (c := 25) (n := 10) (lo := 0) (hi := 7) u_93 (by decide) (by decide) h_91 (fun _ _ => rfl) (fun _ => rfl) (by decide) (by decide)
  have ty_12 := gx_96.ty ty_12 (by decide)
  have ty_29 := gx_96.ty ty_29 (by decide)
  have ty_46 := gx_96.ty ty_46 (by decide)
  have ty_63 := gx_96.ty ty_63 (by decide)
  have ty_80 := gx_96.ty ty_80 (by decide)
  have hX := hX.trans gx_96
  have uh := (ee_98 h ne_95).trans uh
  have hT := hT.ty ee_98 nq_94
  refine py_putF (C := RX9) (T := TX9) (N := 10) (k := 5) (v := .ref q_86) (fs' := [.ref q_1, .ref q_18, .ref q_35, .ref q_52, .ref q_69, .ref q_86, .null, .null, .int 0, .int 0]) (ty0 := tyX9) G0 hin hw tyX9_ok nmX9 in_X9_init_X9 rfl h_84 (by decide) (by decide +kernel) rfl rfl rfl rfl rfl (Nat.le_of_ble_eq_true rfl) rfl dX9_init_49 (fun f_99 H_100 locs h_101 x_102 hw => ?_)
  have hZ := hZ.unt uh x_102
  have hT := hT.ext x_102
  refine lv_aload_n G0.1 G0.2.1 dX9_init_52 rfl (lv_at hl 0 rfl) ?_
  refine lv_bipush (v := 10) G0.1 G0.2.1 dX9_init_53 (by decide) ?_
  refine py_newI (N := 10) G0 hw (by decide +kernel) (by decide) (by decide) (Nat.le_of_ble_eq_true rfl) (Nat.le_of_ble_eq_true rfl) (Nat.le_of_ble_eq_true rfl) dX9_init_55 (fun q_103 L_104 f_105 H_106 hq_107 h_108 x_109 hw => ?_)
  have u_110 := hZ.un hq_107
  have nq_111 := hT.ne hq_107
  have ne_112 : h ≠ q_103 := py_ne_new h_101 hq_107
  have h_101 := h_101.all x_109
  have hZ := hZ.all x_109
  have hT := hT.all x_109
  obtain ⟨G_115, gx_113, hZ, ty_114, ee_115⟩ := hZ.arr (c := 26) (n := 10) (lo := (-2147483648)) (hi := 2147483647) u_110 (by decide) (by decide) h_108 (fun _ _ => rfl) (fun _ => rfl) (by decide) (by decide)
  have ty_12 := gx_113.ty ty_12 (by decide)
  have ty_29 := gx_113.ty ty_29 (by decide)
  have ty_46 := gx_113.ty ty_46 (by decide)
  have ty_63 := gx_113.ty ty_63 (by decide)
  have ty_80 := gx_113.ty ty_80 (by decide)
  have ty_97 := gx_113.ty ty_97 (by decide)
  have hX := hX.trans gx_113
  have uh := (ee_115 h ne_112).trans uh
  have hT := hT.ty ee_115 nq_111
  refine py_putF (C := RX9) (T := TX9) (N := 10) (k := 6) (v := .ref q_103) (fs' := [.ref q_1, .ref q_18, .ref q_35, .ref q_52, .ref q_69, .ref q_86, .ref q_103, .null, .int 0, .int 0]) (ty0 := tyX9) G0 hin hw tyX9_ok nmX9 in_X9_init_X9 rfl h_101 (by decide) (by decide +kernel) rfl rfl rfl rfl rfl (Nat.le_of_ble_eq_true rfl) rfl dX9_init_57 (fun f_116 H_117 locs h_118 x_119 hw => ?_)
  have hZ := hZ.unt uh x_119
  have hT := hT.ext x_119
  refine lv_aload_n G0.1 G0.2.1 dX9_init_60 rfl (lv_at hl 0 rfl) ?_
  refine lv_bipush (v := 10) G0.1 G0.2.1 dX9_init_61 (by decide) ?_
  refine py_newI (N := 10) G0 hw (by decide +kernel) (by decide) (by decide) (Nat.le_of_ble_eq_true rfl) (Nat.le_of_ble_eq_true rfl) (Nat.le_of_ble_eq_true rfl) dX9_init_63 (fun q_120 L_121 f_122 H_123 hq_124 h_125 x_126 hw => ?_)
  have u_127 := hZ.un hq_124
  have nq_128 := hT.ne hq_124
  have ne_129 : h ≠ q_120 := py_ne_new h_118 hq_124
  have h_118 := h_118.all x_126
  have hZ := hZ.all x_126
  have hT := hT.all x_126
  obtain ⟨G_132, gx_130, hZ, ty_131, ee_132⟩ := hZ.arr (c := 26) (n := 10) (lo := (-2147483648)) (hi := 2147483647) u_127 (by decide) (by decide) h_125 (fun _ _ => rfl) (fun _ => rfl) (by decide) (by decide)
  have ty_12 := gx_130.ty ty_12 (by decide)
  have ty_29 := gx_130.ty ty_29 (by decide)
  have ty_46 := gx_130.ty ty_46 (by decide)
  have ty_63 := gx_130.ty ty_63 (by decide)
  have ty_80 := gx_130.ty ty_80 (by decide)
  have ty_97 := gx_130.ty ty_97 (by decide)
  have ty_114 := gx_130.ty ty_114 (by decide)
  have hX := hX.trans gx_130
  have uh := (ee_132 h ne_129).trans uh
  have hT := hT.ty ee_132 nq_128
  refine py_putF (C := RX9) (T := TX9) (N := 10) (k := 7) (v := .ref q_120) (fs' := [.ref q_1, .ref q_18, .ref q_35, .ref q_52, .ref q_69, .ref q_86, .ref q_103, .ref q_120, .int 0, .int 0]) (ty0 := tyX9) G0 hin hw tyX9_ok nmX9 in_X9_init_X9 rfl h_118 (by decide) (by decide +kernel) rfl rfl rfl rfl rfl (Nat.le_of_ble_eq_true rfl) rfl dX9_init_65 (fun f_133 H_134 locs h_135 x_136 hw => ?_)
  have hZ := hZ.unt uh x_136
  have hT := hT.ext x_136
  refine lv_aload_n G0.1 G0.2.1 dX9_init_68 rfl (lv_at hl 0 rfl) ?_
  refine lv_iconst (v := 0) G0.1 G0.2.1 dX9_init_69 (by decide) ?_
  refine py_put (C := RX9) (T := TX9) (N := 10) (k := 8) (v := .int 0) (fs' := [.ref q_1, .ref q_18, .ref q_35, .ref q_52, .ref q_69, .ref q_86, .ref q_103, .ref q_120, .int 0, .int 0]) (ty0 := tyX9) G0 hw tyX9_ok nmX9 in_X9_init_X9 rfl h_135 (by decide) (by decide +kernel) rfl rfl rfl rfl (Nat.le_of_ble_eq_true rfl) rfl dX9_init_70 (fun f_137 H_138 locs h_139 x_140 hw => ?_)
  have hZ := hZ.unt uh x_140
  have hT := hT.ext x_140
  refine lv_aload_n G0.1 G0.2.1 dX9_init_73 rfl (lv_at hl 0 rfl) ?_
  refine lv_iconst (v := 0) G0.1 G0.2.1 dX9_init_74 (by decide) ?_
  refine py_put (C := RX9) (T := TX9) (N := 10) (k := 9) (v := .int 0) (fs' := [.ref q_1, .ref q_18, .ref q_35, .ref q_52, .ref q_69, .ref q_86, .ref q_103, .ref q_120, .int 0, .int 0]) (ty0 := tyX9) G0 hw tyX9_ok nmX9 in_X9_init_X9 rfl h_139 (by decide) (by decide +kernel) rfl rfl rfl rfl (Nat.le_of_ble_eq_true rfl) rfl dX9_init_75 (fun f_141 H_142 locs h_143 x_144 hw => ?_)
  have hZ := hZ.unt uh x_144
  have hT := hT.ext x_144
  obtain ⟨G_146, gx_145, hZ, hth, hrr, ee_146⟩ := hZ.ty (c := 10) (r := (fun j => match j with | 0 => q_1 | 1 => q_18 | 2 => q_35 | 3 => q_52 | 4 => q_69 | 5 => q_86 | 6 => q_103 | 7 => q_120 | _ => 0)) uh (by decide) h_143.1 (fun G1 gg e1 hr => ⟨0, 0, by rw [hr 0, hr 1, hr 2, hr 3, hr 4, hr 5, hr 6, hr 7]; exact h_143.2, ⟨by decide, by decide⟩, ⟨by decide, by decide⟩⟩) (fun G1 gg e1 hr => ⟨by rw [hr 0]; exact gg.ty ty_12 (by decide), by rw [hr 1]; exact gg.ty ty_29 (by decide), by rw [hr 2]; exact gg.ty ty_46 (by decide), by rw [hr 3]; exact gg.ty ty_63 (by decide), by rw [hr 4]; exact gg.ty ty_80 (by decide), by rw [hr 5]; exact gg.ty ty_97 (by decide), by rw [hr 6]; exact gg.ty ty_114 (by decide), by rw [hr 7]; exact gg.ty ty_131 (by decide)⟩) (fun e => absurd e (by decide))
  have ty_12 := gx_145.ty ty_12 (by decide)
  have ty_29 := gx_145.ty ty_29 (by decide)
  have ty_46 := gx_145.ty ty_46 (by decide)
  have ty_63 := gx_145.ty ty_63 (by decide)
  have ty_80 := gx_145.ty ty_80 (by decide)
  have ty_97 := gx_145.ty ty_97 (by decide)
  have ty_114 := gx_145.ty ty_114 (by decide)
  have ty_131 := gx_145.ty ty_131 (by decide)
  have hX := hX.trans gx_145
  have hT : NTR L f G h _ _ G_146 := fun b hb hn => ⟨(hT b hb hn).1, (hT b hb hn).2.1, (ee_146 b hn).trans (hT b hb hn).2.2⟩
  exact py_vret G0 hr hlk hw ⟨G_146, hX, hZ, hth, hT, (va_eq h_143)⟩ dX9_init_78

def w_X10_init : List Cond := .code yX10_init cX10_init 1 none :: ([Cond.methodLink RX10 3 objectInit, Cond.instanceMethod objectInit, Cond.code objectInit ⟨#[0xb1]⟩ 1 none, Cond.arrayClass .int, Cond.fieldLink RX10 11 "HeadYear$ValleyReader" "items" "[I", Cond.classLink RX10 15 RX9, Cond.instantiable RX9 10, Cond.initialized RX9, Cond.instanceMethod yX9_init, Cond.fieldLink RX10 18 "HeadYear$ValleyReader" "draft" "LHeadYear$Valley;"] ++ (u_ws RX10 TX10 2 ++ (u_ws RX9 TX9 10 ++ (w_X9_init ++ ([])))))
theorem in_X10_init_X10 : ∀ w ∈ u_ws RX10 TX10 2, w ∈ w_X10_init := fun _ h => List.mem_cons_of_mem _ (List.mem_append_right _ (List.mem_append_left _ h))
theorem in_X10_init_X9 : ∀ w ∈ u_ws RX9 TX9 10, w ∈ w_X10_init := fun _ h => List.mem_cons_of_mem _ (List.mem_append_right _ (List.mem_append_right _ (List.mem_append_left _ h)))
theorem gg_X10_init_X9_init : GoodIn w_X10_init w_X9_init := goodIn_sub (fun _ h => List.mem_cons_of_mem _ (List.mem_append_right _ (List.mem_append_right _ (List.mem_append_right _ (List.mem_append_left _ h))))) (by decide +kernel)
theorem g_X10_init_X9_init_17 : GoodIn w_X10_init w_X9_init := gg_X10_init_X9_init
set_option maxHeartbeats 4000000 in
set_option maxRecDepth 100000 in
theorem c_X10_init (l : Launch) (E : py_E) (G : wf_G) (L : List Nat) (f : py_F) (sz : Nat) (h : Nat) (hZ : GZ E G L f) (hh : py_at L f h (.inr (10, [.null, .null]))) (uh : G.1 h = 0) : Met l yX10_init w_X10_init ({ frames := 2, cells := 10, slots := 86, locals := 32 }) (py_Pc E [.ref h] L f sz) (py_Qv E L f sz (fun L1 f1 => ∃ G1 : wf_G, GX G G1 ∧ GZ E G1 L1 f1 ∧ G1.1 h = 11 ∧ NTR L f G h L1 f1 G1 ∧ ∃ D : Nat, D ∉ L ∧ D ∈ L1 ∧ dr_v (f1 h) = D)) 10 86 (va_A (va_pl L f) sz) := by
  refine Met.ofW (cc := cX10_init) (maxL := 1) (ret := none) (by decide) rfl ?_
  intro p e s m args below meth c s₁ B hml hv
  obtain ⟨rfl, rfl, hw⟩ := py_start hv
  have G0 : CallFix p m c cX10_init 1 s _ w_X10_init RX10 := ⟨B.exec, B.bytes, hml, findClass_of_methodNamed B.named, atoms_spec (ws := w_X10_init) B.pre⟩
  have hr := B.returns
  have hlk := B.notSynchronized
  have hin : meth.name = "<init>" := (name_of_methodNamed B.named B.method).1
  have hl := lv_entry ([.ref h]) (n := 1) (Nat.le_of_ble_eq_true rfl)
  rw [lg_entry_eq]
  generalize (lg_sl ([.ref h]) ++ List.replicate (1 - (lg_sl ([.ref h])).length) Slot.unset).toArray = ls at hl ⊢
  have hl : lv_has ls 1 [(0, .ref h)] := hl
  have hT : NTR L f G h L f G := NTR.refl
  have hX : GX G G := GX.refl
  refine lv_aload_n G0.1 G0.2.1 dX10_init_0 rfl (lv_at hl 0 rfl) ?_
  refine py_objInit G0 hl.1 (by decide +kernel) (by decide +kernel) (by decide +kernel) dX10_init_1 (Nat.le_of_ble_eq_true rfl) (Nat.le_of_ble_eq_true rfl) ?_
  refine lv_aload_n G0.1 G0.2.1 dX10_init_4 rfl (lv_at hl 0 rfl) ?_
  refine lv_iconst (v := 4) G0.1 G0.2.1 dX10_init_5 (by decide) ?_
  refine py_newI (N := 4) G0 hw (by decide +kernel) (by decide) (by decide) (Nat.le_of_ble_eq_true rfl) (Nat.le_of_ble_eq_true rfl) (Nat.le_of_ble_eq_true rfl) dX10_init_6 (fun q_1 L_2 f_3 H_4 hq_5 h_6 x_7 hw => ?_)
  have u_8 := hZ.un hq_5
  have nq_9 := hT.ne hq_5
  have ne_10 : h ≠ q_1 := py_ne_new hh hq_5
  have hh := hh.all x_7
  have hZ := hZ.all x_7
  have hT := hT.all x_7
  obtain ⟨G_13, gx_11, hZ, ty_12, ee_13⟩ := hZ.arr (c := 36) (n := 4) (lo := (-2147483648)) (hi := 2147483647) u_8 (by decide) (by decide) h_6 (fun _ _ => rfl) (fun _ => rfl) (by decide) (by decide)
  have hX := hX.trans gx_11
  have uh := (ee_13 h ne_10).trans uh
  have hT := hT.ty ee_13 nq_9
  refine py_putF (C := RX10) (T := TX10) (N := 2) (k := 0) (v := .ref q_1) (fs' := [.ref q_1, .null]) (ty0 := tyX10) G0 hin hw tyX10_ok nmX10 in_X10_init_X10 rfl hh (by decide) (by decide +kernel) rfl rfl rfl rfl rfl (Nat.le_of_ble_eq_true rfl) rfl dX10_init_8 (fun f_14 H_15 locs h_16 x_17 hw => ?_)
  have hZ := hZ.unt uh x_17
  have hT := hT.ext x_17
  refine lv_aload_n G0.1 G0.2.1 dX10_init_11 rfl (lv_at hl 0 rfl) ?_
  refine py_new (C := RX9) (T := TX9) (N := 10) (ci := 9) (fs := [.null, .null, .null, .null, .null, .null, .null, .null, .int 0, .int 0]) (ty0 := tyX9) G0 hw tyX9_ok in_X10_init_X9 rfl (by decide +kernel) (by decide +kernel) (by decide +kernel) (fun j hj => match j, hj with | 0, _ => rfl | 1, _ => rfl | 2, _ => rfl | 3, _ => rfl | 4, _ => rfl | 5, _ => rfl | 6, _ => rfl | 7, _ => rfl | 8, _ => rfl | 9, _ => rfl | n + 10, h => absurd h (by omega)) (Nat.le_of_ble_eq_true rfl) (Nat.le_of_ble_eq_true rfl) dX10_init_12 (fun q_18 L_19 f_20 H_21 hq_22 h_23 x_24 hw => ?_)
  have u_25 := hZ.un hq_22
  have nq_26 := hT.ne hq_22
  have ne_27 : h ≠ q_18 := py_ne_new h_16 hq_22
  have h_16 := h_16.all x_24
  have hZ := hZ.all x_24
  have hT := hT.all x_24
  refine lv_dup G0.1 G0.2.1 dX10_init_15 rfl ?_
  refine py_callv hw (va_runIN (As := []) (rest := [.ref q_18, .ref h]) G0 (c_X9_init l E G_13 L_19 f_20 H_21.size q_18 hZ h_23 u_25) ⟨va_cnB 0 G0.2.2.2.2 g_X10_init_X9_init_17 rfl rfl rfl (hw.1.2.2 (RX10, 17, yX9_init) (List.mem_of_getElem? (i := 2) rfl)) (G0.2.2.2.2 (Cond.initialized RX9) (by decide +kernel)) (by decide +kernel) ⟨(Nat.le_of_ble_eq_true rfl), (Nat.le_of_ble_eq_true rfl)⟩, rfl, G0.2.2.2.2 (Cond.instanceMethod yX9_init) (by decide +kernel)⟩ (py_preS hw) rfl rfl hl.1 rfl (lv_room (Nat.le_of_ble_eq_true rfl)) dX10_init_16 ⟨(Nat.le_of_ble_eq_true rfl), (Nat.le_of_ble_eq_true rfl)⟩) (fun L_28 f_29 H_30 locs hp_31 hw => ?_)
  obtain ⟨G_35, gx_33, hZ, ty_34, nt_35, hv_36⟩ := hp_31
  have ty_12 := gx_33.ty ty_12 (by decide)
  have hX := hX.trans gx_33
  have u_z := (nt_35 h h_16.1 ne_27).2.2
  have h_16 := nt_35.at h_16 ne_27
  have uh := u_z.trans uh
  have hT := hT.sub nt_35 nq_26
  refine py_put (C := RX10) (T := TX10) (N := 2) (k := 1) (v := .ref q_18) (fs' := [.ref q_1, .ref q_18]) (ty0 := tyX10) G0 hw tyX10_ok nmX10 in_X10_init_X10 rfl h_16 (by decide) (by decide +kernel) rfl rfl rfl rfl (Nat.le_of_ble_eq_true rfl) rfl dX10_init_19 (fun f_37 H_38 locs h_39 x_40 hw => ?_)
  have hZ := hZ.unt uh x_40
  have hT := hT.ext x_40
  obtain ⟨G_42, gx_41, hZ, hth, hrr, ee_42⟩ := hZ.ty (c := 11) (r := (fun j => match j with | 0 => q_1 | _ => 0)) uh (by decide) h_39.1 (fun G1 gg e1 hr => ⟨q_18, by rw [hr 0]; exact h_39.2, gg.ty ty_34 (by decide)⟩) (fun G1 gg e1 hr => (show G1.1 (G1.2 h 0) = 36 from by rw [hr 0]; exact gg.ty ty_12 (by decide))) (fun e => absurd e (by decide))
  have ty_12 := gx_41.ty ty_12 (by decide)
  have ty_34 := gx_41.ty ty_34 (by decide)
  have hX := hX.trans gx_41
  have hT : NTR L f G h _ _ G_42 := fun b hb hn => ⟨(hT b hb hn).1, (hT b hb hn).2.1, (ee_42 b hn).trans (hT b hb hn).2.2⟩
  exact py_vret G0 hr hlk hw ⟨G_42, hX, hZ, hth, hT, ⟨q_18, fun z => nq_26 q_18 z (Ne.symm ne_27) rfl, (hZ.2.1 q_18 (by rw [ty_34]; decide)).1, by rw [h_39.2]; rfl⟩⟩ dX10_init_22

def w_X4_init : List Cond := .code yX4_init cX4_init 1 none :: ([Cond.methodLink RX4 3 objectInit, Cond.instanceMethod objectInit, Cond.code objectInit ⟨#[0xb1]⟩ 1 none, Cond.classLink RX4 9 RX3, Cond.instantiable RX3 3, Cond.initialized RX3, Cond.instanceMethod yX3_init, Cond.fieldLink RX4 12 "HeadYear$LawReader" "draft" "LHeadYear$Law;"] ++ (u_ws RX3 TX3 3 ++ (u_ws RX4 TX4 1 ++ (w_X3_init ++ ([])))))
theorem in_X4_init_X3 : ∀ w ∈ u_ws RX3 TX3 3, w ∈ w_X4_init := fun _ h => List.mem_cons_of_mem _ (List.mem_append_right _ (List.mem_append_left _ h))
theorem in_X4_init_X4 : ∀ w ∈ u_ws RX4 TX4 1, w ∈ w_X4_init := fun _ h => List.mem_cons_of_mem _ (List.mem_append_right _ (List.mem_append_right _ (List.mem_append_left _ h)))
theorem gg_X4_init_X3_init : GoodIn w_X4_init w_X3_init := goodIn_sub (fun _ h => List.mem_cons_of_mem _ (List.mem_append_right _ (List.mem_append_right _ (List.mem_append_right _ (List.mem_append_left _ h))))) (by decide +kernel)
theorem g_X4_init_X3_init_11 : GoodIn w_X4_init w_X3_init := gg_X4_init_X3_init
set_option maxHeartbeats 4000000 in
set_option maxRecDepth 100000 in
theorem c_X4_init (l : Launch) (E : py_E) (G : wf_G) (L : List Nat) (f : py_F) (sz : Nat) (h : Nat) (hZ : GZ E G L f) (hh : py_at L f h (.inr (4, [.null]))) (uh : G.1 h = 0) : Met l yX4_init w_X4_init ({ frames := 2, cells := 3, slots := 195, locals := 32 }) (py_Pc E [.ref h] L f sz) (py_Qv E L f sz (fun L1 f1 => ∃ G1 : wf_G, GX G G1 ∧ GZ E G1 L1 f1 ∧ G1.1 h = 5 ∧ NTR L f G h L1 f1 G1)) 3 195 (va_A (va_pl L f) sz) := by
  refine Met.ofW (cc := cX4_init) (maxL := 1) (ret := none) (by decide) rfl ?_
  intro p e s m args below meth c s₁ B hml hv
  obtain ⟨rfl, rfl, hw⟩ := py_start hv
  have G0 : CallFix p m c cX4_init 1 s _ w_X4_init RX4 := ⟨B.exec, B.bytes, hml, findClass_of_methodNamed B.named, atoms_spec (ws := w_X4_init) B.pre⟩
  have hr := B.returns
  have hlk := B.notSynchronized
  have hin : meth.name = "<init>" := (name_of_methodNamed B.named B.method).1
  have hl := lv_entry ([.ref h]) (n := 1) (Nat.le_of_ble_eq_true rfl)
  rw [lg_entry_eq]
  generalize (lg_sl ([.ref h]) ++ List.replicate (1 - (lg_sl ([.ref h])).length) Slot.unset).toArray = ls at hl ⊢
  have hl : lv_has ls 1 [(0, .ref h)] := hl
  have hT : NTR L f G h L f G := NTR.refl
  have hX : GX G G := GX.refl
  refine lv_aload_n G0.1 G0.2.1 dX4_init_0 rfl (lv_at hl 0 rfl) ?_
  refine py_objInit G0 hl.1 (by decide +kernel) (by decide +kernel) (by decide +kernel) dX4_init_1 (Nat.le_of_ble_eq_true rfl) (Nat.le_of_ble_eq_true rfl) ?_
  refine lv_aload_n G0.1 G0.2.1 dX4_init_4 rfl (lv_at hl 0 rfl) ?_
  refine py_new (C := RX3) (T := TX3) (N := 3) (ci := 3) (fs := [.null, .null, .int 0]) (ty0 := tyX3) G0 hw tyX3_ok in_X4_init_X3 rfl (by decide +kernel) (by decide +kernel) (by decide +kernel) (fun j hj => match j, hj with | 0, _ => rfl | 1, _ => rfl | 2, _ => rfl | n + 3, h => absurd h (by omega)) (Nat.le_of_ble_eq_true rfl) (Nat.le_of_ble_eq_true rfl) dX4_init_5 (fun q_1 L_2 f_3 H_4 hq_5 h_6 x_7 hw => ?_)
  have u_8 := hZ.un hq_5
  have nq_9 := hT.ne hq_5
  have ne_10 : h ≠ q_1 := py_ne_new hh hq_5
  have hh := hh.all x_7
  have hZ := hZ.all x_7
  have hT := hT.all x_7
  refine lv_dup G0.1 G0.2.1 dX4_init_8 rfl ?_
  refine py_callv hw (va_runIN (As := []) (rest := [.ref q_1, .ref h]) G0 (c_X3_init l E L_2 f_3 H_4.size q_1 h_6) ⟨va_cnB 0 G0.2.2.2.2 g_X4_init_X3_init_11 rfl rfl rfl (hw.1.2.2 (RX4, 11, yX3_init) (List.mem_of_getElem? (i := 4) rfl)) (G0.2.2.2.2 (Cond.initialized RX3) (by decide +kernel)) (by decide +kernel) ⟨(Nat.le_of_ble_eq_true rfl), (Nat.le_of_ble_eq_true rfl)⟩, rfl, G0.2.2.2.2 (Cond.instanceMethod yX3_init) (by decide +kernel)⟩ (py_preS hw) rfl rfl hl.1 rfl (lv_room (Nat.le_of_ble_eq_true rfl)) dX4_init_9 ⟨(Nat.le_of_ble_eq_true rfl), (Nat.le_of_ble_eq_true rfl)⟩) (fun L_11 f_12 H_13 locs hp_14 hw => ?_)
  obtain ⟨co_16, st_17, h_18, hco_19, hst_20, nco_21, nst_22, ncs_23, x_24⟩ := hp_14
  have u_25 := hZ.un nco_21
  have u_26 := hZ.un nst_22
  have nq_27 := hT.ne nco_21
  have nq_28 := hT.ne nst_22
  have ne_29 := py_ne_new hh nco_21
  have ne_30 := py_ne_new hh nst_22
  have ne_31 := py_ne_new h_6 nco_21
  have ne_32 := py_ne_new h_6 nst_22
  have hZ := hZ.unt u_8 x_24
  have hT := hT.extq x_24 nq_9
  have hh := hh.ext x_24 ne_10
  obtain ⟨G_35, gx_33, hZ, ty_34, ee_35⟩ := hZ.arrK (c := 20) u_25 (by decide) (by decide) hco_19 (fun _ => ⟨_, rfl, fun i _ => wf_free _⟩) (fun _ => rfl)
  have hX := hX.trans gx_33
  have uh := (ee_35 h ne_29).trans uh
  have u_8 := (ee_35 q_1 ne_31).trans u_8
  have u_26 := (ee_35 st_17 (Ne.symm ncs_23)).trans u_26
  have hT := hT.ty ee_35 nq_27
  obtain ⟨G_38, gx_36, hZ, ty_37, ee_38⟩ := hZ.arrK (c := 21) u_26 (by decide) (by decide) hst_20 (fun _ => ⟨_, rfl, fun i _ => wf_free _⟩) (fun _ => rfl)
  have ty_34 := gx_36.ty ty_34 (by decide)
  have hX := hX.trans gx_36
  have uh := (ee_38 h ne_30).trans uh
  have u_8 := (ee_38 q_1 ne_32).trans u_8
  have hT := hT.ty ee_38 nq_28
  obtain ⟨G_41, gx_39, hZ, ty_40, -, ee_41⟩ := hZ.ty (c := 4) (r := (fun j => match j with | 0 => co_16 | 1 => st_17 | _ => 0)) u_8 (by decide) h_18.1 (fun G1 gg e1 hr => ⟨0, by rw [hr 0, hr 1]; exact h_18.2, ⟨by decide, by decide⟩⟩) (fun G1 gg e1 hr => ⟨by rw [hr 0]; exact gg.ty ty_34 (by decide), by rw [hr 1]; exact gg.ty ty_37 (by decide)⟩) (fun e => absurd e (by decide))
  have ty_34 := gx_39.ty ty_34 (by decide)
  have ty_37 := gx_39.ty ty_37 (by decide)
  have hX := hX.trans gx_39
  have uh := (ee_41 h ne_10).trans uh
  have hT := hT.ty ee_41 nq_9
  refine py_put (C := RX4) (T := TX4) (N := 1) (k := 0) (v := .ref q_1) (fs' := [.ref q_1]) (ty0 := tyX4) G0 hw tyX4_ok nmX4 in_X4_init_X4 rfl hh (by decide) (by decide +kernel) rfl rfl rfl rfl (Nat.le_of_ble_eq_true rfl) rfl dX4_init_12 (fun f_42 H_43 locs h_44 x_45 hw => ?_)
  have hZ := hZ.unt uh x_45
  have hT := hT.ext x_45
  obtain ⟨G_47, gx_46, hZ, hth, hrr, ee_47⟩ := hZ.ty (c := 5) (r := (fun j => match j with | _ => 0)) uh (by decide) h_44.1 (fun G1 gg e1 hr => ⟨q_1, by exact h_44.2, gg.ty ty_40 (by decide)⟩) (fun G1 gg e1 hr => trivial) (fun e => absurd e (by decide))
  have ty_34 := gx_46.ty ty_34 (by decide)
  have ty_37 := gx_46.ty ty_37 (by decide)
  have ty_40 := gx_46.ty ty_40 (by decide)
  have hX := hX.trans gx_46
  have hT : NTR L f G h _ _ G_47 := fun b hb hn => ⟨(hT b hb hn).1, (hT b hb hn).2.1, (ee_47 b hn).trans (hT b hb hn).2.2⟩
  exact py_vret G0 hr hlk hw ⟨G_47, hX, hZ, hth, hT⟩ dX4_init_15

def w_X2_init : List Cond := .code yX2_init cX2_init 1 none :: ([Cond.methodLink RX2 3 objectInit, Cond.instanceMethod objectInit, Cond.code objectInit ⟨#[0xb1]⟩ 1 none, Cond.arrayClass .int, Cond.fieldLink RX2 11 "HeadYear$Folk" "heads" "[I", Cond.fieldLink RX2 17 "HeadYear$Folk" "level" "[I", Cond.fieldLink RX2 20 "HeadYear$Folk" "hut" "[I", Cond.fieldLink RX2 23 "HeadYear$Folk" "debt" "[I", Cond.fieldLink RX2 26 "HeadYear$Folk" "born" "[I", Cond.fieldLink RX2 29 "HeadYear$Folk" "dead" "[I", Cond.fieldLink RX2 32 "HeadYear$Folk" "bought" "[I", Cond.fieldLink RX2 35 "HeadYear$Folk" "spent" "[I", Cond.arrayClass .boolean, Cond.fieldLink RX2 38 "HeadYear$Folk" "hushed" "[Z", Cond.classLink RX2 9 RX9, Cond.instantiable RX9 10, Cond.initialized RX9, Cond.instanceMethod yX9_init, Cond.fieldLink RX2 43 "HeadYear$Folk" "valley" "LHeadYear$Valley;", Cond.fieldLink RX2 47 "HeadYear$Folk" "x" "J", Cond.fieldLink RX2 51 "HeadYear$Folk" "years" "I"] ++ (u_ws RX2 TX2 12 ++ (u_ws RX9 TX9 10 ++ (w_X9_init ++ ([])))))
theorem in_X2_init_X2 : ∀ w ∈ u_ws RX2 TX2 12, w ∈ w_X2_init := fun _ h => List.mem_cons_of_mem _ (List.mem_append_right _ (List.mem_append_left _ h))
theorem in_X2_init_X9 : ∀ w ∈ u_ws RX9 TX9 10, w ∈ w_X2_init := fun _ h => List.mem_cons_of_mem _ (List.mem_append_right _ (List.mem_append_right _ (List.mem_append_left _ h)))
theorem gg_X2_init_X9_init : GoodIn w_X2_init w_X9_init := goodIn_sub (fun _ h => List.mem_cons_of_mem _ (List.mem_append_right _ (List.mem_append_right _ (List.mem_append_right _ (List.mem_append_left _ h))))) (by decide +kernel)
theorem g_X2_init_X9_init_42 : GoodIn w_X2_init w_X9_init := gg_X2_init_X9_init
set_option maxHeartbeats 4000000 in
set_option maxRecDepth 100000 in
theorem c_X2_init (l : Launch) (E : py_E) (G : wf_G) (L : List Nat) (f : py_F) (sz : Nat) (h : Nat) (hZ : GZ E G L f) (hh : py_at L f h (.inr (2, [.null, .null, .null, .null, .null, .null, .null, .null, .null, .null, .long 0, .int 0]))) (uh : G.1 h = 0) : Met l yX2_init w_X2_init ({ frames := 2, cells := 18, slots := 172, locals := 32 }) (py_Pc E [.ref h] L f sz) (py_Qv E L f sz (fun L1 f1 => ∃ G1 : wf_G, GX G G1 ∧ GZ E G1 L1 f1 ∧ G1.1 h = 3 ∧ NTR L f G h L1 f1 G1 ∧ ∃ V : Nat, V ∉ L ∧ fo_v f1 h = V ∧ fo_y f1 h = 0 ∧ fv_l f1 h = 0 ∧ fv_f f1 h = 0)) 18 172 (va_A (va_pl L f) sz) := by
  refine Met.ofW (cc := cX2_init) (maxL := 1) (ret := none) (by decide) rfl ?_
  intro p e s m args below meth c s₁ B hml hv
  obtain ⟨rfl, rfl, hw⟩ := py_start hv
  have G0 : CallFix p m c cX2_init 1 s _ w_X2_init RX2 := ⟨B.exec, B.bytes, hml, findClass_of_methodNamed B.named, atoms_spec (ws := w_X2_init) B.pre⟩
  have hr := B.returns
  have hlk := B.notSynchronized
  have hin : meth.name = "<init>" := (name_of_methodNamed B.named B.method).1
  have hl := lv_entry ([.ref h]) (n := 1) (Nat.le_of_ble_eq_true rfl)
  rw [lg_entry_eq]
  generalize (lg_sl ([.ref h]) ++ List.replicate (1 - (lg_sl ([.ref h])).length) Slot.unset).toArray = ls at hl ⊢
  have hl : lv_has ls 1 [(0, .ref h)] := hl
  have hT : NTR L f G h L f G := NTR.refl
  have hX : GX G G := GX.refl
  refine lv_aload_n G0.1 G0.2.1 dX2_init_0 rfl (lv_at hl 0 rfl) ?_
  refine py_objInit G0 hl.1 (by decide +kernel) (by decide +kernel) (by decide +kernel) dX2_init_1 (Nat.le_of_ble_eq_true rfl) (Nat.le_of_ble_eq_true rfl) ?_
  refine lv_aload_n G0.1 G0.2.1 dX2_init_4 rfl (lv_at hl 0 rfl) ?_
  refine lv_bipush (v := 10) G0.1 G0.2.1 dX2_init_5 (by decide) ?_
  refine py_newI (N := 10) G0 hw (by decide +kernel) (by decide) (by decide) (Nat.le_of_ble_eq_true rfl) (Nat.le_of_ble_eq_true rfl) (Nat.le_of_ble_eq_true rfl) dX2_init_7 (fun q_1 L_2 f_3 H_4 hq_5 h_6 x_7 hw => ?_)
  have u_8 := hZ.un hq_5
  have nq_9 := hT.ne hq_5
  have ne_10 : h ≠ q_1 := py_ne_new hh hq_5
  have hh := hh.all x_7
  have hZ := hZ.all x_7
  have hT := hT.all x_7
  have hz0 := h_6
  obtain ⟨G_13, gx_11, hZ, ty_12, ee_13⟩ := hZ.arr (c := 1000 + 2 * h) (n := 10) (lo := 0) (hi := 20) u_8 (by omega) (by omega) h_6 (fun G1 e => wf_own0 E G1 q_1 h e) (fun G1 => wt_own G1 q_1 (2 * h)) (by decide) (by decide)
  have hX := hX.trans gx_11
  have uh := (ee_13 h ne_10).trans uh
  have hT := hT.ty ee_13 nq_9
  refine py_putF (C := RX2) (T := TX2) (N := 12) (k := 0) (v := .ref q_1) (fs' := [.ref q_1, .null, .null, .null, .null, .null, .null, .null, .null, .null, .long 0, .int 0]) (ty0 := tyX2) G0 hin hw tyX2_ok nmX2 in_X2_init_X2 rfl hh (by decide) (by decide +kernel) rfl rfl rfl rfl rfl (Nat.le_of_ble_eq_true rfl) rfl dX2_init_9 (fun f_14 H_15 locs h_16 x_17 hw => ?_)
  have hZ := hZ.unt uh x_17
  have hT := hT.ext x_17
  have hz0 := hz0.ext x_17 (un_ne ty_12 uh (by omega))
  refine lv_aload_n G0.1 G0.2.1 dX2_init_12 rfl (lv_at hl 0 rfl) ?_
  refine lv_bipush (v := 10) G0.1 G0.2.1 dX2_init_13 (by decide) ?_
  refine py_newI (N := 10) G0 hw (by decide +kernel) (by decide) (by decide) (Nat.le_of_ble_eq_true rfl) (Nat.le_of_ble_eq_true rfl) (Nat.le_of_ble_eq_true rfl) dX2_init_15 (fun q_18 L_19 f_20 H_21 hq_22 h_23 x_24 hw => ?_)
  have u_25 := hZ.un hq_22
  have nq_26 := hT.ne hq_22
  have ne_27 : h ≠ q_18 := py_ne_new h_16 hq_22
  have h_16 := h_16.all x_24
  have hz0 := hz0.all x_24
  have hZ := hZ.all x_24
  have hT := hT.all x_24
  obtain ⟨G_30, gx_28, hZ, ty_29, ee_30⟩ := hZ.arr (c := 1000 + 2 * h + 1) (n := 10) (lo := (-1)) (hi := 7) u_25 (by omega) (by omega) h_23 (fun G1 e => wf_own1 E G1 q_18 h e) (fun G1 => wt_own G1 q_18 (2 * h + 1)) (by decide) (by decide)
  have ty_12 := gx_28.ty ty_12 (by omega)
  have hX := hX.trans gx_28
  have uh := (ee_30 h ne_27).trans uh
  have hT := hT.ty ee_30 nq_26
  refine py_putF (C := RX2) (T := TX2) (N := 12) (k := 1) (v := .ref q_18) (fs' := [.ref q_1, .ref q_18, .null, .null, .null, .null, .null, .null, .null, .null, .long 0, .int 0]) (ty0 := tyX2) G0 hin hw tyX2_ok nmX2 in_X2_init_X2 rfl h_16 (by decide) (by decide +kernel) rfl rfl rfl rfl rfl (Nat.le_of_ble_eq_true rfl) rfl dX2_init_17 (fun f_31 H_32 locs h_33 x_34 hw => ?_)
  have hZ := hZ.unt uh x_34
  have hT := hT.ext x_34
  have hz0 := hz0.ext x_34 (un_ne ty_12 uh (by omega))
  refine lv_aload_n G0.1 G0.2.1 dX2_init_20 rfl (lv_at hl 0 rfl) ?_
  refine lv_bipush (v := 10) G0.1 G0.2.1 dX2_init_21 (by decide) ?_
  refine py_newI (N := 10) G0 hw (by decide +kernel) (by decide) (by decide) (Nat.le_of_ble_eq_true rfl) (Nat.le_of_ble_eq_true rfl) (Nat.le_of_ble_eq_true rfl) dX2_init_23 (fun q_35 L_36 f_37 H_38 hq_39 h_40 x_41 hw => ?_)
  have u_42 := hZ.un hq_39
  have nq_43 := hT.ne hq_39
  have ne_44 : h ≠ q_35 := py_ne_new h_33 hq_39
  have h_33 := h_33.all x_41
  have hz0 := hz0.all x_41
  have hZ := hZ.all x_41
  have hT := hT.all x_41
  obtain ⟨G_47, gx_45, hZ, ty_46, ee_47⟩ := hZ.arr (c := 26) (n := 10) (lo := (-2147483648)) (hi := 2147483647) u_42 (by decide) (by decide) h_40 (fun _ _ => rfl) (fun _ => rfl) (by decide) (by decide)
  have ty_12 := gx_45.ty ty_12 (by omega)
  have ty_29 := gx_45.ty ty_29 (by omega)
  have hX := hX.trans gx_45
  have uh := (ee_47 h ne_44).trans uh
  have hT := hT.ty ee_47 nq_43
  refine py_putF (C := RX2) (T := TX2) (N := 12) (k := 2) (v := .ref q_35) (fs' := [.ref q_1, .ref q_18, .ref q_35, .null, .null, .null, .null, .null, .null, .null, .long 0, .int 0]) (ty0 := tyX2) G0 hin hw tyX2_ok nmX2 in_X2_init_X2 rfl h_33 (by decide) (by decide +kernel) rfl rfl rfl rfl rfl (Nat.le_of_ble_eq_true rfl) rfl dX2_init_25 (fun f_48 H_49 locs h_50 x_51 hw => ?_)
  have hZ := hZ.unt uh x_51
  have hT := hT.ext x_51
  have hz0 := hz0.ext x_51 (un_ne ty_12 uh (by omega))
  refine lv_aload_n G0.1 G0.2.1 dX2_init_28 rfl (lv_at hl 0 rfl) ?_
  refine lv_bipush (v := 10) G0.1 G0.2.1 dX2_init_29 (by decide) ?_
  refine py_newI (N := 10) G0 hw (by decide +kernel) (by decide) (by decide) (Nat.le_of_ble_eq_true rfl) (Nat.le_of_ble_eq_true rfl) (Nat.le_of_ble_eq_true rfl) dX2_init_31 (fun q_52 L_53 f_54 H_55 hq_56 h_57 x_58 hw => ?_)
  have u_59 := hZ.un hq_56
  have nq_60 := hT.ne hq_56
  have ne_61 : h ≠ q_52 := py_ne_new h_50 hq_56
  have h_50 := h_50.all x_58
  have hz0 := hz0.all x_58
  have hZ := hZ.all x_58
  have hT := hT.all x_58
  obtain ⟨G_64, gx_62, hZ, ty_63, ee_64⟩ := hZ.arr (c := 37) (n := 10) (lo := (-2147483648)) (hi := 2147483647) u_59 (by decide) (by decide) h_57 (fun _ _ => rfl) (fun _ => rfl) (by decide) (by decide)
  have ty_12 := gx_62.ty ty_12 (by omega)
  have ty_29 := gx_62.ty ty_29 (by omega)
  have ty_46 := gx_62.ty ty_46 (by decide)
  have hX := hX.trans gx_62
  have uh := (ee_64 h ne_61).trans uh
  have hT := hT.ty ee_64 nq_60
  refine py_putF (C := RX2) (T := TX2) (N := 12) (k := 3) (v := .ref q_52) (fs' := [.ref q_1, .ref q_18, .ref q_35, .ref q_52, .null, .null, .null, .null, .null, .null, .long 0, .int 0]) (ty0 := tyX2) G0 hin hw tyX2_ok nmX2 in_X2_init_X2 rfl h_50 (by decide) (by decide +kernel) rfl rfl rfl rfl rfl (Nat.le_of_ble_eq_true rfl) rfl dX2_init_33 (fun f_65 H_66 locs h_67 x_68 hw => ?_)
  have hZ := hZ.unt uh x_68
  have hT := hT.ext x_68
  have hz0 := hz0.ext x_68 (un_ne ty_12 uh (by omega))
  refine lv_aload_n G0.1 G0.2.1 dX2_init_36 rfl (lv_at hl 0 rfl) ?_
  refine lv_bipush (v := 10) G0.1 G0.2.1 dX2_init_37 (by decide) ?_
  refine py_newI (N := 10) G0 hw (by decide +kernel) (by decide) (by decide) (Nat.le_of_ble_eq_true rfl) (Nat.le_of_ble_eq_true rfl) (Nat.le_of_ble_eq_true rfl) dX2_init_39 (fun q_69 L_70 f_71 H_72 hq_73 h_74 x_75 hw => ?_)
  have u_76 := hZ.un hq_73
  have nq_77 := hT.ne hq_73
  have ne_78 : h ≠ q_69 := py_ne_new h_67 hq_73
  have h_67 := h_67.all x_75
  have hz0 := hz0.all x_75
  have hZ := hZ.all x_75
  have hT := hT.all x_75
  obtain ⟨G_81, gx_79, hZ, ty_80, ee_81⟩ := hZ.arr (c := 26) (n := 10) (lo := (-2147483648)) (hi := 2147483647) u_76 (by decide) (by decide) h_74 (fun _ _ => rfl) (fun _ => rfl) (by decide) (by decide)
  have ty_12 := gx_79.ty ty_12 (by omega)
  have ty_29 := gx_79.ty ty_29 (by omega)
  have ty_46 := gx_79.ty ty_46 (by decide)
  have ty_63 := gx_79.ty ty_63 (by decide)
  have hX := hX.trans gx_79
  have uh := (ee_81 h ne_78).trans uh
  have hT := hT.ty ee_81 nq_77
  refine py_putF (C := RX2) (T := TX2) (N := 12) (k := 4) (v := .ref q_69) (fs' := [.ref q_1, .ref q_18, .ref q_35, .ref q_52, .ref q_69, .null, .null, .null, .null, .null, .long 0, .int 0]) (ty0 := tyX2) G0 hin hw tyX2_ok nmX2 in_X2_init_X2 rfl h_67 (by decide) (by decide +kernel) rfl rfl rfl rfl rfl (Nat.le_of_ble_eq_true rfl) rfl dX2_init_41 (fun f_82 H_83 locs h_84 x_85 hw => ?_)
  have hZ := hZ.unt uh x_85
  have hT := hT.ext x_85
  have hz0 := hz0.ext x_85 (un_ne ty_12 uh (by omega))
  refine lv_aload_n G0.1 G0.2.1 dX2_init_44 rfl (lv_at hl 0 rfl) ?_
  refine lv_bipush (v := 10) G0.1 G0.2.1 dX2_init_45 (by decide) ?_
  refine py_newI (N := 10) G0 hw (by decide +kernel) (by decide) (by decide) (Nat.le_of_ble_eq_true rfl) (Nat.le_of_ble_eq_true rfl) (Nat.le_of_ble_eq_true rfl) dX2_init_47 (fun q_86 L_87 f_88 H_89 hq_90 h_91 x_92 hw => ?_)
  have u_93 := hZ.un hq_90
  have nq_94 := hT.ne hq_90
  have ne_95 : h ≠ q_86 := py_ne_new h_84 hq_90
  have h_84 := h_84.all x_92
  have hz0 := hz0.all x_92
  have hZ := hZ.all x_92
  have hT := hT.all x_92
  obtain ⟨G_98, gx_96, hZ, ty_97, ee_98⟩ := hZ.arr (c := 26) (n := 10) (lo := (-2147483648)) (hi := 2147483647) u_93 (by decide) (by decide) h_91 (fun _ _ => rfl) (fun _ => rfl) (by decide) (by decide)
  have ty_12 := gx_96.ty ty_12 (by omega)
  have ty_29 := gx_96.ty ty_29 (by omega)
  have ty_46 := gx_96.ty ty_46 (by decide)
  have ty_63 := gx_96.ty ty_63 (by decide)
  have ty_80 := gx_96.ty ty_80 (by decide)
  have hX := hX.trans gx_96
  have uh := (ee_98 h ne_95).trans uh
  have hT := hT.ty ee_98 nq_94
  refine py_putF (C := RX2) (T := TX2) (N := 12) (k := 5) (v := .ref q_86) (fs' := [.ref q_1, .ref q_18, .ref q_35, .ref q_52, .ref q_69, .ref q_86, .null, .null, .null, .null, .long 0, .int 0]) (ty0 := tyX2) G0 hin hw tyX2_ok nmX2 in_X2_init_X2 rfl h_84 (by decide) (by decide +kernel) rfl rfl rfl rfl rfl (Nat.le_of_ble_eq_true rfl) rfl dX2_init_49 (fun f_99 H_100 locs h_101 x_102 hw => ?_)
  have hZ := hZ.unt uh x_102
  have hT := hT.ext x_102
  have hz0 := hz0.ext x_102 (un_ne ty_12 uh (by omega))
  refine lv_aload_n G0.1 G0.2.1 dX2_init_52 rfl (lv_at hl 0 rfl) ?_
  refine lv_bipush (v := 10) G0.1 G0.2.1 dX2_init_53 (by decide) ?_
  refine py_newI (N := 10) G0 hw (by decide +kernel) (by decide) (by decide) (Nat.le_of_ble_eq_true rfl) (Nat.le_of_ble_eq_true rfl) (Nat.le_of_ble_eq_true rfl) dX2_init_55 (fun q_103 L_104 f_105 H_106 hq_107 h_108 x_109 hw => ?_)
  have u_110 := hZ.un hq_107
  have nq_111 := hT.ne hq_107
  have ne_112 : h ≠ q_103 := py_ne_new h_101 hq_107
  have h_101 := h_101.all x_109
  have hz0 := hz0.all x_109
  have hZ := hZ.all x_109
  have hT := hT.all x_109
  obtain ⟨G_115, gx_113, hZ, ty_114, ee_115⟩ := hZ.arr (c := 26) (n := 10) (lo := (-2147483648)) (hi := 2147483647) u_110 (by decide) (by decide) h_108 (fun _ _ => rfl) (fun _ => rfl) (by decide) (by decide)
  have ty_12 := gx_113.ty ty_12 (by omega)
  have ty_29 := gx_113.ty ty_29 (by omega)
  have ty_46 := gx_113.ty ty_46 (by decide)
  have ty_63 := gx_113.ty ty_63 (by decide)
  have ty_80 := gx_113.ty ty_80 (by decide)
  have ty_97 := gx_113.ty ty_97 (by decide)
  have hX := hX.trans gx_113
  have uh := (ee_115 h ne_112).trans uh
  have hT := hT.ty ee_115 nq_111
  refine py_putF (C := RX2) (T := TX2) (N := 12) (k := 6) (v := .ref q_103) (fs' := [.ref q_1, .ref q_18, .ref q_35, .ref q_52, .ref q_69, .ref q_86, .ref q_103, .null, .null, .null, .long 0, .int 0]) (ty0 := tyX2) G0 hin hw tyX2_ok nmX2 in_X2_init_X2 rfl h_101 (by decide) (by decide +kernel) rfl rfl rfl rfl rfl (Nat.le_of_ble_eq_true rfl) rfl dX2_init_57 (fun f_116 H_117 locs h_118 x_119 hw => ?_)
  have hZ := hZ.unt uh x_119
  have hT := hT.ext x_119
  have hz0 := hz0.ext x_119 (un_ne ty_12 uh (by omega))
  refine lv_aload_n G0.1 G0.2.1 dX2_init_60 rfl (lv_at hl 0 rfl) ?_
  refine lv_bipush (v := 10) G0.1 G0.2.1 dX2_init_61 (by decide) ?_
  refine py_newI (N := 10) G0 hw (by decide +kernel) (by decide) (by decide) (Nat.le_of_ble_eq_true rfl) (Nat.le_of_ble_eq_true rfl) (Nat.le_of_ble_eq_true rfl) dX2_init_63 (fun q_120 L_121 f_122 H_123 hq_124 h_125 x_126 hw => ?_)
  have u_127 := hZ.un hq_124
  have nq_128 := hT.ne hq_124
  have ne_129 : h ≠ q_120 := py_ne_new h_118 hq_124
  have h_118 := h_118.all x_126
  have hz0 := hz0.all x_126
  have hZ := hZ.all x_126
  have hT := hT.all x_126
  obtain ⟨G_132, gx_130, hZ, ty_131, ee_132⟩ := hZ.arr (c := 26) (n := 10) (lo := (-2147483648)) (hi := 2147483647) u_127 (by decide) (by decide) h_125 (fun _ _ => rfl) (fun _ => rfl) (by decide) (by decide)
  have ty_12 := gx_130.ty ty_12 (by omega)
  have ty_29 := gx_130.ty ty_29 (by omega)
  have ty_46 := gx_130.ty ty_46 (by decide)
  have ty_63 := gx_130.ty ty_63 (by decide)
  have ty_80 := gx_130.ty ty_80 (by decide)
  have ty_97 := gx_130.ty ty_97 (by decide)
  have ty_114 := gx_130.ty ty_114 (by decide)
  have hX := hX.trans gx_130
  have uh := (ee_132 h ne_129).trans uh
  have hT := hT.ty ee_132 nq_128
  refine py_putF (C := RX2) (T := TX2) (N := 12) (k := 7) (v := .ref q_120) (fs' := [.ref q_1, .ref q_18, .ref q_35, .ref q_52, .ref q_69, .ref q_86, .ref q_103, .ref q_120, .null, .null, .long 0, .int 0]) (ty0 := tyX2) G0 hin hw tyX2_ok nmX2 in_X2_init_X2 rfl h_118 (by decide) (by decide +kernel) rfl rfl rfl rfl rfl (Nat.le_of_ble_eq_true rfl) rfl dX2_init_65 (fun f_133 H_134 locs h_135 x_136 hw => ?_)
  have hZ := hZ.unt uh x_136
  have hT := hT.ext x_136
  have hz0 := hz0.ext x_136 (un_ne ty_12 uh (by omega))
  refine lv_aload_n G0.1 G0.2.1 dX2_init_68 rfl (lv_at hl 0 rfl) ?_
  refine lv_bipush (v := 10) G0.1 G0.2.1 dX2_init_69 (by decide) ?_
  refine py_newZ (N := 10) G0 hw (by decide +kernel) (by decide) (by decide) (Nat.le_of_ble_eq_true rfl) (Nat.le_of_ble_eq_true rfl) (Nat.le_of_ble_eq_true rfl) dX2_init_71 (fun q_137 L_138 f_139 H_140 hq_141 h_142 x_143 hw => ?_)
  have u_144 := hZ.un hq_141
  have nq_145 := hT.ne hq_141
  have ne_146 : h ≠ q_137 := py_ne_new h_135 hq_141
  have h_135 := h_135.all x_143
  have hz0 := hz0.all x_143
  have hZ := hZ.all x_143
  have hT := hT.all x_143
  obtain ⟨G_149, gx_147, hZ, ty_148, ee_149⟩ := hZ.arrK (c := 30) u_144 (by decide) (by decide) h_142 (fun _ => ⟨_, rfl⟩) (fun _ => rfl)
  have ty_12 := gx_147.ty ty_12 (by omega)
  have ty_29 := gx_147.ty ty_29 (by omega)
  have ty_46 := gx_147.ty ty_46 (by decide)
  have ty_63 := gx_147.ty ty_63 (by decide)
  have ty_80 := gx_147.ty ty_80 (by decide)
  have ty_97 := gx_147.ty ty_97 (by decide)
  have ty_114 := gx_147.ty ty_114 (by decide)
  have ty_131 := gx_147.ty ty_131 (by decide)
  have hX := hX.trans gx_147
  have uh := (ee_149 h ne_146).trans uh
  have hT := hT.ty ee_149 nq_145
  refine py_putF (C := RX2) (T := TX2) (N := 12) (k := 8) (v := .ref q_137) (fs' := [.ref q_1, .ref q_18, .ref q_35, .ref q_52, .ref q_69, .ref q_86, .ref q_103, .ref q_120, .ref q_137, .null, .long 0, .int 0]) (ty0 := tyX2) G0 hin hw tyX2_ok nmX2 in_X2_init_X2 rfl h_135 (by decide) (by decide +kernel) rfl rfl rfl rfl rfl (Nat.le_of_ble_eq_true rfl) rfl dX2_init_73 (fun f_150 H_151 locs h_152 x_153 hw => ?_)
  have hZ := hZ.unt uh x_153
  have hT := hT.ext x_153
  have hz0 := hz0.ext x_153 (un_ne ty_12 uh (by omega))
  refine lv_aload_n G0.1 G0.2.1 dX2_init_76 rfl (lv_at hl 0 rfl) ?_
  refine py_new (C := RX9) (T := TX9) (N := 10) (ci := 9) (fs := [.null, .null, .null, .null, .null, .null, .null, .null, .int 0, .int 0]) (ty0 := tyX9) G0 hw tyX9_ok in_X2_init_X9 rfl (by decide +kernel) (by decide +kernel) (by decide +kernel) (fun j hj => match j, hj with | 0, _ => rfl | 1, _ => rfl | 2, _ => rfl | 3, _ => rfl | 4, _ => rfl | 5, _ => rfl | 6, _ => rfl | 7, _ => rfl | 8, _ => rfl | 9, _ => rfl | n + 10, h => absurd h (by omega)) (Nat.le_of_ble_eq_true rfl) (Nat.le_of_ble_eq_true rfl) dX2_init_77 (fun q_154 L_155 f_156 H_157 hq_158 h_159 x_160 hw => ?_)
  have u_161 := hZ.un hq_158
  have nq_162 := hT.ne hq_158
  have ne_163 : h ≠ q_154 := py_ne_new h_152 hq_158
  have h_152 := h_152.all x_160
  have hz0 := hz0.all x_160
  have hZ := hZ.all x_160
  have hT := hT.all x_160
  refine lv_dup G0.1 G0.2.1 dX2_init_80 rfl ?_
  have nr_164 : q_1 ≠ q_154 := un_ne ty_12 u_161 (by omega)
  refine py_callv hw (va_runIN (As := []) (rest := [.ref q_154, .ref h]) G0 (c_X9_init l E G_149 L_155 f_156 H_157.size q_154 hZ h_159 u_161) ⟨va_cnB 0 G0.2.2.2.2 g_X2_init_X9_init_42 rfl rfl rfl (hw.1.2.2 (RX2, 42, yX9_init) (List.mem_of_getElem? (i := 6) rfl)) (G0.2.2.2.2 (Cond.initialized RX9) (by decide +kernel)) (by decide +kernel) ⟨(Nat.le_of_ble_eq_true rfl), (Nat.le_of_ble_eq_true rfl)⟩, rfl, G0.2.2.2.2 (Cond.instanceMethod yX9_init) (by decide +kernel)⟩ (py_preS hw) rfl rfl hl.1 rfl (lv_room (Nat.le_of_ble_eq_true rfl)) dX2_init_81 ⟨(Nat.le_of_ble_eq_true rfl), (Nat.le_of_ble_eq_true rfl)⟩) (fun L_165 f_166 H_167 locs hp_168 hw => ?_)
  obtain ⟨G_172, gx_170, hZ, ty_171, nt_172, hv_173⟩ := hp_168
  have ty_12 := gx_170.ty ty_12 (by omega)
  have ty_29 := gx_170.ty ty_29 (by omega)
  have ty_46 := gx_170.ty ty_46 (by decide)
  have ty_63 := gx_170.ty ty_63 (by decide)
  have ty_80 := gx_170.ty ty_80 (by decide)
  have ty_97 := gx_170.ty ty_97 (by decide)
  have ty_114 := gx_170.ty ty_114 (by decide)
  have ty_131 := gx_170.ty ty_131 (by decide)
  have ty_148 := gx_170.ty ty_148 (by decide)
  have hX := hX.trans gx_170
  have u_z := (nt_172 h h_152.1 ne_163).2.2
  have h_152 := nt_172.at h_152 ne_163
  have uh := u_z.trans uh
  have hz0 := nt_172.at hz0 nr_164
  have hT := hT.sub nt_172 nq_162
  obtain ⟨lv_174, nv_175, hV_176, -, -⟩ := wg_9 hZ.2.1 ty_171
  have hlv : lv_174.toInt = 0 ∧ nv_175.toInt = 0 := by have z := va_eq hV_176; have z2 := hv_173; omega
  refine py_put (C := RX2) (T := TX2) (N := 12) (k := 9) (v := .ref q_154) (fs' := [.ref q_1, .ref q_18, .ref q_35, .ref q_52, .ref q_69, .ref q_86, .ref q_103, .ref q_120, .ref q_137, .ref q_154, .long 0, .int 0]) (ty0 := tyX2) G0 hw tyX2_ok nmX2 in_X2_init_X2 rfl h_152 (by decide) (by decide +kernel) rfl rfl rfl rfl (Nat.le_of_ble_eq_true rfl) rfl dX2_init_84 (fun f_177 H_178 locs h_179 x_180 hw => ?_)
  have hZ := hZ.unt uh x_180
  have hT := hT.ext x_180
  have hz0 := hz0.ext x_180 (un_ne ty_12 uh (by omega))
  have hV_176 := hV_176.ext x_180 (un_ne ty_171 uh (by decide))
  refine lv_aload_n G0.1 G0.2.1 dX2_init_87 rfl (lv_at hl 0 rfl) ?_
  refine lv_lconst (v := 0) G0.1 G0.2.1 dX2_init_88 (by decide) ?_
  refine py_put (C := RX2) (T := TX2) (N := 12) (k := 10) (v := .long 0) (fs' := [.ref q_1, .ref q_18, .ref q_35, .ref q_52, .ref q_69, .ref q_86, .ref q_103, .ref q_120, .ref q_137, .ref q_154, .long 0, .int 0]) (ty0 := tyX2) G0 hw tyX2_ok nmX2 in_X2_init_X2 rfl h_179 (by decide) (by decide +kernel) rfl rfl rfl rfl (Nat.le_of_ble_eq_true rfl) rfl dX2_init_89 (fun f_181 H_182 locs h_183 x_184 hw => ?_)
  have hZ := hZ.unt uh x_184
  have hT := hT.ext x_184
  have hz0 := hz0.ext x_184 (un_ne ty_12 uh (by omega))
  have hV_176 := hV_176.ext x_184 (un_ne ty_171 uh (by decide))
  refine lv_aload_n G0.1 G0.2.1 dX2_init_92 rfl (lv_at hl 0 rfl) ?_
  refine lv_iconst (v := 0) G0.1 G0.2.1 dX2_init_93 (by decide) ?_
  refine py_put (C := RX2) (T := TX2) (N := 12) (k := 11) (v := .int 0) (fs' := [.ref q_1, .ref q_18, .ref q_35, .ref q_52, .ref q_69, .ref q_86, .ref q_103, .ref q_120, .ref q_137, .ref q_154, .long 0, .int 0]) (ty0 := tyX2) G0 hw tyX2_ok nmX2 in_X2_init_X2 rfl h_183 (by decide) (by decide +kernel) rfl rfl rfl rfl (Nat.le_of_ble_eq_true rfl) rfl dX2_init_94 (fun f_185 H_186 locs h_187 x_188 hw => ?_)
  have hZ := hZ.unt uh x_188
  have hT := hT.ext x_188
  have hz0 := hz0.ext x_188 (un_ne ty_12 uh (by omega))
  have hV_176 := hV_176.ext x_188 (un_ne ty_171 uh (by decide))
  obtain ⟨G_190, gx_189, hZ, hth, hrr, ee_190⟩ := hZ.ty (c := 3) (r := (fun j => match j with | 0 => q_1 | 1 => q_18 | 2 => q_35 | 3 => q_52 | 4 => q_69 | 5 => q_86 | 6 => q_103 | 7 => q_120 | 8 => q_137 | _ => 0)) uh (by decide) h_187.1 (fun G1 gg e1 hr => ⟨q_154, 0, 0, by rw [hr 0, hr 1, hr 2, hr 3, hr 4, hr 5, hr 6, hr 7, hr 8]; exact h_187.2, gg.ty ty_171 (by decide), ⟨by decide, by decide⟩⟩) (fun G1 gg e1 hr => ⟨by rw [hr 0]; exact gg.ty ty_12 (by omega), by rw [hr 1]; exact gg.ty ty_29 (by omega), by rw [hr 2]; exact gg.ty ty_46 (by decide), by rw [hr 3]; exact gg.ty ty_63 (by decide), by rw [hr 4]; exact gg.ty ty_80 (by decide), by rw [hr 5]; exact gg.ty ty_97 (by decide), by rw [hr 6]; exact gg.ty ty_114 (by decide), by rw [hr 7]; exact gg.ty ty_131 (by decide), by rw [hr 8]; exact gg.ty ty_148 (by decide)⟩) (fun _ gh q i hi => by rw [in_inj (q.symm.trans hz0.2)]; show (0 : Int32).toInt ≤ 0; decide)
  have ty_12 := gx_189.ty ty_12 (by omega)
  have ty_29 := gx_189.ty ty_29 (by omega)
  have ty_46 := gx_189.ty ty_46 (by decide)
  have ty_63 := gx_189.ty ty_63 (by decide)
  have ty_80 := gx_189.ty ty_80 (by decide)
  have ty_97 := gx_189.ty ty_97 (by decide)
  have ty_114 := gx_189.ty ty_114 (by decide)
  have ty_131 := gx_189.ty ty_131 (by decide)
  have ty_148 := gx_189.ty ty_148 (by decide)
  have ty_171 := gx_189.ty ty_171 (by decide)
  have hX := hX.trans gx_189
  have hT : NTR L f G h _ _ G_190 := fun b hb hn => ⟨(hT b hb hn).1, (hT b hb hn).2.1, (ee_190 b hn).trans (hT b hb hn).2.2⟩
  exact py_vret G0 hr hlk hw ⟨G_190, hX, hZ, hth, hT, ⟨q_154, fun z => nq_162 q_154 z (Ne.symm ne_163) rfl, (fo_eq h_187).1, (fo_eq h_187).2.1, by rw [(fo_eq h_187).2.2.1, (va_eq hV_176).1]; exact hlv.1, by rw [(fo_eq h_187).2.2.2, (va_eq hV_176).2]; exact hlv.2⟩⟩ dX2_init_97

def w_X1_init : List Cond := .code yX1_init cX1_init 1 none :: ([Cond.methodLink RX1 5 objectInit, Cond.instanceMethod objectInit, Cond.code objectInit ⟨#[0xb1]⟩ 1 none, Cond.arrayClass .int, Cond.fieldLink RX1 13 "HeadYear$Diary" "level" "[I", Cond.fieldLink RX1 17 "HeadYear$Diary" "heads" "[I", Cond.fieldLink RX1 20 "HeadYear$Diary" "years" "I"] ++ (u_ws RX1 TX1 3 ++ ([])))
theorem in_X1_init_X1 : ∀ w ∈ u_ws RX1 TX1 3, w ∈ w_X1_init := fun _ h => List.mem_cons_of_mem _ (List.mem_append_right _ (List.mem_append_left _ h))
set_option maxHeartbeats 4000000 in
set_option maxRecDepth 100000 in
theorem c_X1_init (l : Launch) (E : py_E) (G : wf_G) (L : List Nat) (f : py_F) (sz : Nat) (h : Nat) (hZ : GZ E G L f) (hh : py_at L f h (.inr (1, [.null, .null, .int 0]))) (uh : G.1 h = 0) : Met l yX1_init w_X1_init ({ frames := 1, cells := 2, slots := 1200, locals := 12 }) (py_Pc E [.ref h] L f sz) (py_Qv E L f sz (fun L1 f1 => ∃ G1 : wf_G, GX G G1 ∧ GZ E G1 L1 f1 ∧ G1.1 h = 2 ∧ NTR L f G h L1 f1 G1)) 2 1200 (va_A (va_pl L f) sz) := by
  refine Met.ofW (cc := cX1_init) (maxL := 1) (ret := none) (by decide) rfl ?_
  intro p e s m args below meth c s₁ B hml hv
  obtain ⟨rfl, rfl, hw⟩ := py_start hv
  have G0 : CallFix p m c cX1_init 1 s _ w_X1_init RX1 := ⟨B.exec, B.bytes, hml, findClass_of_methodNamed B.named, atoms_spec (ws := w_X1_init) B.pre⟩
  have hr := B.returns
  have hlk := B.notSynchronized
  have hin : meth.name = "<init>" := (name_of_methodNamed B.named B.method).1
  have hl := lv_entry ([.ref h]) (n := 1) (Nat.le_of_ble_eq_true rfl)
  rw [lg_entry_eq]
  generalize (lg_sl ([.ref h]) ++ List.replicate (1 - (lg_sl ([.ref h])).length) Slot.unset).toArray = ls at hl ⊢
  have hl : lv_has ls 1 [(0, .ref h)] := hl
  have hT : NTR L f G h L f G := NTR.refl
  have hX : GX G G := GX.refl
  refine lv_aload_n G0.1 G0.2.1 dX1_init_0 rfl (lv_at hl 0 rfl) ?_
  refine py_objInit G0 hl.1 (by decide +kernel) (by decide +kernel) (by decide +kernel) dX1_init_1 (Nat.le_of_ble_eq_true rfl) (Nat.le_of_ble_eq_true rfl) ?_
  refine lv_aload_n G0.1 G0.2.1 dX1_init_4 rfl (lv_at hl 0 rfl) ?_
  refine lv_sipush (v := 600) G0.1 G0.2.1 dX1_init_5 (by decide) ?_
  refine py_newI (N := 600) G0 hw (by decide +kernel) (by decide) (by decide) (Nat.le_of_ble_eq_true rfl) (Nat.le_of_ble_eq_true rfl) (Nat.le_of_ble_eq_true rfl) dX1_init_8 (fun q_1 L_2 f_3 H_4 hq_5 h_6 x_7 hw => ?_)
  have u_8 := hZ.un hq_5
  have nq_9 := hT.ne hq_5
  have ne_10 : h ≠ q_1 := py_ne_new hh hq_5
  have hh := hh.all x_7
  have hZ := hZ.all x_7
  have hT := hT.all x_7
  obtain ⟨G_13, gx_11, hZ, ty_12, ee_13⟩ := hZ.arr (c := 31) (n := 600) (lo := (-2147483648)) (hi := 2147483647) u_8 (by decide) (by decide) h_6 (fun _ _ => rfl) (fun _ => rfl) (by decide) (by decide)
  have hX := hX.trans gx_11
  have uh := (ee_13 h ne_10).trans uh
  have hT := hT.ty ee_13 nq_9
  refine py_putF (C := RX1) (T := TX1) (N := 3) (k := 0) (v := .ref q_1) (fs' := [.ref q_1, .null, .int 0]) (ty0 := tyX1) G0 hin hw tyX1_ok nmX1 in_X1_init_X1 rfl hh (by decide) (by decide +kernel) rfl rfl rfl rfl rfl (Nat.le_of_ble_eq_true rfl) rfl dX1_init_10 (fun f_14 H_15 locs h_16 x_17 hw => ?_)
  have hZ := hZ.unt uh x_17
  have hT := hT.ext x_17
  refine lv_aload_n G0.1 G0.2.1 dX1_init_13 rfl (lv_at hl 0 rfl) ?_
  refine lv_sipush (v := 600) G0.1 G0.2.1 dX1_init_14 (by decide) ?_
  refine py_newI (N := 600) G0 hw (by decide +kernel) (by decide) (by decide) (Nat.le_of_ble_eq_true rfl) (Nat.le_of_ble_eq_true rfl) (Nat.le_of_ble_eq_true rfl) dX1_init_17 (fun q_18 L_19 f_20 H_21 hq_22 h_23 x_24 hw => ?_)
  have u_25 := hZ.un hq_22
  have nq_26 := hT.ne hq_22
  have ne_27 : h ≠ q_18 := py_ne_new h_16 hq_22
  have h_16 := h_16.all x_24
  have hZ := hZ.all x_24
  have hT := hT.all x_24
  obtain ⟨G_30, gx_28, hZ, ty_29, ee_30⟩ := hZ.arr (c := 31) (n := 600) (lo := (-2147483648)) (hi := 2147483647) u_25 (by decide) (by decide) h_23 (fun _ _ => rfl) (fun _ => rfl) (by decide) (by decide)
  have ty_12 := gx_28.ty ty_12 (by decide)
  have hX := hX.trans gx_28
  have uh := (ee_30 h ne_27).trans uh
  have hT := hT.ty ee_30 nq_26
  refine py_putF (C := RX1) (T := TX1) (N := 3) (k := 1) (v := .ref q_18) (fs' := [.ref q_1, .ref q_18, .int 0]) (ty0 := tyX1) G0 hin hw tyX1_ok nmX1 in_X1_init_X1 rfl h_16 (by decide) (by decide +kernel) rfl rfl rfl rfl rfl (Nat.le_of_ble_eq_true rfl) rfl dX1_init_19 (fun f_31 H_32 locs h_33 x_34 hw => ?_)
  have hZ := hZ.unt uh x_34
  have hT := hT.ext x_34
  refine lv_aload_n G0.1 G0.2.1 dX1_init_22 rfl (lv_at hl 0 rfl) ?_
  refine lv_iconst (v := 0) G0.1 G0.2.1 dX1_init_23 (by decide) ?_
  refine py_put (C := RX1) (T := TX1) (N := 3) (k := 2) (v := .int 0) (fs' := [.ref q_1, .ref q_18, .int 0]) (ty0 := tyX1) G0 hw tyX1_ok nmX1 in_X1_init_X1 rfl h_33 (by decide) (by decide +kernel) rfl rfl rfl rfl (Nat.le_of_ble_eq_true rfl) rfl dX1_init_24 (fun f_35 H_36 locs h_37 x_38 hw => ?_)
  have hZ := hZ.unt uh x_38
  have hT := hT.ext x_38
  obtain ⟨G_40, gx_39, hZ, hth, hrr, ee_40⟩ := hZ.ty (c := 2) (r := (fun j => match j with | 0 => q_1 | 1 => q_18 | _ => 0)) uh (by decide) h_37.1 (fun G1 gg e1 hr => ⟨0, by rw [hr 0, hr 1]; exact h_37.2, ⟨by decide, by decide⟩⟩) (fun G1 gg e1 hr => ⟨by rw [hr 0]; exact gg.ty ty_12 (by decide), by rw [hr 1]; exact gg.ty ty_29 (by decide)⟩) (fun e => absurd e (by decide))
  have ty_12 := gx_39.ty ty_12 (by decide)
  have ty_29 := gx_39.ty ty_29 (by decide)
  have hX := hX.trans gx_39
  have hT : NTR L f G h _ _ G_40 := fun b hb hn => ⟨(hT b hb hn).1, (hT b hb hn).2.1, (ee_40 b hn).trans (hT b hb hn).2.2⟩
  exact py_vret G0 hr hlk hw ⟨G_40, hX, hZ, hth, hT⟩ dX1_init_27

def w_X0_init : List Cond := .code yX0_init cX0_init 1 none :: ([Cond.methodLink RX0 1 objectInit, Cond.instanceMethod objectInit, Cond.code objectInit ⟨#[0xb1]⟩ 1 none, Cond.arrayClass .int, Cond.fieldLink RX0 9 "HeadYear$Buyings" "family" "[I", Cond.fieldLink RX0 13 "HeadYear$Buyings" "levels" "[I", Cond.fieldLink RX0 16 "HeadYear$Buyings" "cost" "[I", Cond.fieldLink RX0 19 "HeadYear$Buyings" "count" "I", Cond.fieldLink RX0 23 "HeadYear$Buyings" "price" "I"] ++ (u_ws RX0 TX0 5 ++ ([])))
theorem in_X0_init_X0 : ∀ w ∈ u_ws RX0 TX0 5, w ∈ w_X0_init := fun _ h => List.mem_cons_of_mem _ (List.mem_append_right _ (List.mem_append_left _ h))
set_option maxHeartbeats 4000000 in
set_option maxRecDepth 100000 in
theorem c_X0_init (l : Launch) (E : py_E) (G : wf_G) (L : List Nat) (f : py_F) (sz : Nat) (h : Nat) (hZ : GZ E G L f) (hh : py_at L f h (.inr (0, [.null, .null, .null, .int 0, .int 0]))) (uh : G.1 h = 0) : Met l yX0_init w_X0_init ({ frames := 1, cells := 3, slots := 120, locals := 12 }) (py_Pc E [.ref h] L f sz) (py_Qv E L f sz (fun L1 f1 => ∃ G1 : wf_G, GX G G1 ∧ GZ E G1 L1 f1 ∧ G1.1 h = 1 ∧ NTR L f G h L1 f1 G1)) 3 120 (va_A (va_pl L f) sz) := by
  refine Met.ofW (cc := cX0_init) (maxL := 1) (ret := none) (by decide) rfl ?_
  intro p e s m args below meth c s₁ B hml hv
  obtain ⟨rfl, rfl, hw⟩ := py_start hv
  have G0 : CallFix p m c cX0_init 1 s _ w_X0_init RX0 := ⟨B.exec, B.bytes, hml, findClass_of_methodNamed B.named, atoms_spec (ws := w_X0_init) B.pre⟩
  have hr := B.returns
  have hlk := B.notSynchronized
  have hin : meth.name = "<init>" := (name_of_methodNamed B.named B.method).1
  have hl := lv_entry ([.ref h]) (n := 1) (Nat.le_of_ble_eq_true rfl)
  rw [lg_entry_eq]
  generalize (lg_sl ([.ref h]) ++ List.replicate (1 - (lg_sl ([.ref h])).length) Slot.unset).toArray = ls at hl ⊢
  have hl : lv_has ls 1 [(0, .ref h)] := hl
  have hT : NTR L f G h L f G := NTR.refl
  have hX : GX G G := GX.refl
  refine lv_aload_n G0.1 G0.2.1 dX0_init_0 rfl (lv_at hl 0 rfl) ?_
  refine py_objInit G0 hl.1 (by decide +kernel) (by decide +kernel) (by decide +kernel) dX0_init_1 (Nat.le_of_ble_eq_true rfl) (Nat.le_of_ble_eq_true rfl) ?_
  refine lv_aload_n G0.1 G0.2.1 dX0_init_4 rfl (lv_at hl 0 rfl) ?_
  refine lv_bipush (v := 40) G0.1 G0.2.1 dX0_init_5 (by decide) ?_
  refine py_newI (N := 40) G0 hw (by decide +kernel) (by decide) (by decide) (Nat.le_of_ble_eq_true rfl) (Nat.le_of_ble_eq_true rfl) (Nat.le_of_ble_eq_true rfl) dX0_init_7 (fun q_1 L_2 f_3 H_4 hq_5 h_6 x_7 hw => ?_)
  have u_8 := hZ.un hq_5
  have nq_9 := hT.ne hq_5
  have ne_10 : h ≠ q_1 := py_ne_new hh hq_5
  have hh := hh.all x_7
  have hZ := hZ.all x_7
  have hT := hT.all x_7
  obtain ⟨G_13, gx_11, hZ, ty_12, ee_13⟩ := hZ.arr (c := 28) (n := 40) (lo := 0) (hi := 9) u_8 (by decide) (by decide) h_6 (fun _ _ => rfl) (fun _ => rfl) (by decide) (by decide)
  have hX := hX.trans gx_11
  have uh := (ee_13 h ne_10).trans uh
  have hT := hT.ty ee_13 nq_9
  refine py_putF (C := RX0) (T := TX0) (N := 5) (k := 0) (v := .ref q_1) (fs' := [.ref q_1, .null, .null, .int 0, .int 0]) (ty0 := tyX0) G0 hin hw tyX0_ok nmX0 in_X0_init_X0 rfl hh (by decide) (by decide +kernel) rfl rfl rfl rfl rfl (Nat.le_of_ble_eq_true rfl) rfl dX0_init_9 (fun f_14 H_15 locs h_16 x_17 hw => ?_)
  have hZ := hZ.unt uh x_17
  have hT := hT.ext x_17
  refine lv_aload_n G0.1 G0.2.1 dX0_init_12 rfl (lv_at hl 0 rfl) ?_
  refine lv_bipush (v := 40) G0.1 G0.2.1 dX0_init_13 (by decide) ?_
  refine py_newI (N := 40) G0 hw (by decide +kernel) (by decide) (by decide) (Nat.le_of_ble_eq_true rfl) (Nat.le_of_ble_eq_true rfl) (Nat.le_of_ble_eq_true rfl) dX0_init_15 (fun q_18 L_19 f_20 H_21 hq_22 h_23 x_24 hw => ?_)
  have u_25 := hZ.un hq_22
  have nq_26 := hT.ne hq_22
  have ne_27 : h ≠ q_18 := py_ne_new h_16 hq_22
  have h_16 := h_16.all x_24
  have hZ := hZ.all x_24
  have hT := hT.all x_24
  obtain ⟨G_30, gx_28, hZ, ty_29, ee_30⟩ := hZ.arr (c := 29) (n := 40) (lo := (-2147483648)) (hi := 2147483647) u_25 (by decide) (by decide) h_23 (fun _ _ => rfl) (fun _ => rfl) (by decide) (by decide)
  have ty_12 := gx_28.ty ty_12 (by decide)
  have hX := hX.trans gx_28
  have uh := (ee_30 h ne_27).trans uh
  have hT := hT.ty ee_30 nq_26
  refine py_putF (C := RX0) (T := TX0) (N := 5) (k := 1) (v := .ref q_18) (fs' := [.ref q_1, .ref q_18, .null, .int 0, .int 0]) (ty0 := tyX0) G0 hin hw tyX0_ok nmX0 in_X0_init_X0 rfl h_16 (by decide) (by decide +kernel) rfl rfl rfl rfl rfl (Nat.le_of_ble_eq_true rfl) rfl dX0_init_17 (fun f_31 H_32 locs h_33 x_34 hw => ?_)
  have hZ := hZ.unt uh x_34
  have hT := hT.ext x_34
  refine lv_aload_n G0.1 G0.2.1 dX0_init_20 rfl (lv_at hl 0 rfl) ?_
  refine lv_bipush (v := 40) G0.1 G0.2.1 dX0_init_21 (by decide) ?_
  refine py_newI (N := 40) G0 hw (by decide +kernel) (by decide) (by decide) (Nat.le_of_ble_eq_true rfl) (Nat.le_of_ble_eq_true rfl) (Nat.le_of_ble_eq_true rfl) dX0_init_23 (fun q_35 L_36 f_37 H_38 hq_39 h_40 x_41 hw => ?_)
  have u_42 := hZ.un hq_39
  have nq_43 := hT.ne hq_39
  have ne_44 : h ≠ q_35 := py_ne_new h_33 hq_39
  have h_33 := h_33.all x_41
  have hZ := hZ.all x_41
  have hT := hT.all x_41
  obtain ⟨G_47, gx_45, hZ, ty_46, ee_47⟩ := hZ.arr (c := 29) (n := 40) (lo := (-2147483648)) (hi := 2147483647) u_42 (by decide) (by decide) h_40 (fun _ _ => rfl) (fun _ => rfl) (by decide) (by decide)
  have ty_12 := gx_45.ty ty_12 (by decide)
  have ty_29 := gx_45.ty ty_29 (by decide)
  have hX := hX.trans gx_45
  have uh := (ee_47 h ne_44).trans uh
  have hT := hT.ty ee_47 nq_43
  refine py_putF (C := RX0) (T := TX0) (N := 5) (k := 2) (v := .ref q_35) (fs' := [.ref q_1, .ref q_18, .ref q_35, .int 0, .int 0]) (ty0 := tyX0) G0 hin hw tyX0_ok nmX0 in_X0_init_X0 rfl h_33 (by decide) (by decide +kernel) rfl rfl rfl rfl rfl (Nat.le_of_ble_eq_true rfl) rfl dX0_init_25 (fun f_48 H_49 locs h_50 x_51 hw => ?_)
  have hZ := hZ.unt uh x_51
  have hT := hT.ext x_51
  refine lv_aload_n G0.1 G0.2.1 dX0_init_28 rfl (lv_at hl 0 rfl) ?_
  refine lv_iconst (v := 0) G0.1 G0.2.1 dX0_init_29 (by decide) ?_
  refine py_put (C := RX0) (T := TX0) (N := 5) (k := 3) (v := .int 0) (fs' := [.ref q_1, .ref q_18, .ref q_35, .int 0, .int 0]) (ty0 := tyX0) G0 hw tyX0_ok nmX0 in_X0_init_X0 rfl h_50 (by decide) (by decide +kernel) rfl rfl rfl rfl (Nat.le_of_ble_eq_true rfl) rfl dX0_init_30 (fun f_52 H_53 locs h_54 x_55 hw => ?_)
  have hZ := hZ.unt uh x_55
  have hT := hT.ext x_55
  refine lv_aload_n G0.1 G0.2.1 dX0_init_33 rfl (lv_at hl 0 rfl) ?_
  refine lv_bipush (v := 10) G0.1 G0.2.1 dX0_init_34 (by decide) ?_
  refine py_put (C := RX0) (T := TX0) (N := 5) (k := 4) (v := .int 10) (fs' := [.ref q_1, .ref q_18, .ref q_35, .int 0, .int 10]) (ty0 := tyX0) G0 hw tyX0_ok nmX0 in_X0_init_X0 rfl h_54 (by decide) (by decide +kernel) rfl rfl rfl rfl (Nat.le_of_ble_eq_true rfl) rfl dX0_init_36 (fun f_56 H_57 locs h_58 x_59 hw => ?_)
  have hZ := hZ.unt uh x_59
  have hT := hT.ext x_59
  obtain ⟨G_61, gx_60, hZ, hth, hrr, ee_61⟩ := hZ.ty (c := 1) (r := (fun j => match j with | 0 => q_1 | 1 => q_18 | 2 => q_35 | _ => 0)) uh (by decide) h_58.1 (fun G1 gg e1 hr => ⟨0, 10, by rw [hr 0, hr 1, hr 2]; exact h_58.2, ⟨by decide, by decide⟩, ⟨by decide, by decide⟩⟩) (fun G1 gg e1 hr => ⟨by rw [hr 0]; exact gg.ty ty_12 (by decide), by rw [hr 1]; exact gg.ty ty_29 (by decide), by rw [hr 2]; exact gg.ty ty_46 (by decide)⟩) (fun e => absurd e (by decide))
  have ty_12 := gx_60.ty ty_12 (by decide)
  have ty_29 := gx_60.ty ty_29 (by decide)
  have ty_46 := gx_60.ty ty_46 (by decide)
  have hX := hX.trans gx_60
  have hT : NTR L f G h _ _ G_61 := fun b hb hn => ⟨(hT b hb hn).1, (hT b hb hn).2.1, (ee_61 b hn).trans (hT b hb hn).2.2⟩
  exact py_vret G0 hr hlk hw ⟨G_61, hX, hZ, hth, hT⟩ dX0_init_39

def w_X7_init : List Cond := .code yX7_init cX7_init 1 none :: ([Cond.methodLink RX7 3 objectInit, Cond.instanceMethod objectInit, Cond.code objectInit ⟨#[0xb1]⟩ 1 none, Cond.arrayClass .int, Cond.fieldLink RX7 11 "HeadYear$Seasons" "lacks" "[I", Cond.fieldLink RX7 19 "HeadYear$Seasons" "letters" "[I", Cond.fieldLink RX7 22 "HeadYear$Seasons" "ring" "[I", Cond.fieldLink RX7 25 "HeadYear$Seasons" "find" "I", Cond.fieldLink RX7 29 "HeadYear$Seasons" "luck" "Z"] ++ (u_ws RX7 TX7 5 ++ ([])))
theorem in_X7_init_X7 : ∀ w ∈ u_ws RX7 TX7 5, w ∈ w_X7_init := fun _ h => List.mem_cons_of_mem _ (List.mem_append_right _ (List.mem_append_left _ h))
set_option maxHeartbeats 4000000 in
set_option maxRecDepth 100000 in
theorem c_X7_init (l : Launch) (E : py_E) (G : wf_G) (L : List Nat) (f : py_F) (sz : Nat) (h : Nat) (hZ : GZ E G L f) (hh : py_at L f h (.inr (7, [.null, .null, .null, .int 0, .int 0]))) (uh : G.1 h = 0) : Met l yX7_init w_X7_init ({ frames := 1, cells := 3, slots := 24, locals := 12 }) (py_Pc E [.ref h] L f sz) (py_Qv E L f sz (fun L1 f1 => ∃ G1 : wf_G, GX G G1 ∧ GZ E G1 L1 f1 ∧ G1.1 h = 8 ∧ NTR L f G h L1 f1 G1)) 3 24 (va_A (va_pl L f) sz) := by
  refine Met.ofW (cc := cX7_init) (maxL := 1) (ret := none) (by decide) rfl ?_
  intro p e s m args below meth c s₁ B hml hv
  obtain ⟨rfl, rfl, hw⟩ := py_start hv
  have G0 : CallFix p m c cX7_init 1 s _ w_X7_init RX7 := ⟨B.exec, B.bytes, hml, findClass_of_methodNamed B.named, atoms_spec (ws := w_X7_init) B.pre⟩
  have hr := B.returns
  have hlk := B.notSynchronized
  have hin : meth.name = "<init>" := (name_of_methodNamed B.named B.method).1
  have hl := lv_entry ([.ref h]) (n := 1) (Nat.le_of_ble_eq_true rfl)
  rw [lg_entry_eq]
  generalize (lg_sl ([.ref h]) ++ List.replicate (1 - (lg_sl ([.ref h])).length) Slot.unset).toArray = ls at hl ⊢
  have hl : lv_has ls 1 [(0, .ref h)] := hl
  have hT : NTR L f G h L f G := NTR.refl
  have hX : GX G G := GX.refl
  refine lv_aload_n G0.1 G0.2.1 dX7_init_0 rfl (lv_at hl 0 rfl) ?_
  refine py_objInit G0 hl.1 (by decide +kernel) (by decide +kernel) (by decide +kernel) dX7_init_1 (Nat.le_of_ble_eq_true rfl) (Nat.le_of_ble_eq_true rfl) ?_
  refine lv_aload_n G0.1 G0.2.1 dX7_init_4 rfl (lv_at hl 0 rfl) ?_
  refine lv_bipush (v := 8) G0.1 G0.2.1 dX7_init_5 (by decide) ?_
  refine py_newI (N := 8) G0 hw (by decide +kernel) (by decide) (by decide) (Nat.le_of_ble_eq_true rfl) (Nat.le_of_ble_eq_true rfl) (Nat.le_of_ble_eq_true rfl) dX7_init_7 (fun q_1 L_2 f_3 H_4 hq_5 h_6 x_7 hw => ?_)
  have u_8 := hZ.un hq_5
  have nq_9 := hT.ne hq_5
  have ne_10 : h ≠ q_1 := py_ne_new hh hq_5
  have hh := hh.all x_7
  have hZ := hZ.all x_7
  have hT := hT.all x_7
  obtain ⟨G_13, gx_11, hZ, ty_12, ee_13⟩ := hZ.arr (c := 24) (n := 8) (lo := (-2147483648)) (hi := 2147483647) u_8 (by decide) (by decide) h_6 (fun _ _ => rfl) (fun _ => rfl) (by decide) (by decide)
  have hX := hX.trans gx_11
  have uh := (ee_13 h ne_10).trans uh
  have hT := hT.ty ee_13 nq_9
  refine py_putF (C := RX7) (T := TX7) (N := 5) (k := 0) (v := .ref q_1) (fs' := [.ref q_1, .null, .null, .int 0, .int 0]) (ty0 := tyX7) G0 hin hw tyX7_ok nmX7 in_X7_init_X7 rfl hh (by decide) (by decide +kernel) rfl rfl rfl rfl rfl (Nat.le_of_ble_eq_true rfl) rfl dX7_init_9 (fun f_14 H_15 locs h_16 x_17 hw => ?_)
  have hZ := hZ.unt uh x_17
  have hT := hT.ext x_17
  refine lv_aload_n G0.1 G0.2.1 dX7_init_12 rfl (lv_at hl 0 rfl) ?_
  refine lv_bipush (v := 6) G0.1 G0.2.1 dX7_init_13 (by decide) ?_
  refine py_newI (N := 6) G0 hw (by decide +kernel) (by decide) (by decide) (Nat.le_of_ble_eq_true rfl) (Nat.le_of_ble_eq_true rfl) (Nat.le_of_ble_eq_true rfl) dX7_init_15 (fun q_18 L_19 f_20 H_21 hq_22 h_23 x_24 hw => ?_)
  have u_25 := hZ.un hq_22
  have nq_26 := hT.ne hq_22
  have ne_27 : h ≠ q_18 := py_ne_new h_16 hq_22
  have h_16 := h_16.all x_24
  have hZ := hZ.all x_24
  have hT := hT.all x_24
  obtain ⟨G_30, gx_28, hZ, ty_29, ee_30⟩ := hZ.arr (c := 32) (n := 6) (lo := (-2147483648)) (hi := 2147483647) u_25 (by decide) (by decide) h_23 (fun _ _ => rfl) (fun _ => rfl) (by decide) (by decide)
  have ty_12 := gx_28.ty ty_12 (by decide)
  have hX := hX.trans gx_28
  have uh := (ee_30 h ne_27).trans uh
  have hT := hT.ty ee_30 nq_26
  refine py_putF (C := RX7) (T := TX7) (N := 5) (k := 1) (v := .ref q_18) (fs' := [.ref q_1, .ref q_18, .null, .int 0, .int 0]) (ty0 := tyX7) G0 hin hw tyX7_ok nmX7 in_X7_init_X7 rfl h_16 (by decide) (by decide +kernel) rfl rfl rfl rfl rfl (Nat.le_of_ble_eq_true rfl) rfl dX7_init_17 (fun f_31 H_32 locs h_33 x_34 hw => ?_)
  have hZ := hZ.unt uh x_34
  have hT := hT.ext x_34
  refine lv_aload_n G0.1 G0.2.1 dX7_init_20 rfl (lv_at hl 0 rfl) ?_
  refine lv_bipush (v := 10) G0.1 G0.2.1 dX7_init_21 (by decide) ?_
  refine py_newI (N := 10) G0 hw (by decide +kernel) (by decide) (by decide) (Nat.le_of_ble_eq_true rfl) (Nat.le_of_ble_eq_true rfl) (Nat.le_of_ble_eq_true rfl) dX7_init_23 (fun q_35 L_36 f_37 H_38 hq_39 h_40 x_41 hw => ?_)
  have u_42 := hZ.un hq_39
  have nq_43 := hT.ne hq_39
  have ne_44 : h ≠ q_35 := py_ne_new h_33 hq_39
  have h_33 := h_33.all x_41
  have hZ := hZ.all x_41
  have hT := hT.all x_41
  obtain ⟨G_47, gx_45, hZ, ty_46, ee_47⟩ := hZ.arr (c := 33) (n := 10) (lo := 0) (hi := 9) u_42 (by decide) (by decide) h_40 (fun _ _ => rfl) (fun _ => rfl) (by decide) (by decide)
  have ty_12 := gx_45.ty ty_12 (by decide)
  have ty_29 := gx_45.ty ty_29 (by decide)
  have hX := hX.trans gx_45
  have uh := (ee_47 h ne_44).trans uh
  have hT := hT.ty ee_47 nq_43
  refine py_putF (C := RX7) (T := TX7) (N := 5) (k := 2) (v := .ref q_35) (fs' := [.ref q_1, .ref q_18, .ref q_35, .int 0, .int 0]) (ty0 := tyX7) G0 hin hw tyX7_ok nmX7 in_X7_init_X7 rfl h_33 (by decide) (by decide +kernel) rfl rfl rfl rfl rfl (Nat.le_of_ble_eq_true rfl) rfl dX7_init_25 (fun f_48 H_49 locs h_50 x_51 hw => ?_)
  have hZ := hZ.unt uh x_51
  have hT := hT.ext x_51
  refine lv_aload_n G0.1 G0.2.1 dX7_init_28 rfl (lv_at hl 0 rfl) ?_
  refine lv_bipush (v := 50) G0.1 G0.2.1 dX7_init_29 (by decide) ?_
  refine py_put (C := RX7) (T := TX7) (N := 5) (k := 3) (v := .int 50) (fs' := [.ref q_1, .ref q_18, .ref q_35, .int 50, .int 0]) (ty0 := tyX7) G0 hw tyX7_ok nmX7 in_X7_init_X7 rfl h_50 (by decide) (by decide +kernel) rfl rfl rfl rfl (Nat.le_of_ble_eq_true rfl) rfl dX7_init_31 (fun f_52 H_53 locs h_54 x_55 hw => ?_)
  have hZ := hZ.unt uh x_55
  have hT := hT.ext x_55
  refine lv_aload_n G0.1 G0.2.1 dX7_init_34 rfl (lv_at hl 0 rfl) ?_
  refine lv_iconst (v := 0) G0.1 G0.2.1 dX7_init_35 (by decide) ?_
  refine py_put (C := RX7) (T := TX7) (N := 5) (k := 4) (v := .int 0) (fs' := [.ref q_1, .ref q_18, .ref q_35, .int 50, .int 0]) (ty0 := tyX7) G0 hw tyX7_ok nmX7 in_X7_init_X7 rfl h_54 (by decide) (by decide +kernel) rfl rfl rfl rfl (Nat.le_of_ble_eq_true rfl) rfl dX7_init_36 (fun f_56 H_57 locs h_58 x_59 hw => ?_)
  have hZ := hZ.unt uh x_59
  have hT := hT.ext x_59
  obtain ⟨G_61, gx_60, hZ, hth, hrr, ee_61⟩ := hZ.ty (c := 8) (r := (fun j => match j with | 0 => q_1 | 1 => q_18 | 2 => q_35 | _ => 0)) uh (by decide) h_58.1 (fun G1 gg e1 hr => ⟨50, 0, by rw [hr 0, hr 1, hr 2]; exact h_58.2, ⟨by decide, by decide⟩⟩) (fun G1 gg e1 hr => ⟨by rw [hr 0]; exact gg.ty ty_12 (by decide), by rw [hr 1]; exact gg.ty ty_29 (by decide), by rw [hr 2]; exact gg.ty ty_46 (by decide)⟩) (fun e => absurd e (by decide))
  have ty_12 := gx_60.ty ty_12 (by decide)
  have ty_29 := gx_60.ty ty_29 (by decide)
  have ty_46 := gx_60.ty ty_46 (by decide)
  have hX := hX.trans gx_60
  have hT : NTR L f G h _ _ G_61 := fun b hb hn => ⟨(hT b hb hn).1, (hT b hb hn).2.1, (ee_61 b hn).trans (hT b hb hn).2.2⟩
  exact py_vret G0 hr hlk hw ⟨G_61, hX, hZ, hth, hT⟩ dX7_init_39

def w_X5_init : List Cond := .code yX5_init cX5_init 1 none :: ([Cond.methodLink RX5 3 objectInit, Cond.instanceMethod objectInit, Cond.code objectInit ⟨#[0xb1]⟩ 1 none, Cond.arrayClass .int, Cond.fieldLink RX5 11 "HeadYear$Moves" "there" "[I"] ++ (u_ws RX5 TX5 1 ++ ([])))
theorem in_X5_init_X5 : ∀ w ∈ u_ws RX5 TX5 1, w ∈ w_X5_init := fun _ h => List.mem_cons_of_mem _ (List.mem_append_right _ (List.mem_append_left _ h))
set_option maxHeartbeats 4000000 in
set_option maxRecDepth 100000 in
theorem c_X5_init (l : Launch) (E : py_E) (G : wf_G) (L : List Nat) (f : py_F) (sz : Nat) (h : Nat) (hZ : GZ E G L f) (hh : py_at L f h (.inr (5, [.null]))) (uh : G.1 h = 0) : Met l yX5_init w_X5_init ({ frames := 1, cells := 1, slots := 8, locals := 12 }) (py_Pc E [.ref h] L f sz) (py_Qv E L f sz (fun L1 f1 => ∃ G1 : wf_G, GX G G1 ∧ GZ E G1 L1 f1 ∧ G1.1 h = 6 ∧ NTR L f G h L1 f1 G1)) 1 8 (va_A (va_pl L f) sz) := by
  refine Met.ofW (cc := cX5_init) (maxL := 1) (ret := none) (by decide) rfl ?_
  intro p e s m args below meth c s₁ B hml hv
  obtain ⟨rfl, rfl, hw⟩ := py_start hv
  have G0 : CallFix p m c cX5_init 1 s _ w_X5_init RX5 := ⟨B.exec, B.bytes, hml, findClass_of_methodNamed B.named, atoms_spec (ws := w_X5_init) B.pre⟩
  have hr := B.returns
  have hlk := B.notSynchronized
  have hin : meth.name = "<init>" := (name_of_methodNamed B.named B.method).1
  have hl := lv_entry ([.ref h]) (n := 1) (Nat.le_of_ble_eq_true rfl)
  rw [lg_entry_eq]
  generalize (lg_sl ([.ref h]) ++ List.replicate (1 - (lg_sl ([.ref h])).length) Slot.unset).toArray = ls at hl ⊢
  have hl : lv_has ls 1 [(0, .ref h)] := hl
  have hT : NTR L f G h L f G := NTR.refl
  have hX : GX G G := GX.refl
  refine lv_aload_n G0.1 G0.2.1 dX5_init_0 rfl (lv_at hl 0 rfl) ?_
  refine py_objInit G0 hl.1 (by decide +kernel) (by decide +kernel) (by decide +kernel) dX5_init_1 (Nat.le_of_ble_eq_true rfl) (Nat.le_of_ble_eq_true rfl) ?_
  refine lv_aload_n G0.1 G0.2.1 dX5_init_4 rfl (lv_at hl 0 rfl) ?_
  refine lv_bipush (v := 8) G0.1 G0.2.1 dX5_init_5 (by decide) ?_
  refine py_newI (N := 8) G0 hw (by decide +kernel) (by decide) (by decide) (Nat.le_of_ble_eq_true rfl) (Nat.le_of_ble_eq_true rfl) (Nat.le_of_ble_eq_true rfl) dX5_init_7 (fun q_1 L_2 f_3 H_4 hq_5 h_6 x_7 hw => ?_)
  have u_8 := hZ.un hq_5
  have nq_9 := hT.ne hq_5
  have ne_10 : h ≠ q_1 := py_ne_new hh hq_5
  have hh := hh.all x_7
  have hZ := hZ.all x_7
  have hT := hT.all x_7
  obtain ⟨G_13, gx_11, hZ, ty_12, ee_13⟩ := hZ.arr (c := 24) (n := 8) (lo := (-2147483648)) (hi := 2147483647) u_8 (by decide) (by decide) h_6 (fun _ _ => rfl) (fun _ => rfl) (by decide) (by decide)
  have hX := hX.trans gx_11
  have uh := (ee_13 h ne_10).trans uh
  have hT := hT.ty ee_13 nq_9
  refine py_putF (C := RX5) (T := TX5) (N := 1) (k := 0) (v := .ref q_1) (fs' := [.ref q_1]) (ty0 := tyX5) G0 hin hw tyX5_ok nmX5 in_X5_init_X5 rfl hh (by decide) (by decide +kernel) rfl rfl rfl rfl rfl (Nat.le_of_ble_eq_true rfl) rfl dX5_init_9 (fun f_14 H_15 locs h_16 x_17 hw => ?_)
  have hZ := hZ.unt uh x_17
  have hT := hT.ext x_17
  obtain ⟨G_19, gx_18, hZ, hth, hrr, ee_19⟩ := hZ.ty (c := 6) (r := (fun j => match j with | 0 => q_1 | _ => 0)) uh (by decide) h_16.1 (fun G1 gg e1 hr => (show f_14 h = .inr (5, [.ref (G1.2 h 0)]) from by rw [hr 0]; exact h_16.2)) (fun G1 gg e1 hr => (show G1.1 (G1.2 h 0) = 24 from by rw [hr 0]; exact gg.ty ty_12 (by decide))) (fun e => absurd e (by decide))
  have ty_12 := gx_18.ty ty_12 (by decide)
  have hX := hX.trans gx_18
  have hT : NTR L f G h _ _ G_19 := fun b hb hn => ⟨(hT b hb hn).1, (hT b hb hn).2.1, (ee_19 b hn).trans (hT b hb hn).2.2⟩
  exact py_vret G0 hr hlk hw ⟨G_19, hX, hZ, hth, hT⟩ dX5_init_12

def w_X6_init : List Cond := .code yX6_init cX6_init 3 none :: ([Cond.methodLink RX6 3 objectInit, Cond.instanceMethod objectInit, Cond.code objectInit ⟨#[0xb1]⟩ 1 none, Cond.arrayClass .int, Cond.fieldLink RX6 11 "HeadYear$Odds" "letters" "[I", Cond.arrayClass .long, Cond.fieldLink RX6 17 "HeadYear$Odds" "dying" "[J", Cond.fieldLink RX6 23 "HeadYear$Odds" "parts" "[J", Cond.fieldLink RX6 26 "HeadYear$Odds" "after" "[J", Cond.fieldLink RX6 29 "HeadYear$Odds" "gone" "J", Cond.fieldLink RX6 33 "HeadYear$Odds" "folk" "LHeadYear$Folk;", Cond.fieldLink RX6 37 "HeadYear$Odds" "law" "LHeadYear$Law;"] ++ (u_ws RX6 TX6 7 ++ ([])))
theorem in_X6_init_X6 : ∀ w ∈ u_ws RX6 TX6 7, w ∈ w_X6_init := fun _ h => List.mem_cons_of_mem _ (List.mem_append_right _ (List.mem_append_left _ h))
set_option maxHeartbeats 4000000 in
set_option maxRecDepth 100000 in
theorem c_X6_init (l : Launch) (E : py_E) (G : wf_G) (L : List Nat) (f : py_F) (sz : Nat) (h : Nat) (fo : Nat) (nl : Nat) (hZ : GZ E G L f) (hh : py_at L f h (.inr (6, [.null, .null, .null, .null, .null, .null, .long 0]))) (uh : G.1 h = 0) (Tfo : G.1 fo = 3) (Tnl : G.1 nl = 4) : Met l yX6_init w_X6_init ({ frames := 1, cells := 4, slots := 364, locals := 12 }) (py_Pc E [.ref h, .ref fo, .ref nl] L f sz) (py_Qv E L f sz (fun L1 f1 => ∃ G1 : wf_G, GX G G1 ∧ GZ E G1 L1 f1 ∧ G1.1 h = 7 ∧ NTR L f G h L1 f1 G1 ∧ G1.2 h 2 = fo)) 4 364 (va_A (va_pl L f) sz) := by
  refine Met.ofW (cc := cX6_init) (maxL := 3) (ret := none) (by decide) rfl ?_
  intro p e s m args below meth c s₁ B hml hv
  obtain ⟨rfl, rfl, hw⟩ := py_start hv
  have G0 : CallFix p m c cX6_init 3 s _ w_X6_init RX6 := ⟨B.exec, B.bytes, hml, findClass_of_methodNamed B.named, atoms_spec (ws := w_X6_init) B.pre⟩
  have hr := B.returns
  have hlk := B.notSynchronized
  have hin : meth.name = "<init>" := (name_of_methodNamed B.named B.method).1
  have hl := lv_entry ([.ref h, .ref fo, .ref nl]) (n := 3) (Nat.le_of_ble_eq_true rfl)
  rw [lg_entry_eq]
  generalize (lg_sl ([.ref h, .ref fo, .ref nl]) ++ List.replicate (3 - (lg_sl ([.ref h, .ref fo, .ref nl])).length) Slot.unset).toArray = ls at hl ⊢
  have hl : lv_has ls 3 [(0, .ref h), (1, .ref fo), (2, .ref nl)] := hl
  have hT : NTR L f G h L f G := NTR.refl
  have hX : GX G G := GX.refl
  refine lv_aload_n G0.1 G0.2.1 dX6_init_0 rfl (lv_at hl 0 rfl) ?_
  refine py_objInit G0 hl.1 (by decide +kernel) (by decide +kernel) (by decide +kernel) dX6_init_1 (Nat.le_of_ble_eq_true rfl) (Nat.le_of_ble_eq_true rfl) ?_
  refine lv_aload_n G0.1 G0.2.1 dX6_init_4 rfl (lv_at hl 0 rfl) ?_
  refine lv_bipush (v := 6) G0.1 G0.2.1 dX6_init_5 (by decide) ?_
  refine py_newI (N := 6) G0 hw (by decide +kernel) (by decide) (by decide) (Nat.le_of_ble_eq_true rfl) (Nat.le_of_ble_eq_true rfl) (Nat.le_of_ble_eq_true rfl) dX6_init_7 (fun q_1 L_2 f_3 H_4 hq_5 h_6 x_7 hw => ?_)
  have u_8 := hZ.un hq_5
  have nq_9 := hT.ne hq_5
  have ne_10 : h ≠ q_1 := py_ne_new hh hq_5
  have hh := hh.all x_7
  have hZ := hZ.all x_7
  have hT := hT.all x_7
  obtain ⟨G_13, gx_11, hZ, ty_12, ee_13⟩ := hZ.arr (c := 32) (n := 6) (lo := (-2147483648)) (hi := 2147483647) u_8 (by decide) (by decide) h_6 (fun _ _ => rfl) (fun _ => rfl) (by decide) (by decide)
  have Tfo := gx_11.ty Tfo (by decide)
  have Tnl := gx_11.ty Tnl (by decide)
  have hX := hX.trans gx_11
  have uh := (ee_13 h ne_10).trans uh
  have hT := hT.ty ee_13 nq_9
  refine py_putF (C := RX6) (T := TX6) (N := 7) (k := 0) (v := .ref q_1) (fs' := [.ref q_1, .null, .null, .null, .null, .null, .long 0]) (ty0 := tyX6) G0 hin hw tyX6_ok nmX6 in_X6_init_X6 rfl hh (by decide) (by decide +kernel) rfl rfl rfl rfl rfl (Nat.le_of_ble_eq_true rfl) rfl dX6_init_9 (fun f_14 H_15 locs h_16 x_17 hw => ?_)
  have hZ := hZ.unt uh x_17
  have hT := hT.ext x_17
  refine lv_aload_n G0.1 G0.2.1 dX6_init_12 rfl (lv_at hl 0 rfl) ?_
  refine lv_bipush (v := 22) G0.1 G0.2.1 dX6_init_13 (by decide) ?_
  refine py_newJ (N := 22) G0 hw (by decide +kernel) (by decide) (by decide) (Nat.le_of_ble_eq_true rfl) (Nat.le_of_ble_eq_true rfl) (Nat.le_of_ble_eq_true rfl) dX6_init_15 (fun q_18 L_19 f_20 H_21 hq_22 h_23 x_24 hw => ?_)
  have u_25 := hZ.un hq_22
  have nq_26 := hT.ne hq_22
  have ne_27 : h ≠ q_18 := py_ne_new h_16 hq_22
  have h_16 := h_16.all x_24
  have hZ := hZ.all x_24
  have hT := hT.all x_24
  obtain ⟨G_30, gx_28, hZ, ty_29, ee_30⟩ := hZ.arrK (c := 34) u_25 (by decide) (by decide) h_23 (fun _ => ⟨_, rfl⟩) (fun _ => rfl)
  have Tfo := gx_28.ty Tfo (by decide)
  have Tnl := gx_28.ty Tnl (by decide)
  have ty_12 := gx_28.ty ty_12 (by decide)
  have hX := hX.trans gx_28
  have uh := (ee_30 h ne_27).trans uh
  have hT := hT.ty ee_30 nq_26
  refine py_putF (C := RX6) (T := TX6) (N := 7) (k := 1) (v := .ref q_18) (fs' := [.ref q_1, .ref q_18, .null, .null, .null, .null, .long 0]) (ty0 := tyX6) G0 hin hw tyX6_ok nmX6 in_X6_init_X6 rfl h_16 (by decide) (by decide +kernel) rfl rfl rfl rfl rfl (Nat.le_of_ble_eq_true rfl) rfl dX6_init_17 (fun f_31 H_32 locs h_33 x_34 hw => ?_)
  have hZ := hZ.unt uh x_34
  have hT := hT.ext x_34
  refine lv_aload_n G0.1 G0.2.1 dX6_init_20 rfl (lv_at hl 0 rfl) ?_
  refine lv_sipush (v := 168) G0.1 G0.2.1 dX6_init_21 (by decide) ?_
  refine py_newJ (N := 168) G0 hw (by decide +kernel) (by decide) (by decide) (Nat.le_of_ble_eq_true rfl) (Nat.le_of_ble_eq_true rfl) (Nat.le_of_ble_eq_true rfl) dX6_init_24 (fun q_35 L_36 f_37 H_38 hq_39 h_40 x_41 hw => ?_)
  have u_42 := hZ.un hq_39
  have nq_43 := hT.ne hq_39
  have ne_44 : h ≠ q_35 := py_ne_new h_33 hq_39
  have h_33 := h_33.all x_41
  have hZ := hZ.all x_41
  have hT := hT.all x_41
  obtain ⟨G_47, gx_45, hZ, ty_46, ee_47⟩ := hZ.arrK (c := 35) u_42 (by decide) (by decide) h_40 (fun _ => ⟨_, rfl⟩) (fun _ => rfl)
  have Tfo := gx_45.ty Tfo (by decide)
  have Tnl := gx_45.ty Tnl (by decide)
  have ty_12 := gx_45.ty ty_12 (by decide)
  have ty_29 := gx_45.ty ty_29 (by decide)
  have hX := hX.trans gx_45
  have uh := (ee_47 h ne_44).trans uh
  have hT := hT.ty ee_47 nq_43
  refine py_put (C := RX6) (T := TX6) (N := 7) (k := 3) (v := .ref q_35) (fs' := [.ref q_1, .ref q_18, .null, .ref q_35, .null, .null, .long 0]) (ty0 := tyX6) G0 hw tyX6_ok nmX6 in_X6_init_X6 rfl h_33 (by decide) (by decide +kernel) rfl rfl rfl rfl (Nat.le_of_ble_eq_true rfl) rfl dX6_init_26 (fun f_48 H_49 locs h_50 x_51 hw => ?_)
  have hZ := hZ.unt uh x_51
  have hT := hT.ext x_51
  refine lv_aload_n G0.1 G0.2.1 dX6_init_29 rfl (lv_at hl 0 rfl) ?_
  refine lv_sipush (v := 168) G0.1 G0.2.1 dX6_init_30 (by decide) ?_
  refine py_newJ (N := 168) G0 hw (by decide +kernel) (by decide) (by decide) (Nat.le_of_ble_eq_true rfl) (Nat.le_of_ble_eq_true rfl) (Nat.le_of_ble_eq_true rfl) dX6_init_33 (fun q_52 L_53 f_54 H_55 hq_56 h_57 x_58 hw => ?_)
  have u_59 := hZ.un hq_56
  have nq_60 := hT.ne hq_56
  have ne_61 : h ≠ q_52 := py_ne_new h_50 hq_56
  have h_50 := h_50.all x_58
  have hZ := hZ.all x_58
  have hT := hT.all x_58
  obtain ⟨G_64, gx_62, hZ, ty_63, ee_64⟩ := hZ.arrK (c := 35) u_59 (by decide) (by decide) h_57 (fun _ => ⟨_, rfl⟩) (fun _ => rfl)
  have Tfo := gx_62.ty Tfo (by decide)
  have Tnl := gx_62.ty Tnl (by decide)
  have ty_12 := gx_62.ty ty_12 (by decide)
  have ty_29 := gx_62.ty ty_29 (by decide)
  have ty_46 := gx_62.ty ty_46 (by decide)
  have hX := hX.trans gx_62
  have uh := (ee_64 h ne_61).trans uh
  have hT := hT.ty ee_64 nq_60
  refine py_put (C := RX6) (T := TX6) (N := 7) (k := 4) (v := .ref q_52) (fs' := [.ref q_1, .ref q_18, .null, .ref q_35, .ref q_52, .null, .long 0]) (ty0 := tyX6) G0 hw tyX6_ok nmX6 in_X6_init_X6 rfl h_50 (by decide) (by decide +kernel) rfl rfl rfl rfl (Nat.le_of_ble_eq_true rfl) rfl dX6_init_35 (fun f_65 H_66 locs h_67 x_68 hw => ?_)
  have hZ := hZ.unt uh x_68
  have hT := hT.ext x_68
  refine lv_aload_n G0.1 G0.2.1 dX6_init_38 rfl (lv_at hl 0 rfl) ?_
  refine lv_lconst (v := 0) G0.1 G0.2.1 dX6_init_39 (by decide) ?_
  refine py_put (C := RX6) (T := TX6) (N := 7) (k := 6) (v := .long 0) (fs' := [.ref q_1, .ref q_18, .null, .ref q_35, .ref q_52, .null, .long 0]) (ty0 := tyX6) G0 hw tyX6_ok nmX6 in_X6_init_X6 rfl h_67 (by decide) (by decide +kernel) rfl rfl rfl rfl (Nat.le_of_ble_eq_true rfl) rfl dX6_init_40 (fun f_69 H_70 locs h_71 x_72 hw => ?_)
  have hZ := hZ.unt uh x_72
  have hT := hT.ext x_72
  refine lv_aload_n G0.1 G0.2.1 dX6_init_43 rfl (lv_at hl 0 rfl) ?_
  refine lv_aload_n G0.1 G0.2.1 dX6_init_44 rfl (lv_at hl 1 rfl) ?_
  refine py_putF (C := RX6) (T := TX6) (N := 7) (k := 2) (v := .ref fo) (fs' := [.ref q_1, .ref q_18, .ref fo, .ref q_35, .ref q_52, .null, .long 0]) (ty0 := tyX6) G0 hin hw tyX6_ok nmX6 in_X6_init_X6 rfl h_71 (by decide) (by decide +kernel) rfl rfl rfl rfl rfl (Nat.le_of_ble_eq_true rfl) rfl dX6_init_45 (fun f_73 H_74 locs h_75 x_76 hw => ?_)
  have hZ := hZ.unt uh x_76
  have hT := hT.ext x_76
  refine lv_aload_n G0.1 G0.2.1 dX6_init_48 rfl (lv_at hl 0 rfl) ?_
  refine lv_aload_n G0.1 G0.2.1 dX6_init_49 rfl (lv_at hl 2 rfl) ?_
  refine py_put (C := RX6) (T := TX6) (N := 7) (k := 5) (v := .ref nl) (fs' := [.ref q_1, .ref q_18, .ref fo, .ref q_35, .ref q_52, .ref nl, .long 0]) (ty0 := tyX6) G0 hw tyX6_ok nmX6 in_X6_init_X6 rfl h_75 (by decide) (by decide +kernel) rfl rfl rfl rfl (Nat.le_of_ble_eq_true rfl) rfl dX6_init_50 (fun f_77 H_78 locs h_79 x_80 hw => ?_)
  have hZ := hZ.unt uh x_80
  have hT := hT.ext x_80
  obtain ⟨G_82, gx_81, hZ, hth, hrr, ee_82⟩ := hZ.ty (c := 7) (r := (fun j => match j with | 0 => q_1 | 1 => q_18 | 2 => fo | _ => 0)) uh (by decide) h_79.1 (fun G1 gg e1 hr => ⟨q_35, q_52, nl, 0, by rw [hr 0, hr 1, hr 2]; exact h_79.2, gg.ty ty_46 (by decide), gg.ty ty_63 (by decide), gg.ty Tnl (by decide)⟩) (fun G1 gg e1 hr => ⟨by rw [hr 0]; exact gg.ty ty_12 (by decide), by rw [hr 1]; exact gg.ty ty_29 (by decide), by rw [hr 2]; exact gg.ty Tfo (by decide)⟩) (fun e => absurd e (by decide))
  have Tfo := gx_81.ty Tfo (by decide)
  have Tnl := gx_81.ty Tnl (by decide)
  have ty_12 := gx_81.ty ty_12 (by decide)
  have ty_29 := gx_81.ty ty_29 (by decide)
  have ty_46 := gx_81.ty ty_46 (by decide)
  have ty_63 := gx_81.ty ty_63 (by decide)
  have hX := hX.trans gx_81
  have hT : NTR L f G h _ _ G_82 := fun b hb hn => ⟨(hT b hb hn).1, (hT b hb hn).2.1, (ee_82 b hn).trans (hT b hb hn).2.2⟩
  exact py_vret G0 hr hlk hw ⟨G_82, hX, hZ, hth, hT, (hrr 2)⟩ dX6_init_53

def w_X11_init : List Cond := .code yX11_init cX11_init 1 none :: ([Cond.methodLink RX11 1 objectInit, Cond.instanceMethod objectInit, Cond.code objectInit ⟨#[0xb1]⟩ 1 none, Cond.classLink RX11 7 RX8, Cond.instantiable RX8 4, Cond.initialized RX8, Cond.instanceMethod yX8_init, Cond.fieldLink RX11 10 "HeadYear" "tape" "LHeadYear$Tape;", Cond.classLink RX11 16 RX10, Cond.instantiable RX10 2, Cond.initialized RX10, Cond.instanceMethod yX10_init, Cond.fieldLink RX11 19 "HeadYear" "valleyReader" "LHeadYear$ValleyReader;", Cond.classLink RX11 23 RX4, Cond.instantiable RX4 1, Cond.initialized RX4, Cond.instanceMethod yX4_init, Cond.fieldLink RX11 26 "HeadYear" "lawReader" "LHeadYear$LawReader;", Cond.classLink RX11 30 RX3, Cond.fieldLink RX11 32 "HeadYear" "laws" "[LHeadYear$Law;", Cond.methodLink RX11 36 yX3_bornLessDead, Cond.static yX3_bornLessDead, Cond.initialized RX3, Cond.fieldLink RX11 40 "HeadYear" "noLaw" "LHeadYear$Law;", Cond.classLink RX11 44 RX2, Cond.instantiable RX2 12, Cond.initialized RX2, Cond.instanceMethod yX2_init, Cond.fieldLink RX11 47 "HeadYear" "folk" "LHeadYear$Folk;", Cond.fieldLink RX11 51 "HeadYear" "trial" "LHeadYear$Folk;", Cond.fieldLink RX11 54 "HeadYear" "imageFolk" "LHeadYear$Folk;", Cond.classLink RX11 57 RX1, Cond.instantiable RX1 3, Cond.initialized RX1, Cond.instanceMethod yX1_init, Cond.fieldLink RX11 60 "HeadYear" "diary" "LHeadYear$Diary;", Cond.classLink RX11 64 RX0, Cond.instantiable RX0 5, Cond.initialized RX0, Cond.instanceMethod yX0_init, Cond.fieldLink RX11 67 "HeadYear" "buyings" "LHeadYear$Buyings;", Cond.classLink RX11 71 RX7, Cond.instantiable RX7 5, Cond.initialized RX7, Cond.instanceMethod yX7_init, Cond.fieldLink RX11 74 "HeadYear" "seasons" "LHeadYear$Seasons;", Cond.classLink RX11 78 RX5, Cond.instantiable RX5 1, Cond.initialized RX5, Cond.instanceMethod yX5_init, Cond.fieldLink RX11 81 "HeadYear" "moves" "LHeadYear$Moves;", Cond.classLink RX11 85 RX6, Cond.instantiable RX6 7, Cond.initialized RX6, Cond.methodLink RX11 87 yX6_init, Cond.instanceMethod yX6_init, Cond.fieldLink RX11 90 "HeadYear" "chances" "LHeadYear$Odds;", Cond.fieldLink RX11 94 "HeadYear" "lawCount" "I", Cond.fieldLink RX11 98 "HeadYear" "heldLaw" "I", Cond.fieldLink RX11 101 "HeadYear" "imaged" "Z"] ++ (u_ws RX8 TX8 4 ++ (u_ws RX11 TX11 16 ++ (u_ws RX10 TX10 2 ++ (u_ws RX4 TX4 1 ++ (u_ws RX2 TX2 12 ++ (u_ws RX1 TX1 3 ++ (u_ws RX0 TX0 5 ++ (u_ws RX7 TX7 5 ++ (u_ws RX5 TX5 1 ++ (u_ws RX6 TX6 7 ++ (w_X8_init ++ (w_X10_init ++ (w_X4_init ++ (w_X3_bornLessDead ++ (w_X2_init ++ (w_X1_init ++ (w_X0_init ++ (w_X7_init ++ (w_X5_init ++ (w_X6_init ++ ([]))))))))))))))))))))))
theorem in_X11_init_X8 : ∀ w ∈ u_ws RX8 TX8 4, w ∈ w_X11_init := fun _ h => List.mem_cons_of_mem _ (List.mem_append_right _ (List.mem_append_left _ h))
theorem in_X11_init_X11 : ∀ w ∈ u_ws RX11 TX11 16, w ∈ w_X11_init := fun _ h => List.mem_cons_of_mem _ (List.mem_append_right _ (List.mem_append_right _ (List.mem_append_left _ h)))
theorem in_X11_init_X10 : ∀ w ∈ u_ws RX10 TX10 2, w ∈ w_X11_init := fun _ h => List.mem_cons_of_mem _ (List.mem_append_right _ (List.mem_append_right _ (List.mem_append_right _ (List.mem_append_left _ h))))
theorem in_X11_init_X4 : ∀ w ∈ u_ws RX4 TX4 1, w ∈ w_X11_init := fun _ h => List.mem_cons_of_mem _ (List.mem_append_right _ (List.mem_append_right _ (List.mem_append_right _ (List.mem_append_right _ (List.mem_append_left _ h)))))
theorem in_X11_init_X2 : ∀ w ∈ u_ws RX2 TX2 12, w ∈ w_X11_init := fun _ h => List.mem_cons_of_mem _ (List.mem_append_right _ (List.mem_append_right _ (List.mem_append_right _ (List.mem_append_right _ (List.mem_append_right _ (List.mem_append_left _ h))))))
theorem in_X11_init_X1 : ∀ w ∈ u_ws RX1 TX1 3, w ∈ w_X11_init := fun _ h => List.mem_cons_of_mem _ (List.mem_append_right _ (List.mem_append_right _ (List.mem_append_right _ (List.mem_append_right _ (List.mem_append_right _ (List.mem_append_right _ (List.mem_append_left _ h)))))))
theorem in_X11_init_X0 : ∀ w ∈ u_ws RX0 TX0 5, w ∈ w_X11_init := fun _ h => List.mem_cons_of_mem _ (List.mem_append_right _ (List.mem_append_right _ (List.mem_append_right _ (List.mem_append_right _ (List.mem_append_right _ (List.mem_append_right _ (List.mem_append_right _ (List.mem_append_left _ h))))))))
theorem in_X11_init_X7 : ∀ w ∈ u_ws RX7 TX7 5, w ∈ w_X11_init := fun _ h => List.mem_cons_of_mem _ (List.mem_append_right _ (List.mem_append_right _ (List.mem_append_right _ (List.mem_append_right _ (List.mem_append_right _ (List.mem_append_right _ (List.mem_append_right _ (List.mem_append_right _ (List.mem_append_left _ h)))))))))
theorem in_X11_init_X5 : ∀ w ∈ u_ws RX5 TX5 1, w ∈ w_X11_init := fun _ h => List.mem_cons_of_mem _ (List.mem_append_right _ (List.mem_append_right _ (List.mem_append_right _ (List.mem_append_right _ (List.mem_append_right _ (List.mem_append_right _ (List.mem_append_right _ (List.mem_append_right _ (List.mem_append_right _ (List.mem_append_left _ h))))))))))
theorem in_X11_init_X6 : ∀ w ∈ u_ws RX6 TX6 7, w ∈ w_X11_init := fun _ h => List.mem_cons_of_mem _ (List.mem_append_right _ (List.mem_append_right _ (List.mem_append_right _ (List.mem_append_right _ (List.mem_append_right _ (List.mem_append_right _ (List.mem_append_right _ (List.mem_append_right _ (List.mem_append_right _ (List.mem_append_right _ (List.mem_append_left _ h)))))))))))
theorem gg_X11_init_X8_init : GoodIn w_X11_init w_X8_init := goodIn_sub (fun _ h => List.mem_cons_of_mem _ (List.mem_append_right _ (List.mem_append_right _ (List.mem_append_right _ (List.mem_append_right _ (List.mem_append_right _ (List.mem_append_right _ (List.mem_append_right _ (List.mem_append_right _ (List.mem_append_right _ (List.mem_append_right _ (List.mem_append_right _ (List.mem_append_left _ h))))))))))))) (by decide +kernel)
theorem gg_X11_init_X10_init : GoodIn w_X11_init w_X10_init := goodIn_sub (fun _ h => List.mem_cons_of_mem _ (List.mem_append_right _ (List.mem_append_right _ (List.mem_append_right _ (List.mem_append_right _ (List.mem_append_right _ (List.mem_append_right _ (List.mem_append_right _ (List.mem_append_right _ (List.mem_append_right _ (List.mem_append_right _ (List.mem_append_right _ (List.mem_append_right _ (List.mem_append_left _ h)))))))))))))) (by decide +kernel)
theorem gg_X11_init_X4_init : GoodIn w_X11_init w_X4_init := goodIn_sub (fun _ h => List.mem_cons_of_mem _ (List.mem_append_right _ (List.mem_append_right _ (List.mem_append_right _ (List.mem_append_right _ (List.mem_append_right _ (List.mem_append_right _ (List.mem_append_right _ (List.mem_append_right _ (List.mem_append_right _ (List.mem_append_right _ (List.mem_append_right _ (List.mem_append_right _ (List.mem_append_right _ (List.mem_append_left _ h))))))))))))))) (by decide +kernel)
theorem gg_X11_init_X3_bornLessDead : GoodIn w_X11_init w_X3_bornLessDead := goodIn_sub (fun _ h => List.mem_cons_of_mem _ (List.mem_append_right _ (List.mem_append_right _ (List.mem_append_right _ (List.mem_append_right _ (List.mem_append_right _ (List.mem_append_right _ (List.mem_append_right _ (List.mem_append_right _ (List.mem_append_right _ (List.mem_append_right _ (List.mem_append_right _ (List.mem_append_right _ (List.mem_append_right _ (List.mem_append_right _ (List.mem_append_left _ h)))))))))))))))) (by decide +kernel)
theorem gg_X11_init_X2_init : GoodIn w_X11_init w_X2_init := goodIn_sub (fun _ h => List.mem_cons_of_mem _ (List.mem_append_right _ (List.mem_append_right _ (List.mem_append_right _ (List.mem_append_right _ (List.mem_append_right _ (List.mem_append_right _ (List.mem_append_right _ (List.mem_append_right _ (List.mem_append_right _ (List.mem_append_right _ (List.mem_append_right _ (List.mem_append_right _ (List.mem_append_right _ (List.mem_append_right _ (List.mem_append_right _ (List.mem_append_left _ h))))))))))))))))) (by decide +kernel)
theorem gg_X11_init_X1_init : GoodIn w_X11_init w_X1_init := goodIn_sub (fun _ h => List.mem_cons_of_mem _ (List.mem_append_right _ (List.mem_append_right _ (List.mem_append_right _ (List.mem_append_right _ (List.mem_append_right _ (List.mem_append_right _ (List.mem_append_right _ (List.mem_append_right _ (List.mem_append_right _ (List.mem_append_right _ (List.mem_append_right _ (List.mem_append_right _ (List.mem_append_right _ (List.mem_append_right _ (List.mem_append_right _ (List.mem_append_right _ (List.mem_append_left _ h)))))))))))))))))) (by decide +kernel)
theorem gg_X11_init_X0_init : GoodIn w_X11_init w_X0_init := goodIn_sub (fun _ h => List.mem_cons_of_mem _ (List.mem_append_right _ (List.mem_append_right _ (List.mem_append_right _ (List.mem_append_right _ (List.mem_append_right _ (List.mem_append_right _ (List.mem_append_right _ (List.mem_append_right _ (List.mem_append_right _ (List.mem_append_right _ (List.mem_append_right _ (List.mem_append_right _ (List.mem_append_right _ (List.mem_append_right _ (List.mem_append_right _ (List.mem_append_right _ (List.mem_append_right _ (List.mem_append_left _ h))))))))))))))))))) (by decide +kernel)
theorem gg_X11_init_X7_init : GoodIn w_X11_init w_X7_init := goodIn_sub (fun _ h => List.mem_cons_of_mem _ (List.mem_append_right _ (List.mem_append_right _ (List.mem_append_right _ (List.mem_append_right _ (List.mem_append_right _ (List.mem_append_right _ (List.mem_append_right _ (List.mem_append_right _ (List.mem_append_right _ (List.mem_append_right _ (List.mem_append_right _ (List.mem_append_right _ (List.mem_append_right _ (List.mem_append_right _ (List.mem_append_right _ (List.mem_append_right _ (List.mem_append_right _ (List.mem_append_right _ (List.mem_append_left _ h)))))))))))))))))))) (by decide +kernel)
theorem gg_X11_init_X5_init : GoodIn w_X11_init w_X5_init := goodIn_sub (fun _ h => List.mem_cons_of_mem _ (List.mem_append_right _ (List.mem_append_right _ (List.mem_append_right _ (List.mem_append_right _ (List.mem_append_right _ (List.mem_append_right _ (List.mem_append_right _ (List.mem_append_right _ (List.mem_append_right _ (List.mem_append_right _ (List.mem_append_right _ (List.mem_append_right _ (List.mem_append_right _ (List.mem_append_right _ (List.mem_append_right _ (List.mem_append_right _ (List.mem_append_right _ (List.mem_append_right _ (List.mem_append_right _ (List.mem_append_left _ h))))))))))))))))))))) (by decide +kernel)
theorem gg_X11_init_X6_init : GoodIn w_X11_init w_X6_init := goodIn_sub (fun _ h => List.mem_cons_of_mem _ (List.mem_append_right _ (List.mem_append_right _ (List.mem_append_right _ (List.mem_append_right _ (List.mem_append_right _ (List.mem_append_right _ (List.mem_append_right _ (List.mem_append_right _ (List.mem_append_right _ (List.mem_append_right _ (List.mem_append_right _ (List.mem_append_right _ (List.mem_append_right _ (List.mem_append_right _ (List.mem_append_right _ (List.mem_append_right _ (List.mem_append_right _ (List.mem_append_right _ (List.mem_append_right _ (List.mem_append_right _ (List.mem_append_left _ h)))))))))))))))))))))) (by decide +kernel)
theorem g_X11_init_X0_init_66 : GoodIn w_X11_init w_X0_init := gg_X11_init_X0_init
theorem g_X11_init_X10_init_18 : GoodIn w_X11_init w_X10_init := gg_X11_init_X10_init
theorem g_X11_init_X1_init_59 : GoodIn w_X11_init w_X1_init := gg_X11_init_X1_init
theorem g_X11_init_X2_init_46 : GoodIn w_X11_init w_X2_init := gg_X11_init_X2_init
theorem g_X11_init_X3_bornLessDead_36 : GoodIn w_X11_init (va_wsS RX11 36 yX3_bornLessDead w_X3_bornLessDead) := goodIn_app (goodIn_of _ (by decide +kernel)) gg_X11_init_X3_bornLessDead
theorem g_X11_init_X4_init_25 : GoodIn w_X11_init w_X4_init := gg_X11_init_X4_init
theorem g_X11_init_X5_init_80 : GoodIn w_X11_init w_X5_init := gg_X11_init_X5_init
theorem g_X11_init_X6_init_87 : GoodIn w_X11_init w_X6_init := gg_X11_init_X6_init
theorem g_X11_init_X7_init_73 : GoodIn w_X11_init w_X7_init := gg_X11_init_X7_init
theorem g_X11_init_X8_init_9 : GoodIn w_X11_init w_X8_init := gg_X11_init_X8_init
set_option maxHeartbeats 4000000 in
set_option maxRecDepth 100000 in
theorem c_X11_init (l : Launch) (E : py_E) (G : wf_G) (L : List Nat) (f : py_F) (sz : Nat) (h : Nat) (hZ : GZ E G L f) (hh : py_at L f h (.inr (11, [.null, .null, .null, .null, .null, .null, .null, .null, .null, .null, .null, .null, .null, .int 0, .int 0, .int 0]))) (uh : G.1 h = 0) : Met l yX11_init w_X11_init ({ frames := 3, cells := 96, slots := 2936, locals := 52 }) (py_Pc E [.ref h] L f sz) (py_Qv E L f sz (fun L1 f1 => ∃ G1 : wf_G, GX G G1 ∧ GZ E G1 L1 f1 ∧ G1.1 h = 12 ∧ NTR L f G h L1 f1 G1 ∧ GI E G1 f1 h ∧ tp_l f1 (G1.2 h 0) = 0 ∧ hy_n f1 h = 0 ∧ fv_l f1 (G1.2 h 5) = 0 ∧ fo_y f1 (G1.2 h 5) = 0 ∧ hy_m f1 h = 0)) 96 2936 (va_A (va_pl L f) sz) := by
  refine Met.ofW (cc := cX11_init) (maxL := 1) (ret := none) (by decide) rfl ?_
  intro p e s m args below meth c s₁ B hml hv
  obtain ⟨rfl, rfl, hw⟩ := py_start hv
  have G0 : CallFix p m c cX11_init 1 s _ w_X11_init RX11 := ⟨B.exec, B.bytes, hml, findClass_of_methodNamed B.named, atoms_spec (ws := w_X11_init) B.pre⟩
  have hr := B.returns
  have hlk := B.notSynchronized
  have hin : meth.name = "<init>" := (name_of_methodNamed B.named B.method).1
  have hl := lv_entry ([.ref h]) (n := 1) (Nat.le_of_ble_eq_true rfl)
  rw [lg_entry_eq]
  generalize (lg_sl ([.ref h]) ++ List.replicate (1 - (lg_sl ([.ref h])).length) Slot.unset).toArray = ls at hl ⊢
  have hl : lv_has ls 1 [(0, .ref h)] := hl
  have hT : NTR L f G h L f G := NTR.refl
  have hX : GX G G := GX.refl
  refine lv_aload_n G0.1 G0.2.1 dX11_init_0 rfl (lv_at hl 0 rfl) ?_
  refine py_objInit G0 hl.1 (by decide +kernel) (by decide +kernel) (by decide +kernel) dX11_init_1 (Nat.le_of_ble_eq_true rfl) (Nat.le_of_ble_eq_true rfl) ?_
  refine lv_aload_n G0.1 G0.2.1 dX11_init_4 rfl (lv_at hl 0 rfl) ?_
  refine py_new (C := RX8) (T := TX8) (N := 4) (ci := 8) (fs := [.null, .int 0, .int 0, .int 0]) (ty0 := tyX8) G0 hw tyX8_ok in_X11_init_X8 rfl (by decide +kernel) (by decide +kernel) (by decide +kernel) (fun j hj => match j, hj with | 0, _ => rfl | 1, _ => rfl | 2, _ => rfl | 3, _ => rfl | n + 4, h => absurd h (by omega)) (Nat.le_of_ble_eq_true rfl) (Nat.le_of_ble_eq_true rfl) dX11_init_5 (fun q_1 L_2 f_3 H_4 hq_5 h_6 x_7 hw => ?_)
  have u_8 := hZ.un hq_5
  have nq_9 := hT.ne hq_5
  have ne_10 : h ≠ q_1 := py_ne_new hh hq_5
  have hh := hh.all x_7
  have hZ := hZ.all x_7
  have hT := hT.all x_7
  refine lv_dup G0.1 G0.2.1 dX11_init_8 rfl ?_
  refine py_callv hw (va_runIN (As := []) (rest := [.ref q_1, .ref h]) G0 (c_X8_init l E G L_2 f_3 H_4.size q_1 hZ h_6 u_8) ⟨va_cnB 0 G0.2.2.2.2 g_X11_init_X8_init_9 rfl rfl rfl (hw.1.2.2 (RX11, 9, yX8_init) (List.mem_of_getElem? (i := 0) rfl)) (G0.2.2.2.2 (Cond.initialized RX8) (by decide +kernel)) (by decide +kernel) ⟨(Nat.le_of_ble_eq_true rfl), (Nat.le_of_ble_eq_true rfl)⟩, rfl, G0.2.2.2.2 (Cond.instanceMethod yX8_init) (by decide +kernel)⟩ (py_preS hw) rfl rfl hl.1 rfl (lv_room (Nat.le_of_ble_eq_true rfl)) dX11_init_9 ⟨(Nat.le_of_ble_eq_true rfl), (Nat.le_of_ble_eq_true rfl)⟩) (fun L_11 f_12 H_13 locs hp_14 hw => ?_)
  obtain ⟨G_18, gx_16, hZ, ty_17, nt_18, ht_19⟩ := hp_14
  have hX := hX.trans gx_16
  have u_z := (nt_18 h hh.1 ne_10).2.2
  have hh := nt_18.at hh ne_10
  have uh := u_z.trans uh
  have hT := hT.sub nt_18 nq_9
  obtain ⟨lt_20, at_21, nt_22, hT_23, -⟩ := wg_8 hZ.2.1 ty_17
  have htl : lt_20.toInt = 0 := by have z := (tp_eq hT_23).1; have z2 := ht_19; omega
  refine py_putF (C := RX11) (T := TX11) (N := 16) (k := 0) (v := .ref q_1) (fs' := [.ref q_1, .null, .null, .null, .null, .null, .null, .null, .null, .null, .null, .null, .null, .int 0, .int 0, .int 0]) (ty0 := tyX11) G0 hin hw tyX11_ok nmX11 in_X11_init_X11 rfl hh (by decide) (by decide +kernel) rfl rfl rfl rfl rfl (Nat.le_of_ble_eq_true rfl) rfl dX11_init_12 (fun f_24 H_25 locs h_26 x_27 hw => ?_)
  have hZ := hZ.unt uh x_27
  have hT := hT.ext x_27
  have hT_23 := hT_23.ext x_27 (un_ne ty_17 uh (by decide))
  refine lv_aload_n G0.1 G0.2.1 dX11_init_15 rfl (lv_at hl 0 rfl) ?_
  refine py_new (C := RX10) (T := TX10) (N := 2) (ci := 10) (fs := [.null, .null]) (ty0 := tyX10) G0 hw tyX10_ok in_X11_init_X10 rfl (by decide +kernel) (by decide +kernel) (by decide +kernel) (fun j hj => match j, hj with | 0, _ => rfl | 1, _ => rfl | n + 2, h => absurd h (by omega)) (Nat.le_of_ble_eq_true rfl) (Nat.le_of_ble_eq_true rfl) dX11_init_16 (fun q_28 L_29 f_30 H_31 hq_32 h_33 x_34 hw => ?_)
  have u_35 := hZ.un hq_32
  have nq_36 := hT.ne hq_32
  have ne_37 : h ≠ q_28 := py_ne_new h_26 hq_32
  have h_26 := h_26.all x_34
  have hT_23 := hT_23.all x_34
  have hZ := hZ.all x_34
  have hT := hT.all x_34
  refine lv_dup G0.1 G0.2.1 dX11_init_19 rfl ?_
  have nr_38 : q_1 ≠ q_28 := un_ne ty_17 u_35 (by decide)
  refine py_callv hw (va_runIN (As := []) (rest := [.ref q_28, .ref h]) G0 (c_X10_init l E G_18 L_29 f_30 H_31.size q_28 hZ h_33 u_35) ⟨va_cnB 0 G0.2.2.2.2 g_X11_init_X10_init_18 rfl rfl rfl (hw.1.2.2 (RX11, 18, yX10_init) (List.mem_of_getElem? (i := 1) rfl)) (G0.2.2.2.2 (Cond.initialized RX10) (by decide +kernel)) (by decide +kernel) ⟨(Nat.le_of_ble_eq_true rfl), (Nat.le_of_ble_eq_true rfl)⟩, rfl, G0.2.2.2.2 (Cond.instanceMethod yX10_init) (by decide +kernel)⟩ (py_preS hw) rfl rfl hl.1 rfl (lv_room (Nat.le_of_ble_eq_true rfl)) dX11_init_20 ⟨(Nat.le_of_ble_eq_true rfl), (Nat.le_of_ble_eq_true rfl)⟩) (fun L_39 f_40 H_41 locs hp_42 hw => ?_)
  obtain ⟨G_46, gx_44, hZ, ty_45, nt_46, hv_47⟩ := hp_42
  have ty_17 := gx_44.ty ty_17 (by decide)
  have hX := hX.trans gx_44
  have u_z := (nt_46 h h_26.1 ne_37).2.2
  have h_26 := nt_46.at h_26 ne_37
  have uh := u_z.trans uh
  have hT_23 := nt_46.at hT_23 nr_38
  have hT := hT.sub nt_46 nq_36
  obtain ⟨D, nD, mD, hD⟩ := hv_47
  obtain ⟨dr_48, hR_49, tD_50⟩ := wg_10 hZ.2.1 ty_45
  have hDe : dr_48 = D := by rw [← hD, hR_49.2]; rfl
  rw [hDe] at hR_49 tD_50
  refine py_putF (C := RX11) (T := TX11) (N := 16) (k := 1) (v := .ref q_28) (fs' := [.ref q_1, .ref q_28, .null, .null, .null, .null, .null, .null, .null, .null, .null, .null, .null, .int 0, .int 0, .int 0]) (ty0 := tyX11) G0 hin hw tyX11_ok nmX11 in_X11_init_X11 rfl h_26 (by decide) (by decide +kernel) rfl rfl rfl rfl rfl (Nat.le_of_ble_eq_true rfl) rfl dX11_init_23 (fun f_51 H_52 locs h_53 x_54 hw => ?_)
  have hZ := hZ.unt uh x_54
  have hT := hT.ext x_54
  have hT_23 := hT_23.ext x_54 (un_ne ty_17 uh (by decide))
  have hR_49 := hR_49.ext x_54 (un_ne ty_45 uh (by decide))
  refine lv_aload_n G0.1 G0.2.1 dX11_init_26 rfl (lv_at hl 0 rfl) ?_
  refine py_new (C := RX4) (T := TX4) (N := 1) (ci := 4) (fs := [.null]) (ty0 := tyX4) G0 hw tyX4_ok in_X11_init_X4 rfl (by decide +kernel) (by decide +kernel) (by decide +kernel) (fun j hj => match j, hj with | 0, _ => rfl | n + 1, h => absurd h (by omega)) (Nat.le_of_ble_eq_true rfl) (Nat.le_of_ble_eq_true rfl) dX11_init_27 (fun q_55 L_56 f_57 H_58 hq_59 h_60 x_61 hw => ?_)
  have u_62 := hZ.un hq_59
  have nq_63 := hT.ne hq_59
  have ne_64 : h ≠ q_55 := py_ne_new h_53 hq_59
  have h_53 := h_53.all x_61
  have hT_23 := hT_23.all x_61
  have hR_49 := hR_49.all x_61
  have hZ := hZ.all x_61
  have hT := hT.all x_61
  refine lv_dup G0.1 G0.2.1 dX11_init_30 rfl ?_
  have nr_65 : q_1 ≠ q_55 := un_ne ty_17 u_62 (by decide)
  have nr_66 : q_28 ≠ q_55 := un_ne ty_45 u_62 (by decide)
  refine py_callv hw (va_runIN (As := []) (rest := [.ref q_55, .ref h]) G0 (c_X4_init l E G_46 L_56 f_57 H_58.size q_55 hZ h_60 u_62) ⟨va_cnB 0 G0.2.2.2.2 g_X11_init_X4_init_25 rfl rfl rfl (hw.1.2.2 (RX11, 25, yX4_init) (List.mem_of_getElem? (i := 3) rfl)) (G0.2.2.2.2 (Cond.initialized RX4) (by decide +kernel)) (by decide +kernel) ⟨(Nat.le_of_ble_eq_true rfl), (Nat.le_of_ble_eq_true rfl)⟩, rfl, G0.2.2.2.2 (Cond.instanceMethod yX4_init) (by decide +kernel)⟩ (py_preS hw) rfl rfl hl.1 rfl (lv_room (Nat.le_of_ble_eq_true rfl)) dX11_init_31 ⟨(Nat.le_of_ble_eq_true rfl), (Nat.le_of_ble_eq_true rfl)⟩) (fun L_67 f_68 H_69 locs hp_70 hw => ?_)
  obtain ⟨G_74, gx_72, hZ, ty_73, nt_74⟩ := hp_70
  have ty_17 := gx_72.ty ty_17 (by decide)
  have ty_45 := gx_72.ty ty_45 (by decide)
  have tD_50 := gx_72.ty tD_50 (by decide)
  have hX := hX.trans gx_72
  have u_z := (nt_74 h h_53.1 ne_64).2.2
  have h_53 := nt_74.at h_53 ne_64
  have uh := u_z.trans uh
  have hT_23 := nt_74.at hT_23 nr_65
  have hR_49 := nt_74.at hR_49 nr_66
  have hT := hT.sub nt_74 nq_63
  refine py_putF (C := RX11) (T := TX11) (N := 16) (k := 2) (v := .ref q_55) (fs' := [.ref q_1, .ref q_28, .ref q_55, .null, .null, .null, .null, .null, .null, .null, .null, .null, .null, .int 0, .int 0, .int 0]) (ty0 := tyX11) G0 hin hw tyX11_ok nmX11 in_X11_init_X11 rfl h_53 (by decide) (by decide +kernel) rfl rfl rfl rfl rfl (Nat.le_of_ble_eq_true rfl) rfl dX11_init_34 (fun f_75 H_76 locs h_77 x_78 hw => ?_)
  have hZ := hZ.unt uh x_78
  have hT := hT.ext x_78
  have hT_23 := hT_23.ext x_78 (un_ne ty_17 uh (by decide))
  have hR_49 := hR_49.ext x_78 (un_ne ty_45 uh (by decide))
  refine lv_aload_n G0.1 G0.2.1 dX11_init_37 rfl (lv_at hl 0 rfl) ?_
  refine lv_iconst (v := 4) G0.1 G0.2.1 dX11_init_38 (by decide) ?_
  refine py_newR (N := 4) G0 hw (by decide +kernel) (by decide) (by decide) (Nat.le_of_ble_eq_true rfl) (Nat.le_of_ble_eq_true rfl) (Nat.le_of_ble_eq_true rfl) dX11_init_39 (fun q_79 L_80 f_81 H_82 hq_83 h_84 x_85 hw => ?_)
  have u_86 := hZ.un hq_83
  have nq_87 := hT.ne hq_83
  have ne_88 : h ≠ q_79 := py_ne_new h_77 hq_83
  have h_77 := h_77.all x_85
  have hT_23 := hT_23.all x_85
  have hR_49 := hR_49.all x_85
  have hZ := hZ.all x_85
  have hT := hT.all x_85
  obtain ⟨G_91, gx_89, hZ, ty_90, ee_91⟩ := hZ.arrK (c := 22) u_86 (by decide) (by decide) h_84 (fun _ => ⟨_, rfl, fun i z hz => by cases hz⟩) (fun _ => rfl)
  have ty_17 := gx_89.ty ty_17 (by decide)
  have ty_45 := gx_89.ty ty_45 (by decide)
  have tD_50 := gx_89.ty tD_50 (by decide)
  have ty_73 := gx_89.ty ty_73 (by decide)
  have hX := hX.trans gx_89
  have uh := (ee_91 h ne_88).trans uh
  have hT := hT.ty ee_91 nq_87
  have hla := h_84
  refine py_putF (C := RX11) (T := TX11) (N := 16) (k := 3) (v := .ref q_79) (fs' := [.ref q_1, .ref q_28, .ref q_55, .ref q_79, .null, .null, .null, .null, .null, .null, .null, .null, .null, .int 0, .int 0, .int 0]) (ty0 := tyX11) G0 hin hw tyX11_ok nmX11 in_X11_init_X11 rfl h_77 (by decide) (by decide +kernel) rfl rfl rfl rfl rfl (Nat.le_of_ble_eq_true rfl) rfl dX11_init_42 (fun f_92 H_93 locs h_94 x_95 hw => ?_)
  have hZ := hZ.unt uh x_95
  have hT := hT.ext x_95
  have hT_23 := hT_23.ext x_95 (un_ne ty_17 uh (by decide))
  have hR_49 := hR_49.ext x_95 (un_ne ty_45 uh (by decide))
  have hla := hla.ext x_95 (un_ne ty_90 uh (by decide))
  refine lv_aload_n G0.1 G0.2.1 dX11_init_45 rfl (lv_at hl 0 rfl) ?_
  refine py_callr hw (va_runS (As := []) (rest := [.ref h]) G0 (c_X3_bornLessDead l E L_80 f_92 H_93.size) (va_cwS 0 G0.2.2.2.2 g_X11_init_X3_bornLessDead_36 rfl rfl rfl (by decide +kernel) ⟨(Nat.le_of_ble_eq_true rfl), (Nat.le_of_ble_eq_true rfl)⟩) (py_preS hw) rfl rfl hl.1 rfl (lv_room (Nat.le_of_ble_eq_true rfl)) dX11_init_46 ⟨(Nat.le_of_ble_eq_true rfl), (Nat.le_of_ble_eq_true rfl)⟩) (fun r_100 L_96 f_97 H_98 locs hp_99 hw => ?_)
  obtain ⟨co_101, st_102, n_103, g_104, g_105, h_106, bn_107, hco_108, hst_109, nr_110, nco_111, nst_112, ncs_113, x_114⟩ := hp_99
  have u_115 := hZ.un nr_110
  have nq_118 := hT.ne nr_110
  have u_116 := hZ.un nco_111
  have nq_119 := hT.ne nco_111
  have u_117 := hZ.un nst_112
  have nq_120 := hT.ne nst_112
  have ne_121 := py_ne_new h_94 nco_111
  have ne_122 := py_ne_new h_94 nst_112
  have ne_123 := py_ne_new h_94 nr_110
  have h_94 := h_94.all x_114
  have hT_23 := hT_23.all x_114
  have hR_49 := hR_49.all x_114
  have hla := hla.all x_114
  have hZ := hZ.all x_114
  have hT := hT.all x_114
  obtain ⟨G_126, gx_124, hZ, ty_125, ee_126⟩ := hZ.arrK (c := 20) u_116 (by decide) (by decide) hco_108 (fun _ => ⟨_, rfl, fun i _ => wf_free _⟩) (fun _ => rfl)
  have ty_17 := gx_124.ty ty_17 (by decide)
  have ty_45 := gx_124.ty ty_45 (by decide)
  have tD_50 := gx_124.ty tD_50 (by decide)
  have ty_73 := gx_124.ty ty_73 (by decide)
  have ty_90 := gx_124.ty ty_90 (by decide)
  have hX := hX.trans gx_124
  have uh := (ee_126 h ne_121).trans uh
  have u_115 := (ee_126 r_100 (py_ne_arr h_106 hco_108)).trans u_115
  have u_117 := (ee_126 st_102 (Ne.symm ncs_113)).trans u_117
  have hT := hT.ty ee_126 nq_119
  obtain ⟨G_129, gx_127, hZ, ty_128, ee_129⟩ := hZ.arrK (c := 21) u_117 (by decide) (by decide) hst_109 (fun _ => ⟨_, rfl, fun i _ => wf_free _⟩) (fun _ => rfl)
  have ty_17 := gx_127.ty ty_17 (by decide)
  have ty_45 := gx_127.ty ty_45 (by decide)
  have tD_50 := gx_127.ty tD_50 (by decide)
  have ty_73 := gx_127.ty ty_73 (by decide)
  have ty_90 := gx_127.ty ty_90 (by decide)
  have ty_125 := gx_127.ty ty_125 (by decide)
  have hX := hX.trans gx_127
  have uh := (ee_129 h ne_122).trans uh
  have u_115 := (ee_129 r_100 (py_ne_arr h_106 hst_109)).trans u_115
  have hT := hT.ty ee_129 nq_120
  obtain ⟨G_132, gx_130, hZ, ty_131, -, ee_132⟩ := hZ.ty (c := 4) (r := (fun j => match j with | 0 => co_101 | 1 => st_102 | _ => 0)) u_115 (by decide) h_106.1 (fun G1 gg e1 hr => ⟨n_103, by rw [hr 0, hr 1]; exact h_106.2, bn_107⟩) (fun G1 gg e1 hr => ⟨by rw [hr 0]; exact gg.ty ty_125 (by decide), by rw [hr 1]; exact gg.ty ty_128 (by decide)⟩) (fun e => absurd e (by decide))
  have ty_17 := gx_130.ty ty_17 (by decide)
  have ty_45 := gx_130.ty ty_45 (by decide)
  have tD_50 := gx_130.ty tD_50 (by decide)
  have ty_73 := gx_130.ty ty_73 (by decide)
  have ty_90 := gx_130.ty ty_90 (by decide)
  have ty_125 := gx_130.ty ty_125 (by decide)
  have ty_128 := gx_130.ty ty_128 (by decide)
  have hX := hX.trans gx_130
  have uh := (ee_132 h ne_123).trans uh
  have hT := hT.ty ee_132 nq_118
  refine py_putF (C := RX11) (T := TX11) (N := 16) (k := 4) (v := .ref r_100) (fs' := [.ref q_1, .ref q_28, .ref q_55, .ref q_79, .ref r_100, .null, .null, .null, .null, .null, .null, .null, .null, .int 0, .int 0, .int 0]) (ty0 := tyX11) G0 hin hw tyX11_ok nmX11 in_X11_init_X11 rfl h_94 (by decide) (by decide +kernel) rfl rfl rfl rfl rfl (Nat.le_of_ble_eq_true rfl) rfl dX11_init_49 (fun f_133 H_134 locs h_135 x_136 hw => ?_)
  have hZ := hZ.unt uh x_136
  have hT := hT.ext x_136
  have hT_23 := hT_23.ext x_136 (un_ne ty_17 uh (by decide))
  have hR_49 := hR_49.ext x_136 (un_ne ty_45 uh (by decide))
  have hla := hla.ext x_136 (un_ne ty_90 uh (by decide))
  refine lv_aload_n G0.1 G0.2.1 dX11_init_52 rfl (lv_at hl 0 rfl) ?_
  refine py_new (C := RX2) (T := TX2) (N := 12) (ci := 2) (fs := [.null, .null, .null, .null, .null, .null, .null, .null, .null, .null, .long 0, .int 0]) (ty0 := tyX2) G0 hw tyX2_ok in_X11_init_X2 rfl (by decide +kernel) (by decide +kernel) (by decide +kernel) (fun j hj => match j, hj with | 0, _ => rfl | 1, _ => rfl | 2, _ => rfl | 3, _ => rfl | 4, _ => rfl | 5, _ => rfl | 6, _ => rfl | 7, _ => rfl | 8, _ => rfl | 9, _ => rfl | 10, _ => rfl | 11, _ => rfl | n + 12, h => absurd h (by omega)) (Nat.le_of_ble_eq_true rfl) (Nat.le_of_ble_eq_true rfl) dX11_init_53 (fun q_137 L_138 f_139 H_140 hq_141 h_142 x_143 hw => ?_)
  have u_144 := hZ.un hq_141
  have nq_145 := hT.ne hq_141
  have ne_146 : h ≠ q_137 := py_ne_new h_135 hq_141
  have h_135 := h_135.all x_143
  have hT_23 := hT_23.all x_143
  have hR_49 := hR_49.all x_143
  have hla := hla.all x_143
  have hZ := hZ.all x_143
  have hT := hT.all x_143
  refine lv_dup G0.1 G0.2.1 dX11_init_56 rfl ?_
  have nr_147 : q_1 ≠ q_137 := un_ne ty_17 u_144 (by decide)
  have nr_148 : q_28 ≠ q_137 := un_ne ty_45 u_144 (by decide)
  have nr_149 : q_79 ≠ q_137 := un_ne ty_90 u_144 (by decide)
  have mDb := (hZ.2.1 D (by rw [tD_50]; decide)).1
  refine py_callv hw (va_runIN (As := []) (rest := [.ref q_137, .ref h]) G0 (c_X2_init l E G_132 L_138 f_139 H_140.size q_137 hZ h_142 u_144) ⟨va_cnB 0 G0.2.2.2.2 g_X11_init_X2_init_46 rfl rfl rfl (hw.1.2.2 (RX11, 46, yX2_init) (List.mem_of_getElem? (i := 5) rfl)) (G0.2.2.2.2 (Cond.initialized RX2) (by decide +kernel)) (by decide +kernel) ⟨(Nat.le_of_ble_eq_true rfl), (Nat.le_of_ble_eq_true rfl)⟩, rfl, G0.2.2.2.2 (Cond.instanceMethod yX2_init) (by decide +kernel)⟩ (py_preS hw) rfl rfl hl.1 rfl (lv_room (Nat.le_of_ble_eq_true rfl)) dX11_init_57 ⟨(Nat.le_of_ble_eq_true rfl), (Nat.le_of_ble_eq_true rfl)⟩) (fun L_150 f_151 H_152 locs hp_153 hw => ?_)
  obtain ⟨G_157, gx_155, hZ, ty_156, nt_157, hv_158⟩ := hp_153
  have ty_17 := gx_155.ty ty_17 (by decide)
  have ty_45 := gx_155.ty ty_45 (by decide)
  have tD_50 := gx_155.ty tD_50 (by decide)
  have ty_73 := gx_155.ty ty_73 (by decide)
  have ty_90 := gx_155.ty ty_90 (by decide)
  have ty_125 := gx_155.ty ty_125 (by decide)
  have ty_128 := gx_155.ty ty_128 (by decide)
  have ty_131 := gx_155.ty ty_131 (by decide)
  have hX := hX.trans gx_155
  have u_z := (nt_157 h h_135.1 ne_146).2.2
  have h_135 := nt_157.at h_135 ne_146
  have uh := u_z.trans uh
  have hT_23 := nt_157.at hT_23 nr_147
  have hR_49 := nt_157.at hR_49 nr_148
  have hla := nt_157.at hla nr_149
  have hT := hT.sub nt_157 nq_145
  obtain ⟨V, nV, hv, hy, hl0, hf0⟩ := hv_158
  obtain ⟨rv_161, xv_162, yv_163, hF_159, tV, -⟩ := wg_2 hZ.2.1 ty_156
  have hVe : rv_161 = V := (fo_eq hF_159).1.symm.trans hv
  rw [hVe] at hF_159 tV
  obtain ⟨lv, nv, hV_160, -, -⟩ := wg_9 hZ.2.1 tV
  have hnv : nv.toInt = 0 := by have z := (fo_eq hF_159).2.2.2; have z2 := (va_eq hV_160).2; omega
  have hlvv : lv.toInt = 0 := by have z := (fo_eq hF_159).2.2.1; have z2 := (va_eq hV_160).1; omega
  have hyv : yv_163.toInt = 0 := by have z := (fo_eq hF_159).2.1; omega
  have hVD : V ≠ D := fun e => nV (e ▸ mDb)
  refine py_putF (C := RX11) (T := TX11) (N := 16) (k := 5) (v := .ref q_137) (fs' := [.ref q_1, .ref q_28, .ref q_55, .ref q_79, .ref r_100, .ref q_137, .null, .null, .null, .null, .null, .null, .null, .int 0, .int 0, .int 0]) (ty0 := tyX11) G0 hin hw tyX11_ok nmX11 in_X11_init_X11 rfl h_135 (by decide) (by decide +kernel) rfl rfl rfl rfl rfl (Nat.le_of_ble_eq_true rfl) rfl dX11_init_60 (fun f_164 H_165 locs h_166 x_167 hw => ?_)
  have hZ := hZ.unt uh x_167
  have hT := hT.ext x_167
  have hT_23 := hT_23.ext x_167 (un_ne ty_17 uh (by decide))
  have hR_49 := hR_49.ext x_167 (un_ne ty_45 uh (by decide))
  have hla := hla.ext x_167 (un_ne ty_90 uh (by decide))
  have hF_159 := hF_159.ext x_167 (un_ne ty_156 uh (by decide))
  have hV_160 := hV_160.ext x_167 (un_ne tV uh (by decide))
  refine lv_aload_n G0.1 G0.2.1 dX11_init_63 rfl (lv_at hl 0 rfl) ?_
  refine py_new (C := RX2) (T := TX2) (N := 12) (ci := 2) (fs := [.null, .null, .null, .null, .null, .null, .null, .null, .null, .null, .long 0, .int 0]) (ty0 := tyX2) G0 hw tyX2_ok in_X11_init_X2 rfl (by decide +kernel) (by decide +kernel) (by decide +kernel) (fun j hj => match j, hj with | 0, _ => rfl | 1, _ => rfl | 2, _ => rfl | 3, _ => rfl | 4, _ => rfl | 5, _ => rfl | 6, _ => rfl | 7, _ => rfl | 8, _ => rfl | 9, _ => rfl | 10, _ => rfl | 11, _ => rfl | n + 12, h => absurd h (by omega)) (Nat.le_of_ble_eq_true rfl) (Nat.le_of_ble_eq_true rfl) dX11_init_64 (fun q_168 L_169 f_170 H_171 hq_172 h_173 x_174 hw => ?_)
  have u_175 := hZ.un hq_172
  have nq_176 := hT.ne hq_172
  have ne_177 : h ≠ q_168 := py_ne_new h_166 hq_172
  have h_166 := h_166.all x_174
  have hT_23 := hT_23.all x_174
  have hR_49 := hR_49.all x_174
  have hla := hla.all x_174
  have hF_159 := hF_159.all x_174
  have hV_160 := hV_160.all x_174
  have hZ := hZ.all x_174
  have hT := hT.all x_174
  have hn56 : q_137 ≠ q_168 := un_ne ty_156 u_175 (by decide)
  refine lv_dup G0.1 G0.2.1 dX11_init_67 rfl ?_
  have nr_178 : q_1 ≠ q_168 := un_ne ty_17 u_175 (by decide)
  have nr_179 : q_28 ≠ q_168 := un_ne ty_45 u_175 (by decide)
  have nr_180 : q_79 ≠ q_168 := un_ne ty_90 u_175 (by decide)
  have nr_181 : q_137 ≠ q_168 := un_ne ty_156 u_175 (by decide)
  have nr_182 : V ≠ q_168 := un_ne tV u_175 (by decide)
  refine py_callv hw (va_runIN (As := []) (rest := [.ref q_168, .ref h]) G0 (c_X2_init l E G_157 L_169 f_170 H_171.size q_168 hZ h_173 u_175) ⟨va_cnB 0 G0.2.2.2.2 g_X11_init_X2_init_46 rfl rfl rfl (hw.1.2.2 (RX11, 46, yX2_init) (List.mem_of_getElem? (i := 5) rfl)) (G0.2.2.2.2 (Cond.initialized RX2) (by decide +kernel)) (by decide +kernel) ⟨(Nat.le_of_ble_eq_true rfl), (Nat.le_of_ble_eq_true rfl)⟩, rfl, G0.2.2.2.2 (Cond.instanceMethod yX2_init) (by decide +kernel)⟩ (py_preS hw) rfl rfl hl.1 rfl (lv_room (Nat.le_of_ble_eq_true rfl)) dX11_init_68 ⟨(Nat.le_of_ble_eq_true rfl), (Nat.le_of_ble_eq_true rfl)⟩) (fun L_183 f_184 H_185 locs hp_186 hw => ?_)
  obtain ⟨G_190, gx_188, hZ, ty_189, nt_190, hv_191⟩ := hp_186
  have ty_17 := gx_188.ty ty_17 (by decide)
  have ty_45 := gx_188.ty ty_45 (by decide)
  have tD_50 := gx_188.ty tD_50 (by decide)
  have ty_73 := gx_188.ty ty_73 (by decide)
  have ty_90 := gx_188.ty ty_90 (by decide)
  have ty_125 := gx_188.ty ty_125 (by decide)
  have ty_128 := gx_188.ty ty_128 (by decide)
  have ty_131 := gx_188.ty ty_131 (by decide)
  have ty_156 := gx_188.ty ty_156 (by decide)
  have tV := gx_188.ty tV (by decide)
  have hX := hX.trans gx_188
  have u_z := (nt_190 h h_166.1 ne_177).2.2
  have h_166 := nt_190.at h_166 ne_177
  have uh := u_z.trans uh
  have hT_23 := nt_190.at hT_23 nr_178
  have hR_49 := nt_190.at hR_49 nr_179
  have hla := nt_190.at hla nr_180
  have hF_159 := nt_190.at hF_159 nr_181
  have hV_160 := nt_190.at hV_160 nr_182
  have hT := hT.sub nt_190 nq_176
  refine py_putF (C := RX11) (T := TX11) (N := 16) (k := 6) (v := .ref q_168) (fs' := [.ref q_1, .ref q_28, .ref q_55, .ref q_79, .ref r_100, .ref q_137, .ref q_168, .null, .null, .null, .null, .null, .null, .int 0, .int 0, .int 0]) (ty0 := tyX11) G0 hin hw tyX11_ok nmX11 in_X11_init_X11 rfl h_166 (by decide) (by decide +kernel) rfl rfl rfl rfl rfl (Nat.le_of_ble_eq_true rfl) rfl dX11_init_71 (fun f_192 H_193 locs h_194 x_195 hw => ?_)
  have hZ := hZ.unt uh x_195
  have hT := hT.ext x_195
  have hT_23 := hT_23.ext x_195 (un_ne ty_17 uh (by decide))
  have hR_49 := hR_49.ext x_195 (un_ne ty_45 uh (by decide))
  have hla := hla.ext x_195 (un_ne ty_90 uh (by decide))
  have hF_159 := hF_159.ext x_195 (un_ne ty_156 uh (by decide))
  have hV_160 := hV_160.ext x_195 (un_ne tV uh (by decide))
  refine lv_aload_n G0.1 G0.2.1 dX11_init_74 rfl (lv_at hl 0 rfl) ?_
  refine py_new (C := RX2) (T := TX2) (N := 12) (ci := 2) (fs := [.null, .null, .null, .null, .null, .null, .null, .null, .null, .null, .long 0, .int 0]) (ty0 := tyX2) G0 hw tyX2_ok in_X11_init_X2 rfl (by decide +kernel) (by decide +kernel) (by decide +kernel) (fun j hj => match j, hj with | 0, _ => rfl | 1, _ => rfl | 2, _ => rfl | 3, _ => rfl | 4, _ => rfl | 5, _ => rfl | 6, _ => rfl | 7, _ => rfl | 8, _ => rfl | 9, _ => rfl | 10, _ => rfl | 11, _ => rfl | n + 12, h => absurd h (by omega)) (Nat.le_of_ble_eq_true rfl) (Nat.le_of_ble_eq_true rfl) dX11_init_75 (fun q_196 L_197 f_198 H_199 hq_200 h_201 x_202 hw => ?_)
  have u_203 := hZ.un hq_200
  have nq_204 := hT.ne hq_200
  have ne_205 : h ≠ q_196 := py_ne_new h_194 hq_200
  have h_194 := h_194.all x_202
  have hT_23 := hT_23.all x_202
  have hR_49 := hR_49.all x_202
  have hla := hla.all x_202
  have hF_159 := hF_159.all x_202
  have hV_160 := hV_160.all x_202
  have hZ := hZ.all x_202
  have hT := hT.all x_202
  have hn57 : q_137 ≠ q_196 := un_ne ty_156 u_203 (by decide)
  have hn67 : q_168 ≠ q_196 := un_ne ty_189 u_203 (by decide)
  refine lv_dup G0.1 G0.2.1 dX11_init_78 rfl ?_
  have nr_206 : q_1 ≠ q_196 := un_ne ty_17 u_203 (by decide)
  have nr_207 : q_28 ≠ q_196 := un_ne ty_45 u_203 (by decide)
  have nr_208 : q_79 ≠ q_196 := un_ne ty_90 u_203 (by decide)
  have nr_209 : q_137 ≠ q_196 := un_ne ty_156 u_203 (by decide)
  have nr_210 : V ≠ q_196 := un_ne tV u_203 (by decide)
  refine py_callv hw (va_runIN (As := []) (rest := [.ref q_196, .ref h]) G0 (c_X2_init l E G_190 L_197 f_198 H_199.size q_196 hZ h_201 u_203) ⟨va_cnB 0 G0.2.2.2.2 g_X11_init_X2_init_46 rfl rfl rfl (hw.1.2.2 (RX11, 46, yX2_init) (List.mem_of_getElem? (i := 5) rfl)) (G0.2.2.2.2 (Cond.initialized RX2) (by decide +kernel)) (by decide +kernel) ⟨(Nat.le_of_ble_eq_true rfl), (Nat.le_of_ble_eq_true rfl)⟩, rfl, G0.2.2.2.2 (Cond.instanceMethod yX2_init) (by decide +kernel)⟩ (py_preS hw) rfl rfl hl.1 rfl (lv_room (Nat.le_of_ble_eq_true rfl)) dX11_init_79 ⟨(Nat.le_of_ble_eq_true rfl), (Nat.le_of_ble_eq_true rfl)⟩) (fun L_211 f_212 H_213 locs hp_214 hw => ?_)
  obtain ⟨G_218, gx_216, hZ, ty_217, nt_218, hv_219⟩ := hp_214
  have ty_17 := gx_216.ty ty_17 (by decide)
  have ty_45 := gx_216.ty ty_45 (by decide)
  have tD_50 := gx_216.ty tD_50 (by decide)
  have ty_73 := gx_216.ty ty_73 (by decide)
  have ty_90 := gx_216.ty ty_90 (by decide)
  have ty_125 := gx_216.ty ty_125 (by decide)
  have ty_128 := gx_216.ty ty_128 (by decide)
  have ty_131 := gx_216.ty ty_131 (by decide)
  have ty_156 := gx_216.ty ty_156 (by decide)
  have tV := gx_216.ty tV (by decide)
  have ty_189 := gx_216.ty ty_189 (by decide)
  have hX := hX.trans gx_216
  have u_z := (nt_218 h h_194.1 ne_205).2.2
  have h_194 := nt_218.at h_194 ne_205
  have uh := u_z.trans uh
  have hT_23 := nt_218.at hT_23 nr_206
  have hR_49 := nt_218.at hR_49 nr_207
  have hla := nt_218.at hla nr_208
  have hF_159 := nt_218.at hF_159 nr_209
  have hV_160 := nt_218.at hV_160 nr_210
  have hT := hT.sub nt_218 nq_204
  refine py_putF (C := RX11) (T := TX11) (N := 16) (k := 7) (v := .ref q_196) (fs' := [.ref q_1, .ref q_28, .ref q_55, .ref q_79, .ref r_100, .ref q_137, .ref q_168, .ref q_196, .null, .null, .null, .null, .null, .int 0, .int 0, .int 0]) (ty0 := tyX11) G0 hin hw tyX11_ok nmX11 in_X11_init_X11 rfl h_194 (by decide) (by decide +kernel) rfl rfl rfl rfl rfl (Nat.le_of_ble_eq_true rfl) rfl dX11_init_82 (fun f_220 H_221 locs h_222 x_223 hw => ?_)
  have hZ := hZ.unt uh x_223
  have hT := hT.ext x_223
  have hT_23 := hT_23.ext x_223 (un_ne ty_17 uh (by decide))
  have hR_49 := hR_49.ext x_223 (un_ne ty_45 uh (by decide))
  have hla := hla.ext x_223 (un_ne ty_90 uh (by decide))
  have hF_159 := hF_159.ext x_223 (un_ne ty_156 uh (by decide))
  have hV_160 := hV_160.ext x_223 (un_ne tV uh (by decide))
  refine lv_aload_n G0.1 G0.2.1 dX11_init_85 rfl (lv_at hl 0 rfl) ?_
  refine py_new (C := RX1) (T := TX1) (N := 3) (ci := 1) (fs := [.null, .null, .int 0]) (ty0 := tyX1) G0 hw tyX1_ok in_X11_init_X1 rfl (by decide +kernel) (by decide +kernel) (by decide +kernel) (fun j hj => match j, hj with | 0, _ => rfl | 1, _ => rfl | 2, _ => rfl | n + 3, h => absurd h (by omega)) (Nat.le_of_ble_eq_true rfl) (Nat.le_of_ble_eq_true rfl) dX11_init_86 (fun q_224 L_225 f_226 H_227 hq_228 h_229 x_230 hw => ?_)
  have u_231 := hZ.un hq_228
  have nq_232 := hT.ne hq_228
  have ne_233 : h ≠ q_224 := py_ne_new h_222 hq_228
  have h_222 := h_222.all x_230
  have hT_23 := hT_23.all x_230
  have hR_49 := hR_49.all x_230
  have hla := hla.all x_230
  have hF_159 := hF_159.all x_230
  have hV_160 := hV_160.all x_230
  have hZ := hZ.all x_230
  have hT := hT.all x_230
  refine lv_dup G0.1 G0.2.1 dX11_init_89 rfl ?_
  have nr_234 : q_1 ≠ q_224 := un_ne ty_17 u_231 (by decide)
  have nr_235 : q_28 ≠ q_224 := un_ne ty_45 u_231 (by decide)
  have nr_236 : q_79 ≠ q_224 := un_ne ty_90 u_231 (by decide)
  have nr_237 : q_137 ≠ q_224 := un_ne ty_156 u_231 (by decide)
  have nr_238 : V ≠ q_224 := un_ne tV u_231 (by decide)
  refine py_callv hw (va_runIN (As := []) (rest := [.ref q_224, .ref h]) G0 (c_X1_init l E G_218 L_225 f_226 H_227.size q_224 hZ h_229 u_231) ⟨va_cnB 0 G0.2.2.2.2 g_X11_init_X1_init_59 rfl rfl rfl (hw.1.2.2 (RX11, 59, yX1_init) (List.mem_of_getElem? (i := 7) rfl)) (G0.2.2.2.2 (Cond.initialized RX1) (by decide +kernel)) (by decide +kernel) ⟨(Nat.le_of_ble_eq_true rfl), (Nat.le_of_ble_eq_true rfl)⟩, rfl, G0.2.2.2.2 (Cond.instanceMethod yX1_init) (by decide +kernel)⟩ (py_preS hw) rfl rfl hl.1 rfl (lv_room (Nat.le_of_ble_eq_true rfl)) dX11_init_90 ⟨(Nat.le_of_ble_eq_true rfl), (Nat.le_of_ble_eq_true rfl)⟩) (fun L_239 f_240 H_241 locs hp_242 hw => ?_)
  obtain ⟨G_246, gx_244, hZ, ty_245, nt_246⟩ := hp_242
  have ty_17 := gx_244.ty ty_17 (by decide)
  have ty_45 := gx_244.ty ty_45 (by decide)
  have tD_50 := gx_244.ty tD_50 (by decide)
  have ty_73 := gx_244.ty ty_73 (by decide)
  have ty_90 := gx_244.ty ty_90 (by decide)
  have ty_125 := gx_244.ty ty_125 (by decide)
  have ty_128 := gx_244.ty ty_128 (by decide)
  have ty_131 := gx_244.ty ty_131 (by decide)
  have ty_156 := gx_244.ty ty_156 (by decide)
  have tV := gx_244.ty tV (by decide)
  have ty_189 := gx_244.ty ty_189 (by decide)
  have ty_217 := gx_244.ty ty_217 (by decide)
  have hX := hX.trans gx_244
  have u_z := (nt_246 h h_222.1 ne_233).2.2
  have h_222 := nt_246.at h_222 ne_233
  have uh := u_z.trans uh
  have hT_23 := nt_246.at hT_23 nr_234
  have hR_49 := nt_246.at hR_49 nr_235
  have hla := nt_246.at hla nr_236
  have hF_159 := nt_246.at hF_159 nr_237
  have hV_160 := nt_246.at hV_160 nr_238
  have hT := hT.sub nt_246 nq_232
  refine py_putF (C := RX11) (T := TX11) (N := 16) (k := 8) (v := .ref q_224) (fs' := [.ref q_1, .ref q_28, .ref q_55, .ref q_79, .ref r_100, .ref q_137, .ref q_168, .ref q_196, .ref q_224, .null, .null, .null, .null, .int 0, .int 0, .int 0]) (ty0 := tyX11) G0 hin hw tyX11_ok nmX11 in_X11_init_X11 rfl h_222 (by decide) (by decide +kernel) rfl rfl rfl rfl rfl (Nat.le_of_ble_eq_true rfl) rfl dX11_init_93 (fun f_247 H_248 locs h_249 x_250 hw => ?_)
  have hZ := hZ.unt uh x_250
  have hT := hT.ext x_250
  have hT_23 := hT_23.ext x_250 (un_ne ty_17 uh (by decide))
  have hR_49 := hR_49.ext x_250 (un_ne ty_45 uh (by decide))
  have hla := hla.ext x_250 (un_ne ty_90 uh (by decide))
  have hF_159 := hF_159.ext x_250 (un_ne ty_156 uh (by decide))
  have hV_160 := hV_160.ext x_250 (un_ne tV uh (by decide))
  refine lv_aload_n G0.1 G0.2.1 dX11_init_96 rfl (lv_at hl 0 rfl) ?_
  refine py_new (C := RX0) (T := TX0) (N := 5) (ci := 0) (fs := [.null, .null, .null, .int 0, .int 0]) (ty0 := tyX0) G0 hw tyX0_ok in_X11_init_X0 rfl (by decide +kernel) (by decide +kernel) (by decide +kernel) (fun j hj => match j, hj with | 0, _ => rfl | 1, _ => rfl | 2, _ => rfl | 3, _ => rfl | 4, _ => rfl | n + 5, h => absurd h (by omega)) (Nat.le_of_ble_eq_true rfl) (Nat.le_of_ble_eq_true rfl) dX11_init_97 (fun q_251 L_252 f_253 H_254 hq_255 h_256 x_257 hw => ?_)
  have u_258 := hZ.un hq_255
  have nq_259 := hT.ne hq_255
  have ne_260 : h ≠ q_251 := py_ne_new h_249 hq_255
  have h_249 := h_249.all x_257
  have hT_23 := hT_23.all x_257
  have hR_49 := hR_49.all x_257
  have hla := hla.all x_257
  have hF_159 := hF_159.all x_257
  have hV_160 := hV_160.all x_257
  have hZ := hZ.all x_257
  have hT := hT.all x_257
  refine lv_dup G0.1 G0.2.1 dX11_init_100 rfl ?_
  have nr_261 : q_1 ≠ q_251 := un_ne ty_17 u_258 (by decide)
  have nr_262 : q_28 ≠ q_251 := un_ne ty_45 u_258 (by decide)
  have nr_263 : q_79 ≠ q_251 := un_ne ty_90 u_258 (by decide)
  have nr_264 : q_137 ≠ q_251 := un_ne ty_156 u_258 (by decide)
  have nr_265 : V ≠ q_251 := un_ne tV u_258 (by decide)
  refine py_callv hw (va_runIN (As := []) (rest := [.ref q_251, .ref h]) G0 (c_X0_init l E G_246 L_252 f_253 H_254.size q_251 hZ h_256 u_258) ⟨va_cnB 0 G0.2.2.2.2 g_X11_init_X0_init_66 rfl rfl rfl (hw.1.2.2 (RX11, 66, yX0_init) (List.mem_of_getElem? (i := 8) rfl)) (G0.2.2.2.2 (Cond.initialized RX0) (by decide +kernel)) (by decide +kernel) ⟨(Nat.le_of_ble_eq_true rfl), (Nat.le_of_ble_eq_true rfl)⟩, rfl, G0.2.2.2.2 (Cond.instanceMethod yX0_init) (by decide +kernel)⟩ (py_preS hw) rfl rfl hl.1 rfl (lv_room (Nat.le_of_ble_eq_true rfl)) dX11_init_101 ⟨(Nat.le_of_ble_eq_true rfl), (Nat.le_of_ble_eq_true rfl)⟩) (fun L_266 f_267 H_268 locs hp_269 hw => ?_)
  obtain ⟨G_273, gx_271, hZ, ty_272, nt_273⟩ := hp_269
  have ty_17 := gx_271.ty ty_17 (by decide)
  have ty_45 := gx_271.ty ty_45 (by decide)
  have tD_50 := gx_271.ty tD_50 (by decide)
  have ty_73 := gx_271.ty ty_73 (by decide)
  have ty_90 := gx_271.ty ty_90 (by decide)
  have ty_125 := gx_271.ty ty_125 (by decide)
  have ty_128 := gx_271.ty ty_128 (by decide)
  have ty_131 := gx_271.ty ty_131 (by decide)
  have ty_156 := gx_271.ty ty_156 (by decide)
  have tV := gx_271.ty tV (by decide)
  have ty_189 := gx_271.ty ty_189 (by decide)
  have ty_217 := gx_271.ty ty_217 (by decide)
  have ty_245 := gx_271.ty ty_245 (by decide)
  have hX := hX.trans gx_271
  have u_z := (nt_273 h h_249.1 ne_260).2.2
  have h_249 := nt_273.at h_249 ne_260
  have uh := u_z.trans uh
  have hT_23 := nt_273.at hT_23 nr_261
  have hR_49 := nt_273.at hR_49 nr_262
  have hla := nt_273.at hla nr_263
  have hF_159 := nt_273.at hF_159 nr_264
  have hV_160 := nt_273.at hV_160 nr_265
  have hT := hT.sub nt_273 nq_259
  refine py_putF (C := RX11) (T := TX11) (N := 16) (k := 9) (v := .ref q_251) (fs' := [.ref q_1, .ref q_28, .ref q_55, .ref q_79, .ref r_100, .ref q_137, .ref q_168, .ref q_196, .ref q_224, .ref q_251, .null, .null, .null, .int 0, .int 0, .int 0]) (ty0 := tyX11) G0 hin hw tyX11_ok nmX11 in_X11_init_X11 rfl h_249 (by decide) (by decide +kernel) rfl rfl rfl rfl rfl (Nat.le_of_ble_eq_true rfl) rfl dX11_init_104 (fun f_274 H_275 locs h_276 x_277 hw => ?_)
  have hZ := hZ.unt uh x_277
  have hT := hT.ext x_277
  have hT_23 := hT_23.ext x_277 (un_ne ty_17 uh (by decide))
  have hR_49 := hR_49.ext x_277 (un_ne ty_45 uh (by decide))
  have hla := hla.ext x_277 (un_ne ty_90 uh (by decide))
  have hF_159 := hF_159.ext x_277 (un_ne ty_156 uh (by decide))
  have hV_160 := hV_160.ext x_277 (un_ne tV uh (by decide))
  refine lv_aload_n G0.1 G0.2.1 dX11_init_107 rfl (lv_at hl 0 rfl) ?_
  refine py_new (C := RX7) (T := TX7) (N := 5) (ci := 7) (fs := [.null, .null, .null, .int 0, .int 0]) (ty0 := tyX7) G0 hw tyX7_ok in_X11_init_X7 rfl (by decide +kernel) (by decide +kernel) (by decide +kernel) (fun j hj => match j, hj with | 0, _ => rfl | 1, _ => rfl | 2, _ => rfl | 3, _ => rfl | 4, _ => rfl | n + 5, h => absurd h (by omega)) (Nat.le_of_ble_eq_true rfl) (Nat.le_of_ble_eq_true rfl) dX11_init_108 (fun q_278 L_279 f_280 H_281 hq_282 h_283 x_284 hw => ?_)
  have u_285 := hZ.un hq_282
  have nq_286 := hT.ne hq_282
  have ne_287 : h ≠ q_278 := py_ne_new h_276 hq_282
  have h_276 := h_276.all x_284
  have hT_23 := hT_23.all x_284
  have hR_49 := hR_49.all x_284
  have hla := hla.all x_284
  have hF_159 := hF_159.all x_284
  have hV_160 := hV_160.all x_284
  have hZ := hZ.all x_284
  have hT := hT.all x_284
  refine lv_dup G0.1 G0.2.1 dX11_init_111 rfl ?_
  have nr_288 : q_1 ≠ q_278 := un_ne ty_17 u_285 (by decide)
  have nr_289 : q_28 ≠ q_278 := un_ne ty_45 u_285 (by decide)
  have nr_290 : q_79 ≠ q_278 := un_ne ty_90 u_285 (by decide)
  have nr_291 : q_137 ≠ q_278 := un_ne ty_156 u_285 (by decide)
  have nr_292 : V ≠ q_278 := un_ne tV u_285 (by decide)
  refine py_callv hw (va_runIN (As := []) (rest := [.ref q_278, .ref h]) G0 (c_X7_init l E G_273 L_279 f_280 H_281.size q_278 hZ h_283 u_285) ⟨va_cnB 0 G0.2.2.2.2 g_X11_init_X7_init_73 rfl rfl rfl (hw.1.2.2 (RX11, 73, yX7_init) (List.mem_of_getElem? (i := 9) rfl)) (G0.2.2.2.2 (Cond.initialized RX7) (by decide +kernel)) (by decide +kernel) ⟨(Nat.le_of_ble_eq_true rfl), (Nat.le_of_ble_eq_true rfl)⟩, rfl, G0.2.2.2.2 (Cond.instanceMethod yX7_init) (by decide +kernel)⟩ (py_preS hw) rfl rfl hl.1 rfl (lv_room (Nat.le_of_ble_eq_true rfl)) dX11_init_112 ⟨(Nat.le_of_ble_eq_true rfl), (Nat.le_of_ble_eq_true rfl)⟩) (fun L_293 f_294 H_295 locs hp_296 hw => ?_)
  obtain ⟨G_300, gx_298, hZ, ty_299, nt_300⟩ := hp_296
  have ty_17 := gx_298.ty ty_17 (by decide)
  have ty_45 := gx_298.ty ty_45 (by decide)
  have tD_50 := gx_298.ty tD_50 (by decide)
  have ty_73 := gx_298.ty ty_73 (by decide)
  have ty_90 := gx_298.ty ty_90 (by decide)
  have ty_125 := gx_298.ty ty_125 (by decide)
  have ty_128 := gx_298.ty ty_128 (by decide)
  have ty_131 := gx_298.ty ty_131 (by decide)
  have ty_156 := gx_298.ty ty_156 (by decide)
  have tV := gx_298.ty tV (by decide)
  have ty_189 := gx_298.ty ty_189 (by decide)
  have ty_217 := gx_298.ty ty_217 (by decide)
  have ty_245 := gx_298.ty ty_245 (by decide)
  have ty_272 := gx_298.ty ty_272 (by decide)
  have hX := hX.trans gx_298
  have u_z := (nt_300 h h_276.1 ne_287).2.2
  have h_276 := nt_300.at h_276 ne_287
  have uh := u_z.trans uh
  have hT_23 := nt_300.at hT_23 nr_288
  have hR_49 := nt_300.at hR_49 nr_289
  have hla := nt_300.at hla nr_290
  have hF_159 := nt_300.at hF_159 nr_291
  have hV_160 := nt_300.at hV_160 nr_292
  have hT := hT.sub nt_300 nq_286
  refine py_putF (C := RX11) (T := TX11) (N := 16) (k := 10) (v := .ref q_278) (fs' := [.ref q_1, .ref q_28, .ref q_55, .ref q_79, .ref r_100, .ref q_137, .ref q_168, .ref q_196, .ref q_224, .ref q_251, .ref q_278, .null, .null, .int 0, .int 0, .int 0]) (ty0 := tyX11) G0 hin hw tyX11_ok nmX11 in_X11_init_X11 rfl h_276 (by decide) (by decide +kernel) rfl rfl rfl rfl rfl (Nat.le_of_ble_eq_true rfl) rfl dX11_init_115 (fun f_301 H_302 locs h_303 x_304 hw => ?_)
  have hZ := hZ.unt uh x_304
  have hT := hT.ext x_304
  have hT_23 := hT_23.ext x_304 (un_ne ty_17 uh (by decide))
  have hR_49 := hR_49.ext x_304 (un_ne ty_45 uh (by decide))
  have hla := hla.ext x_304 (un_ne ty_90 uh (by decide))
  have hF_159 := hF_159.ext x_304 (un_ne ty_156 uh (by decide))
  have hV_160 := hV_160.ext x_304 (un_ne tV uh (by decide))
  refine lv_aload_n G0.1 G0.2.1 dX11_init_118 rfl (lv_at hl 0 rfl) ?_
  refine py_new (C := RX5) (T := TX5) (N := 1) (ci := 5) (fs := [.null]) (ty0 := tyX5) G0 hw tyX5_ok in_X11_init_X5 rfl (by decide +kernel) (by decide +kernel) (by decide +kernel) (fun j hj => match j, hj with | 0, _ => rfl | n + 1, h => absurd h (by omega)) (Nat.le_of_ble_eq_true rfl) (Nat.le_of_ble_eq_true rfl) dX11_init_119 (fun q_305 L_306 f_307 H_308 hq_309 h_310 x_311 hw => ?_)
  have u_312 := hZ.un hq_309
  have nq_313 := hT.ne hq_309
  have ne_314 : h ≠ q_305 := py_ne_new h_303 hq_309
  have h_303 := h_303.all x_311
  have hT_23 := hT_23.all x_311
  have hR_49 := hR_49.all x_311
  have hla := hla.all x_311
  have hF_159 := hF_159.all x_311
  have hV_160 := hV_160.all x_311
  have hZ := hZ.all x_311
  have hT := hT.all x_311
  refine lv_dup G0.1 G0.2.1 dX11_init_122 rfl ?_
  have nr_315 : q_1 ≠ q_305 := un_ne ty_17 u_312 (by decide)
  have nr_316 : q_28 ≠ q_305 := un_ne ty_45 u_312 (by decide)
  have nr_317 : q_79 ≠ q_305 := un_ne ty_90 u_312 (by decide)
  have nr_318 : q_137 ≠ q_305 := un_ne ty_156 u_312 (by decide)
  have nr_319 : V ≠ q_305 := un_ne tV u_312 (by decide)
  refine py_callv hw (va_runIN (As := []) (rest := [.ref q_305, .ref h]) G0 (c_X5_init l E G_300 L_306 f_307 H_308.size q_305 hZ h_310 u_312) ⟨va_cnB 0 G0.2.2.2.2 g_X11_init_X5_init_80 rfl rfl rfl (hw.1.2.2 (RX11, 80, yX5_init) (List.mem_of_getElem? (i := 10) rfl)) (G0.2.2.2.2 (Cond.initialized RX5) (by decide +kernel)) (by decide +kernel) ⟨(Nat.le_of_ble_eq_true rfl), (Nat.le_of_ble_eq_true rfl)⟩, rfl, G0.2.2.2.2 (Cond.instanceMethod yX5_init) (by decide +kernel)⟩ (py_preS hw) rfl rfl hl.1 rfl (lv_room (Nat.le_of_ble_eq_true rfl)) dX11_init_123 ⟨(Nat.le_of_ble_eq_true rfl), (Nat.le_of_ble_eq_true rfl)⟩) (fun L_320 f_321 H_322 locs hp_323 hw => ?_)
  obtain ⟨G_327, gx_325, hZ, ty_326, nt_327⟩ := hp_323
  have ty_17 := gx_325.ty ty_17 (by decide)
  have ty_45 := gx_325.ty ty_45 (by decide)
  have tD_50 := gx_325.ty tD_50 (by decide)
  have ty_73 := gx_325.ty ty_73 (by decide)
  have ty_90 := gx_325.ty ty_90 (by decide)
  have ty_125 := gx_325.ty ty_125 (by decide)
  have ty_128 := gx_325.ty ty_128 (by decide)
  have ty_131 := gx_325.ty ty_131 (by decide)
  have ty_156 := gx_325.ty ty_156 (by decide)
  have tV := gx_325.ty tV (by decide)
  have ty_189 := gx_325.ty ty_189 (by decide)
  have ty_217 := gx_325.ty ty_217 (by decide)
  have ty_245 := gx_325.ty ty_245 (by decide)
  have ty_272 := gx_325.ty ty_272 (by decide)
  have ty_299 := gx_325.ty ty_299 (by decide)
  have hX := hX.trans gx_325
  have u_z := (nt_327 h h_303.1 ne_314).2.2
  have h_303 := nt_327.at h_303 ne_314
  have uh := u_z.trans uh
  have hT_23 := nt_327.at hT_23 nr_315
  have hR_49 := nt_327.at hR_49 nr_316
  have hla := nt_327.at hla nr_317
  have hF_159 := nt_327.at hF_159 nr_318
  have hV_160 := nt_327.at hV_160 nr_319
  have hT := hT.sub nt_327 nq_313
  refine py_putF (C := RX11) (T := TX11) (N := 16) (k := 11) (v := .ref q_305) (fs' := [.ref q_1, .ref q_28, .ref q_55, .ref q_79, .ref r_100, .ref q_137, .ref q_168, .ref q_196, .ref q_224, .ref q_251, .ref q_278, .ref q_305, .null, .int 0, .int 0, .int 0]) (ty0 := tyX11) G0 hin hw tyX11_ok nmX11 in_X11_init_X11 rfl h_303 (by decide) (by decide +kernel) rfl rfl rfl rfl rfl (Nat.le_of_ble_eq_true rfl) rfl dX11_init_126 (fun f_328 H_329 locs h_330 x_331 hw => ?_)
  have hZ := hZ.unt uh x_331
  have hT := hT.ext x_331
  have hT_23 := hT_23.ext x_331 (un_ne ty_17 uh (by decide))
  have hR_49 := hR_49.ext x_331 (un_ne ty_45 uh (by decide))
  have hla := hla.ext x_331 (un_ne ty_90 uh (by decide))
  have hF_159 := hF_159.ext x_331 (un_ne ty_156 uh (by decide))
  have hV_160 := hV_160.ext x_331 (un_ne tV uh (by decide))
  refine lv_aload_n G0.1 G0.2.1 dX11_init_129 rfl (lv_at hl 0 rfl) ?_
  refine py_new (C := RX6) (T := TX6) (N := 7) (ci := 6) (fs := [.null, .null, .null, .null, .null, .null, .long 0]) (ty0 := tyX6) G0 hw tyX6_ok in_X11_init_X6 rfl (by decide +kernel) (by decide +kernel) (by decide +kernel) (fun j hj => match j, hj with | 0, _ => rfl | 1, _ => rfl | 2, _ => rfl | 3, _ => rfl | 4, _ => rfl | 5, _ => rfl | 6, _ => rfl | n + 7, h => absurd h (by omega)) (Nat.le_of_ble_eq_true rfl) (Nat.le_of_ble_eq_true rfl) dX11_init_130 (fun q_332 L_333 f_334 H_335 hq_336 h_337 x_338 hw => ?_)
  have u_339 := hZ.un hq_336
  have nq_340 := hT.ne hq_336
  have ne_341 : h ≠ q_332 := py_ne_new h_330 hq_336
  have h_330 := h_330.all x_338
  have hT_23 := hT_23.all x_338
  have hR_49 := hR_49.all x_338
  have hla := hla.all x_338
  have hF_159 := hF_159.all x_338
  have hV_160 := hV_160.all x_338
  have hZ := hZ.all x_338
  have hT := hT.all x_338
  refine lv_dup G0.1 G0.2.1 dX11_init_133 rfl ?_
  refine lv_aload_n G0.1 G0.2.1 dX11_init_134 rfl (lv_at hl 0 rfl) ?_
  refine py_get (C := RX11) (T := TX11) (N := 16) (k := 5) (v := .ref q_137) G0 hw in_X11_init_X11 rfl h_330 (by decide) (by decide +kernel) rfl dX11_init_135 ?_
  refine lv_aload_n G0.1 G0.2.1 dX11_init_138 rfl (lv_at hl 0 rfl) ?_
  refine py_get (C := RX11) (T := TX11) (N := 16) (k := 4) (v := .ref r_100) G0 hw in_X11_init_X11 rfl h_330 (by decide) (by decide +kernel) rfl dX11_init_139 ?_
  have nr_342 : q_1 ≠ q_332 := un_ne ty_17 u_339 (by decide)
  have nr_343 : q_28 ≠ q_332 := un_ne ty_45 u_339 (by decide)
  have nr_344 : q_79 ≠ q_332 := un_ne ty_90 u_339 (by decide)
  have nr_345 : q_137 ≠ q_332 := un_ne ty_156 u_339 (by decide)
  have nr_346 : V ≠ q_332 := un_ne tV u_339 (by decide)
  refine py_callv hw (va_runI (As := [.ref q_137, .ref r_100]) (rest := [.ref q_332, .ref h]) G0 (c_X6_init l E G_327 L_333 f_334 H_335.size q_332 q_137 r_100 hZ h_337 u_339 ty_156 ty_131) (cwI 2 G0.2.2.2.2 g_X11_init_X6_init_87 rfl rfl rfl (G0.2.2.2.2 (Cond.initialized RX6) (by decide +kernel)) (G0.2.2.2.2 (Cond.methodLink RX11 87 yX6_init) (by decide +kernel)) (G0.2.2.2.2 (Cond.instanceMethod yX6_init) (by decide +kernel)) rfl (by decide +kernel) ⟨(Nat.le_of_ble_eq_true rfl), (Nat.le_of_ble_eq_true rfl)⟩) (py_preS hw) rfl rfl hl.1 rfl (lv_room (Nat.le_of_ble_eq_true rfl)) dX11_init_142 ⟨(Nat.le_of_ble_eq_true rfl), (Nat.le_of_ble_eq_true rfl)⟩) (fun L_347 f_348 H_349 locs hp_350 hw => ?_)
  obtain ⟨G_354, gx_352, hZ, ty_353, nt_354, ho_355⟩ := hp_350
  have ty_17 := gx_352.ty ty_17 (by decide)
  have ty_45 := gx_352.ty ty_45 (by decide)
  have tD_50 := gx_352.ty tD_50 (by decide)
  have ty_73 := gx_352.ty ty_73 (by decide)
  have ty_90 := gx_352.ty ty_90 (by decide)
  have ty_125 := gx_352.ty ty_125 (by decide)
  have ty_128 := gx_352.ty ty_128 (by decide)
  have ty_131 := gx_352.ty ty_131 (by decide)
  have ty_156 := gx_352.ty ty_156 (by decide)
  have tV := gx_352.ty tV (by decide)
  have ty_189 := gx_352.ty ty_189 (by decide)
  have ty_217 := gx_352.ty ty_217 (by decide)
  have ty_245 := gx_352.ty ty_245 (by decide)
  have ty_272 := gx_352.ty ty_272 (by decide)
  have ty_299 := gx_352.ty ty_299 (by decide)
  have ty_326 := gx_352.ty ty_326 (by decide)
  have hX := hX.trans gx_352
  have u_z := (nt_354 h h_330.1 ne_341).2.2
  have h_330 := nt_354.at h_330 ne_341
  have uh := u_z.trans uh
  have hT_23 := nt_354.at hT_23 nr_342
  have hR_49 := nt_354.at hR_49 nr_343
  have hla := nt_354.at hla nr_344
  have hF_159 := nt_354.at hF_159 nr_345
  have hV_160 := nt_354.at hV_160 nr_346
  have hT := hT.sub nt_354 nq_340
  have hod := ho_355
  refine py_putF (C := RX11) (T := TX11) (N := 16) (k := 12) (v := .ref q_332) (fs' := [.ref q_1, .ref q_28, .ref q_55, .ref q_79, .ref r_100, .ref q_137, .ref q_168, .ref q_196, .ref q_224, .ref q_251, .ref q_278, .ref q_305, .ref q_332, .int 0, .int 0, .int 0]) (ty0 := tyX11) G0 hin hw tyX11_ok nmX11 in_X11_init_X11 rfl h_330 (by decide) (by decide +kernel) rfl rfl rfl rfl rfl (Nat.le_of_ble_eq_true rfl) rfl dX11_init_145 (fun f_356 H_357 locs h_358 x_359 hw => ?_)
  have hZ := hZ.unt uh x_359
  have hT := hT.ext x_359
  have hT_23 := hT_23.ext x_359 (un_ne ty_17 uh (by decide))
  have hR_49 := hR_49.ext x_359 (un_ne ty_45 uh (by decide))
  have hla := hla.ext x_359 (un_ne ty_90 uh (by decide))
  have hF_159 := hF_159.ext x_359 (un_ne ty_156 uh (by decide))
  have hV_160 := hV_160.ext x_359 (un_ne tV uh (by decide))
  refine lv_aload_n G0.1 G0.2.1 dX11_init_148 rfl (lv_at hl 0 rfl) ?_
  refine lv_iconst (v := 0) G0.1 G0.2.1 dX11_init_149 (by decide) ?_
  refine py_put (C := RX11) (T := TX11) (N := 16) (k := 13) (v := .int 0) (fs' := [.ref q_1, .ref q_28, .ref q_55, .ref q_79, .ref r_100, .ref q_137, .ref q_168, .ref q_196, .ref q_224, .ref q_251, .ref q_278, .ref q_305, .ref q_332, .int 0, .int 0, .int 0]) (ty0 := tyX11) G0 hw tyX11_ok nmX11 in_X11_init_X11 rfl h_358 (by decide) (by decide +kernel) rfl rfl rfl rfl (Nat.le_of_ble_eq_true rfl) rfl dX11_init_150 (fun f_360 H_361 locs h_362 x_363 hw => ?_)
  have hZ := hZ.unt uh x_363
  have hT := hT.ext x_363
  have hT_23 := hT_23.ext x_363 (un_ne ty_17 uh (by decide))
  have hR_49 := hR_49.ext x_363 (un_ne ty_45 uh (by decide))
  have hla := hla.ext x_363 (un_ne ty_90 uh (by decide))
  have hF_159 := hF_159.ext x_363 (un_ne ty_156 uh (by decide))
  have hV_160 := hV_160.ext x_363 (un_ne tV uh (by decide))
  refine lv_aload_n G0.1 G0.2.1 dX11_init_153 rfl (lv_at hl 0 rfl) ?_
  refine lv_iconst (v := (-1)) G0.1 G0.2.1 dX11_init_154 (by decide) ?_
  refine py_put (C := RX11) (T := TX11) (N := 16) (k := 14) (v := .int (-1)) (fs' := [.ref q_1, .ref q_28, .ref q_55, .ref q_79, .ref r_100, .ref q_137, .ref q_168, .ref q_196, .ref q_224, .ref q_251, .ref q_278, .ref q_305, .ref q_332, .int 0, .int (-1), .int 0]) (ty0 := tyX11) G0 hw tyX11_ok nmX11 in_X11_init_X11 rfl h_362 (by decide) (by decide +kernel) rfl rfl rfl rfl (Nat.le_of_ble_eq_true rfl) rfl dX11_init_155 (fun f_364 H_365 locs h_366 x_367 hw => ?_)
  have hZ := hZ.unt uh x_367
  have hT := hT.ext x_367
  have hT_23 := hT_23.ext x_367 (un_ne ty_17 uh (by decide))
  have hR_49 := hR_49.ext x_367 (un_ne ty_45 uh (by decide))
  have hla := hla.ext x_367 (un_ne ty_90 uh (by decide))
  have hF_159 := hF_159.ext x_367 (un_ne ty_156 uh (by decide))
  have hV_160 := hV_160.ext x_367 (un_ne tV uh (by decide))
  refine lv_aload_n G0.1 G0.2.1 dX11_init_158 rfl (lv_at hl 0 rfl) ?_
  refine lv_iconst (v := 0) G0.1 G0.2.1 dX11_init_159 (by decide) ?_
  refine py_put (C := RX11) (T := TX11) (N := 16) (k := 15) (v := .int 0) (fs' := [.ref q_1, .ref q_28, .ref q_55, .ref q_79, .ref r_100, .ref q_137, .ref q_168, .ref q_196, .ref q_224, .ref q_251, .ref q_278, .ref q_305, .ref q_332, .int 0, .int (-1), .int 0]) (ty0 := tyX11) G0 hw tyX11_ok nmX11 in_X11_init_X11 rfl h_366 (by decide) (by decide +kernel) rfl rfl rfl rfl (Nat.le_of_ble_eq_true rfl) rfl dX11_init_160 (fun f_368 H_369 locs h_370 x_371 hw => ?_)
  have hZ := hZ.unt uh x_371
  have hT := hT.ext x_371
  have hT_23 := hT_23.ext x_371 (un_ne ty_17 uh (by decide))
  have hR_49 := hR_49.ext x_371 (un_ne ty_45 uh (by decide))
  have hla := hla.ext x_371 (un_ne ty_90 uh (by decide))
  have hF_159 := hF_159.ext x_371 (un_ne ty_156 uh (by decide))
  have hV_160 := hV_160.ext x_371 (un_ne tV uh (by decide))
  obtain ⟨G_373, gx_372, hZ, hth, hrr, ee_373⟩ := hZ.ty (c := 12) (r := (fun j => match j with | 0 => q_1 | 1 => q_28 | 2 => q_55 | 3 => q_79 | 4 => r_100 | 5 => q_137 | 6 => q_168 | 7 => q_196 | 8 => q_224 | 9 => q_251 | 10 => q_278 | 11 => q_305 | 12 => q_332 | _ => 0)) uh (by decide) h_370.1 (fun G1 gg e1 hr => ⟨0, (-1), 0, by rw [hr 0, hr 1, hr 2, hr 3, hr 4, hr 5, hr 6, hr 7, hr 8, hr 9, hr 10, hr 11, hr 12]; exact h_370.2, ⟨by decide, by decide⟩, ⟨by decide, by decide⟩, ⟨by decide, by decide⟩⟩) (fun G1 gg e1 hr => ⟨by rw [hr 0]; exact gg.ty ty_17 (by decide), by rw [hr 1]; exact gg.ty ty_45 (by decide), by rw [hr 2]; exact gg.ty ty_73 (by decide), by rw [hr 3]; exact gg.ty ty_90 (by decide), by rw [hr 4]; exact gg.ty ty_131 (by decide), by rw [hr 5]; exact gg.ty ty_156 (by decide), by rw [hr 6]; exact gg.ty ty_189 (by decide), by rw [hr 7]; exact gg.ty ty_217 (by decide), by rw [hr 8]; exact gg.ty ty_245 (by decide), by rw [hr 9]; exact gg.ty ty_272 (by decide), by rw [hr 10]; exact gg.ty ty_299 (by decide), by rw [hr 11]; exact gg.ty ty_326 (by decide), by rw [hr 12]; exact gg.ty ty_353 (by decide), by rw [hr 5, hr 6]; exact hn56, by rw [hr 5, hr 7]; exact hn57, by rw [hr 6, hr 7]; exact hn67, by rw [show G1.2 h 12 = q_332 from hr 12, show G1.2 h 5 = q_137 from hr 5, (gg q_332 (by rw [ty_353]; decide)).2 2]; exact hod⟩) (fun e => absurd e (by decide))
  have ty_17 := gx_372.ty ty_17 (by decide)
  have ty_45 := gx_372.ty ty_45 (by decide)
  have tD_50 := gx_372.ty tD_50 (by decide)
  have ty_73 := gx_372.ty ty_73 (by decide)
  have ty_90 := gx_372.ty ty_90 (by decide)
  have ty_125 := gx_372.ty ty_125 (by decide)
  have ty_128 := gx_372.ty ty_128 (by decide)
  have ty_131 := gx_372.ty ty_131 (by decide)
  have ty_156 := gx_372.ty ty_156 (by decide)
  have tV := gx_372.ty tV (by decide)
  have ty_189 := gx_372.ty ty_189 (by decide)
  have ty_217 := gx_372.ty ty_217 (by decide)
  have ty_245 := gx_372.ty ty_245 (by decide)
  have ty_272 := gx_372.ty ty_272 (by decide)
  have ty_299 := gx_372.ty ty_299 (by decide)
  have ty_326 := gx_372.ty ty_326 (by decide)
  have ty_353 := gx_372.ty ty_353 (by decide)
  have hX := hX.trans gx_372
  have hT : NTR L f G h _ _ G_373 := fun b hb hn => ⟨(hT b hb hn).1, (hT b hb hn).2.1, (ee_373 b hn).trans (hT b hb hn).2.2⟩
  exact py_vret G0 hr hlk hw ⟨G_373, hX, hZ, hth, hT, (gi_init (F := q_137) (R := q_28) (V := V) (D := D) hZ.2.2 (hrr 5) (hrr 1) ((fo_eq hF_159).1) (by rw [(fo_eq hF_159).2.1]; exact hyv) (by rw [(fo_eq hF_159).2.2.2, (va_eq hV_160).2]; exact hnv) (by rw [hR_49.2]; rfl) hVD (hy_eq h_370)), (by rw [hrr 0]; exact (tp_eq hT_23).1.trans htl), (show hy_n _ h = 0 from (hy_eq h_370).1), (by rw [hrr 5]; show fv_l _ q_137 = 0; rw [(fo_eq hF_159).2.2.1, (va_eq hV_160).1]; exact hlvv), (by rw [hrr 5]; show fo_y _ q_137 = 0; rw [(fo_eq hF_159).2.1]; exact hyv), (show hy_m _ h = 0 from (hy_eq h_370).2)⟩ dX11_init_163
