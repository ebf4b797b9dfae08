theorem dX0_init_0 : decode cX0_init 0 = .ok (.aload_n 0, 1) := by decide +kernel
theorem dX0_init_1 : decode cX0_init 1 = .ok (.invokespecial 1, 3) := by decide +kernel
theorem dX0_init_4 : decode cX0_init 4 = .ok (.aload_n 0, 1) := by decide +kernel
theorem dX0_init_5 : decode cX0_init 5 = .ok (.bipush 40, 2) := by decide +kernel
theorem dX0_init_7 : decode cX0_init 7 = .ok (.newarray .int, 2) := by decide +kernel
theorem dX0_init_9 : decode cX0_init 9 = .ok (.putfield 9, 3) := by decide +kernel
theorem dX0_init_12 : decode cX0_init 12 = .ok (.aload_n 0, 1) := by decide +kernel
theorem dX0_init_13 : decode cX0_init 13 = .ok (.bipush 40, 2) := by decide +kernel
theorem dX0_init_15 : decode cX0_init 15 = .ok (.newarray .int, 2) := by decide +kernel
theorem dX0_init_17 : decode cX0_init 17 = .ok (.putfield 13, 3) := by decide +kernel
theorem dX0_init_20 : decode cX0_init 20 = .ok (.aload_n 0, 1) := by decide +kernel
theorem dX0_init_21 : decode cX0_init 21 = .ok (.bipush 40, 2) := by decide +kernel
theorem dX0_init_23 : decode cX0_init 23 = .ok (.newarray .int, 2) := by decide +kernel
theorem dX0_init_25 : decode cX0_init 25 = .ok (.putfield 16, 3) := by decide +kernel
theorem dX0_init_28 : decode cX0_init 28 = .ok (.aload_n 0, 1) := by decide +kernel
theorem dX0_init_29 : decode cX0_init 29 = .ok (.iconst 0, 1) := by decide +kernel
theorem dX0_init_30 : decode cX0_init 30 = .ok (.putfield 19, 3) := by decide +kernel
theorem dX0_init_33 : decode cX0_init 33 = .ok (.aload_n 0, 1) := by decide +kernel
theorem dX0_init_34 : decode cX0_init 34 = .ok (.bipush 10, 2) := by decide +kernel
theorem dX0_init_36 : decode cX0_init 36 = .ok (.putfield 23, 3) := by decide +kernel
theorem dX0_init_39 : decode cX0_init 39 = .ok (.return_, 1) := by decide +kernel
theorem dX10_init_0 : decode cX10_init 0 = .ok (.aload_n 0, 1) := by decide +kernel
theorem dX10_init_1 : decode cX10_init 1 = .ok (.invokespecial 3, 3) := by decide +kernel
theorem dX10_init_4 : decode cX10_init 4 = .ok (.aload_n 0, 1) := by decide +kernel
theorem dX10_init_5 : decode cX10_init 5 = .ok (.iconst 4, 1) := by decide +kernel
theorem dX10_init_6 : decode cX10_init 6 = .ok (.newarray .int, 2) := by decide +kernel
theorem dX10_init_8 : decode cX10_init 8 = .ok (.putfield 11, 3) := by decide +kernel
theorem dX10_init_11 : decode cX10_init 11 = .ok (.aload_n 0, 1) := by decide +kernel
theorem dX10_init_12 : decode cX10_init 12 = .ok (.new 15, 3) := by decide +kernel
theorem dX10_init_15 : decode cX10_init 15 = .ok (.dup, 1) := by decide +kernel
theorem dX10_init_16 : decode cX10_init 16 = .ok (.invokespecial 17, 3) := by decide +kernel
theorem dX10_init_19 : decode cX10_init 19 = .ok (.putfield 18, 3) := by decide +kernel
theorem dX10_init_22 : decode cX10_init 22 = .ok (.return_, 1) := by decide +kernel
theorem dX1_init_0 : decode cX1_init 0 = .ok (.aload_n 0, 1) := by decide +kernel
theorem dX1_init_1 : decode cX1_init 1 = .ok (.invokespecial 5, 3) := by decide +kernel
theorem dX1_init_4 : decode cX1_init 4 = .ok (.aload_n 0, 1) := by decide +kernel
theorem dX1_init_5 : decode cX1_init 5 = .ok (.sipush 600, 3) := by decide +kernel
theorem dX1_init_8 : decode cX1_init 8 = .ok (.newarray .int, 2) := by decide +kernel
theorem dX1_init_10 : decode cX1_init 10 = .ok (.putfield 13, 3) := by decide +kernel
theorem dX1_init_13 : decode cX1_init 13 = .ok (.aload_n 0, 1) := by decide +kernel
theorem dX1_init_14 : decode cX1_init 14 = .ok (.sipush 600, 3) := by decide +kernel
theorem dX1_init_17 : decode cX1_init 17 = .ok (.newarray .int, 2) := by decide +kernel
theorem dX1_init_19 : decode cX1_init 19 = .ok (.putfield 17, 3) := by decide +kernel
theorem dX1_init_22 : decode cX1_init 22 = .ok (.aload_n 0, 1) := by decide +kernel
theorem dX1_init_23 : decode cX1_init 23 = .ok (.iconst 0, 1) := by decide +kernel
theorem dX1_init_24 : decode cX1_init 24 = .ok (.putfield 20, 3) := by decide +kernel
theorem dX1_init_27 : decode cX1_init 27 = .ok (.return_, 1) := by decide +kernel
theorem dX2_init_0 : decode cX2_init 0 = .ok (.aload_n 0, 1) := by decide +kernel
theorem dX2_init_1 : decode cX2_init 1 = .ok (.invokespecial 3, 3) := by decide +kernel
theorem dX2_init_4 : decode cX2_init 4 = .ok (.aload_n 0, 1) := by decide +kernel
theorem dX2_init_5 : decode cX2_init 5 = .ok (.bipush 10, 2) := by decide +kernel
theorem dX2_init_7 : decode cX2_init 7 = .ok (.newarray .int, 2) := by decide +kernel
theorem dX2_init_9 : decode cX2_init 9 = .ok (.putfield 11, 3) := by decide +kernel
theorem dX2_init_12 : decode cX2_init 12 = .ok (.aload_n 0, 1) := by decide +kernel
theorem dX2_init_13 : decode cX2_init 13 = .ok (.bipush 10, 2) := by decide +kernel
theorem dX2_init_15 : decode cX2_init 15 = .ok (.newarray .int, 2) := by decide +kernel
theorem dX2_init_17 : decode cX2_init 17 = .ok (.putfield 17, 3) := by decide +kernel
theorem dX2_init_20 : decode cX2_init 20 = .ok (.aload_n 0, 1) := by decide +kernel
theorem dX2_init_21 : decode cX2_init 21 = .ok (.bipush 10, 2) := by decide +kernel
theorem dX2_init_23 : decode cX2_init 23 = .ok (.newarray .int, 2) := by decide +kernel
theorem dX2_init_25 : decode cX2_init 25 = .ok (.putfield 20, 3) := by decide +kernel
theorem dX2_init_28 : decode cX2_init 28 = .ok (.aload_n 0, 1) := by decide +kernel
theorem dX2_init_29 : decode cX2_init 29 = .ok (.bipush 10, 2) := by decide +kernel
theorem dX2_init_31 : decode cX2_init 31 = .ok (.newarray .int, 2) := by decide +kernel
theorem dX2_init_33 : decode cX2_init 33 = .ok (.putfield 23, 3) := by decide +kernel
theorem dX2_init_36 : decode cX2_init 36 = .ok (.aload_n 0, 1) := by decide +kernel
theorem dX2_init_37 : decode cX2_init 37 = .ok (.bipush 10, 2) := by decide +kernel
theorem dX2_init_39 : decode cX2_init 39 = .ok (.newarray .int, 2) := by decide +kernel
theorem dX2_init_41 : decode cX2_init 41 = .ok (.putfield 26, 3) := by decide +kernel
theorem dX2_init_44 : decode cX2_init 44 = .ok (.aload_n 0, 1) := by decide +kernel
theorem dX2_init_45 : decode cX2_init 45 = .ok (.bipush 10, 2) := by decide +kernel
theorem dX2_init_47 : decode cX2_init 47 = .ok (.newarray .int, 2) := by decide +kernel
theorem dX2_init_49 : decode cX2_init 49 = .ok (.putfield 29, 3) := by decide +kernel
theorem dX2_init_52 : decode cX2_init 52 = .ok (.aload_n 0, 1) := by decide +kernel
theorem dX2_init_53 : decode cX2_init 53 = .ok (.bipush 10, 2) := by decide +kernel
theorem dX2_init_55 : decode cX2_init 55 = .ok (.newarray .int, 2) := by decide +kernel
theorem dX2_init_57 : decode cX2_init 57 = .ok (.putfield 32, 3) := by decide +kernel
theorem dX2_init_60 : decode cX2_init 60 = .ok (.aload_n 0, 1) := by decide +kernel
theorem dX2_init_61 : decode cX2_init 61 = .ok (.bipush 10, 2) := by decide +kernel
theorem dX2_init_63 : decode cX2_init 63 = .ok (.newarray .int, 2) := by decide +kernel
theorem dX2_init_65 : decode cX2_init 65 = .ok (.putfield 35, 3) := by decide +kernel
theorem dX2_init_68 : decode cX2_init 68 = .ok (.aload_n 0, 1) := by decide +kernel
theorem dX2_init_69 : decode cX2_init 69 = .ok (.bipush 10, 2) := by decide +kernel
theorem dX2_init_71 : decode cX2_init 71 = .ok (.newarray .boolean, 2) := by decide +kernel
theorem dX2_init_73 : decode cX2_init 73 = .ok (.putfield 38, 3) := by decide +kernel
theorem dX2_init_76 : decode cX2_init 76 = .ok (.aload_n 0, 1) := by decide +kernel
theorem dX2_init_77 : decode cX2_init 77 = .ok (.new 9, 3) := by decide +kernel
theorem dX2_init_80 : decode cX2_init 80 = .ok (.dup, 1) := by decide +kernel
theorem dX2_init_81 : decode cX2_init 81 = .ok (.invokespecial 42, 3) := by decide +kernel
theorem dX2_init_84 : decode cX2_init 84 = .ok (.putfield 43, 3) := by decide +kernel
theorem dX2_init_87 : decode cX2_init 87 = .ok (.aload_n 0, 1) := by decide +kernel
theorem dX2_init_88 : decode cX2_init 88 = .ok (.lconst 0, 1) := by decide +kernel
theorem dX2_init_89 : decode cX2_init 89 = .ok (.putfield 47, 3) := by decide +kernel
theorem dX2_init_92 : decode cX2_init 92 = .ok (.aload_n 0, 1) := by decide +kernel
theorem dX2_init_93 : decode cX2_init 93 = .ok (.iconst 0, 1) := by decide +kernel
theorem dX2_init_94 : decode cX2_init 94 = .ok (.putfield 51, 3) := by decide +kernel
theorem dX2_init_97 : decode cX2_init 97 = .ok (.return_, 1) := by decide +kernel
theorem dX3_add_0 : decode cX3_add 0 = .ok (.aload_n 0, 1) := by decide +kernel
theorem dX3_add_1 : decode cX3_add 1 = .ok (.getfield 18, 3) := by decide +kernel
theorem dX3_add_4 : decode cX3_add 4 = .ok (.aload_n 0, 1) := by decide +kernel
theorem dX3_add_5 : decode cX3_add 5 = .ok (.getfield 9, 3) := by decide +kernel
theorem dX3_add_8 : decode cX3_add 8 = .ok (.arraylength, 1) := by decide +kernel
theorem dX3_add_9 : decode cX3_add 9 = .ok (.if_icmp .ge 28, 3) := by decide +kernel
theorem dX3_add_12 : decode cX3_add 12 = .ok (.aload_n 0, 1) := by decide +kernel
theorem dX3_add_13 : decode cX3_add 13 = .ok (.getfield 9, 3) := by decide +kernel
theorem dX3_add_16 : decode cX3_add 16 = .ok (.aload_n 0, 1) := by decide +kernel
theorem dX3_add_17 : decode cX3_add 17 = .ok (.getfield 18, 3) := by decide +kernel
theorem dX3_add_20 : decode cX3_add 20 = .ok (.iload_n 1, 1) := by decide +kernel
theorem dX3_add_21 : decode cX3_add 21 = .ok (.bipush 16, 2) := by decide +kernel
theorem dX3_add_23 : decode cX3_add 23 = .ok (.ishl, 1) := by decide +kernel
theorem dX3_add_24 : decode cX3_add 24 = .ok (.iload_n 2, 1) := by decide +kernel
theorem dX3_add_25 : decode cX3_add 25 = .ok (.ior, 1) := by decide +kernel
theorem dX3_add_26 : decode cX3_add 26 = .ok (.iastore, 1) := by decide +kernel
theorem dX3_add_27 : decode cX3_add 27 = .ok (.aload_n 0, 1) := by decide +kernel
theorem dX3_add_28 : decode cX3_add 28 = .ok (.dup, 1) := by decide +kernel
theorem dX3_add_29 : decode cX3_add 29 = .ok (.getfield 18, 3) := by decide +kernel
theorem dX3_add_32 : decode cX3_add 32 = .ok (.iconst 1, 1) := by decide +kernel
theorem dX3_add_33 : decode cX3_add 33 = .ok (.iadd, 1) := by decide +kernel
theorem dX3_add_34 : decode cX3_add 34 = .ok (.putfield 18, 3) := by decide +kernel
theorem dX3_add_37 : decode cX3_add 37 = .ok (.return_, 1) := by decide +kernel
theorem dX3_bornLessDead_0 : decode cX3_bornLessDead 0 = .ok (.new 10, 3) := by decide +kernel
theorem dX3_bornLessDead_3 : decode cX3_bornLessDead 3 = .ok (.dup, 1) := by decide +kernel
theorem dX3_bornLessDead_4 : decode cX3_bornLessDead 4 = .ok (.invokespecial 22, 3) := by decide +kernel
theorem dX3_bornLessDead_7 : decode cX3_bornLessDead 7 = .ok (.astore_n 0, 1) := by decide +kernel
theorem dX3_bornLessDead_8 : decode cX3_bornLessDead 8 = .ok (.aload_n 0, 1) := by decide +kernel
theorem dX3_bornLessDead_9 : decode cX3_bornLessDead 9 = .ok (.bipush 121, 2) := by decide +kernel
theorem dX3_bornLessDead_11 : decode cX3_bornLessDead 11 = .ok (.iconst 0, 1) := by decide +kernel
theorem dX3_bornLessDead_12 : decode cX3_bornLessDead 12 = .ok (.invokevirtual 23, 3) := by decide +kernel
theorem dX3_bornLessDead_15 : decode cX3_bornLessDead 15 = .ok (.aload_n 0, 1) := by decide +kernel
theorem dX3_bornLessDead_16 : decode cX3_bornLessDead 16 = .ok (.bipush 121, 2) := by decide +kernel
theorem dX3_bornLessDead_18 : decode cX3_bornLessDead 18 = .ok (.iconst 1, 1) := by decide +kernel
theorem dX3_bornLessDead_19 : decode cX3_bornLessDead 19 = .ok (.invokevirtual 23, 3) := by decide +kernel
theorem dX3_bornLessDead_22 : decode cX3_bornLessDead 22 = .ok (.aload_n 0, 1) := by decide +kernel
theorem dX3_bornLessDead_23 : decode cX3_bornLessDead 23 = .ok (.bipush 45, 2) := by decide +kernel
theorem dX3_bornLessDead_25 : decode cX3_bornLessDead 25 = .ok (.iconst 0, 1) := by decide +kernel
theorem dX3_bornLessDead_26 : decode cX3_bornLessDead 26 = .ok (.invokevirtual 23, 3) := by decide +kernel
theorem dX3_bornLessDead_29 : decode cX3_bornLessDead 29 = .ok (.aload_n 0, 1) := by decide +kernel
theorem dX3_bornLessDead_30 : decode cX3_bornLessDead 30 = .ok (.bipush 59, 2) := by decide +kernel
theorem dX3_bornLessDead_32 : decode cX3_bornLessDead 32 = .ok (.iconst 0, 1) := by decide +kernel
theorem dX3_bornLessDead_33 : decode cX3_bornLessDead 33 = .ok (.invokevirtual 23, 3) := by decide +kernel
theorem dX3_bornLessDead_36 : decode cX3_bornLessDead 36 = .ok (.aload_n 0, 1) := by decide +kernel
theorem dX3_bornLessDead_37 : decode cX3_bornLessDead 37 = .ok (.areturn, 1) := by decide +kernel
theorem dX3_init_0 : decode cX3_init 0 = .ok (.aload_n 0, 1) := by decide +kernel
theorem dX3_init_1 : decode cX3_init 1 = .ok (.invokespecial 1, 3) := by decide +kernel
theorem dX3_init_4 : decode cX3_init 4 = .ok (.aload_n 0, 1) := by decide +kernel
theorem dX3_init_5 : decode cX3_init 5 = .ok (.sipush 160, 3) := by decide +kernel
theorem dX3_init_8 : decode cX3_init 8 = .ok (.newarray .int, 2) := by decide +kernel
theorem dX3_init_10 : decode cX3_init 10 = .ok (.putfield 9, 3) := by decide +kernel
theorem dX3_init_13 : decode cX3_init 13 = .ok (.aload_n 0, 1) := by decide +kernel
theorem dX3_init_14 : decode cX3_init 14 = .ok (.bipush 32, 2) := by decide +kernel
theorem dX3_init_16 : decode cX3_init 16 = .ok (.newarray .int, 2) := by decide +kernel
theorem dX3_init_18 : decode cX3_init 18 = .ok (.putfield 15, 3) := by decide +kernel
theorem dX3_init_21 : decode cX3_init 21 = .ok (.aload_n 0, 1) := by decide +kernel
theorem dX3_init_22 : decode cX3_init 22 = .ok (.iconst 0, 1) := by decide +kernel
theorem dX3_init_23 : decode cX3_init 23 = .ok (.putfield 18, 3) := by decide +kernel
theorem dX3_init_26 : decode cX3_init 26 = .ok (.return_, 1) := by decide +kernel
theorem dX4_init_0 : decode cX4_init 0 = .ok (.aload_n 0, 1) := by decide +kernel
theorem dX4_init_1 : decode cX4_init 1 = .ok (.invokespecial 3, 3) := by decide +kernel
theorem dX4_init_4 : decode cX4_init 4 = .ok (.aload_n 0, 1) := by decide +kernel
theorem dX4_init_5 : decode cX4_init 5 = .ok (.new 9, 3) := by decide +kernel
theorem dX4_init_8 : decode cX4_init 8 = .ok (.dup, 1) := by decide +kernel
theorem dX4_init_9 : decode cX4_init 9 = .ok (.invokespecial 11, 3) := by decide +kernel
theorem dX4_init_12 : decode cX4_init 12 = .ok (.putfield 12, 3) := by decide +kernel
theorem dX4_init_15 : decode cX4_init 15 = .ok (.return_, 1) := by decide +kernel
theorem dX5_init_0 : decode cX5_init 0 = .ok (.aload_n 0, 1) := by decide +kernel
theorem dX5_init_1 : decode cX5_init 1 = .ok (.invokespecial 3, 3) := by decide +kernel
theorem dX5_init_4 : decode cX5_init 4 = .ok (.aload_n 0, 1) := by decide +kernel
theorem dX5_init_5 : decode cX5_init 5 = .ok (.bipush 8, 2) := by decide +kernel
theorem dX5_init_7 : decode cX5_init 7 = .ok (.newarray .int, 2) := by decide +kernel
theorem dX5_init_9 : decode cX5_init 9 = .ok (.putfield 11, 3) := by decide +kernel
theorem dX5_init_12 : decode cX5_init 12 = .ok (.return_, 1) := by decide +kernel
theorem dX6_init_0 : decode cX6_init 0 = .ok (.aload_n 0, 1) := by decide +kernel
theorem dX6_init_1 : decode cX6_init 1 = .ok (.invokespecial 3, 3) := by decide +kernel
theorem dX6_init_4 : decode cX6_init 4 = .ok (.aload_n 0, 1) := by decide +kernel
theorem dX6_init_5 : decode cX6_init 5 = .ok (.bipush 6, 2) := by decide +kernel
theorem dX6_init_7 : decode cX6_init 7 = .ok (.newarray .int, 2) := by decide +kernel
theorem dX6_init_9 : decode cX6_init 9 = .ok (.putfield 11, 3) := by decide +kernel
theorem dX6_init_12 : decode cX6_init 12 = .ok (.aload_n 0, 1) := by decide +kernel
theorem dX6_init_13 : decode cX6_init 13 = .ok (.bipush 22, 2) := by decide +kernel
theorem dX6_init_15 : decode cX6_init 15 = .ok (.newarray .long, 2) := by decide +kernel
theorem dX6_init_17 : decode cX6_init 17 = .ok (.putfield 17, 3) := by decide +kernel
theorem dX6_init_20 : decode cX6_init 20 = .ok (.aload_n 0, 1) := by decide +kernel
theorem dX6_init_21 : decode cX6_init 21 = .ok (.sipush 168, 3) := by decide +kernel
theorem dX6_init_24 : decode cX6_init 24 = .ok (.newarray .long, 2) := by decide +kernel
theorem dX6_init_26 : decode cX6_init 26 = .ok (.putfield 23, 3) := by decide +kernel
theorem dX6_init_29 : decode cX6_init 29 = .ok (.aload_n 0, 1) := by decide +kernel
theorem dX6_init_30 : decode cX6_init 30 = .ok (.sipush 168, 3) := by decide +kernel
theorem dX6_init_33 : decode cX6_init 33 = .ok (.newarray .long, 2) := by decide +kernel
theorem dX6_init_35 : decode cX6_init 35 = .ok (.putfield 26, 3) := by decide +kernel
theorem dX6_init_38 : decode cX6_init 38 = .ok (.aload_n 0, 1) := by decide +kernel
theorem dX6_init_39 : decode cX6_init 39 = .ok (.lconst 0, 1) := by decide +kernel
theorem dX6_init_40 : decode cX6_init 40 = .ok (.putfield 29, 3) := by decide +kernel
theorem dX6_init_43 : decode cX6_init 43 = .ok (.aload_n 0, 1) := by decide +kernel
theorem dX6_init_44 : decode cX6_init 44 = .ok (.aload_n 1, 1) := by decide +kernel
theorem dX6_init_45 : decode cX6_init 45 = .ok (.putfield 33, 3) := by decide +kernel
theorem dX6_init_48 : decode cX6_init 48 = .ok (.aload_n 0, 1) := by decide +kernel
theorem dX6_init_49 : decode cX6_init 49 = .ok (.aload_n 2, 1) := by decide +kernel
theorem dX6_init_50 : decode cX6_init 50 = .ok (.putfield 37, 3) := by decide +kernel
theorem dX6_init_53 : decode cX6_init 53 = .ok (.return_, 1) := by decide +kernel
theorem dX7_init_0 : decode cX7_init 0 = .ok (.aload_n 0, 1) := by decide +kernel
theorem dX7_init_1 : decode cX7_init 1 = .ok (.invokespecial 3, 3) := by decide +kernel
theorem dX7_init_4 : decode cX7_init 4 = .ok (.aload_n 0, 1) := by decide +kernel
theorem dX7_init_5 : decode cX7_init 5 = .ok (.bipush 8, 2) := by decide +kernel
theorem dX7_init_7 : decode cX7_init 7 = .ok (.newarray .int, 2) := by decide +kernel
theorem dX7_init_9 : decode cX7_init 9 = .ok (.putfield 11, 3) := by decide +kernel
theorem dX7_init_12 : decode cX7_init 12 = .ok (.aload_n 0, 1) := by decide +kernel
theorem dX7_init_13 : decode cX7_init 13 = .ok (.bipush 6, 2) := by decide +kernel
theorem dX7_init_15 : decode cX7_init 15 = .ok (.newarray .int, 2) := by decide +kernel
theorem dX7_init_17 : decode cX7_init 17 = .ok (.putfield 19, 3) := by decide +kernel
theorem dX7_init_20 : decode cX7_init 20 = .ok (.aload_n 0, 1) := by decide +kernel
theorem dX7_init_21 : decode cX7_init 21 = .ok (.bipush 10, 2) := by decide +kernel
theorem dX7_init_23 : decode cX7_init 23 = .ok (.newarray .int, 2) := by decide +kernel
theorem dX7_init_25 : decode cX7_init 25 = .ok (.putfield 22, 3) := by decide +kernel
theorem dX7_init_28 : decode cX7_init 28 = .ok (.aload_n 0, 1) := by decide +kernel
theorem dX7_init_29 : decode cX7_init 29 = .ok (.bipush 50, 2) := by decide +kernel
theorem dX7_init_31 : decode cX7_init 31 = .ok (.putfield 25, 3) := by decide +kernel
theorem dX7_init_34 : decode cX7_init 34 = .ok (.aload_n 0, 1) := by decide +kernel
theorem dX7_init_35 : decode cX7_init 35 = .ok (.iconst 0, 1) := by decide +kernel
theorem dX7_init_36 : decode cX7_init 36 = .ok (.putfield 29, 3) := by decide +kernel
theorem dX7_init_39 : decode cX7_init 39 = .ok (.return_, 1) := by decide +kernel
theorem dX8_init_0 : decode cX8_init 0 = .ok (.aload_n 0, 1) := by decide +kernel
theorem dX8_init_1 : decode cX8_init 1 = .ok (.invokespecial 1, 3) := by decide +kernel
theorem dX8_init_4 : decode cX8_init 4 = .ok (.aload_n 0, 1) := by decide +kernel
theorem dX8_init_5 : decode cX8_init 5 = .ok (.sipush 160, 3) := by decide +kernel
theorem dX8_init_8 : decode cX8_init 8 = .ok (.newarray .int, 2) := by decide +kernel
theorem dX8_init_10 : decode cX8_init 10 = .ok (.putfield 9, 3) := by decide +kernel
theorem dX8_init_13 : decode cX8_init 13 = .ok (.aload_n 0, 1) := by decide +kernel
theorem dX8_init_14 : decode cX8_init 14 = .ok (.iconst 0, 1) := by decide +kernel
theorem dX8_init_15 : decode cX8_init 15 = .ok (.putfield 13, 3) := by decide +kernel
theorem dX8_init_18 : decode cX8_init 18 = .ok (.aload_n 0, 1) := by decide +kernel
theorem dX8_init_19 : decode cX8_init 19 = .ok (.iconst 0, 1) := by decide +kernel
theorem dX8_init_20 : decode cX8_init 20 = .ok (.putfield 17, 3) := by decide +kernel
theorem dX8_init_23 : decode cX8_init 23 = .ok (.aload_n 0, 1) := by decide +kernel
theorem dX8_init_24 : decode cX8_init 24 = .ok (.iconst 0, 1) := by decide +kernel
theorem dX8_init_25 : decode cX8_init 25 = .ok (.putfield 20, 3) := by decide +kernel
theorem dX8_init_28 : decode cX8_init 28 = .ok (.return_, 1) := by decide +kernel
theorem dX9_init_0 : decode cX9_init 0 = .ok (.aload_n 0, 1) := by decide +kernel
theorem dX9_init_1 : decode cX9_init 1 = .ok (.invokespecial 1, 3) := by decide +kernel
theorem dX9_init_4 : decode cX9_init 4 = .ok (.aload_n 0, 1) := by decide +kernel
theorem dX9_init_5 : decode cX9_init 5 = .ok (.bipush 8, 2) := by decide +kernel
theorem dX9_init_7 : decode cX9_init 7 = .ok (.newarray .int, 2) := by decide +kernel
theorem dX9_init_9 : decode cX9_init 9 = .ok (.putfield 9, 3) := by decide +kernel
theorem dX9_init_12 : decode cX9_init 12 = .ok (.aload_n 0, 1) := by decide +kernel
theorem dX9_init_13 : decode cX9_init 13 = .ok (.bipush 8, 2) := by decide +kernel
theorem dX9_init_15 : decode cX9_init 15 = .ok (.newarray .int, 2) := by decide +kernel
theorem dX9_init_17 : decode cX9_init 17 = .ok (.putfield 13, 3) := by decide +kernel
theorem dX9_init_20 : decode cX9_init 20 = .ok (.aload_n 0, 1) := by decide +kernel
theorem dX9_init_21 : decode cX9_init 21 = .ok (.bipush 8, 2) := by decide +kernel
theorem dX9_init_23 : decode cX9_init 23 = .ok (.newarray .int, 2) := by decide +kernel
theorem dX9_init_25 : decode cX9_init 25 = .ok (.putfield 16, 3) := by decide +kernel
theorem dX9_init_28 : decode cX9_init 28 = .ok (.aload_n 0, 1) := by decide +kernel
theorem dX9_init_29 : decode cX9_init 29 = .ok (.bipush 8, 2) := by decide +kernel
theorem dX9_init_31 : decode cX9_init 31 = .ok (.newarray .int, 2) := by decide +kernel
theorem dX9_init_33 : decode cX9_init 33 = .ok (.putfield 19, 3) := by decide +kernel
theorem dX9_init_36 : decode cX9_init 36 = .ok (.aload_n 0, 1) := by decide +kernel
theorem dX9_init_37 : decode cX9_init 37 = .ok (.bipush 10, 2) := by decide +kernel
theorem dX9_init_39 : decode cX9_init 39 = .ok (.newarray .int, 2) := by decide +kernel
theorem dX9_init_41 : decode cX9_init 41 = .ok (.putfield 22, 3) := by decide +kernel
theorem dX9_init_44 : decode cX9_init 44 = .ok (.aload_n 0, 1) := by decide +kernel
theorem dX9_init_45 : decode cX9_init 45 = .ok (.bipush 10, 2) := by decide +kernel
theorem dX9_init_47 : decode cX9_init 47 = .ok (.newarray .int, 2) := by decide +kernel
theorem dX9_init_49 : decode cX9_init 49 = .ok (.putfield 25, 3) := by decide +kernel
theorem dX9_init_52 : decode cX9_init 52 = .ok (.aload_n 0, 1) := by decide +kernel
theorem dX9_init_53 : decode cX9_init 53 = .ok (.bipush 10, 2) := by decide +kernel
theorem dX9_init_55 : decode cX9_init 55 = .ok (.newarray .int, 2) := by decide +kernel
theorem dX9_init_57 : decode cX9_init 57 = .ok (.putfield 28, 3) := by decide +kernel
theorem dX9_init_60 : decode cX9_init 60 = .ok (.aload_n 0, 1) := by decide +kernel
theorem dX9_init_61 : decode cX9_init 61 = .ok (.bipush 10, 2) := by decide +kernel
theorem dX9_init_63 : decode cX9_init 63 = .ok (.newarray .int, 2) := by decide +kernel
theorem dX9_init_65 : decode cX9_init 65 = .ok (.putfield 31, 3) := by decide +kernel
theorem dX9_init_68 : decode cX9_init 68 = .ok (.aload_n 0, 1) := by decide +kernel
theorem dX9_init_69 : decode cX9_init 69 = .ok (.iconst 0, 1) := by decide +kernel
theorem dX9_init_70 : decode cX9_init 70 = .ok (.putfield 34, 3) := by decide +kernel
theorem dX9_init_73 : decode cX9_init 73 = .ok (.aload_n 0, 1) := by decide +kernel
theorem dX9_init_74 : decode cX9_init 74 = .ok (.iconst 0, 1) := by decide +kernel
theorem dX9_init_75 : decode cX9_init 75 = .ok (.putfield 38, 3) := by decide +kernel
theorem dX9_init_78 : decode cX9_init 78 = .ok (.return_, 1) := by decide +kernel
def w_X8_init : List Cond := .code yX8_init cX8_init 1 none :: ([Cond.methodLink RX8 1 objectInit, Cond.instanceMethod objectInit, Cond.code objectInit ⟨#[0xb1]⟩ 1 none, Cond.arrayClass .int, Cond.fieldLink RX8 9 "HeadYear$Tape" "bytes" "[I", Cond.fieldLink RX8 13 "HeadYear$Tape" "length" "I", Cond.fieldLink RX8 17 "HeadYear$Tape" "at" "I", Cond.fieldLink RX8 20 "HeadYear$Tape" "number" "I"] ++ (u_ws RX8 TX8 4 ++ ([])))
theorem in_X8_init_X8 : ∀ w ∈ u_ws RX8 TX8 4, w ∈ w_X8_init := fun _ h => List.mem_cons_of_mem _ (List.mem_append_right _ (List.mem_append_left _ h))
set_option maxHeartbeats 4000000 in
set_option maxRecDepth 100000 in
theorem c_X8_init (l : Launch) (E : py_E) (L : List Nat) (f : py_F) (sz : Nat) (h : Nat) (hh : py_at L f h (.inr (8, [.null, .int 0, .int 0, .int 0]))) : Met l yX8_init w_X8_init ({ frames := 1, cells := 1, slots := 160, locals := 12 }) (py_Pc E [.ref h] L f sz) (py_Qv E L f sz (fun L1 f1 => ∃ byt : Nat, py_at L1 f1 h (.inr (8, [.ref byt, .int 0, .int 0, .int 0])) ∧ py_at L1 f1 byt (.inl (E.2.1, 160, .inl (fun _ => 0))) ∧ py_ext L f L1 f1 h)) 1 160 (va_A (va_pl L f) sz) := by
  refine Met.ofW (cc := cX8_init) (maxL := 1) (ret := none) (by decide) rfl ?_
  intro p e s m args below meth c s₁ B hml hv
  obtain ⟨rfl, rfl, hw⟩ := py_start hv
  have G : CallFix p m c cX8_init 1 s _ w_X8_init RX8 := ⟨B.exec, B.bytes, hml, findClass_of_methodNamed B.named, atoms_spec (ws := w_X8_init) B.pre⟩
  have hr := B.returns
  have hlk := B.notSynchronized
  have hin : meth.name = "<init>" := (name_of_methodNamed B.named B.method).1
  have hl := lv_entry ([.ref h]) (n := 1) (Nat.le_of_ble_eq_true rfl)
  rw [lg_entry_eq]
  generalize (lg_sl ([.ref h]) ++ List.replicate (1 - (lg_sl ([.ref h])).length) Slot.unset).toArray = ls at hl ⊢
  have hl : lv_has ls 1 [(0, .ref h)] := hl
  refine lv_aload_n G.1 G.2.1 dX8_init_0 rfl (lv_at hl 0 rfl) ?_
  refine py_objInit G hl.1 (by decide +kernel) (by decide +kernel) (by decide +kernel) dX8_init_1 (Nat.le_of_ble_eq_true rfl) (Nat.le_of_ble_eq_true rfl) ?_
  refine lv_aload_n G.1 G.2.1 dX8_init_4 rfl (lv_at hl 0 rfl) ?_
  refine lv_sipush (v := 160) G.1 G.2.1 dX8_init_5 (by decide) ?_
  refine py_newI (N := 160) G hw (by decide +kernel) (by decide) (by decide) (Nat.le_of_ble_eq_true rfl) (Nat.le_of_ble_eq_true rfl) (Nat.le_of_ble_eq_true rfl) dX8_init_8 (fun q_1 L_2 f_3 H_4 hq_5 h_6 x_7 hw => ?_)
  have ne_8 : h ≠ q_1 := py_ne_new hh hq_5
  have hh := hh.all x_7
  refine py_putF (C := RX8) (T := TX8) (N := 4) (k := 0) (v := .ref q_1) (fs' := [.ref q_1, .int 0, .int 0, .int 0]) (ty0 := tyX8) G hin hw tyX8_ok nmX8 in_X8_init_X8 rfl hh (by decide) (by decide +kernel) rfl rfl rfl rfl rfl (Nat.le_of_ble_eq_true rfl) rfl dX8_init_10 (fun f_9 H_10 locs h_11 x_12 hw => ?_)
  have h_6 := h_6.ext x_12 (Ne.symm ne_8)
  refine lv_aload_n G.1 G.2.1 dX8_init_13 rfl (lv_at hl 0 rfl) ?_
  refine lv_iconst (v := 0) G.1 G.2.1 dX8_init_14 (by decide) ?_
  refine py_put (C := RX8) (T := TX8) (N := 4) (k := 1) (v := .int 0) (fs' := [.ref q_1, .int 0, .int 0, .int 0]) (ty0 := tyX8) G hw tyX8_ok nmX8 in_X8_init_X8 rfl h_11 (by decide) (by decide +kernel) rfl rfl rfl rfl (Nat.le_of_ble_eq_true rfl) rfl dX8_init_15 (fun f_13 H_14 locs h_15 x_16 hw => ?_)
  have h_6 := h_6.ext x_16 (Ne.symm ne_8)
  refine lv_aload_n G.1 G.2.1 dX8_init_18 rfl (lv_at hl 0 rfl) ?_
  refine lv_iconst (v := 0) G.1 G.2.1 dX8_init_19 (by decide) ?_
  refine py_put (C := RX8) (T := TX8) (N := 4) (k := 2) (v := .int 0) (fs' := [.ref q_1, .int 0, .int 0, .int 0]) (ty0 := tyX8) G hw tyX8_ok nmX8 in_X8_init_X8 rfl h_15 (by decide) (by decide +kernel) rfl rfl rfl rfl (Nat.le_of_ble_eq_true rfl) rfl dX8_init_20 (fun f_17 H_18 locs h_19 x_20 hw => ?_)
  have h_6 := h_6.ext x_20 (Ne.symm ne_8)
  refine lv_aload_n G.1 G.2.1 dX8_init_23 rfl (lv_at hl 0 rfl) ?_
  refine lv_iconst (v := 0) G.1 G.2.1 dX8_init_24 (by decide) ?_
  refine py_put (C := RX8) (T := TX8) (N := 4) (k := 3) (v := .int 0) (fs' := [.ref q_1, .int 0, .int 0, .int 0]) (ty0 := tyX8) G hw tyX8_ok nmX8 in_X8_init_X8 rfl h_19 (by decide) (by decide +kernel) rfl rfl rfl rfl (Nat.le_of_ble_eq_true rfl) rfl dX8_init_25 (fun f_21 H_22 locs h_23 x_24 hw => ?_)
  have h_6 := h_6.ext x_24 (Ne.symm ne_8)
  refine W.widen (k := 1) (n := 160) (Nat.le_of_ble_eq_true rfl) (Nat.le_of_ble_eq_true rfl) ?_
  have xt_25 : py_ext L f L_2 f_21 h := fun b hb hn => by
    have n1 : b ≠ q_1 := fun h => hq_5 (h ▸ hb)
    obtain ⟨m1, e1⟩ := x_7 b hb
    obtain ⟨m2, e2⟩ := x_12 b m1 hn
    obtain ⟨m3, e3⟩ := x_16 b m2 hn
    obtain ⟨m4, e4⟩ := x_20 b m3 hn
    obtain ⟨m5, e5⟩ := x_24 b m4 hn
    exact ⟨m5, e5.trans (e4.trans (e3.trans (e2.trans (e1.trans (rfl)))))⟩
  exact py_vret G hr hlk hw ⟨_, h_23, h_6, xt_25⟩ dX8_init_28

def w_X9_init : List Cond := .code yX9_init cX9_init 1 none :: ([Cond.methodLink RX9 1 objectInit, Cond.instanceMethod objectInit, Cond.code objectInit ⟨#[0xb1]⟩ 1 none, Cond.arrayClass .int, Cond.fieldLink RX9 9 "HeadYear$Valley" "huts" "[I", Cond.fieldLink RX9 13 "HeadYear$Valley" "food" "[I", Cond.fieldLink RX9 16 "HeadYear$Valley" "danger" "[I", Cond.fieldLink RX9 19 "HeadYear$Valley" "brow" "[I", Cond.fieldLink RX9 22 "HeadYear$Valley" "firstHeads" "[I", Cond.fieldLink RX9 25 "HeadYear$Valley" "firstLevel" "[I", Cond.fieldLink RX9 28 "HeadYear$Valley" "birth" "[I", Cond.fieldLink RX9 31 "HeadYear$Valley" "twin" "[I", Cond.fieldLink RX9 34 "HeadYear$Valley" "levels" "I", Cond.fieldLink RX9 38 "HeadYear$Valley" "families" "I"] ++ (u_ws RX9 TX9 10 ++ ([])))
theorem in_X9_init_X9 : ∀ w ∈ u_ws RX9 TX9 10, w ∈ w_X9_init := fun _ h => List.mem_cons_of_mem _ (List.mem_append_right _ (List.mem_append_left _ h))
set_option maxHeartbeats 4000000 in
set_option maxRecDepth 100000 in
theorem c_X9_init (l : Launch) (E : py_E) (L : List Nat) (f : py_F) (sz : Nat) (h : Nat) (hh : py_at L f h (.inr (9, [.null, .null, .null, .null, .null, .null, .null, .null, .int 0, .int 0]))) : Met l yX9_init w_X9_init ({ frames := 1, cells := 8, slots := 72, locals := 12 }) (py_Pc E [.ref h] L f sz) (py_Qv E L f sz (fun L1 f1 => ∃ xs : List Value, py_at L1 f1 h (.inr (9, xs)) ∧ xs.length = 10 ∧ xs[8]? = some (.int 0) ∧ xs[9]? = some (.int 0) ∧ py_ext L f L1 f1 h)) 8 72 (va_A (va_pl L f) sz) := by
  refine Met.ofW (cc := cX9_init) (maxL := 1) (ret := none) (by decide) rfl ?_
  intro p e s m args below meth c s₁ B hml hv
  obtain ⟨rfl, rfl, hw⟩ := py_start hv
  have G : CallFix p m c cX9_init 1 s _ w_X9_init RX9 := ⟨B.exec, B.bytes, hml, findClass_of_methodNamed B.named, atoms_spec (ws := w_X9_init) B.pre⟩
  have hr := B.returns
  have hlk := B.notSynchronized
  have hin : meth.name = "<init>" := (name_of_methodNamed B.named B.method).1
  have hl := lv_entry ([.ref h]) (n := 1) (Nat.le_of_ble_eq_true rfl)
  rw [lg_entry_eq]
  generalize (lg_sl ([.ref h]) ++ List.replicate (1 - (lg_sl ([.ref h])).length) Slot.unset).toArray = ls at hl ⊢
  have hl : lv_has ls 1 [(0, .ref h)] := hl
  refine lv_aload_n G.1 G.2.1 dX9_init_0 rfl (lv_at hl 0 rfl) ?_
  refine py_objInit G hl.1 (by decide +kernel) (by decide +kernel) (by decide +kernel) dX9_init_1 (Nat.le_of_ble_eq_true rfl) (Nat.le_of_ble_eq_true rfl) ?_
  refine lv_aload_n G.1 G.2.1 dX9_init_4 rfl (lv_at hl 0 rfl) ?_
  refine lv_bipush (v := 8) G.1 G.2.1 dX9_init_5 (by decide) ?_
  refine py_newI (N := 8) G hw (by decide +kernel) (by decide) (by decide) (Nat.le_of_ble_eq_true rfl) (Nat.le_of_ble_eq_true rfl) (Nat.le_of_ble_eq_true rfl) dX9_init_7 (fun q_1 L_2 f_3 H_4 hq_5 h_6 x_7 hw => ?_)
  have ne_8 : h ≠ q_1 := py_ne_new hh hq_5
  have hh := hh.all x_7
  refine py_putF (C := RX9) (T := TX9) (N := 10) (k := 0) (v := .ref q_1) (fs' := [.ref q_1, .null, .null, .null, .null, .null, .null, .null, .int 0, .int 0]) (ty0 := tyX9) G hin hw tyX9_ok nmX9 in_X9_init_X9 rfl hh (by decide) (by decide +kernel) rfl rfl rfl rfl rfl (Nat.le_of_ble_eq_true rfl) rfl dX9_init_9 (fun f_9 H_10 locs h_11 x_12 hw => ?_)
  refine lv_aload_n G.1 G.2.1 dX9_init_12 rfl (lv_at hl 0 rfl) ?_
  refine lv_bipush (v := 8) G.1 G.2.1 dX9_init_13 (by decide) ?_
  refine py_newI (N := 8) G hw (by decide +kernel) (by decide) (by decide) (Nat.le_of_ble_eq_true rfl) (Nat.le_of_ble_eq_true rfl) (Nat.le_of_ble_eq_true rfl) dX9_init_15 (fun q_13 L_14 f_15 H_16 hq_17 h_18 x_19 hw => ?_)
  have ne_20 : h ≠ q_13 := py_ne_new h_11 hq_17
  have h_11 := h_11.all x_19
  refine py_putF (C := RX9) (T := TX9) (N := 10) (k := 1) (v := .ref q_13) (fs' := [.ref q_1, .ref q_13, .null, .null, .null, .null, .null, .null, .int 0, .int 0]) (ty0 := tyX9) G hin hw tyX9_ok nmX9 in_X9_init_X9 rfl h_11 (by decide) (by decide +kernel) rfl rfl rfl rfl rfl (Nat.le_of_ble_eq_true rfl) rfl dX9_init_17 (fun f_21 H_22 locs h_23 x_24 hw => ?_)
  refine lv_aload_n G.1 G.2.1 dX9_init_20 rfl (lv_at hl 0 rfl) ?_
  refine lv_bipush (v := 8) G.1 G.2.1 dX9_init_21 (by decide) ?_
  refine py_newI (N := 8) G hw (by decide +kernel) (by decide) (by decide) (Nat.le_of_ble_eq_true rfl) (Nat.le_of_ble_eq_true rfl) (Nat.le_of_ble_eq_true rfl) dX9_init_23 (fun q_25 L_26 f_27 H_28 hq_29 h_30 x_31 hw => ?_)
  have ne_32 : h ≠ q_25 := py_ne_new h_23 hq_29
  have h_23 := h_23.all x_31
  refine py_putF (C := RX9) (T := TX9) (N := 10) (k := 2) (v := .ref q_25) (fs' := [.ref q_1, .ref q_13, .ref q_25, .null, .null, .null, .null, .null, .int 0, .int 0]) (ty0 := tyX9) G hin hw tyX9_ok nmX9 in_X9_init_X9 rfl h_23 (by decide) (by decide +kernel) rfl rfl rfl rfl rfl (Nat.le_of_ble_eq_true rfl) rfl dX9_init_25 (fun f_33 H_34 locs h_35 x_36 hw => ?_)
  refine lv_aload_n G.1 G.2.1 dX9_init_28 rfl (lv_at hl 0 rfl) ?_
  refine lv_bipush (v := 8) G.1 G.2.1 dX9_init_29 (by decide) ?_
  refine py_newI (N := 8) G hw (by decide +kernel) (by decide) (by decide) (Nat.le_of_ble_eq_true rfl) (Nat.le_of_ble_eq_true rfl) (Nat.le_of_ble_eq_true rfl) dX9_init_31 (fun q_37 L_38 f_39 H_40 hq_41 h_42 x_43 hw => ?_)
  have ne_44 : h ≠ q_37 := py_ne_new h_35 hq_41
  have h_35 := h_35.all x_43
  refine py_putF (C := RX9) (T := TX9) (N := 10) (k := 3) (v := .ref q_37) (fs' := [.ref q_1, .ref q_13, .ref q_25, .ref q_37, .null, .null, .null, .null, .int 0, .int 0]) (ty0 := tyX9) G hin hw tyX9_ok nmX9 in_X9_init_X9 rfl h_35 (by decide) (by decide +kernel) rfl rfl rfl rfl rfl (Nat.le_of_ble_eq_true rfl) rfl dX9_init_33 (fun f_45 H_46 locs h_47 x_48 hw => ?_)
  refine lv_aload_n G.1 G.2.1 dX9_init_36 rfl (lv_at hl 0 rfl) ?_
  refine lv_bipush (v := 10) G.1 G.2.1 dX9_init_37 (by decide) ?_
  refine py_newI (N := 10) G hw (by decide +kernel) (by decide) (by decide) (Nat.le_of_ble_eq_true rfl) (Nat.le_of_ble_eq_true rfl) (Nat.le_of_ble_eq_true rfl) dX9_init_39 (fun q_49 L_50 f_51 H_52 hq_53 h_54 x_55 hw => ?_)
  have ne_56 : h ≠ q_49 := py_ne_new h_47 hq_53
  have h_47 := h_47.all x_55
  refine py_putF (C := RX9) (T := TX9) (N := 10) (k := 4) (v := .ref q_49) (fs' := [.ref q_1, .ref q_13, .ref q_25, .ref q_37, .ref q_49, .null, .null, .null, .int 0, .int 0]) (ty0 := tyX9) G hin hw tyX9_ok nmX9 in_X9_init_X9 rfl h_47 (by decide) (by decide +kernel) rfl rfl rfl rfl rfl (Nat.le_of_ble_eq_true rfl) rfl dX9_init_41 (fun f_57 H_58 locs h_59 x_60 hw => ?_)
  refine lv_aload_n G.1 G.2.1 dX9_init_44 rfl (lv_at hl 0 rfl) ?_
  refine lv_bipush (v := 10) G.1 G.2.1 dX9_init_45 (by decide) ?_
  refine py_newI (N := 10) G hw (by decide +kernel) (by decide) (by decide) (Nat.le_of_ble_eq_true rfl) (Nat.le_of_ble_eq_true rfl) (Nat.le_of_ble_eq_true rfl) dX9_init_47 (fun q_61 L_62 f_63 H_64 hq_65 h_66 x_67 hw => ?_)
  have ne_68 : h ≠ q_61 := py_ne_new h_59 hq_65
  have h_59 := h_59.all x_67
  refine py_putF (C := RX9) (T := TX9) (N := 10) (k := 5) (v := .ref q_61) (fs' := [.ref q_1, .ref q_13, .ref q_25, .ref q_37, .ref q_49, .ref q_61, .null, .null, .int 0, .int 0]) (ty0 := tyX9) G hin hw tyX9_ok nmX9 in_X9_init_X9 rfl h_59 (by decide) (by decide +kernel) rfl rfl rfl rfl rfl (Nat.le_of_ble_eq_true rfl) rfl dX9_init_49 (fun f_69 H_70 locs h_71 x_72 hw => ?_)
  refine lv_aload_n G.1 G.2.1 dX9_init_52 rfl (lv_at hl 0 rfl) ?_
  refine lv_bipush (v := 10) G.1 G.2.1 dX9_init_53 (by decide) ?_
  refine py_newI (N := 10) G hw (by decide +kernel) (by decide) (by decide) (Nat.le_of_ble_eq_true rfl) (Nat.le_of_ble_eq_true rfl) (Nat.le_of_ble_eq_true rfl) dX9_init_55 (fun q_73 L_74 f_75 H_76 hq_77 h_78 x_79 hw => ?_)
  have ne_80 : h ≠ q_73 := py_ne_new h_71 hq_77
  have h_71 := h_71.all x_79
  refine py_putF (C := RX9) (T := TX9) (N := 10) (k := 6) (v := .ref q_73) (fs' := [.ref q_1, .ref q_13, .ref q_25, .ref q_37, .ref q_49, .ref q_61, .ref q_73, .null, .int 0, .int 0]) (ty0 := tyX9) G hin hw tyX9_ok nmX9 in_X9_init_X9 rfl h_71 (by decide) (by decide +kernel) rfl rfl rfl rfl rfl (Nat.le_of_ble_eq_true rfl) rfl dX9_init_57 (fun f_81 H_82 locs h_83 x_84 hw => ?_)
  refine lv_aload_n G.1 G.2.1 dX9_init_60 rfl (lv_at hl 0 rfl) ?_
  refine lv_bipush (v := 10) G.1 G.2.1 dX9_init_61 (by decide) ?_
  refine py_newI (N := 10) G hw (by decide +kernel) (by decide) (by decide) (Nat.le_of_ble_eq_true rfl) (Nat.le_of_ble_eq_true rfl) (Nat.le_of_ble_eq_true rfl) dX9_init_63 (fun q_85 L_86 f_87 H_88 hq_89 h_90 x_91 hw => ?_)
  have ne_92 : h ≠ q_85 := py_ne_new h_83 hq_89
  have h_83 := h_83.all x_91
  refine py_putF (C := RX9) (T := TX9) (N := 10) (k := 7) (v := .ref q_85) (fs' := [.ref q_1, .ref q_13, .ref q_25, .ref q_37, .ref q_49, .ref q_61, .ref q_73, .ref q_85, .int 0, .int 0]) (ty0 := tyX9) G hin hw tyX9_ok nmX9 in_X9_init_X9 rfl h_83 (by decide) (by decide +kernel) rfl rfl rfl rfl rfl (Nat.le_of_ble_eq_true rfl) rfl dX9_init_65 (fun f_93 H_94 locs h_95 x_96 hw => ?_)
  refine lv_aload_n G.1 G.2.1 dX9_init_68 rfl (lv_at hl 0 rfl) ?_
  refine lv_iconst (v := 0) G.1 G.2.1 dX9_init_69 (by decide) ?_
  refine py_put (C := RX9) (T := TX9) (N := 10) (k := 8) (v := .int 0) (fs' := [.ref q_1, .ref q_13, .ref q_25, .ref q_37, .ref q_49, .ref q_61, .ref q_73, .ref q_85, .int 0, .int 0]) (ty0 := tyX9) G hw tyX9_ok nmX9 in_X9_init_X9 rfl h_95 (by decide) (by decide +kernel) rfl rfl rfl rfl (Nat.le_of_ble_eq_true rfl) rfl dX9_init_70 (fun f_97 H_98 locs h_99 x_100 hw => ?_)
  refine lv_aload_n G.1 G.2.1 dX9_init_73 rfl (lv_at hl 0 rfl) ?_
  refine lv_iconst (v := 0) G.1 G.2.1 dX9_init_74 (by decide) ?_
  refine py_put (C := RX9) (T := TX9) (N := 10) (k := 9) (v := .int 0) (fs' := [.ref q_1, .ref q_13, .ref q_25, .ref q_37, .ref q_49, .ref q_61, .ref q_73, .ref q_85, .int 0, .int 0]) (ty0 := tyX9) G hw tyX9_ok nmX9 in_X9_init_X9 rfl h_99 (by decide) (by decide +kernel) rfl rfl rfl rfl (Nat.le_of_ble_eq_true rfl) rfl dX9_init_75 (fun f_101 H_102 locs h_103 x_104 hw => ?_)
  refine W.widen (k := 8) (n := 72) (Nat.le_of_ble_eq_true rfl) (Nat.le_of_ble_eq_true rfl) ?_
  have xt_105 : py_ext L f L_86 f_101 h := fun b hb hn => by
    have n1 : b ≠ q_1 := fun h => hq_5 (h ▸ hb)
    obtain ⟨m1, e1⟩ := x_7 b hb
    obtain ⟨m2, e2⟩ := x_12 b m1 hn
    have n3 : b ≠ q_13 := fun h => hq_17 (h ▸ m2)
    obtain ⟨m3, e3⟩ := x_19 b m2
    obtain ⟨m4, e4⟩ := x_24 b m3 hn
    have n5 : b ≠ q_25 := fun h => hq_29 (h ▸ m4)
    obtain ⟨m5, e5⟩ := x_31 b m4
    obtain ⟨m6, e6⟩ := x_36 b m5 hn
    have n7 : b ≠ q_37 := fun h => hq_41 (h ▸ m6)
    obtain ⟨m7, e7⟩ := x_43 b m6
    obtain ⟨m8, e8⟩ := x_48 b m7 hn
    have n9 : b ≠ q_49 := fun h => hq_53 (h ▸ m8)
    obtain ⟨m9, e9⟩ := x_55 b m8
    obtain ⟨m10, e10⟩ := x_60 b m9 hn
    have n11 : b ≠ q_61 := fun h => hq_65 (h ▸ m10)
    obtain ⟨m11, e11⟩ := x_67 b m10
    obtain ⟨m12, e12⟩ := x_72 b m11 hn
    have n13 : b ≠ q_73 := fun h => hq_77 (h ▸ m12)
    obtain ⟨m13, e13⟩ := x_79 b m12
    obtain ⟨m14, e14⟩ := x_84 b m13 hn
    have n15 : b ≠ q_85 := fun h => hq_89 (h ▸ m14)
    obtain ⟨m15, e15⟩ := x_91 b m14
    obtain ⟨m16, e16⟩ := x_96 b m15 hn
    obtain ⟨m17, e17⟩ := x_100 b m16 hn
    obtain ⟨m18, e18⟩ := x_104 b m17 hn
    exact ⟨m18, e18.trans (e17.trans (e16.trans (e15.trans (e14.trans (e13.trans (e12.trans (e11.trans (e10.trans (e9.trans (e8.trans (e7.trans (e6.trans (e5.trans (e4.trans (e3.trans (e2.trans (e1.trans (rfl))))))))))))))))))⟩
  exact py_vret G hr hlk hw ⟨_, h_103, rfl, rfl, rfl, xt_105⟩ dX9_init_78

def w_X3_init : List Cond := .code yX3_init cX3_init 1 none :: ([Cond.methodLink RX3 1 objectInit, Cond.instanceMethod objectInit, Cond.code objectInit ⟨#[0xb1]⟩ 1 none, Cond.arrayClass .int, Cond.fieldLink RX3 9 "HeadYear$Law" "code" "[I", Cond.fieldLink RX3 15 "HeadYear$Law" "stack" "[I", Cond.fieldLink RX3 18 "HeadYear$Law" "length" "I"] ++ (u_ws RX3 TX3 3 ++ ([])))
theorem in_X3_init_X3 : ∀ w ∈ u_ws RX3 TX3 3, w ∈ w_X3_init := fun _ h => List.mem_cons_of_mem _ (List.mem_append_right _ (List.mem_append_left _ h))
set_option maxHeartbeats 4000000 in
set_option maxRecDepth 100000 in
theorem c_X3_init (l : Launch) (E : py_E) (L : List Nat) (f : py_F) (sz : Nat) (h : Nat) (hh : py_at L f h (.inr (3, [.null, .null, .int 0]))) : Met l yX3_init w_X3_init ({ frames := 1, cells := 2, slots := 192, locals := 12 }) (py_Pc E [.ref h] L f sz) (py_Qv E L f sz (fun L1 f1 => ∃ co st : Nat, py_at L1 f1 h (.inr (3, [.ref co, .ref st, .int 0])) ∧ py_at L1 f1 co (.inl (E.2.1, 160, .inl (fun _ => 0))) ∧ co ∉ L ∧ py_ext L f L1 f1 h)) 2 192 (va_A (va_pl L f) sz) := by
  refine Met.ofW (cc := cX3_init) (maxL := 1) (ret := none) (by decide) rfl ?_
  intro p e s m args below meth c s₁ B hml hv
  obtain ⟨rfl, rfl, hw⟩ := py_start hv
  have G : CallFix p m c cX3_init 1 s _ w_X3_init RX3 := ⟨B.exec, B.bytes, hml, findClass_of_methodNamed B.named, atoms_spec (ws := w_X3_init) B.pre⟩
  have hr := B.returns
  have hlk := B.notSynchronized
  have hin : meth.name = "<init>" := (name_of_methodNamed B.named B.method).1
  have hl := lv_entry ([.ref h]) (n := 1) (Nat.le_of_ble_eq_true rfl)
  rw [lg_entry_eq]
  generalize (lg_sl ([.ref h]) ++ List.replicate (1 - (lg_sl ([.ref h])).length) Slot.unset).toArray = ls at hl ⊢
  have hl : lv_has ls 1 [(0, .ref h)] := hl
  refine lv_aload_n G.1 G.2.1 dX3_init_0 rfl (lv_at hl 0 rfl) ?_
  refine py_objInit G hl.1 (by decide +kernel) (by decide +kernel) (by decide +kernel) dX3_init_1 (Nat.le_of_ble_eq_true rfl) (Nat.le_of_ble_eq_true rfl) ?_
  refine lv_aload_n G.1 G.2.1 dX3_init_4 rfl (lv_at hl 0 rfl) ?_
  refine lv_sipush (v := 160) G.1 G.2.1 dX3_init_5 (by decide) ?_
  refine py_newI (N := 160) G hw (by decide +kernel) (by decide) (by decide) (Nat.le_of_ble_eq_true rfl) (Nat.le_of_ble_eq_true rfl) (Nat.le_of_ble_eq_true rfl) dX3_init_8 (fun q_1 L_2 f_3 H_4 hq_5 h_6 x_7 hw => ?_)
  have ne_8 : h ≠ q_1 := py_ne_new hh hq_5
  have hh := hh.all x_7
  refine py_putF (C := RX3) (T := TX3) (N := 3) (k := 0) (v := .ref q_1) (fs' := [.ref q_1, .null, .int 0]) (ty0 := tyX3) G hin hw tyX3_ok nmX3 in_X3_init_X3 rfl hh (by decide) (by decide +kernel) rfl rfl rfl rfl rfl (Nat.le_of_ble_eq_true rfl) rfl dX3_init_10 (fun f_9 H_10 locs h_11 x_12 hw => ?_)
  have h_6 := h_6.ext x_12 (Ne.symm ne_8)
  refine lv_aload_n G.1 G.2.1 dX3_init_13 rfl (lv_at hl 0 rfl) ?_
  refine lv_bipush (v := 32) G.1 G.2.1 dX3_init_14 (by decide) ?_
  refine py_newI (N := 32) G hw (by decide +kernel) (by decide) (by decide) (Nat.le_of_ble_eq_true rfl) (Nat.le_of_ble_eq_true rfl) (Nat.le_of_ble_eq_true rfl) dX3_init_16 (fun q_13 L_14 f_15 H_16 hq_17 h_18 x_19 hw => ?_)
  have ne_20 : h ≠ q_13 := py_ne_new h_11 hq_17
  have h_11 := h_11.all x_19
  have ne_21 : q_1 ≠ q_13 := py_ne_new h_6 hq_17
  have h_6 := h_6.all x_19
  refine py_putF (C := RX3) (T := TX3) (N := 3) (k := 1) (v := .ref q_13) (fs' := [.ref q_1, .ref q_13, .int 0]) (ty0 := tyX3) G hin hw tyX3_ok nmX3 in_X3_init_X3 rfl h_11 (by decide) (by decide +kernel) rfl rfl rfl rfl rfl (Nat.le_of_ble_eq_true rfl) rfl dX3_init_18 (fun f_22 H_23 locs h_24 x_25 hw => ?_)
  have h_6 := h_6.ext x_25 (Ne.symm ne_8)
  refine lv_aload_n G.1 G.2.1 dX3_init_21 rfl (lv_at hl 0 rfl) ?_
  refine lv_iconst (v := 0) G.1 G.2.1 dX3_init_22 (by decide) ?_
  refine py_put (C := RX3) (T := TX3) (N := 3) (k := 2) (v := .int 0) (fs' := [.ref q_1, .ref q_13, .int 0]) (ty0 := tyX3) G hw tyX3_ok nmX3 in_X3_init_X3 rfl h_24 (by decide) (by decide +kernel) rfl rfl rfl rfl (Nat.le_of_ble_eq_true rfl) rfl dX3_init_23 (fun f_26 H_27 locs h_28 x_29 hw => ?_)
  have h_6 := h_6.ext x_29 (Ne.symm ne_8)
  refine W.widen (k := 2) (n := 192) (Nat.le_of_ble_eq_true rfl) (Nat.le_of_ble_eq_true rfl) ?_
  have xt_30 : py_ext L f L_14 f_26 h := fun b hb hn => by
    have n1 : b ≠ q_1 := fun h => hq_5 (h ▸ hb)
    obtain ⟨m1, e1⟩ := x_7 b hb
    obtain ⟨m2, e2⟩ := x_12 b m1 hn
    have n3 : b ≠ q_13 := fun h => hq_17 (h ▸ m2)
    obtain ⟨m3, e3⟩ := x_19 b m2
    obtain ⟨m4, e4⟩ := x_25 b m3 hn
    obtain ⟨m5, e5⟩ := x_29 b m4 hn
    exact ⟨m5, e5.trans (e4.trans (e3.trans (e2.trans (e1.trans (rfl)))))⟩
  exact py_vret G hr hlk hw ⟨_, _, h_28, h_6, hq_5, xt_30⟩ dX3_init_26

def w_X10_init : List Cond := .code yX10_init cX10_init 1 none :: ([Cond.methodLink RX10 3 objectInit, Cond.instanceMethod objectInit, Cond.code objectInit ⟨#[0xb1]⟩ 1 none, Cond.arrayClass .int, Cond.fieldLink RX10 11 "HeadYear$ValleyReader" "items" "[I", Cond.classLink RX10 15 RX9, Cond.instantiable RX9 10, Cond.initialized RX9, Cond.instanceMethod yX9_init, Cond.fieldLink RX10 18 "HeadYear$ValleyReader" "draft" "LHeadYear$Valley;"] ++ (u_ws RX10 TX10 2 ++ (u_ws RX9 TX9 10 ++ (w_X9_init ++ ([])))))
theorem in_X10_init_X10 : ∀ w ∈ u_ws RX10 TX10 2, w ∈ w_X10_init := fun _ h => List.mem_cons_of_mem _ (List.mem_append_right _ (List.mem_append_left _ h))
theorem in_X10_init_X9 : ∀ w ∈ u_ws RX9 TX9 10, w ∈ w_X10_init := fun _ h => List.mem_cons_of_mem _ (List.mem_append_right _ (List.mem_append_right _ (List.mem_append_left _ h)))
theorem gg_X10_init_X9_init : GoodIn w_X10_init w_X9_init := goodIn_sub (fun _ h => List.mem_cons_of_mem _ (List.mem_append_right _ (List.mem_append_right _ (List.mem_append_right _ (List.mem_append_left _ h))))) (by decide +kernel)
theorem g_X10_init_X9_init_17 : GoodIn w_X10_init w_X9_init := gg_X10_init_X9_init
set_option maxHeartbeats 4000000 in
set_option maxRecDepth 100000 in
theorem c_X10_init (l : Launch) (E : py_E) (L : List Nat) (f : py_F) (sz : Nat) (h : Nat) (hh : py_at L f h (.inr (10, [.null, .null]))) : Met l yX10_init w_X10_init ({ frames := 2, cells := 10, slots := 86, locals := 32 }) (py_Pc E [.ref h] L f sz) (py_Qv E L f sz (fun L1 f1 => ∃ (itm dr : Nat) (xd : List Value), py_at L1 f1 h (.inr (10, [.ref itm, .ref dr])) ∧ py_at L1 f1 dr (.inr (9, xd)) ∧ xd.length = 10 ∧ py_ext L f L1 f1 h)) 10 86 (va_A (va_pl L f) sz) := by
  refine Met.ofW (cc := cX10_init) (maxL := 1) (ret := none) (by decide) rfl ?_
  intro p e s m args below meth c s₁ B hml hv
  obtain ⟨rfl, rfl, hw⟩ := py_start hv
  have G : CallFix p m c cX10_init 1 s _ w_X10_init RX10 := ⟨B.exec, B.bytes, hml, findClass_of_methodNamed B.named, atoms_spec (ws := w_X10_init) B.pre⟩
  have hr := B.returns
  have hlk := B.notSynchronized
  have hin : meth.name = "<init>" := (name_of_methodNamed B.named B.method).1
  have hl := lv_entry ([.ref h]) (n := 1) (Nat.le_of_ble_eq_true rfl)
  rw [lg_entry_eq]
  generalize (lg_sl ([.ref h]) ++ List.replicate (1 - (lg_sl ([.ref h])).length) Slot.unset).toArray = ls at hl ⊢
  have hl : lv_has ls 1 [(0, .ref h)] := hl
  refine lv_aload_n G.1 G.2.1 dX10_init_0 rfl (lv_at hl 0 rfl) ?_
  refine py_objInit G hl.1 (by decide +kernel) (by decide +kernel) (by decide +kernel) dX10_init_1 (Nat.le_of_ble_eq_true rfl) (Nat.le_of_ble_eq_true rfl) ?_
  refine lv_aload_n G.1 G.2.1 dX10_init_4 rfl (lv_at hl 0 rfl) ?_
  refine lv_iconst (v := 4) G.1 G.2.1 dX10_init_5 (by decide) ?_
  refine py_newI (N := 4) G hw (by decide +kernel) (by decide) (by decide) (Nat.le_of_ble_eq_true rfl) (Nat.le_of_ble_eq_true rfl) (Nat.le_of_ble_eq_true rfl) dX10_init_6 (fun q_1 L_2 f_3 H_4 hq_5 h_6 x_7 hw => ?_)
  have ne_8 : h ≠ q_1 := py_ne_new hh hq_5
  have hh := hh.all x_7
  refine py_putF (C := RX10) (T := TX10) (N := 2) (k := 0) (v := .ref q_1) (fs' := [.ref q_1, .null]) (ty0 := tyX10) G hin hw tyX10_ok nmX10 in_X10_init_X10 rfl hh (by decide) (by decide +kernel) rfl rfl rfl rfl rfl (Nat.le_of_ble_eq_true rfl) rfl dX10_init_8 (fun f_9 H_10 locs h_11 x_12 hw => ?_)
  refine lv_aload_n G.1 G.2.1 dX10_init_11 rfl (lv_at hl 0 rfl) ?_
  refine py_new (C := RX9) (T := TX9) (N := 10) (ci := 9) (fs := [.null, .null, .null, .null, .null, .null, .null, .null, .int 0, .int 0]) (ty0 := tyX9) G hw tyX9_ok in_X10_init_X9 rfl (by decide +kernel) (by decide +kernel) (by decide +kernel) (fun j hj => match j, hj with | 0, _ => rfl | 1, _ => rfl | 2, _ => rfl | 3, _ => rfl | 4, _ => rfl | 5, _ => rfl | 6, _ => rfl | 7, _ => rfl | 8, _ => rfl | 9, _ => rfl | n + 10, h => absurd h (by omega)) (Nat.le_of_ble_eq_true rfl) (Nat.le_of_ble_eq_true rfl) dX10_init_12 (fun q_13 L_14 f_15 H_16 hq_17 h_18 x_19 hw => ?_)
  have ne_20 : h ≠ q_13 := py_ne_new h_11 hq_17
  have h_11 := h_11.all x_19
  refine lv_dup G.1 G.2.1 dX10_init_15 rfl ?_
  refine py_callv hw (va_runIN (As := []) (rest := [.ref q_13, .ref h]) G (c_X9_init l E L_14 f_15 H_16.size q_13 h_18) ⟨va_cnB 0 G.2.2.2.2 g_X10_init_X9_init_17 rfl rfl rfl (hw.1.2.2 (RX10, 17, yX9_init) (List.mem_of_getElem? (i := 2) rfl)) (G.2.2.2.2 (Cond.initialized RX9) (by decide +kernel)) (by decide +kernel) ⟨(Nat.le_of_ble_eq_true rfl), (Nat.le_of_ble_eq_true rfl)⟩, rfl, G.2.2.2.2 (Cond.instanceMethod yX9_init) (by decide +kernel)⟩ (py_preS hw) rfl rfl hl.1 rfl (lv_room (Nat.le_of_ble_eq_true rfl)) dX10_init_16 ⟨(Nat.le_of_ble_eq_true rfl), (Nat.le_of_ble_eq_true rfl)⟩) (fun L_21 f_22 H_23 locs hp_24 hw => ?_)
  obtain ⟨xs_27, h_28, hl_29, hp_30, hp_31, x_26⟩ := hp_24
  have h_11 := h_11.ext x_26 ne_20
  refine py_put (C := RX10) (T := TX10) (N := 2) (k := 1) (v := .ref q_13) (fs' := [.ref q_1, .ref q_13]) (ty0 := tyX10) G hw tyX10_ok nmX10 in_X10_init_X10 rfl h_11 (by decide) (by decide +kernel) rfl rfl rfl rfl (Nat.le_of_ble_eq_true rfl) rfl dX10_init_19 (fun f_32 H_33 locs h_34 x_35 hw => ?_)
  have h_28 := h_28.ext x_35 (Ne.symm ne_20)
  refine W.widen (k := 10) (n := 86) (Nat.le_of_ble_eq_true rfl) (Nat.le_of_ble_eq_true rfl) ?_
  have xt_36 : py_ext L f L_21 f_32 h := fun b hb hn => by
    have n1 : b ≠ q_1 := fun h => hq_5 (h ▸ hb)
    obtain ⟨m1, e1⟩ := x_7 b hb
    obtain ⟨m2, e2⟩ := x_12 b m1 hn
    have n3 : b ≠ q_13 := fun h => hq_17 (h ▸ m2)
    obtain ⟨m3, e3⟩ := x_19 b m2
    obtain ⟨m4, e4⟩ := x_26 b m3 n3
    obtain ⟨m5, e5⟩ := x_35 b m4 hn
    exact ⟨m5, e5.trans (e4.trans (e3.trans (e2.trans (e1.trans (rfl)))))⟩
  exact py_vret G hr hlk hw ⟨_, _, _, h_34, h_28, hl_29, xt_36⟩ dX10_init_22

def w_X4_init : List Cond := .code yX4_init cX4_init 1 none :: ([Cond.methodLink RX4 3 objectInit, Cond.instanceMethod objectInit, Cond.code objectInit ⟨#[0xb1]⟩ 1 none, Cond.classLink RX4 9 RX3, Cond.instantiable RX3 3, Cond.initialized RX3, Cond.instanceMethod yX3_init, Cond.fieldLink RX4 12 "HeadYear$LawReader" "draft" "LHeadYear$Law;"] ++ (u_ws RX3 TX3 3 ++ (u_ws RX4 TX4 1 ++ (w_X3_init ++ ([])))))
theorem in_X4_init_X3 : ∀ w ∈ u_ws RX3 TX3 3, w ∈ w_X4_init := fun _ h => List.mem_cons_of_mem _ (List.mem_append_right _ (List.mem_append_left _ h))
theorem in_X4_init_X4 : ∀ w ∈ u_ws RX4 TX4 1, w ∈ w_X4_init := fun _ h => List.mem_cons_of_mem _ (List.mem_append_right _ (List.mem_append_right _ (List.mem_append_left _ h)))
theorem gg_X4_init_X3_init : GoodIn w_X4_init w_X3_init := goodIn_sub (fun _ h => List.mem_cons_of_mem _ (List.mem_append_right _ (List.mem_append_right _ (List.mem_append_right _ (List.mem_append_left _ h))))) (by decide +kernel)
theorem g_X4_init_X3_init_11 : GoodIn w_X4_init w_X3_init := gg_X4_init_X3_init
set_option maxHeartbeats 4000000 in
set_option maxRecDepth 100000 in
theorem c_X4_init (l : Launch) (E : py_E) (L : List Nat) (f : py_F) (sz : Nat) (h : Nat) (hh : py_at L f h (.inr (4, [.null]))) : Met l yX4_init w_X4_init ({ frames := 2, cells := 3, slots := 195, locals := 32 }) (py_Pc E [.ref h] L f sz) (py_Qv E L f sz (fun L1 f1 => ∃ (dl : Nat) (xl : List Value), py_at L1 f1 h (.inr (4, [.ref dl])) ∧ py_at L1 f1 dl (.inr (3, xl)) ∧ xl.length = 3 ∧ py_ext L f L1 f1 h)) 3 195 (va_A (va_pl L f) sz) := by
  refine Met.ofW (cc := cX4_init) (maxL := 1) (ret := none) (by decide) rfl ?_
  intro p e s m args below meth c s₁ B hml hv
  obtain ⟨rfl, rfl, hw⟩ := py_start hv
  have G : CallFix p m c cX4_init 1 s _ w_X4_init RX4 := ⟨B.exec, B.bytes, hml, findClass_of_methodNamed B.named, atoms_spec (ws := w_X4_init) B.pre⟩
  have hr := B.returns
  have hlk := B.notSynchronized
  have hin : meth.name = "<init>" := (name_of_methodNamed B.named B.method).1
  have hl := lv_entry ([.ref h]) (n := 1) (Nat.le_of_ble_eq_true rfl)
  rw [lg_entry_eq]
  generalize (lg_sl ([.ref h]) ++ List.replicate (1 - (lg_sl ([.ref h])).length) Slot.unset).toArray = ls at hl ⊢
  have hl : lv_has ls 1 [(0, .ref h)] := hl
  refine lv_aload_n G.1 G.2.1 dX4_init_0 rfl (lv_at hl 0 rfl) ?_
  refine py_objInit G hl.1 (by decide +kernel) (by decide +kernel) (by decide +kernel) dX4_init_1 (Nat.le_of_ble_eq_true rfl) (Nat.le_of_ble_eq_true rfl) ?_
  refine lv_aload_n G.1 G.2.1 dX4_init_4 rfl (lv_at hl 0 rfl) ?_
  refine py_new (C := RX3) (T := TX3) (N := 3) (ci := 3) (fs := [.null, .null, .int 0]) (ty0 := tyX3) G hw tyX3_ok in_X4_init_X3 rfl (by decide +kernel) (by decide +kernel) (by decide +kernel) (fun j hj => match j, hj with | 0, _ => rfl | 1, _ => rfl | 2, _ => rfl | n + 3, h => absurd h (by omega)) (Nat.le_of_ble_eq_true rfl) (Nat.le_of_ble_eq_true rfl) dX4_init_5 (fun q_1 L_2 f_3 H_4 hq_5 h_6 x_7 hw => ?_)
  have ne_8 : h ≠ q_1 := py_ne_new hh hq_5
  have hh := hh.all x_7
  refine lv_dup G.1 G.2.1 dX4_init_8 rfl ?_
  refine py_callv hw (va_runIN (As := []) (rest := [.ref q_1, .ref h]) G (c_X3_init l E L_2 f_3 H_4.size q_1 h_6) ⟨va_cnB 0 G.2.2.2.2 g_X4_init_X3_init_11 rfl rfl rfl (hw.1.2.2 (RX4, 11, yX3_init) (List.mem_of_getElem? (i := 4) rfl)) (G.2.2.2.2 (Cond.initialized RX3) (by decide +kernel)) (by decide +kernel) ⟨(Nat.le_of_ble_eq_true rfl), (Nat.le_of_ble_eq_true rfl)⟩, rfl, G.2.2.2.2 (Cond.instanceMethod yX3_init) (by decide +kernel)⟩ (py_preS hw) rfl rfl hl.1 rfl (lv_room (Nat.le_of_ble_eq_true rfl)) dX4_init_9 ⟨(Nat.le_of_ble_eq_true rfl), (Nat.le_of_ble_eq_true rfl)⟩) (fun L_9 f_10 H_11 locs hp_12 hw => ?_)
  obtain ⟨co_15, st_19, h_16, h_17, hco_18, x_14⟩ := hp_12
  have hh := hh.ext x_14 ne_8
  refine py_put (C := RX4) (T := TX4) (N := 1) (k := 0) (v := .ref q_1) (fs' := [.ref q_1]) (ty0 := tyX4) G hw tyX4_ok nmX4 in_X4_init_X4 rfl hh (by decide) (by decide +kernel) rfl rfl rfl rfl (Nat.le_of_ble_eq_true rfl) rfl dX4_init_12 (fun f_20 H_21 locs h_22 x_23 hw => ?_)
  have h_16 := h_16.ext x_23 (Ne.symm ne_8)
  have h_17 := h_17.ext x_23 (Ne.symm (py_ne_arr hh h_17))
  refine W.widen (k := 3) (n := 195) (Nat.le_of_ble_eq_true rfl) (Nat.le_of_ble_eq_true rfl) ?_
  have xt_24 : py_ext L f L_9 f_20 h := fun b hb hn => by
    have n1 : b ≠ q_1 := fun h => hq_5 (h ▸ hb)
    obtain ⟨m1, e1⟩ := x_7 b hb
    obtain ⟨m2, e2⟩ := x_14 b m1 n1
    obtain ⟨m3, e3⟩ := x_23 b m2 hn
    exact ⟨m3, e3.trans (e2.trans (e1.trans (rfl)))⟩
  exact py_vret G hr hlk hw ⟨_, _, h_22, h_16, rfl, xt_24⟩ dX4_init_15

def w_X2_init : List Cond := .code yX2_init cX2_init 1 none :: ([Cond.methodLink RX2 3 objectInit, Cond.instanceMethod objectInit, Cond.code objectInit ⟨#[0xb1]⟩ 1 none, Cond.arrayClass .int, Cond.fieldLink RX2 11 "HeadYear$Folk" "heads" "[I", Cond.fieldLink RX2 17 "HeadYear$Folk" "level" "[I", Cond.fieldLink RX2 20 "HeadYear$Folk" "hut" "[I", Cond.fieldLink RX2 23 "HeadYear$Folk" "debt" "[I", Cond.fieldLink RX2 26 "HeadYear$Folk" "born" "[I", Cond.fieldLink RX2 29 "HeadYear$Folk" "dead" "[I", Cond.fieldLink RX2 32 "HeadYear$Folk" "bought" "[I", Cond.fieldLink RX2 35 "HeadYear$Folk" "spent" "[I", Cond.arrayClass .boolean, Cond.fieldLink RX2 38 "HeadYear$Folk" "hushed" "[Z", Cond.classLink RX2 9 RX9, Cond.instantiable RX9 10, Cond.initialized RX9, Cond.instanceMethod yX9_init, Cond.fieldLink RX2 43 "HeadYear$Folk" "valley" "LHeadYear$Valley;", Cond.fieldLink RX2 47 "HeadYear$Folk" "x" "J", Cond.fieldLink RX2 51 "HeadYear$Folk" "years" "I"] ++ (u_ws RX2 TX2 12 ++ (u_ws RX9 TX9 10 ++ (w_X9_init ++ ([])))))
theorem in_X2_init_X2 : ∀ w ∈ u_ws RX2 TX2 12, w ∈ w_X2_init := fun _ h => List.mem_cons_of_mem _ (List.mem_append_right _ (List.mem_append_left _ h))
theorem in_X2_init_X9 : ∀ w ∈ u_ws RX9 TX9 10, w ∈ w_X2_init := fun _ h => List.mem_cons_of_mem _ (List.mem_append_right _ (List.mem_append_right _ (List.mem_append_left _ h)))
theorem gg_X2_init_X9_init : GoodIn w_X2_init w_X9_init := goodIn_sub (fun _ h => List.mem_cons_of_mem _ (List.mem_append_right _ (List.mem_append_right _ (List.mem_append_right _ (List.mem_append_left _ h))))) (by decide +kernel)
theorem g_X2_init_X9_init_42 : GoodIn w_X2_init w_X9_init := gg_X2_init_X9_init
set_option maxHeartbeats 4000000 in
set_option maxRecDepth 100000 in
theorem c_X2_init (l : Launch) (E : py_E) (L : List Nat) (f : py_F) (sz : Nat) (h : Nat) (hh : py_at L f h (.inr (2, [.null, .null, .null, .null, .null, .null, .null, .null, .null, .null, .long 0, .int 0]))) : Met l yX2_init w_X2_init ({ frames := 2, cells := 18, slots := 172, locals := 32 }) (py_Pc E [.ref h] L f sz) (py_Qv E L f sz (fun L1 f1 => ∃ (xs : List Value) (va : Nat) (xv : List Value), py_at L1 f1 h (.inr (2, xs)) ∧ xs.length = 12 ∧ xs[9]? = some (.ref va) ∧ xs[11]? = some (.int 0) ∧ py_at L1 f1 va (.inr (9, xv)) ∧ xv.length = 10 ∧ xv[8]? = some (.int 0) ∧ xv[9]? = some (.int 0) ∧ py_ext L f L1 f1 h)) 18 172 (va_A (va_pl L f) sz) := by
  refine Met.ofW (cc := cX2_init) (maxL := 1) (ret := none) (by decide) rfl ?_
  intro p e s m args below meth c s₁ B hml hv
  obtain ⟨rfl, rfl, hw⟩ := py_start hv
  have G : CallFix p m c cX2_init 1 s _ w_X2_init RX2 := ⟨B.exec, B.bytes, hml, findClass_of_methodNamed B.named, atoms_spec (ws := w_X2_init) B.pre⟩
  have hr := B.returns
  have hlk := B.notSynchronized
  have hin : meth.name = "<init>" := (name_of_methodNamed B.named B.method).1
  have hl := lv_entry ([.ref h]) (n := 1) (Nat.le_of_ble_eq_true rfl)
  rw [lg_entry_eq]
  generalize (lg_sl ([.ref h]) ++ List.replicate (1 - (lg_sl ([.ref h])).length) Slot.unset).toArray = ls at hl ⊢
  have hl : lv_has ls 1 [(0, .ref h)] := hl
  refine lv_aload_n G.1 G.2.1 dX2_init_0 rfl (lv_at hl 0 rfl) ?_
  refine py_objInit G hl.1 (by decide +kernel) (by decide +kernel) (by decide +kernel) dX2_init_1 (Nat.le_of_ble_eq_true rfl) (Nat.le_of_ble_eq_true rfl) ?_
  refine lv_aload_n G.1 G.2.1 dX2_init_4 rfl (lv_at hl 0 rfl) ?_
  refine lv_bipush (v := 10) G.1 G.2.1 dX2_init_5 (by decide) ?_
  refine py_newI (N := 10) G hw (by decide +kernel) (by decide) (by decide) (Nat.le_of_ble_eq_true rfl) (Nat.le_of_ble_eq_true rfl) (Nat.le_of_ble_eq_true rfl) dX2_init_7 (fun q_1 L_2 f_3 H_4 hq_5 h_6 x_7 hw => ?_)
  have ne_8 : h ≠ q_1 := py_ne_new hh hq_5
  have hh := hh.all x_7
  refine py_putF (C := RX2) (T := TX2) (N := 12) (k := 0) (v := .ref q_1) (fs' := [.ref q_1, .null, .null, .null, .null, .null, .null, .null, .null, .null, .long 0, .int 0]) (ty0 := tyX2) G hin hw tyX2_ok nmX2 in_X2_init_X2 rfl hh (by decide) (by decide +kernel) rfl rfl rfl rfl rfl (Nat.le_of_ble_eq_true rfl) rfl dX2_init_9 (fun f_9 H_10 locs h_11 x_12 hw => ?_)
  refine lv_aload_n G.1 G.2.1 dX2_init_12 rfl (lv_at hl 0 rfl) ?_
  refine lv_bipush (v := 10) G.1 G.2.1 dX2_init_13 (by decide) ?_
  refine py_newI (N := 10) G hw (by decide +kernel) (by decide) (by decide) (Nat.le_of_ble_eq_true rfl) (Nat.le_of_ble_eq_true rfl) (Nat.le_of_ble_eq_true rfl) dX2_init_15 (fun q_13 L_14 f_15 H_16 hq_17 h_18 x_19 hw => ?_)
  have ne_20 : h ≠ q_13 := py_ne_new h_11 hq_17
  have h_11 := h_11.all x_19
  refine py_putF (C := RX2) (T := TX2) (N := 12) (k := 1) (v := .ref q_13) (fs' := [.ref q_1, .ref q_13, .null, .null, .null, .null, .null, .null, .null, .null, .long 0, .int 0]) (ty0 := tyX2) G hin hw tyX2_ok nmX2 in_X2_init_X2 rfl h_11 (by decide) (by decide +kernel) rfl rfl rfl rfl rfl (Nat.le_of_ble_eq_true rfl) rfl dX2_init_17 (fun f_21 H_22 locs h_23 x_24 hw => ?_)
  refine lv_aload_n G.1 G.2.1 dX2_init_20 rfl (lv_at hl 0 rfl) ?_
  refine lv_bipush (v := 10) G.1 G.2.1 dX2_init_21 (by decide) ?_
  refine py_newI (N := 10) G hw (by decide +kernel) (by decide) (by decide) (Nat.le_of_ble_eq_true rfl) (Nat.le_of_ble_eq_true rfl) (Nat.le_of_ble_eq_true rfl) dX2_init_23 (fun q_25 L_26 f_27 H_28 hq_29 h_30 x_31 hw => ?_)
  have ne_32 : h ≠ q_25 := py_ne_new h_23 hq_29
  have h_23 := h_23.all x_31
  refine py_putF (C := RX2) (T := TX2) (N := 12) (k := 2) (v := .ref q_25) (fs' := [.ref q_1, .ref q_13, .ref q_25, .null, .null, .null, .null, .null, .null, .null, .long 0, .int 0]) (ty0 := tyX2) G hin hw tyX2_ok nmX2 in_X2_init_X2 rfl h_23 (by decide) (by decide +kernel) rfl rfl rfl rfl rfl (Nat.le_of_ble_eq_true rfl) rfl dX2_init_25 (fun f_33 H_34 locs h_35 x_36 hw => ?_)
  refine lv_aload_n G.1 G.2.1 dX2_init_28 rfl (lv_at hl 0 rfl) ?_
  refine lv_bipush (v := 10) G.1 G.2.1 dX2_init_29 (by decide) ?_
  refine py_newI (N := 10) G hw (by decide +kernel) (by decide) (by decide) (Nat.le_of_ble_eq_true rfl) (Nat.le_of_ble_eq_true rfl) (Nat.le_of_ble_eq_true rfl) dX2_init_31 (fun q_37 L_38 f_39 H_40 hq_41 h_42 x_43 hw => ?_)
  have ne_44 : h ≠ q_37 := py_ne_new h_35 hq_41
  have h_35 := h_35.all x_43
  refine py_putF (C := RX2) (T := TX2) (N := 12) (k := 3) (v := .ref q_37) (fs' := [.ref q_1, .ref q_13, .ref q_25, .ref q_37, .null, .null, .null, .null, .null, .null, .long 0, .int 0]) (ty0 := tyX2) G hin hw tyX2_ok nmX2 in_X2_init_X2 rfl h_35 (by decide) (by decide +kernel) rfl rfl rfl rfl rfl (Nat.le_of_ble_eq_true rfl) rfl dX2_init_33 (fun f_45 H_46 locs h_47 x_48 hw => ?_)
  refine lv_aload_n G.1 G.2.1 dX2_init_36 rfl (lv_at hl 0 rfl) ?_
  refine lv_bipush (v := 10) G.1 G.2.1 dX2_init_37 (by decide) ?_
  refine py_newI (N := 10) G hw (by decide +kernel) (by decide) (by decide) (Nat.le_of_ble_eq_true rfl) (Nat.le_of_ble_eq_true rfl) (Nat.le_of_ble_eq_true rfl) dX2_init_39 (fun q_49 L_50 f_51 H_52 hq_53 h_54 x_55 hw => ?_)
  have ne_56 : h ≠ q_49 := py_ne_new h_47 hq_53
  have h_47 := h_47.all x_55
  refine py_putF (C := RX2) (T := TX2) (N := 12) (k := 4) (v := .ref q_49) (fs' := [.ref q_1, .ref q_13, .ref q_25, .ref q_37, .ref q_49, .null, .null, .null, .null, .null, .long 0, .int 0]) (ty0 := tyX2) G hin hw tyX2_ok nmX2 in_X2_init_X2 rfl h_47 (by decide) (by decide +kernel) rfl rfl rfl rfl rfl (Nat.le_of_ble_eq_true rfl) rfl dX2_init_41 (fun f_57 H_58 locs h_59 x_60 hw => ?_)
  refine lv_aload_n G.1 G.2.1 dX2_init_44 rfl (lv_at hl 0 rfl) ?_
  refine lv_bipush (v := 10) G.1 G.2.1 dX2_init_45 (by decide) ?_
  refine py_newI (N := 10) G hw (by decide +kernel) (by decide) (by decide) (Nat.le_of_ble_eq_true rfl) (Nat.le_of_ble_eq_true rfl) (Nat.le_of_ble_eq_true rfl) dX2_init_47 (fun q_61 L_62 f_63 H_64 hq_65 h_66 x_67 hw => ?_)
  have ne_68 : h ≠ q_61 := py_ne_new h_59 hq_65
  have h_59 := h_59.all x_67
  refine py_putF (C := RX2) (T := TX2) (N := 12) (k := 5) (v := .ref q_61) (fs' := [.ref q_1, .ref q_13, .ref q_25, .ref q_37, .ref q_49, .ref q_61, .null, .null, .null, .null, .long 0, .int 0]) (ty0 := tyX2) G hin hw tyX2_ok nmX2 in_X2_init_X2 rfl h_59 (by decide) (by decide +kernel) rfl rfl rfl rfl rfl (Nat.le_of_ble_eq_true rfl) rfl dX2_init_49 (fun f_69 H_70 locs h_71 x_72 hw => ?_)
  refine lv_aload_n G.1 G.2.1 dX2_init_52 rfl (lv_at hl 0 rfl) ?_
  refine lv_bipush (v := 10) G.1 G.2.1 dX2_init_53 (by decide) ?_
  refine py_newI (N := 10) G hw (by decide +kernel) (by decide) (by decide) (Nat.le_of_ble_eq_true rfl) (Nat.le_of_ble_eq_true rfl) (Nat.le_of_ble_eq_true rfl) dX2_init_55 (fun q_73 L_74 f_75 H_76 hq_77 h_78 x_79 hw => ?_)
  have ne_80 : h ≠ q_73 := py_ne_new h_71 hq_77
  have h_71 := h_71.all x_79
  refine py_putF (C := RX2) (T := TX2) (N := 12) (k := 6) (v := .ref q_73) (fs' := [.ref q_1, .ref q_13, .ref q_25, .ref q_37, .ref q_49, .ref q_61, .ref q_73, .null, .null, .null, .long 0, .int 0]) (ty0 := tyX2) G hin hw tyX2_ok nmX2 in_X2_init_X2 rfl h_71 (by decide) (by decide +kernel) rfl rfl rfl rfl rfl (Nat.le_of_ble_eq_true rfl) rfl dX2_init_57 (fun f_81 H_82 locs h_83 x_84 hw => ?_)
  refine lv_aload_n G.1 G.2.1 dX2_init_60 rfl (lv_at hl 0 rfl) ?_
  refine lv_bipush (v := 10) G.1 G.2.1 dX2_init_61 (by decide) ?_
  refine py_newI (N := 10) G hw (by decide +kernel) (by decide) (by decide) (Nat.le_of_ble_eq_true rfl) (Nat.le_of_ble_eq_true rfl) (Nat.le_of_ble_eq_true rfl) dX2_init_63 (fun q_85 L_86 f_87 H_88 hq_89 h_90 x_91 hw => ?_)
  have ne_92 : h ≠ q_85 := py_ne_new h_83 hq_89
  have h_83 := h_83.all x_91
  refine py_putF (C := RX2) (T := TX2) (N := 12) (k := 7) (v := .ref q_85) (fs' := [.ref q_1, .ref q_13, .ref q_25, .ref q_37, .ref q_49, .ref q_61, .ref q_73, .ref q_85, .null, .null, .long 0, .int 0]) (ty0 := tyX2) G hin hw tyX2_ok nmX2 in_X2_init_X2 rfl h_83 (by decide) (by decide +kernel) rfl rfl rfl rfl rfl (Nat.le_of_ble_eq_true rfl) rfl dX2_init_65 (fun f_93 H_94 locs h_95 x_96 hw => ?_)
  refine lv_aload_n G.1 G.2.1 dX2_init_68 rfl (lv_at hl 0 rfl) ?_
  refine lv_bipush (v := 10) G.1 G.2.1 dX2_init_69 (by decide) ?_
  refine py_newZ (N := 10) G hw (by decide +kernel) (by decide) (by decide) (Nat.le_of_ble_eq_true rfl) (Nat.le_of_ble_eq_true rfl) (Nat.le_of_ble_eq_true rfl) dX2_init_71 (fun q_97 L_98 f_99 H_100 hq_101 h_102 x_103 hw => ?_)
  have ne_104 : h ≠ q_97 := py_ne_new h_95 hq_101
  have h_95 := h_95.all x_103
  refine py_putF (C := RX2) (T := TX2) (N := 12) (k := 8) (v := .ref q_97) (fs' := [.ref q_1, .ref q_13, .ref q_25, .ref q_37, .ref q_49, .ref q_61, .ref q_73, .ref q_85, .ref q_97, .null, .long 0, .int 0]) (ty0 := tyX2) G hin hw tyX2_ok nmX2 in_X2_init_X2 rfl h_95 (by decide) (by decide +kernel) rfl rfl rfl rfl rfl (Nat.le_of_ble_eq_true rfl) rfl dX2_init_73 (fun f_105 H_106 locs h_107 x_108 hw => ?_)
  refine lv_aload_n G.1 G.2.1 dX2_init_76 rfl (lv_at hl 0 rfl) ?_
  refine py_new (C := RX9) (T := TX9) (N := 10) (ci := 9) (fs := [.null, .null, .null, .null, .null, .null, .null, .null, .int 0, .int 0]) (ty0 := tyX9) G hw tyX9_ok in_X2_init_X9 rfl (by decide +kernel) (by decide +kernel) (by decide +kernel) (fun j hj => match j, hj with | 0, _ => rfl | 1, _ => rfl | 2, _ => rfl | 3, _ => rfl | 4, _ => rfl | 5, _ => rfl | 6, _ => rfl | 7, _ => rfl | 8, _ => rfl | 9, _ => rfl | n + 10, h => absurd h (by omega)) (Nat.le_of_ble_eq_true rfl) (Nat.le_of_ble_eq_true rfl) dX2_init_77 (fun q_109 L_110 f_111 H_112 hq_113 h_114 x_115 hw => ?_)
  have ne_116 : h ≠ q_109 := py_ne_new h_107 hq_113
  have h_107 := h_107.all x_115
  refine lv_dup G.1 G.2.1 dX2_init_80 rfl ?_
  refine py_callv hw (va_runIN (As := []) (rest := [.ref q_109, .ref h]) G (c_X9_init l E L_110 f_111 H_112.size q_109 h_114) ⟨va_cnB 0 G.2.2.2.2 g_X2_init_X9_init_42 rfl rfl rfl (hw.1.2.2 (RX2, 42, yX9_init) (List.mem_of_getElem? (i := 6) rfl)) (G.2.2.2.2 (Cond.initialized RX9) (by decide +kernel)) (by decide +kernel) ⟨(Nat.le_of_ble_eq_true rfl), (Nat.le_of_ble_eq_true rfl)⟩, rfl, G.2.2.2.2 (Cond.instanceMethod yX9_init) (by decide +kernel)⟩ (py_preS hw) rfl rfl hl.1 rfl (lv_room (Nat.le_of_ble_eq_true rfl)) dX2_init_81 ⟨(Nat.le_of_ble_eq_true rfl), (Nat.le_of_ble_eq_true rfl)⟩) (fun L_117 f_118 H_119 locs hp_120 hw => ?_)
  obtain ⟨xs_123, h_124, hl_125, hp_126, hp_127, x_122⟩ := hp_120
  have h_107 := h_107.ext x_122 ne_116
  refine py_put (C := RX2) (T := TX2) (N := 12) (k := 9) (v := .ref q_109) (fs' := [.ref q_1, .ref q_13, .ref q_25, .ref q_37, .ref q_49, .ref q_61, .ref q_73, .ref q_85, .ref q_97, .ref q_109, .long 0, .int 0]) (ty0 := tyX2) G hw tyX2_ok nmX2 in_X2_init_X2 rfl h_107 (by decide) (by decide +kernel) rfl rfl rfl rfl (Nat.le_of_ble_eq_true rfl) rfl dX2_init_84 (fun f_128 H_129 locs h_130 x_131 hw => ?_)
  have h_124 := h_124.ext x_131 (Ne.symm ne_116)
  refine lv_aload_n G.1 G.2.1 dX2_init_87 rfl (lv_at hl 0 rfl) ?_
  refine lv_lconst (v := 0) G.1 G.2.1 dX2_init_88 (by decide) ?_
  refine py_put (C := RX2) (T := TX2) (N := 12) (k := 10) (v := .long 0) (fs' := [.ref q_1, .ref q_13, .ref q_25, .ref q_37, .ref q_49, .ref q_61, .ref q_73, .ref q_85, .ref q_97, .ref q_109, .long 0, .int 0]) (ty0 := tyX2) G hw tyX2_ok nmX2 in_X2_init_X2 rfl h_130 (by decide) (by decide +kernel) rfl rfl rfl rfl (Nat.le_of_ble_eq_true rfl) rfl dX2_init_89 (fun f_132 H_133 locs h_134 x_135 hw => ?_)
  have h_124 := h_124.ext x_135 (Ne.symm ne_116)
  refine lv_aload_n G.1 G.2.1 dX2_init_92 rfl (lv_at hl 0 rfl) ?_
  refine lv_iconst (v := 0) G.1 G.2.1 dX2_init_93 (by decide) ?_
  refine py_put (C := RX2) (T := TX2) (N := 12) (k := 11) (v := .int 0) (fs' := [.ref q_1, .ref q_13, .ref q_25, .ref q_37, .ref q_49, .ref q_61, .ref q_73, .ref q_85, .ref q_97, .ref q_109, .long 0, .int 0]) (ty0 := tyX2) G hw tyX2_ok nmX2 in_X2_init_X2 rfl h_134 (by decide) (by decide +kernel) rfl rfl rfl rfl (Nat.le_of_ble_eq_true rfl) rfl dX2_init_94 (fun f_136 H_137 locs h_138 x_139 hw => ?_)
  have h_124 := h_124.ext x_139 (Ne.symm ne_116)
  refine W.widen (k := 18) (n := 172) (Nat.le_of_ble_eq_true rfl) (Nat.le_of_ble_eq_true rfl) ?_
  have xt_140 : py_ext L f L_117 f_136 h := fun b hb hn => by
    have n1 : b ≠ q_1 := fun h => hq_5 (h ▸ hb)
    obtain ⟨m1, e1⟩ := x_7 b hb
    obtain ⟨m2, e2⟩ := x_12 b m1 hn
    have n3 : b ≠ q_13 := fun h => hq_17 (h ▸ m2)
    obtain ⟨m3, e3⟩ := x_19 b m2
    obtain ⟨m4, e4⟩ := x_24 b m3 hn
    have n5 : b ≠ q_25 := fun h => hq_29 (h ▸ m4)
    obtain ⟨m5, e5⟩ := x_31 b m4
    obtain ⟨m6, e6⟩ := x_36 b m5 hn
    have n7 : b ≠ q_37 := fun h => hq_41 (h ▸ m6)
    obtain ⟨m7, e7⟩ := x_43 b m6
    obtain ⟨m8, e8⟩ := x_48 b m7 hn
    have n9 : b ≠ q_49 := fun h => hq_53 (h ▸ m8)
    obtain ⟨m9, e9⟩ := x_55 b m8
    obtain ⟨m10, e10⟩ := x_60 b m9 hn
    have n11 : b ≠ q_61 := fun h => hq_65 (h ▸ m10)
    obtain ⟨m11, e11⟩ := x_67 b m10
    obtain ⟨m12, e12⟩ := x_72 b m11 hn
    have n13 : b ≠ q_73 := fun h => hq_77 (h ▸ m12)
    obtain ⟨m13, e13⟩ := x_79 b m12
    obtain ⟨m14, e14⟩ := x_84 b m13 hn
    have n15 : b ≠ q_85 := fun h => hq_89 (h ▸ m14)
    obtain ⟨m15, e15⟩ := x_91 b m14
    obtain ⟨m16, e16⟩ := x_96 b m15 hn
    have n17 : b ≠ q_97 := fun h => hq_101 (h ▸ m16)
    obtain ⟨m17, e17⟩ := x_103 b m16
    obtain ⟨m18, e18⟩ := x_108 b m17 hn
    have n19 : b ≠ q_109 := fun h => hq_113 (h ▸ m18)
    obtain ⟨m19, e19⟩ := x_115 b m18
    obtain ⟨m20, e20⟩ := x_122 b m19 n19
    obtain ⟨m21, e21⟩ := x_131 b m20 hn
    obtain ⟨m22, e22⟩ := x_135 b m21 hn
    obtain ⟨m23, e23⟩ := x_139 b m22 hn
    exact ⟨m23, e23.trans (e22.trans (e21.trans (e20.trans (e19.trans (e18.trans (e17.trans (e16.trans (e15.trans (e14.trans (e13.trans (e12.trans (e11.trans (e10.trans (e9.trans (e8.trans (e7.trans (e6.trans (e5.trans (e4.trans (e3.trans (e2.trans (e1.trans (rfl)))))))))))))))))))))))⟩
  exact py_vret G hr hlk hw ⟨_, q_109, _, h_138, rfl, rfl, rfl, h_124, hl_125, hp_126, hp_127, xt_140⟩ dX2_init_97

def w_X1_init : List Cond := .code yX1_init cX1_init 1 none :: ([Cond.methodLink RX1 5 objectInit, Cond.instanceMethod objectInit, Cond.code objectInit ⟨#[0xb1]⟩ 1 none, Cond.arrayClass .int, Cond.fieldLink RX1 13 "HeadYear$Diary" "level" "[I", Cond.fieldLink RX1 17 "HeadYear$Diary" "heads" "[I", Cond.fieldLink RX1 20 "HeadYear$Diary" "years" "I"] ++ (u_ws RX1 TX1 3 ++ ([])))
theorem in_X1_init_X1 : ∀ w ∈ u_ws RX1 TX1 3, w ∈ w_X1_init := fun _ h => List.mem_cons_of_mem _ (List.mem_append_right _ (List.mem_append_left _ h))
set_option maxHeartbeats 4000000 in
set_option maxRecDepth 100000 in
theorem c_X1_init (l : Launch) (E : py_E) (L : List Nat) (f : py_F) (sz : Nat) (h : Nat) (hh : py_at L f h (.inr (1, [.null, .null, .int 0]))) : Met l yX1_init w_X1_init ({ frames := 1, cells := 2, slots := 1200, locals := 12 }) (py_Pc E [.ref h] L f sz) (py_Qv E L f sz (fun L1 f1 => ∃ xs : List Value, py_at L1 f1 h (.inr (1, xs)) ∧ xs.length = 3 ∧ xs[2]? = some (.int 0) ∧ py_ext L f L1 f1 h)) 2 1200 (va_A (va_pl L f) sz) := by
  refine Met.ofW (cc := cX1_init) (maxL := 1) (ret := none) (by decide) rfl ?_
  intro p e s m args below meth c s₁ B hml hv
  obtain ⟨rfl, rfl, hw⟩ := py_start hv
  have G : CallFix p m c cX1_init 1 s _ w_X1_init RX1 := ⟨B.exec, B.bytes, hml, findClass_of_methodNamed B.named, atoms_spec (ws := w_X1_init) B.pre⟩
  have hr := B.returns
  have hlk := B.notSynchronized
  have hin : meth.name = "<init>" := (name_of_methodNamed B.named B.method).1
  have hl := lv_entry ([.ref h]) (n := 1) (Nat.le_of_ble_eq_true rfl)
  rw [lg_entry_eq]
  generalize (lg_sl ([.ref h]) ++ List.replicate (1 - (lg_sl ([.ref h])).length) Slot.unset).toArray = ls at hl ⊢
  have hl : lv_has ls 1 [(0, .ref h)] := hl
  refine lv_aload_n G.1 G.2.1 dX1_init_0 rfl (lv_at hl 0 rfl) ?_
  refine py_objInit G hl.1 (by decide +kernel) (by decide +kernel) (by decide +kernel) dX1_init_1 (Nat.le_of_ble_eq_true rfl) (Nat.le_of_ble_eq_true rfl) ?_
  refine lv_aload_n G.1 G.2.1 dX1_init_4 rfl (lv_at hl 0 rfl) ?_
  refine lv_sipush (v := 600) G.1 G.2.1 dX1_init_5 (by decide) ?_
  refine py_newI (N := 600) G hw (by decide +kernel) (by decide) (by decide) (Nat.le_of_ble_eq_true rfl) (Nat.le_of_ble_eq_true rfl) (Nat.le_of_ble_eq_true rfl) dX1_init_8 (fun q_1 L_2 f_3 H_4 hq_5 h_6 x_7 hw => ?_)
  have ne_8 : h ≠ q_1 := py_ne_new hh hq_5
  have hh := hh.all x_7
  refine py_putF (C := RX1) (T := TX1) (N := 3) (k := 0) (v := .ref q_1) (fs' := [.ref q_1, .null, .int 0]) (ty0 := tyX1) G hin hw tyX1_ok nmX1 in_X1_init_X1 rfl hh (by decide) (by decide +kernel) rfl rfl rfl rfl rfl (Nat.le_of_ble_eq_true rfl) rfl dX1_init_10 (fun f_9 H_10 locs h_11 x_12 hw => ?_)
  refine lv_aload_n G.1 G.2.1 dX1_init_13 rfl (lv_at hl 0 rfl) ?_
  refine lv_sipush (v := 600) G.1 G.2.1 dX1_init_14 (by decide) ?_
  refine py_newI (N := 600) G hw (by decide +kernel) (by decide) (by decide) (Nat.le_of_ble_eq_true rfl) (Nat.le_of_ble_eq_true rfl) (Nat.le_of_ble_eq_true rfl) dX1_init_17 (fun q_13 L_14 f_15 H_16 hq_17 h_18 x_19 hw => ?_)
  have ne_20 : h ≠ q_13 := py_ne_new h_11 hq_17
  have h_11 := h_11.all x_19
  refine py_putF (C := RX1) (T := TX1) (N := 3) (k := 1) (v := .ref q_13) (fs' := [.ref q_1, .ref q_13, .int 0]) (ty0 := tyX1) G hin hw tyX1_ok nmX1 in_X1_init_X1 rfl h_11 (by decide) (by decide +kernel) rfl rfl rfl rfl rfl (Nat.le_of_ble_eq_true rfl) rfl dX1_init_19 (fun f_21 H_22 locs h_23 x_24 hw => ?_)
  refine lv_aload_n G.1 G.2.1 dX1_init_22 rfl (lv_at hl 0 rfl) ?_
  refine lv_iconst (v := 0) G.1 G.2.1 dX1_init_23 (by decide) ?_
  refine py_put (C := RX1) (T := TX1) (N := 3) (k := 2) (v := .int 0) (fs' := [.ref q_1, .ref q_13, .int 0]) (ty0 := tyX1) G hw tyX1_ok nmX1 in_X1_init_X1 rfl h_23 (by decide) (by decide +kernel) rfl rfl rfl rfl (Nat.le_of_ble_eq_true rfl) rfl dX1_init_24 (fun f_25 H_26 locs h_27 x_28 hw => ?_)
  refine W.widen (k := 2) (n := 1200) (Nat.le_of_ble_eq_true rfl) (Nat.le_of_ble_eq_true rfl) ?_
  have xt_29 : py_ext L f L_14 f_25 h := fun b hb hn => by
    have n1 : b ≠ q_1 := fun h => hq_5 (h ▸ hb)
    obtain ⟨m1, e1⟩ := x_7 b hb
    obtain ⟨m2, e2⟩ := x_12 b m1 hn
    have n3 : b ≠ q_13 := fun h => hq_17 (h ▸ m2)
    obtain ⟨m3, e3⟩ := x_19 b m2
    obtain ⟨m4, e4⟩ := x_24 b m3 hn
    obtain ⟨m5, e5⟩ := x_28 b m4 hn
    exact ⟨m5, e5.trans (e4.trans (e3.trans (e2.trans (e1.trans (rfl)))))⟩
  exact py_vret G hr hlk hw ⟨_, h_27, rfl, rfl, xt_29⟩ dX1_init_27

def w_X0_init : List Cond := .code yX0_init cX0_init 1 none :: ([Cond.methodLink RX0 1 objectInit, Cond.instanceMethod objectInit, Cond.code objectInit ⟨#[0xb1]⟩ 1 none, Cond.arrayClass .int, Cond.fieldLink RX0 9 "HeadYear$Buyings" "family" "[I", Cond.fieldLink RX0 13 "HeadYear$Buyings" "levels" "[I", Cond.fieldLink RX0 16 "HeadYear$Buyings" "cost" "[I", Cond.fieldLink RX0 19 "HeadYear$Buyings" "count" "I", Cond.fieldLink RX0 23 "HeadYear$Buyings" "price" "I"] ++ (u_ws RX0 TX0 5 ++ ([])))
theorem in_X0_init_X0 : ∀ w ∈ u_ws RX0 TX0 5, w ∈ w_X0_init := fun _ h => List.mem_cons_of_mem _ (List.mem_append_right _ (List.mem_append_left _ h))
set_option maxHeartbeats 4000000 in
set_option maxRecDepth 100000 in
theorem c_X0_init (l : Launch) (E : py_E) (L : List Nat) (f : py_F) (sz : Nat) (h : Nat) (hh : py_at L f h (.inr (0, [.null, .null, .null, .int 0, .int 0]))) : Met l yX0_init w_X0_init ({ frames := 1, cells := 3, slots := 120, locals := 12 }) (py_Pc E [.ref h] L f sz) (py_Qv E L f sz (fun L1 f1 => ∃ xs : List Value, py_at L1 f1 h (.inr (0, xs)) ∧ xs.length = 5 ∧ xs[3]? = some (.int 0) ∧ py_ext L f L1 f1 h)) 3 120 (va_A (va_pl L f) sz) := by
  refine Met.ofW (cc := cX0_init) (maxL := 1) (ret := none) (by decide) rfl ?_
  intro p e s m args below meth c s₁ B hml hv
  obtain ⟨rfl, rfl, hw⟩ := py_start hv
  have G : CallFix p m c cX0_init 1 s _ w_X0_init RX0 := ⟨B.exec, B.bytes, hml, findClass_of_methodNamed B.named, atoms_spec (ws := w_X0_init) B.pre⟩
  have hr := B.returns
  have hlk := B.notSynchronized
  have hin : meth.name = "<init>" := (name_of_methodNamed B.named B.method).1
  have hl := lv_entry ([.ref h]) (n := 1) (Nat.le_of_ble_eq_true rfl)
  rw [lg_entry_eq]
  generalize (lg_sl ([.ref h]) ++ List.replicate (1 - (lg_sl ([.ref h])).length) Slot.unset).toArray = ls at hl ⊢
  have hl : lv_has ls 1 [(0, .ref h)] := hl
  refine lv_aload_n G.1 G.2.1 dX0_init_0 rfl (lv_at hl 0 rfl) ?_
  refine py_objInit G hl.1 (by decide +kernel) (by decide +kernel) (by decide +kernel) dX0_init_1 (Nat.le_of_ble_eq_true rfl) (Nat.le_of_ble_eq_true rfl) ?_
  refine lv_aload_n G.1 G.2.1 dX0_init_4 rfl (lv_at hl 0 rfl) ?_
  refine lv_bipush (v := 40) G.1 G.2.1 dX0_init_5 (by decide) ?_
  refine py_newI (N := 40) G hw (by decide +kernel) (by decide) (by decide) (Nat.le_of_ble_eq_true rfl) (Nat.le_of_ble_eq_true rfl) (Nat.le_of_ble_eq_true rfl) dX0_init_7 (fun q_1 L_2 f_3 H_4 hq_5 h_6 x_7 hw => ?_)
  have ne_8 : h ≠ q_1 := py_ne_new hh hq_5
  have hh := hh.all x_7
  refine py_putF (C := RX0) (T := TX0) (N := 5) (k := 0) (v := .ref q_1) (fs' := [.ref q_1, .null, .null, .int 0, .int 0]) (ty0 := tyX0) G hin hw tyX0_ok nmX0 in_X0_init_X0 rfl hh (by decide) (by decide +kernel) rfl rfl rfl rfl rfl (Nat.le_of_ble_eq_true rfl) rfl dX0_init_9 (fun f_9 H_10 locs h_11 x_12 hw => ?_)
  refine lv_aload_n G.1 G.2.1 dX0_init_12 rfl (lv_at hl 0 rfl) ?_
  refine lv_bipush (v := 40) G.1 G.2.1 dX0_init_13 (by decide) ?_
  refine py_newI (N := 40) G hw (by decide +kernel) (by decide) (by decide) (Nat.le_of_ble_eq_true rfl) (Nat.le_of_ble_eq_true rfl) (Nat.le_of_ble_eq_true rfl) dX0_init_15 (fun q_13 L_14 f_15 H_16 hq_17 h_18 x_19 hw => ?_)
  have ne_20 : h ≠ q_13 := py_ne_new h_11 hq_17
  have h_11 := h_11.all x_19
  refine py_putF (C := RX0) (T := TX0) (N := 5) (k := 1) (v := .ref q_13) (fs' := [.ref q_1, .ref q_13, .null, .int 0, .int 0]) (ty0 := tyX0) G hin hw tyX0_ok nmX0 in_X0_init_X0 rfl h_11 (by decide) (by decide +kernel) rfl rfl rfl rfl rfl (Nat.le_of_ble_eq_true rfl) rfl dX0_init_17 (fun f_21 H_22 locs h_23 x_24 hw => ?_)
  refine lv_aload_n G.1 G.2.1 dX0_init_20 rfl (lv_at hl 0 rfl) ?_
  refine lv_bipush (v := 40) G.1 G.2.1 dX0_init_21 (by decide) ?_
  refine py_newI (N := 40) G hw (by decide +kernel) (by decide) (by decide) (Nat.le_of_ble_eq_true rfl) (Nat.le_of_ble_eq_true rfl) (Nat.le_of_ble_eq_true rfl) dX0_init_23 (fun q_25 L_26 f_27 H_28 hq_29 h_30 x_31 hw => ?_)
  have ne_32 : h ≠ q_25 := py_ne_new h_23 hq_29
  have h_23 := h_23.all x_31
  refine py_putF (C := RX0) (T := TX0) (N := 5) (k := 2) (v := .ref q_25) (fs' := [.ref q_1, .ref q_13, .ref q_25, .int 0, .int 0]) (ty0 := tyX0) G hin hw tyX0_ok nmX0 in_X0_init_X0 rfl h_23 (by decide) (by decide +kernel) rfl rfl rfl rfl rfl (Nat.le_of_ble_eq_true rfl) rfl dX0_init_25 (fun f_33 H_34 locs h_35 x_36 hw => ?_)
  refine lv_aload_n G.1 G.2.1 dX0_init_28 rfl (lv_at hl 0 rfl) ?_
  refine lv_iconst (v := 0) G.1 G.2.1 dX0_init_29 (by decide) ?_
  refine py_put (C := RX0) (T := TX0) (N := 5) (k := 3) (v := .int 0) (fs' := [.ref q_1, .ref q_13, .ref q_25, .int 0, .int 0]) (ty0 := tyX0) G hw tyX0_ok nmX0 in_X0_init_X0 rfl h_35 (by decide) (by decide +kernel) rfl rfl rfl rfl (Nat.le_of_ble_eq_true rfl) rfl dX0_init_30 (fun f_37 H_38 locs h_39 x_40 hw => ?_)
  refine lv_aload_n G.1 G.2.1 dX0_init_33 rfl (lv_at hl 0 rfl) ?_
  refine lv_bipush (v := 10) G.1 G.2.1 dX0_init_34 (by decide) ?_
  refine py_put (C := RX0) (T := TX0) (N := 5) (k := 4) (v := .int 10) (fs' := [.ref q_1, .ref q_13, .ref q_25, .int 0, .int 10]) (ty0 := tyX0) G hw tyX0_ok nmX0 in_X0_init_X0 rfl h_39 (by decide) (by decide +kernel) rfl rfl rfl rfl (Nat.le_of_ble_eq_true rfl) rfl dX0_init_36 (fun f_41 H_42 locs h_43 x_44 hw => ?_)
  refine W.widen (k := 3) (n := 120) (Nat.le_of_ble_eq_true rfl) (Nat.le_of_ble_eq_true rfl) ?_
  have xt_45 : py_ext L f L_26 f_41 h := fun b hb hn => by
    have n1 : b ≠ q_1 := fun h => hq_5 (h ▸ hb)
    obtain ⟨m1, e1⟩ := x_7 b hb
    obtain ⟨m2, e2⟩ := x_12 b m1 hn
    have n3 : b ≠ q_13 := fun h => hq_17 (h ▸ m2)
    obtain ⟨m3, e3⟩ := x_19 b m2
    obtain ⟨m4, e4⟩ := x_24 b m3 hn
    have n5 : b ≠ q_25 := fun h => hq_29 (h ▸ m4)
    obtain ⟨m5, e5⟩ := x_31 b m4
    obtain ⟨m6, e6⟩ := x_36 b m5 hn
    obtain ⟨m7, e7⟩ := x_40 b m6 hn
    obtain ⟨m8, e8⟩ := x_44 b m7 hn
    exact ⟨m8, e8.trans (e7.trans (e6.trans (e5.trans (e4.trans (e3.trans (e2.trans (e1.trans (rfl))))))))⟩
  exact py_vret G hr hlk hw ⟨_, h_43, rfl, rfl, xt_45⟩ dX0_init_39

def w_X7_init : List Cond := .code yX7_init cX7_init 1 none :: ([Cond.methodLink RX7 3 objectInit, Cond.instanceMethod objectInit, Cond.code objectInit ⟨#[0xb1]⟩ 1 none, Cond.arrayClass .int, Cond.fieldLink RX7 11 "HeadYear$Seasons" "lacks" "[I", Cond.fieldLink RX7 19 "HeadYear$Seasons" "letters" "[I", Cond.fieldLink RX7 22 "HeadYear$Seasons" "ring" "[I", Cond.fieldLink RX7 25 "HeadYear$Seasons" "find" "I", Cond.fieldLink RX7 29 "HeadYear$Seasons" "luck" "Z"] ++ (u_ws RX7 TX7 5 ++ ([])))
theorem in_X7_init_X7 : ∀ w ∈ u_ws RX7 TX7 5, w ∈ w_X7_init := fun _ h => List.mem_cons_of_mem _ (List.mem_append_right _ (List.mem_append_left _ h))
set_option maxHeartbeats 4000000 in
set_option maxRecDepth 100000 in
theorem c_X7_init (l : Launch) (E : py_E) (L : List Nat) (f : py_F) (sz : Nat) (h : Nat) (hh : py_at L f h (.inr (7, [.null, .null, .null, .int 0, .int 0]))) : Met l yX7_init w_X7_init ({ frames := 1, cells := 3, slots := 24, locals := 12 }) (py_Pc E [.ref h] L f sz) (py_Qv E L f sz (fun L1 f1 => ∃ xs : List Value, py_at L1 f1 h (.inr (7, xs)) ∧ xs.length = 5 ∧ py_ext L f L1 f1 h)) 3 24 (va_A (va_pl L f) sz) := by
  refine Met.ofW (cc := cX7_init) (maxL := 1) (ret := none) (by decide) rfl ?_
  intro p e s m args below meth c s₁ B hml hv
  obtain ⟨rfl, rfl, hw⟩ := py_start hv
  have G : CallFix p m c cX7_init 1 s _ w_X7_init RX7 := ⟨B.exec, B.bytes, hml, findClass_of_methodNamed B.named, atoms_spec (ws := w_X7_init) B.pre⟩
  have hr := B.returns
  have hlk := B.notSynchronized
  have hin : meth.name = "<init>" := (name_of_methodNamed B.named B.method).1
  have hl := lv_entry ([.ref h]) (n := 1) (Nat.le_of_ble_eq_true rfl)
  rw [lg_entry_eq]
  generalize (lg_sl ([.ref h]) ++ List.replicate (1 - (lg_sl ([.ref h])).length) Slot.unset).toArray = ls at hl ⊢
  have hl : lv_has ls 1 [(0, .ref h)] := hl
  refine lv_aload_n G.1 G.2.1 dX7_init_0 rfl (lv_at hl 0 rfl) ?_
  refine py_objInit G hl.1 (by decide +kernel) (by decide +kernel) (by decide +kernel) dX7_init_1 (Nat.le_of_ble_eq_true rfl) (Nat.le_of_ble_eq_true rfl) ?_
  refine lv_aload_n G.1 G.2.1 dX7_init_4 rfl (lv_at hl 0 rfl) ?_
  refine lv_bipush (v := 8) G.1 G.2.1 dX7_init_5 (by decide) ?_
  refine py_newI (N := 8) G hw (by decide +kernel) (by decide) (by decide) (Nat.le_of_ble_eq_true rfl) (Nat.le_of_ble_eq_true rfl) (Nat.le_of_ble_eq_true rfl) dX7_init_7 (fun q_1 L_2 f_3 H_4 hq_5 h_6 x_7 hw => ?_)
  have ne_8 : h ≠ q_1 := py_ne_new hh hq_5
  have hh := hh.all x_7
  refine py_putF (C := RX7) (T := TX7) (N := 5) (k := 0) (v := .ref q_1) (fs' := [.ref q_1, .null, .null, .int 0, .int 0]) (ty0 := tyX7) G hin hw tyX7_ok nmX7 in_X7_init_X7 rfl hh (by decide) (by decide +kernel) rfl rfl rfl rfl rfl (Nat.le_of_ble_eq_true rfl) rfl dX7_init_9 (fun f_9 H_10 locs h_11 x_12 hw => ?_)
  refine lv_aload_n G.1 G.2.1 dX7_init_12 rfl (lv_at hl 0 rfl) ?_
  refine lv_bipush (v := 6) G.1 G.2.1 dX7_init_13 (by decide) ?_
  refine py_newI (N := 6) G hw (by decide +kernel) (by decide) (by decide) (Nat.le_of_ble_eq_true rfl) (Nat.le_of_ble_eq_true rfl) (Nat.le_of_ble_eq_true rfl) dX7_init_15 (fun q_13 L_14 f_15 H_16 hq_17 h_18 x_19 hw => ?_)
  have ne_20 : h ≠ q_13 := py_ne_new h_11 hq_17
  have h_11 := h_11.all x_19
  refine py_putF (C := RX7) (T := TX7) (N := 5) (k := 1) (v := .ref q_13) (fs' := [.ref q_1, .ref q_13, .null, .int 0, .int 0]) (ty0 := tyX7) G hin hw tyX7_ok nmX7 in_X7_init_X7 rfl h_11 (by decide) (by decide +kernel) rfl rfl rfl rfl rfl (Nat.le_of_ble_eq_true rfl) rfl dX7_init_17 (fun f_21 H_22 locs h_23 x_24 hw => ?_)
  refine lv_aload_n G.1 G.2.1 dX7_init_20 rfl (lv_at hl 0 rfl) ?_
  refine lv_bipush (v := 10) G.1 G.2.1 dX7_init_21 (by decide) ?_
  refine py_newI (N := 10) G hw (by decide +kernel) (by decide) (by decide) (Nat.le_of_ble_eq_true rfl) (Nat.le_of_ble_eq_true rfl) (Nat.le_of_ble_eq_true rfl) dX7_init_23 (fun q_25 L_26 f_27 H_28 hq_29 h_30 x_31 hw => ?_)
  have ne_32 : h ≠ q_25 := py_ne_new h_23 hq_29
  have h_23 := h_23.all x_31
  refine py_putF (C := RX7) (T := TX7) (N := 5) (k := 2) (v := .ref q_25) (fs' := [.ref q_1, .ref q_13, .ref q_25, .int 0, .int 0]) (ty0 := tyX7) G hin hw tyX7_ok nmX7 in_X7_init_X7 rfl h_23 (by decide) (by decide +kernel) rfl rfl rfl rfl rfl (Nat.le_of_ble_eq_true rfl) rfl dX7_init_25 (fun f_33 H_34 locs h_35 x_36 hw => ?_)
  refine lv_aload_n G.1 G.2.1 dX7_init_28 rfl (lv_at hl 0 rfl) ?_
  refine lv_bipush (v := 50) G.1 G.2.1 dX7_init_29 (by decide) ?_
  refine py_put (C := RX7) (T := TX7) (N := 5) (k := 3) (v := .int 50) (fs' := [.ref q_1, .ref q_13, .ref q_25, .int 50, .int 0]) (ty0 := tyX7) G hw tyX7_ok nmX7 in_X7_init_X7 rfl h_35 (by decide) (by decide +kernel) rfl rfl rfl rfl (Nat.le_of_ble_eq_true rfl) rfl dX7_init_31 (fun f_37 H_38 locs h_39 x_40 hw => ?_)
  refine lv_aload_n G.1 G.2.1 dX7_init_34 rfl (lv_at hl 0 rfl) ?_
  refine lv_iconst (v := 0) G.1 G.2.1 dX7_init_35 (by decide) ?_
  refine py_put (C := RX7) (T := TX7) (N := 5) (k := 4) (v := .int 0) (fs' := [.ref q_1, .ref q_13, .ref q_25, .int 50, .int 0]) (ty0 := tyX7) G hw tyX7_ok nmX7 in_X7_init_X7 rfl h_39 (by decide) (by decide +kernel) rfl rfl rfl rfl (Nat.le_of_ble_eq_true rfl) rfl dX7_init_36 (fun f_41 H_42 locs h_43 x_44 hw => ?_)
  refine W.widen (k := 3) (n := 24) (Nat.le_of_ble_eq_true rfl) (Nat.le_of_ble_eq_true rfl) ?_
  have xt_45 : py_ext L f L_26 f_41 h := fun b hb hn => by
    have n1 : b ≠ q_1 := fun h => hq_5 (h ▸ hb)
    obtain ⟨m1, e1⟩ := x_7 b hb
    obtain ⟨m2, e2⟩ := x_12 b m1 hn
    have n3 : b ≠ q_13 := fun h => hq_17 (h ▸ m2)
    obtain ⟨m3, e3⟩ := x_19 b m2
    obtain ⟨m4, e4⟩ := x_24 b m3 hn
    have n5 : b ≠ q_25 := fun h => hq_29 (h ▸ m4)
    obtain ⟨m5, e5⟩ := x_31 b m4
    obtain ⟨m6, e6⟩ := x_36 b m5 hn
    obtain ⟨m7, e7⟩ := x_40 b m6 hn
    obtain ⟨m8, e8⟩ := x_44 b m7 hn
    exact ⟨m8, e8.trans (e7.trans (e6.trans (e5.trans (e4.trans (e3.trans (e2.trans (e1.trans (rfl))))))))⟩
  exact py_vret G hr hlk hw ⟨_, h_43, rfl, xt_45⟩ dX7_init_39

def w_X5_init : List Cond := .code yX5_init cX5_init 1 none :: ([Cond.methodLink RX5 3 objectInit, Cond.instanceMethod objectInit, Cond.code objectInit ⟨#[0xb1]⟩ 1 none, Cond.arrayClass .int, Cond.fieldLink RX5 11 "HeadYear$Moves" "there" "[I"] ++ (u_ws RX5 TX5 1 ++ ([])))
theorem in_X5_init_X5 : ∀ w ∈ u_ws RX5 TX5 1, w ∈ w_X5_init := fun _ h => List.mem_cons_of_mem _ (List.mem_append_right _ (List.mem_append_left _ h))
set_option maxHeartbeats 4000000 in
set_option maxRecDepth 100000 in
theorem c_X5_init (l : Launch) (E : py_E) (L : List Nat) (f : py_F) (sz : Nat) (h : Nat) (hh : py_at L f h (.inr (5, [.null]))) : Met l yX5_init w_X5_init ({ frames := 1, cells := 1, slots := 8, locals := 12 }) (py_Pc E [.ref h] L f sz) (py_Qv E L f sz (fun L1 f1 => py_ext L f L1 f1 h)) 1 8 (va_A (va_pl L f) sz) := by
  refine Met.ofW (cc := cX5_init) (maxL := 1) (ret := none) (by decide) rfl ?_
  intro p e s m args below meth c s₁ B hml hv
  obtain ⟨rfl, rfl, hw⟩ := py_start hv
  have G : CallFix p m c cX5_init 1 s _ w_X5_init RX5 := ⟨B.exec, B.bytes, hml, findClass_of_methodNamed B.named, atoms_spec (ws := w_X5_init) B.pre⟩
  have hr := B.returns
  have hlk := B.notSynchronized
  have hin : meth.name = "<init>" := (name_of_methodNamed B.named B.method).1
  have hl := lv_entry ([.ref h]) (n := 1) (Nat.le_of_ble_eq_true rfl)
  rw [lg_entry_eq]
  generalize (lg_sl ([.ref h]) ++ List.replicate (1 - (lg_sl ([.ref h])).length) Slot.unset).toArray = ls at hl ⊢
  have hl : lv_has ls 1 [(0, .ref h)] := hl
  refine lv_aload_n G.1 G.2.1 dX5_init_0 rfl (lv_at hl 0 rfl) ?_
  refine py_objInit G hl.1 (by decide +kernel) (by decide +kernel) (by decide +kernel) dX5_init_1 (Nat.le_of_ble_eq_true rfl) (Nat.le_of_ble_eq_true rfl) ?_
  refine lv_aload_n G.1 G.2.1 dX5_init_4 rfl (lv_at hl 0 rfl) ?_
  refine lv_bipush (v := 8) G.1 G.2.1 dX5_init_5 (by decide) ?_
  refine py_newI (N := 8) G hw (by decide +kernel) (by decide) (by decide) (Nat.le_of_ble_eq_true rfl) (Nat.le_of_ble_eq_true rfl) (Nat.le_of_ble_eq_true rfl) dX5_init_7 (fun q_1 L_2 f_3 H_4 hq_5 h_6 x_7 hw => ?_)
  have ne_8 : h ≠ q_1 := py_ne_new hh hq_5
  have hh := hh.all x_7
  refine py_putF (C := RX5) (T := TX5) (N := 1) (k := 0) (v := .ref q_1) (fs' := [.ref q_1]) (ty0 := tyX5) G hin hw tyX5_ok nmX5 in_X5_init_X5 rfl hh (by decide) (by decide +kernel) rfl rfl rfl rfl rfl (Nat.le_of_ble_eq_true rfl) rfl dX5_init_9 (fun f_9 H_10 locs h_11 x_12 hw => ?_)
  refine W.widen (k := 1) (n := 8) (Nat.le_of_ble_eq_true rfl) (Nat.le_of_ble_eq_true rfl) ?_
  have xt_13 : py_ext L f L_2 f_9 h := fun b hb hn => by
    have n1 : b ≠ q_1 := fun h => hq_5 (h ▸ hb)
    obtain ⟨m1, e1⟩ := x_7 b hb
    obtain ⟨m2, e2⟩ := x_12 b m1 hn
    exact ⟨m2, e2.trans (e1.trans (rfl))⟩
  exact py_vret G hr hlk hw xt_13 dX5_init_12

def w_X6_init : List Cond := .code yX6_init cX6_init 3 none :: ([Cond.methodLink RX6 3 objectInit, Cond.instanceMethod objectInit, Cond.code objectInit ⟨#[0xb1]⟩ 1 none, Cond.arrayClass .int, Cond.fieldLink RX6 11 "HeadYear$Odds" "letters" "[I", Cond.arrayClass .long, Cond.fieldLink RX6 17 "HeadYear$Odds" "dying" "[J", Cond.fieldLink RX6 23 "HeadYear$Odds" "parts" "[J", Cond.fieldLink RX6 26 "HeadYear$Odds" "after" "[J", Cond.fieldLink RX6 29 "HeadYear$Odds" "gone" "J", Cond.fieldLink RX6 33 "HeadYear$Odds" "folk" "LHeadYear$Folk;", Cond.fieldLink RX6 37 "HeadYear$Odds" "law" "LHeadYear$Law;"] ++ (u_ws RX6 TX6 7 ++ ([])))
theorem in_X6_init_X6 : ∀ w ∈ u_ws RX6 TX6 7, w ∈ w_X6_init := fun _ h => List.mem_cons_of_mem _ (List.mem_append_right _ (List.mem_append_left _ h))
set_option maxHeartbeats 4000000 in
set_option maxRecDepth 100000 in
theorem c_X6_init (l : Launch) (E : py_E) (L : List Nat) (f : py_F) (sz : Nat) (h : Nat) (fo : Nat) (nl : Nat) (hh : py_at L f h (.inr (6, [.null, .null, .null, .null, .null, .null, .long 0]))) : Met l yX6_init w_X6_init ({ frames := 1, cells := 4, slots := 364, locals := 12 }) (py_Pc E [.ref h, .ref fo, .ref nl] L f sz) (py_Qv E L f sz (fun L1 f1 => py_ext L f L1 f1 h)) 4 364 (va_A (va_pl L f) sz) := by
  refine Met.ofW (cc := cX6_init) (maxL := 3) (ret := none) (by decide) rfl ?_
  intro p e s m args below meth c s₁ B hml hv
  obtain ⟨rfl, rfl, hw⟩ := py_start hv
  have G : CallFix p m c cX6_init 3 s _ w_X6_init RX6 := ⟨B.exec, B.bytes, hml, findClass_of_methodNamed B.named, atoms_spec (ws := w_X6_init) B.pre⟩
  have hr := B.returns
  have hlk := B.notSynchronized
  have hin : meth.name = "<init>" := (name_of_methodNamed B.named B.method).1
  have hl := lv_entry ([.ref h, .ref fo, .ref nl]) (n := 3) (Nat.le_of_ble_eq_true rfl)
  rw [lg_entry_eq]
  generalize (lg_sl ([.ref h, .ref fo, .ref nl]) ++ List.replicate (3 - (lg_sl ([.ref h, .ref fo, .ref nl])).length) Slot.unset).toArray = ls at hl ⊢
  have hl : lv_has ls 3 [(0, .ref h), (1, .ref fo), (2, .ref nl)] := hl
  refine lv_aload_n G.1 G.2.1 dX6_init_0 rfl (lv_at hl 0 rfl) ?_
  refine py_objInit G hl.1 (by decide +kernel) (by decide +kernel) (by decide +kernel) dX6_init_1 (Nat.le_of_ble_eq_true rfl) (Nat.le_of_ble_eq_true rfl) ?_
  refine lv_aload_n G.1 G.2.1 dX6_init_4 rfl (lv_at hl 0 rfl) ?_
  refine lv_bipush (v := 6) G.1 G.2.1 dX6_init_5 (by decide) ?_
  refine py_newI (N := 6) G hw (by decide +kernel) (by decide) (by decide) (Nat.le_of_ble_eq_true rfl) (Nat.le_of_ble_eq_true rfl) (Nat.le_of_ble_eq_true rfl) dX6_init_7 (fun q_1 L_2 f_3 H_4 hq_5 h_6 x_7 hw => ?_)
  have ne_8 : h ≠ q_1 := py_ne_new hh hq_5
  have hh := hh.all x_7
  refine py_putF (C := RX6) (T := TX6) (N := 7) (k := 0) (v := .ref q_1) (fs' := [.ref q_1, .null, .null, .null, .null, .null, .long 0]) (ty0 := tyX6) G hin hw tyX6_ok nmX6 in_X6_init_X6 rfl hh (by decide) (by decide +kernel) rfl rfl rfl rfl rfl (Nat.le_of_ble_eq_true rfl) rfl dX6_init_9 (fun f_9 H_10 locs h_11 x_12 hw => ?_)
  refine lv_aload_n G.1 G.2.1 dX6_init_12 rfl (lv_at hl 0 rfl) ?_
  refine lv_bipush (v := 22) G.1 G.2.1 dX6_init_13 (by decide) ?_
  refine py_newJ (N := 22) G hw (by decide +kernel) (by decide) (by decide) (Nat.le_of_ble_eq_true rfl) (Nat.le_of_ble_eq_true rfl) (Nat.le_of_ble_eq_true rfl) dX6_init_15 (fun q_13 L_14 f_15 H_16 hq_17 h_18 x_19 hw => ?_)
  have ne_20 : h ≠ q_13 := py_ne_new h_11 hq_17
  have h_11 := h_11.all x_19
  refine py_putF (C := RX6) (T := TX6) (N := 7) (k := 1) (v := .ref q_13) (fs' := [.ref q_1, .ref q_13, .null, .null, .null, .null, .long 0]) (ty0 := tyX6) G hin hw tyX6_ok nmX6 in_X6_init_X6 rfl h_11 (by decide) (by decide +kernel) rfl rfl rfl rfl rfl (Nat.le_of_ble_eq_true rfl) rfl dX6_init_17 (fun f_21 H_22 locs h_23 x_24 hw => ?_)
  refine lv_aload_n G.1 G.2.1 dX6_init_20 rfl (lv_at hl 0 rfl) ?_
  refine lv_sipush (v := 168) G.1 G.2.1 dX6_init_21 (by decide) ?_
  refine py_newJ (N := 168) G hw (by decide +kernel) (by decide) (by decide) (Nat.le_of_ble_eq_true rfl) (Nat.le_of_ble_eq_true rfl) (Nat.le_of_ble_eq_true rfl) dX6_init_24 (fun q_25 L_26 f_27 H_28 hq_29 h_30 x_31 hw => ?_)
  have ne_32 : h ≠ q_25 := py_ne_new h_23 hq_29
  have h_23 := h_23.all x_31
  refine py_put (C := RX6) (T := TX6) (N := 7) (k := 3) (v := .ref q_25) (fs' := [.ref q_1, .ref q_13, .null, .ref q_25, .null, .null, .long 0]) (ty0 := tyX6) G hw tyX6_ok nmX6 in_X6_init_X6 rfl h_23 (by decide) (by decide +kernel) rfl rfl rfl rfl (Nat.le_of_ble_eq_true rfl) rfl dX6_init_26 (fun f_33 H_34 locs h_35 x_36 hw => ?_)
  refine lv_aload_n G.1 G.2.1 dX6_init_29 rfl (lv_at hl 0 rfl) ?_
  refine lv_sipush (v := 168) G.1 G.2.1 dX6_init_30 (by decide) ?_
  refine py_newJ (N := 168) G hw (by decide +kernel) (by decide) (by decide) (Nat.le_of_ble_eq_true rfl) (Nat.le_of_ble_eq_true rfl) (Nat.le_of_ble_eq_true rfl) dX6_init_33 (fun q_37 L_38 f_39 H_40 hq_41 h_42 x_43 hw => ?_)
  have ne_44 : h ≠ q_37 := py_ne_new h_35 hq_41
  have h_35 := h_35.all x_43
  refine py_put (C := RX6) (T := TX6) (N := 7) (k := 4) (v := .ref q_37) (fs' := [.ref q_1, .ref q_13, .null, .ref q_25, .ref q_37, .null, .long 0]) (ty0 := tyX6) G hw tyX6_ok nmX6 in_X6_init_X6 rfl h_35 (by decide) (by decide +kernel) rfl rfl rfl rfl (Nat.le_of_ble_eq_true rfl) rfl dX6_init_35 (fun f_45 H_46 locs h_47 x_48 hw => ?_)
  refine lv_aload_n G.1 G.2.1 dX6_init_38 rfl (lv_at hl 0 rfl) ?_
  refine lv_lconst (v := 0) G.1 G.2.1 dX6_init_39 (by decide) ?_
  refine py_put (C := RX6) (T := TX6) (N := 7) (k := 6) (v := .long 0) (fs' := [.ref q_1, .ref q_13, .null, .ref q_25, .ref q_37, .null, .long 0]) (ty0 := tyX6) G hw tyX6_ok nmX6 in_X6_init_X6 rfl h_47 (by decide) (by decide +kernel) rfl rfl rfl rfl (Nat.le_of_ble_eq_true rfl) rfl dX6_init_40 (fun f_49 H_50 locs h_51 x_52 hw => ?_)
  refine lv_aload_n G.1 G.2.1 dX6_init_43 rfl (lv_at hl 0 rfl) ?_
  refine lv_aload_n G.1 G.2.1 dX6_init_44 rfl (lv_at hl 1 rfl) ?_
  refine py_putF (C := RX6) (T := TX6) (N := 7) (k := 2) (v := .ref fo) (fs' := [.ref q_1, .ref q_13, .ref fo, .ref q_25, .ref q_37, .null, .long 0]) (ty0 := tyX6) G hin hw tyX6_ok nmX6 in_X6_init_X6 rfl h_51 (by decide) (by decide +kernel) rfl rfl rfl rfl rfl (Nat.le_of_ble_eq_true rfl) rfl dX6_init_45 (fun f_53 H_54 locs h_55 x_56 hw => ?_)
  refine lv_aload_n G.1 G.2.1 dX6_init_48 rfl (lv_at hl 0 rfl) ?_
  refine lv_aload_n G.1 G.2.1 dX6_init_49 rfl (lv_at hl 2 rfl) ?_
  refine py_put (C := RX6) (T := TX6) (N := 7) (k := 5) (v := .ref nl) (fs' := [.ref q_1, .ref q_13, .ref fo, .ref q_25, .ref q_37, .ref nl, .long 0]) (ty0 := tyX6) G hw tyX6_ok nmX6 in_X6_init_X6 rfl h_55 (by decide) (by decide +kernel) rfl rfl rfl rfl (Nat.le_of_ble_eq_true rfl) rfl dX6_init_50 (fun f_57 H_58 locs h_59 x_60 hw => ?_)
  refine W.widen (k := 4) (n := 364) (Nat.le_of_ble_eq_true rfl) (Nat.le_of_ble_eq_true rfl) ?_
  have xt_61 : py_ext L f L_38 f_57 h := fun b hb hn => by
    have n1 : b ≠ q_1 := fun h => hq_5 (h ▸ hb)
    obtain ⟨m1, e1⟩ := x_7 b hb
    obtain ⟨m2, e2⟩ := x_12 b m1 hn
    have n3 : b ≠ q_13 := fun h => hq_17 (h ▸ m2)
    obtain ⟨m3, e3⟩ := x_19 b m2
    obtain ⟨m4, e4⟩ := x_24 b m3 hn
    have n5 : b ≠ q_25 := fun h => hq_29 (h ▸ m4)
    obtain ⟨m5, e5⟩ := x_31 b m4
    obtain ⟨m6, e6⟩ := x_36 b m5 hn
    have n7 : b ≠ q_37 := fun h => hq_41 (h ▸ m6)
    obtain ⟨m7, e7⟩ := x_43 b m6
    obtain ⟨m8, e8⟩ := x_48 b m7 hn
    obtain ⟨m9, e9⟩ := x_52 b m8 hn
    obtain ⟨m10, e10⟩ := x_56 b m9 hn
    obtain ⟨m11, e11⟩ := x_60 b m10 hn
    exact ⟨m11, e11.trans (e10.trans (e9.trans (e8.trans (e7.trans (e6.trans (e5.trans (e4.trans (e3.trans (e2.trans (e1.trans (rfl)))))))))))⟩
  exact py_vret G hr hlk hw xt_61 dX6_init_53

def w_X3_add : List Cond := .code yX3_add cX3_add 3 none :: ([Cond.fieldLink RX3 18 "HeadYear$Law" "length" "I", Cond.fieldLink RX3 9 "HeadYear$Law" "code" "[I"] ++ (u_ws RX3 TX3 3 ++ ([])))
theorem in_X3_add_X3 : ∀ w ∈ u_ws RX3 TX3 3, w ∈ w_X3_add := fun _ h => List.mem_cons_of_mem _ (List.mem_append_right _ (List.mem_append_left _ h))
set_option maxHeartbeats 4000000 in
set_option maxRecDepth 100000 in
theorem c_X3_add (l : Launch) (E : py_E) (L : List Nat) (f : py_F) (sz : Nat) (h : Nat) (sg vl : Int32) (co st : Nat) (n n1 : Int32) (g : Nat → Int32) (hh : py_at L f h (.inr (3, [.ref co, .ref st, .int n]))) (hc : py_at L f co (.inl (E.2.1, 160, .inl g))) (hn : n < 160) (hin : vp_in n 160) (hn1 : n + 1 = n1) : Met l yX3_add w_X3_add ({ frames := 0, cells := 0, slots := 0, locals := 0 }) (py_Pc E [.ref h, .int sg, .int vl] L f sz) (py_Qv E L f sz (fun L1 f1 => ∃ g1 : Nat → Int32, py_at L1 f1 h (.inr (3, [.ref co, .ref st, .int n1])) ∧ py_at L1 f1 co (.inl (E.2.1, 160, .inl g1)) ∧ py_ext2 L f L1 f1 h co)) 0 0 (va_A (va_pl L f) sz) := by
  refine Met.ofW (cc := cX3_add) (maxL := 3) (ret := none) (by decide) rfl ?_
  intro p e s m args below meth c s₁ B hml hv
  obtain ⟨rfl, rfl, hw⟩ := py_start hv
  have G : CallFix p m c cX3_add 3 s _ w_X3_add RX3 := ⟨B.exec, B.bytes, hml, findClass_of_methodNamed B.named, atoms_spec (ws := w_X3_add) B.pre⟩
  have hr := B.returns
  have hlk := B.notSynchronized
  have hl := lv_entry ([.ref h, .int sg, .int vl]) (n := 3) (Nat.le_of_ble_eq_true rfl)
  rw [lg_entry_eq]
  generalize (lg_sl ([.ref h, .int sg, .int vl]) ++ List.replicate (3 - (lg_sl ([.ref h, .int sg, .int vl])).length) Slot.unset).toArray = ls at hl ⊢
  have hl : lv_has ls 3 [(0, .ref h), (1, .int sg), (2, .int vl)] := hl
  refine lv_aload_n G.1 G.2.1 dX3_add_0 rfl (lv_at hl 0 rfl) ?_
  refine py_get (C := RX3) (T := TX3) (N := 3) (k := 2) (v := .int n) G hw in_X3_add_X3 rfl hh (by decide) (by decide +kernel) rfl dX3_add_1 ?_
  refine lv_aload_n G.1 G.2.1 dX3_add_4 rfl (lv_at hl 0 rfl) ?_
  refine py_get (C := RX3) (T := TX3) (N := 3) (k := 0) (v := .ref co) G hw in_X3_add_X3 rfl hh (by decide) (by decide +kernel) rfl dX3_add_5 ?_
  refine py_alen (v := 160) G hw hc rfl dX3_add_8 ?_
  refine lv_icmp_ge (tgt := 37) G.1 G.2.1 dX3_add_9 (by decide) (fun c_1 => ?_) (fun c_1 => ?_)
  · skip
    exact absurd c_1 (Int32.not_le.mpr hn)
  · skip
    refine lv_aload_n G.1 G.2.1 dX3_add_12 rfl (lv_at hl 0 rfl) ?_
    refine py_get (C := RX3) (T := TX3) (N := 3) (k := 0) (v := .ref co) G hw in_X3_add_X3 rfl hh (by decide) (by decide +kernel) rfl dX3_add_13 ?_
    refine lv_aload_n G.1 G.2.1 dX3_add_16 rfl (lv_at hl 0 rfl) ?_
    refine py_get (C := RX3) (T := TX3) (N := 3) (k := 2) (v := .int n) G hw in_X3_add_X3 rfl hh (by decide) (by decide +kernel) rfl dX3_add_17 ?_
    refine lv_iload_n G.1 G.2.1 dX3_add_20 rfl (lv_at hl 1 rfl) ?_
    refine lv_bipush (v := 16) G.1 G.2.1 dX3_add_21 (by decide) ?_
    refine lv_ishl G.1 G.2.1 dX3_add_23 ?_
    refine lv_topi (fun x_2 ex_2 => ?_)
    refine lv_iload_n G.1 G.2.1 dX3_add_24 rfl (lv_at hl 2 rfl) ?_
    refine lv_ior G.1 G.2.1 dX3_add_25 ?_
    refine lv_topi (fun x_3 ex_3 => ?_)
    refine py_iast G hw hc hin dX3_add_26 (fun f_4 H_5 locs h_6 x_7 hw => ?_)
    generalize upd g _ _ = g_8 at h_6
    have hh := hh.ext x_7 (py_ne_arr hh hc)
    refine lv_aload_n G.1 G.2.1 dX3_add_27 rfl (lv_at hl 0 rfl) ?_
    refine lv_dup G.1 G.2.1 dX3_add_28 rfl ?_
    refine py_get (C := RX3) (T := TX3) (N := 3) (k := 2) (v := .int n) G hw in_X3_add_X3 rfl hh (by decide) (by decide +kernel) rfl dX3_add_29 ?_
    refine lv_iconst (v := 1) G.1 G.2.1 dX3_add_32 (by decide) ?_
    refine lv_iadd G.1 G.2.1 dX3_add_33 ?_
    refine lv_topi (fun x_9 ex_9 => ?_)
    refine py_put (C := RX3) (T := TX3) (N := 3) (k := 2) (v := .int x_9) (fs' := [.ref co, .ref st, .int x_9]) (ty0 := tyX3) G hw tyX3_ok nmX3 in_X3_add_X3 rfl hh (by decide) (by decide +kernel) rfl rfl rfl rfl (Nat.le_of_ble_eq_true rfl) rfl dX3_add_34 (fun f_10 H_11 locs h_12 x_13 hw => ?_)
    have h_6 := h_6.ext x_13 (Ne.symm (py_ne_arr hh h_6))
    have xt : py_ext2 L f L f_10 h co := fun b hb h1 h2 => by
      obtain ⟨m0, e0⟩ := x_7 b hb h2
      obtain ⟨m1, e1⟩ := x_13 b m0 h1
      exact ⟨m1, e1.trans (e0.trans (rfl))⟩
    have hz := h_12
    rw [ex_9, hn1] at hz
    exact py_vret G hr hlk hw ⟨_, hz, h_6, xt⟩ dX3_add_37

def w_X3_bornLessDead : List Cond := .code yX3_bornLessDead cX3_bornLessDead 1 (some (.object "HeadYear$Law")) :: ([Cond.classLink RX3 10 RX3, Cond.instantiable RX3 3, Cond.initialized RX3, Cond.methodLink RX3 22 yX3_init, Cond.instanceMethod yX3_init, Cond.methodLink RX3 23 yX3_add, Cond.instanceMethod yX3_add, Cond.selects RX3 yX3_add yX3_add] ++ (u_ws RX3 TX3 3 ++ (w_X3_init ++ (w_X3_add ++ ([])))))
theorem in_X3_bornLessDead_X3 : ∀ w ∈ u_ws RX3 TX3 3, w ∈ w_X3_bornLessDead := fun _ h => List.mem_cons_of_mem _ (List.mem_append_right _ (List.mem_append_left _ h))
theorem gg_X3_bornLessDead_X3_init : GoodIn w_X3_bornLessDead w_X3_init := goodIn_sub (fun _ h => List.mem_cons_of_mem _ (List.mem_append_right _ (List.mem_append_right _ (List.mem_append_left _ h)))) (by decide +kernel)
theorem gg_X3_bornLessDead_X3_add : GoodIn w_X3_bornLessDead w_X3_add := goodIn_sub (fun _ h => List.mem_cons_of_mem _ (List.mem_append_right _ (List.mem_append_right _ (List.mem_append_right _ (List.mem_append_left _ h))))) (by decide +kernel)
theorem g_X3_bornLessDead_X3_add_23 : GoodIn w_X3_bornLessDead (wsV RX3 23 RX3 yX3_add w_X3_add) := goodIn_app (goodIn_of _ (by decide +kernel)) gg_X3_bornLessDead_X3_add
theorem g_X3_bornLessDead_X3_init_22 : GoodIn w_X3_bornLessDead w_X3_init := gg_X3_bornLessDead_X3_init
set_option maxHeartbeats 4000000 in
set_option maxRecDepth 100000 in
theorem c_X3_bornLessDead (l : Launch) (E : py_E) (L : List Nat) (f : py_F) (sz : Nat)  : Met l yX3_bornLessDead w_X3_bornLessDead ({ frames := 2, cells := 3, slots := 195, locals := 32 }) (py_Pc E [] L f sz) (py_Qr E L f sz (fun r L1 f1 => py_all L f L1 f1)) 3 195 (va_A (va_pl L f) sz) := by
  refine Met.ofW (cc := cX3_bornLessDead) (maxL := 1) (ret := (some (.object "HeadYear$Law"))) (by decide) rfl ?_
  intro p e s m args below meth c s₁ B hml hv
  obtain ⟨rfl, rfl, hw⟩ := py_start hv
  have G : CallFix p m c cX3_bornLessDead 1 s _ w_X3_bornLessDead RX3 := ⟨B.exec, B.bytes, hml, findClass_of_methodNamed B.named, atoms_spec (ws := w_X3_bornLessDead) B.pre⟩
  have hr := B.returns
  have hlk := B.notSynchronized
  have hl := lv_entry ([]) (n := 1) (Nat.le_of_ble_eq_true rfl)
  rw [lg_entry_eq]
  generalize (lg_sl ([]) ++ List.replicate (1 - (lg_sl ([])).length) Slot.unset).toArray = ls at hl ⊢
  have hl : lv_has ls 1 [] := hl
  refine py_new (C := RX3) (T := TX3) (N := 3) (ci := 3) (fs := [.null, .null, .int 0]) (ty0 := tyX3) G hw tyX3_ok in_X3_bornLessDead_X3 rfl (by decide +kernel) (by decide +kernel) (by decide +kernel) (fun j hj => match j, hj with | 0, _ => rfl | 1, _ => rfl | 2, _ => rfl | n + 3, h => absurd h (by omega)) (Nat.le_of_ble_eq_true rfl) (Nat.le_of_ble_eq_true rfl) dX3_bornLessDead_0 (fun q_1 L_2 f_3 H_4 hq_5 h_6 x_7 hw => ?_)
  refine lv_dup G.1 G.2.1 dX3_bornLessDead_3 rfl ?_
  refine py_callv hw (va_runI (As := []) (rest := [.ref q_1]) G (c_X3_init l E L_2 f_3 H_4.size q_1 h_6) (cwI 0 G.2.2.2.2 g_X3_bornLessDead_X3_init_22 rfl rfl rfl (G.2.2.2.2 (Cond.initialized RX3) (by decide +kernel)) (G.2.2.2.2 (Cond.methodLink RX3 22 yX3_init) (by decide +kernel)) (G.2.2.2.2 (Cond.instanceMethod yX3_init) (by decide +kernel)) rfl (by decide +kernel) ⟨(Nat.le_of_ble_eq_true rfl), (Nat.le_of_ble_eq_true rfl)⟩) (py_preS hw) rfl rfl hl.1 rfl (lv_room (Nat.le_of_ble_eq_true rfl)) dX3_bornLessDead_4 ⟨(Nat.le_of_ble_eq_true rfl), (Nat.le_of_ble_eq_true rfl)⟩) (fun L_8 f_9 H_10 locs hp_11 hw => ?_)
  obtain ⟨co_14, st_18, h_15, h_16, hco_17, x_13⟩ := hp_11
  refine lv_astore_n (lv' := [(0, .ref q_1)]) G.1 G.2.1 dX3_bornLessDead_7 rfl hl (by decide) rfl (fun ls hl => ?_)
  refine lv_aload_n G.1 G.2.1 dX3_bornLessDead_8 rfl (lv_at hl 0 rfl) ?_
  refine lv_bipush (v := 121) G.1 G.2.1 dX3_bornLessDead_9 (by decide) ?_
  refine lv_iconst (v := 0) G.1 G.2.1 dX3_bornLessDead_11 (by decide) ?_
  refine py_callv hw (va_runV (As := [.int 121, .int 0]) (rest := []) G (c_X3_add l E L_8 f_9 H_10.size q_1 121 0 co_14 st_18 0 (1) (fun _ => 0) h_15 h_16 (by decide) (py_inr (by decide)) (by decide) ) (cwV 2 G.2.2.2.2 g_X3_bornLessDead_X3_add_23 rfl rfl rfl (by decide +kernel) ⟨(Nat.le_of_ble_eq_true rfl), (Nat.le_of_ble_eq_true rfl)⟩) (py_preV hw (C := RX3) (T := TX3) (N := 3) rfl h_15) rfl rfl hl.1 rfl (lv_room (Nat.le_of_ble_eq_true rfl)) dX3_bornLessDead_12 ⟨(Nat.le_of_ble_eq_true rfl), (Nat.le_of_ble_eq_true rfl)⟩) (fun L_19 f_20 H_21 locs hp_22 hw => ?_)
  obtain ⟨g_24, h_25, h_26, x_27⟩ := hp_22
  refine lv_aload_n G.1 G.2.1 dX3_bornLessDead_15 rfl (lv_at hl 0 rfl) ?_
  refine lv_bipush (v := 121) G.1 G.2.1 dX3_bornLessDead_16 (by decide) ?_
  refine lv_iconst (v := 1) G.1 G.2.1 dX3_bornLessDead_18 (by decide) ?_
  refine py_callv hw (va_runV (As := [.int 121, .int 1]) (rest := []) G (c_X3_add l E L_19 f_20 H_21.size q_1 121 1 co_14 st_18 1 (2) g_24 h_25 h_26 (by decide) (py_inr (by decide)) (by decide) ) (cwV 2 G.2.2.2.2 g_X3_bornLessDead_X3_add_23 rfl rfl rfl (by decide +kernel) ⟨(Nat.le_of_ble_eq_true rfl), (Nat.le_of_ble_eq_true rfl)⟩) (py_preV hw (C := RX3) (T := TX3) (N := 3) rfl h_25) rfl rfl hl.1 rfl (lv_room (Nat.le_of_ble_eq_true rfl)) dX3_bornLessDead_19 ⟨(Nat.le_of_ble_eq_true rfl), (Nat.le_of_ble_eq_true rfl)⟩) (fun L_28 f_29 H_30 locs hp_31 hw => ?_)
  obtain ⟨g_33, h_34, h_35, x_36⟩ := hp_31
  refine lv_aload_n G.1 G.2.1 dX3_bornLessDead_22 rfl (lv_at hl 0 rfl) ?_
  refine lv_bipush (v := 45) G.1 G.2.1 dX3_bornLessDead_23 (by decide) ?_
  refine lv_iconst (v := 0) G.1 G.2.1 dX3_bornLessDead_25 (by decide) ?_
  refine py_callv hw (va_runV (As := [.int 45, .int 0]) (rest := []) G (c_X3_add l E L_28 f_29 H_30.size q_1 45 0 co_14 st_18 2 (3) g_33 h_34 h_35 (by decide) (py_inr (by decide)) (by decide) ) (cwV 2 G.2.2.2.2 g_X3_bornLessDead_X3_add_23 rfl rfl rfl (by decide +kernel) ⟨(Nat.le_of_ble_eq_true rfl), (Nat.le_of_ble_eq_true rfl)⟩) (py_preV hw (C := RX3) (T := TX3) (N := 3) rfl h_34) rfl rfl hl.1 rfl (lv_room (Nat.le_of_ble_eq_true rfl)) dX3_bornLessDead_26 ⟨(Nat.le_of_ble_eq_true rfl), (Nat.le_of_ble_eq_true rfl)⟩) (fun L_37 f_38 H_39 locs hp_40 hw => ?_)
  obtain ⟨g_42, h_43, h_44, x_45⟩ := hp_40
  refine lv_aload_n G.1 G.2.1 dX3_bornLessDead_29 rfl (lv_at hl 0 rfl) ?_
  refine lv_bipush (v := 59) G.1 G.2.1 dX3_bornLessDead_30 (by decide) ?_
  refine lv_iconst (v := 0) G.1 G.2.1 dX3_bornLessDead_32 (by decide) ?_
  refine py_callv hw (va_runV (As := [.int 59, .int 0]) (rest := []) G (c_X3_add l E L_37 f_38 H_39.size q_1 59 0 co_14 st_18 3 (4) g_42 h_43 h_44 (by decide) (py_inr (by decide)) (by decide) ) (cwV 2 G.2.2.2.2 g_X3_bornLessDead_X3_add_23 rfl rfl rfl (by decide +kernel) ⟨(Nat.le_of_ble_eq_true rfl), (Nat.le_of_ble_eq_true rfl)⟩) (py_preV hw (C := RX3) (T := TX3) (N := 3) rfl h_43) rfl rfl hl.1 rfl (lv_room (Nat.le_of_ble_eq_true rfl)) dX3_bornLessDead_33 ⟨(Nat.le_of_ble_eq_true rfl), (Nat.le_of_ble_eq_true rfl)⟩) (fun L_46 f_47 H_48 locs hp_49 hw => ?_)
  obtain ⟨g_51, h_52, h_53, x_54⟩ := hp_49
  refine lv_aload_n G.1 G.2.1 dX3_bornLessDead_36 rfl (lv_at hl 0 rfl) ?_
  refine W.widen (k := 3) (n := 195) (Nat.le_of_ble_eq_true rfl) (Nat.le_of_ble_eq_true rfl) ?_
  have xt : py_all L f L_46 f_47 := fun b hb => by
    have n0 : b ≠ q_1 := fun h => hq_5 (h ▸ hb)
    obtain ⟨m0, e0⟩ := x_7 b hb
    have nco : b ≠ co_14 := fun h => hco_17 (h ▸ m0)
    obtain ⟨m1, e1⟩ := x_13 b m0 n0
    obtain ⟨m2, e2⟩ := x_27 b m1 n0 nco
    obtain ⟨m3, e3⟩ := x_36 b m2 n0 nco
    obtain ⟨m4, e4⟩ := x_45 b m3 n0 nco
    obtain ⟨m5, e5⟩ := x_54 b m4 n0 nco
    exact ⟨m5, e5.trans (e4.trans (e3.trans (e2.trans (e1.trans (e0.trans (rfl))))))⟩
  exact py_rret G hr (Or.inl ⟨_, rfl⟩) hlk hw xt dX3_bornLessDead_37
